section
-- ===== PART A: goes FIRST, ahead of the names: the tables' words, and 'selects' of the private methods out of them =====
/-- a private method of a class that the tables say can be made, by its rows of tables_1 -/
def lw_okq (q : MethodName × Nat) : Prop := (q.1.cls ≠ "java/lang/invoke/MethodHandle" ∧ q.1.cls ≠ "java/lang/invoke/VarHandle") ∧ Cond.instantiable q.1.cls q.2 ∈ tables_1 ∧ Cond.privateMethod q.1 ∈ tables_1 ∧ Cond.instanceMethod q.1 ∈ tables_1
theorem lw_p0 : lw_okq (⟨"MotionDesk", "isNode", "(I)Z"⟩, 13) := ⟨⟨by decide +kernel, by decide +kernel⟩, List.mem_of_getElem? (i := 6) (by decide +kernel), List.mem_of_getElem? (i := 88) (by decide +kernel), List.mem_of_getElem? (i := 89) (by decide +kernel)⟩
theorem lw_p1 : lw_okq (⟨"MotionDesk", "textFits", "(II)Z"⟩, 13) := ⟨⟨by decide +kernel, by decide +kernel⟩, List.mem_of_getElem? (i := 6) (by decide +kernel), List.mem_of_getElem? (i := 98) (by decide +kernel), List.mem_of_getElem? (i := 99) (by decide +kernel)⟩
theorem lw_p2 : lw_okq (⟨"MotionDesk", "play", "(I)V"⟩, 13) := ⟨⟨by decide +kernel, by decide +kernel⟩, List.mem_of_getElem? (i := 6) (by decide +kernel), List.mem_of_getElem? (i := 113) (by decide +kernel), List.mem_of_getElem? (i := 114) (by decide +kernel)⟩
theorem lw_p3 : lw_okq (⟨"MotionDesk", "keyInForce", "(II)I"⟩, 13) := ⟨⟨by decide +kernel, by decide +kernel⟩, List.mem_of_getElem? (i := 6) (by decide +kernel), List.mem_of_getElem? (i := 117) (by decide +kernel), List.mem_of_getElem? (i := 118) (by decide +kernel)⟩
theorem lw_p4 : lw_okq (⟨"MotionDesk", "between", "(III)I"⟩, 13) := ⟨⟨by decide +kernel, by decide +kernel⟩, List.mem_of_getElem? (i := 6) (by decide +kernel), List.mem_of_getElem? (i := 121) (by decide +kernel), List.mem_of_getElem? (i := 122) (by decide +kernel)⟩
theorem lw_p5 : lw_okq (⟨"MotionDesk", "keysOfAllTracks", "()I"⟩, 13) := ⟨⟨by decide +kernel, by decide +kernel⟩, List.mem_of_getElem? (i := 6) (by decide +kernel), List.mem_of_getElem? (i := 148) (by decide +kernel), List.mem_of_getElem? (i := 149) (by decide +kernel)⟩
theorem lw_p6 : lw_okq (⟨"MotionDeskModel", "there", "(II)Z"⟩, 14) := ⟨⟨by decide +kernel, by decide +kernel⟩, List.mem_of_getElem? (i := 163) (by decide +kernel), List.mem_of_getElem? (i := 227) (by decide +kernel), List.mem_of_getElem? (i := 228) (by decide +kernel)⟩
theorem lw_p7 : lw_okq (⟨"MotionDeskModel", "at", "(III)I"⟩, 14) := ⟨⟨by decide +kernel, by decide +kernel⟩, List.mem_of_getElem? (i := 163) (by decide +kernel), List.mem_of_getElem? (i := 239) (by decide +kernel), List.mem_of_getElem? (i := 240) (by decide +kernel)⟩
def lw_privs_1 : List (MethodName × Nat) := [(⟨"MotionDesk", "isNode", "(I)Z"⟩, 13), (⟨"MotionDesk", "textFits", "(II)Z"⟩, 13), (⟨"MotionDesk", "play", "(I)V"⟩, 13), (⟨"MotionDesk", "keyInForce", "(II)I"⟩, 13), (⟨"MotionDesk", "between", "(III)I"⟩, 13), (⟨"MotionDesk", "keysOfAllTracks", "()I"⟩, 13), (⟨"MotionDeskModel", "there", "(II)Z"⟩, 14), (⟨"MotionDeskModel", "at", "(III)I"⟩, 14)]
theorem lw_r1 : ∀ q ∈ lw_privs_1, lw_okq q := List.forall_mem_cons.mpr ⟨lw_p0, List.forall_mem_cons.mpr ⟨lw_p1, List.forall_mem_cons.mpr ⟨lw_p2, List.forall_mem_cons.mpr ⟨lw_p3, List.forall_mem_cons.mpr ⟨lw_p4, List.forall_mem_cons.mpr ⟨lw_p5, List.forall_mem_cons.mpr ⟨lw_p6, List.forall_mem_cons.mpr ⟨lw_p7, fun _ h => absurd h List.not_mem_nil⟩⟩⟩⟩⟩⟩⟩⟩
def lw_privs : List (MethodName × Nat) := lw_privs_1
def lw_tbl : List Cond := k2_sels lw_privs ++ tables_1
theorem lw_privs_ok : ∀ q ∈ lw_privs, lw_okq q := lw_r1

/-! ===== BEGIN words of one list among another's, by their places ===== -/
theorem goodIn_r {big : List Cond} (ws : List Cond) (ps : List Nat) (hp : ws = ps.filterMap (fun i => big[i]?)) (h : ws.all goodWord = true) : GoodIn big ws := by
  intro w hw
  have h1 := List.all_eq_true.mp h w hw
  rw [hp] at hw
  obtain ⟨i, -, hi⟩ := List.mem_filterMap.mp hw
  have hm : w ∈ big := by first | exact List.mem_of_getElem? hi | exact List.getElem?_mem hi
  exact ⟨hm, good_of_word h1⟩
theorem goodIn_app {big a b : List Cond} (ha : GoodIn big a) (hb : GoodIn big b) : GoodIn big (a ++ b) := fun w h => (List.mem_append.mp h).elim (ha w) (hb w)
theorem goodIn_ca {big a b : List Cond} {c : Cond} (ha : GoodIn big (c :: a)) (hb : GoodIn big b) : GoodIn big (c :: (a ++ b)) := fun w h => (List.mem_cons.mp h).elim (fun e => ha w (List.mem_cons.mpr (Or.inl e))) (fun h => (List.mem_append.mp h).elim (fun h => ha w (List.mem_cons.mpr (Or.inr h))) (hb w))
theorem goodIn_sub {big ws : List Cond} (hm : ∀ w ∈ ws, w ∈ big) (h : ws.all goodWord = true) : GoodIn big ws := fun w hw => ⟨hm w hw, good_of_word (List.all_eq_true.mp h w hw)⟩
/-! ===== END ===== -/

/-! ===== BEGIN printed: names, fields, word lists, decode rows ===== -/
def RX0 : String := "MotionDesk"
def TX0 : u_T := fun k => match k with
  | 0 => ("MotionDesk", "nodeCount", "I", true)
  | 1 => ("MotionDesk", "values", "[I", true)
  | 2 => ("MotionDesk", "trackCount", "I", false)
  | 3 => ("MotionDesk", "trackNode", "[I", true)
  | 4 => ("MotionDesk", "trackWhat", "[I", true)
  | 5 => ("MotionDesk", "trackHow", "[I", true)
  | 6 => ("MotionDesk", "trackKeys", "[I", true)
  | 7 => ("MotionDesk", "keyTimes", "[I", true)
  | 8 => ("MotionDesk", "keyNumbers", "[I", true)
  | 9 => ("MotionDesk", "textCount", "I", false)
  | 10 => ("MotionDesk", "textTimes", "[I", true)
  | 11 => ("MotionDesk", "textNumbers", "[I", true)
  | _ => ("MotionDesk", "now", "I", false)
def tyX0 : Nat → FieldType := fun k => match k with
  | 0 => .int
  | 1 => .array .int
  | 2 => .int
  | 3 => .array .int
  | 4 => .array .int
  | 5 => .array .int
  | 6 => .array .int
  | 7 => .array .int
  | 8 => .array .int
  | 9 => .int
  | 10 => .array .int
  | 11 => .array .int
  | _ => .int
abbrev wsX00 : List Cond := u_ws RX0 TX0 13
theorem nmX0 : ∀ a, a < 13 → ∀ b, b < 13 → a ≠ b → (TX0 a).2.1 ≠ (TX0 b).2.1 := by decide +kernel
theorem tyX0_ok : ∀ k, k < 13 → parseFieldDescriptor (TX0 k).2.2.1 = some (tyX0 k) := by decide +kernel
abbrev cX0_init : ByteArray := prog_1_method_1_code
def yX0_init : MethodName := ⟨RX0, "<init>", "(I)V"⟩
abbrev cX0_key : ByteArray := prog_1_method_2_code
def yX0_key : MethodName := ⟨RX0, "key", "(IIII)I"⟩
abbrev cX0_track : ByteArray := prog_1_method_3_code
def yX0_track : MethodName := ⟨RX0, "track", "(III)I"⟩
abbrev cX0_set : ByteArray := prog_1_method_4_code
def yX0_set : MethodName := ⟨RX0, "set", "(IIIII)Z"⟩
abbrev cX0_time : ByteArray := prog_1_method_5_code
def yX0_time : MethodName := ⟨RX0, "time", "(I)Z"⟩
abbrev cX0_value : ByteArray := prog_1_method_6_code
def yX0_value : MethodName := ⟨RX0, "value", "(III)I"⟩
abbrev cX0_count : ByteArray := prog_1_method_7_code
def yX0_count : MethodName := ⟨RX0, "count", "(I)I"⟩
abbrev cX0_about : ByteArray := prog_1_method_8_code
def yX0_about : MethodName := ⟨RX0, "about", "(II)I"⟩
abbrev cX0_clear : ByteArray := prog_1_method_9_code
def yX0_clear : MethodName := ⟨RX0, "clear", "()V"⟩
abbrev cX0_isNode : ByteArray := prog_1_method_10_code
def yX0_isNode : MethodName := ⟨RX0, "isNode", "(I)Z"⟩
abbrev cX0_isWhat : ByteArray := prog_1_method_11_code
def yX0_isWhat : MethodName := ⟨RX0, "isWhat", "(I)Z"⟩
abbrev cX0_isHow : ByteArray := prog_1_method_12_code
def yX0_isHow : MethodName := ⟨RX0, "isHow", "(I)Z"⟩
abbrev cX0_isTime : ByteArray := prog_1_method_13_code
def yX0_isTime : MethodName := ⟨RX0, "isTime", "(I)Z"⟩
abbrev cX0_canHave : ByteArray := prog_1_method_14_code
def yX0_canHave : MethodName := ⟨RX0, "canHave", "(IIII)Z"⟩
abbrev cX0_isWithin : ByteArray := prog_1_method_15_code
def yX0_isWithin : MethodName := ⟨RX0, "isWithin", "(II)Z"⟩
abbrev cX0_textFits : ByteArray := prog_1_method_16_code
def yX0_textFits : MethodName := ⟨RX0, "textFits", "(II)Z"⟩
abbrev cX0_placeOf : ByteArray := prog_1_method_17_code
def yX0_placeOf : MethodName := ⟨RX0, "placeOf", "(II)I"⟩
abbrev cX0_putThree : ByteArray := prog_1_method_18_code
def yX0_putThree : MethodName := ⟨RX0, "putThree", "([IIIII)V"⟩
abbrev cX0_keysOfAllTracks : ByteArray := prog_1_method_19_code
def yX0_keysOfAllTracks : MethodName := ⟨RX0, "keysOfAllTracks", "()I"⟩
abbrev cX0_play : ByteArray := prog_1_method_20_code
def yX0_play : MethodName := ⟨RX0, "play", "(I)V"⟩
abbrev cX0_keyInForce : ByteArray := prog_1_method_21_code
def yX0_keyInForce : MethodName := ⟨RX0, "keyInForce", "(II)I"⟩
abbrev cX0_between : ByteArray := prog_1_method_22_code
def yX0_between : MethodName := ⟨RX0, "between", "(III)I"⟩
abbrev cX0_smoothed : ByteArray := prog_1_method_23_code
def yX0_smoothed : MethodName := ⟨RX0, "smoothed", "(J)J"⟩
abbrev cX0_mul : ByteArray := prog_1_method_24_code
def yX0_mul : MethodName := ⟨RX0, "mul", "(JJ)J"⟩
abbrev cX0_div : ByteArray := prog_1_method_25_code
def yX0_div : MethodName := ⟨RX0, "div", "(JJ)J"⟩
def RX1 : String := "MotionDeskModel"
def TX1 : u_T := fun k => match k with
  | 0 => ("MotionDeskModel", "thrown", "I", false)
  | 1 => ("MotionDeskModel", "nodes", "I", true)
  | 2 => ("MotionDeskModel", "poses", "[I", true)
  | 3 => ("MotionDeskModel", "now", "I", false)
  | 4 => ("MotionDeskModel", "textKeys", "I", false)
  | 5 => ("MotionDeskModel", "textTimes", "[I", true)
  | 6 => ("MotionDeskModel", "textValues", "[I", true)
  | 7 => ("MotionDeskModel", "tracks", "I", false)
  | 8 => ("MotionDeskModel", "nodeOf", "[I", true)
  | 9 => ("MotionDeskModel", "whatOf", "[I", true)
  | 10 => ("MotionDeskModel", "howOf", "[I", true)
  | 11 => ("MotionDeskModel", "keysOf", "[I", true)
  | 12 => ("MotionDeskModel", "times", "[I", true)
  | _ => ("MotionDeskModel", "values", "[I", true)
def tyX1 : Nat → FieldType := fun k => match k with
  | 0 => .int
  | 1 => .int
  | 2 => .array .int
  | 3 => .int
  | 4 => .int
  | 5 => .array .int
  | 6 => .array .int
  | 7 => .int
  | 8 => .array .int
  | 9 => .array .int
  | 10 => .array .int
  | 11 => .array .int
  | 12 => .array .int
  | _ => .array .int
abbrev wsX10 : List Cond := u_ws RX1 TX1 14
theorem nmX1 : ∀ a, a < 14 → ∀ b, b < 14 → a ≠ b → (TX1 a).2.1 ≠ (TX1 b).2.1 := by decide +kernel
theorem tyX1_ok : ∀ k, k < 14 → parseFieldDescriptor (TX1 k).2.2.1 = some (tyX1 k) := by decide +kernel
def RJ9 : String := "java/lang/Math"
abbrev cJ9_floorDiv_f86c9 : ByteArray := prog_4_method_49_code
def yJ9_floorDiv_f86c9 : MethodName := ⟨RJ9, "floorDiv", "(JJ)J"⟩
abbrev cJ9_max_7cf53 : ByteArray := prog_4_method_65_code
def yJ9_max_7cf53 : MethodName := ⟨RJ9, "max", "(II)I"⟩
abbrev cJ9_min_7cf53 : ByteArray := prog_4_method_69_code
def yJ9_min_7cf53 : MethodName := ⟨RJ9, "min", "(II)I"⟩
def RJ10 : String := "java/lang/System"
def RL : String := "MotionDeskLaw"
abbrev cL_cell : ByteArray := method_2_code
def yL_cell : MethodName := ⟨RL, "cell", "([II)I"⟩
abbrev cL_law : ByteArray := code
def yL_law : MethodName := ⟨RL, "law", "([I)Z"⟩
def wsX0_placeOf : List Cond := .code yX0_placeOf cX0_placeOf 2 (some .int) :: ([])
def wsX0_init_r1 : List Cond := [Cond.methodLink RX0 1 objectInit, Cond.instanceMethod objectInit, Cond.code objectInit ⟨#[0xb1]⟩ 1 none, Cond.methodLink RX0 9 Lib.Math.min.name, Cond.static Lib.Math.min.name, Cond.initialized "java/lang/Math", Cond.code Lib.Math.min.name Lib.Math.min.code 2 (some .int), Cond.methodLink RX0 15 Lib.Math.max.name, Cond.static Lib.Math.max.name, Cond.code Lib.Math.max.name Lib.Math.max.code 2 (some .int), Cond.fieldLink RX0 18 "MotionDesk" "nodeCount" "I", Cond.arrayClass .int, Cond.fieldLink RX0 22 "MotionDesk" "values" "[I", Cond.constant RX0 29 (65536), Cond.fieldLink RX0 30 "MotionDesk" "trackNode" "[I", Cond.fieldLink RX0 33 "MotionDesk" "trackWhat" "[I", Cond.fieldLink RX0 36 "MotionDesk" "trackHow" "[I", Cond.fieldLink RX0 39 "MotionDesk" "trackKeys" "[I", Cond.fieldLink RX0 42 "MotionDesk" "keyTimes" "[I", Cond.fieldLink RX0 45 "MotionDesk" "keyNumbers" "[I", Cond.fieldLink RX0 48 "MotionDesk" "textTimes" "[I", Cond.fieldLink RX0 51 "MotionDesk" "textNumbers" "[I", Cond.methodLink RX0 26 yX0_placeOf, Cond.static yX0_placeOf]
def wsX0_init_r2 : List Cond := [Cond.initialized RX0, Cond.code yX0_placeOf cX0_placeOf 2 (some .int)]
def wsX0_init : List Cond := .code yX0_init cX0_init 4 none :: ((wsX0_init_r1 ++ wsX0_init_r2) ++ wsX00)
def wsX0_isTime : List Cond := .code yX0_isTime cX0_isTime 1 (some .boolean) :: ([.constant RX0 102 (1000000)])
def wsX0_isWithin : List Cond := .code yX0_isWithin cX0_isWithin 2 (some .boolean) :: ([])
def wsX0_canHave : List Cond := .code yX0_canHave cX0_canHave 5 (some .boolean) :: ([.constant RX0 103 (4194304), .constant RX0 104 (1048576), .methodLink RX0 105 yX0_isWithin, .static yX0_isWithin, .initialized RX0, .code yX0_isWithin cX0_isWithin 2 (some .boolean)])
def wsX0_putThree : List Cond := .code yX0_putThree cX0_putThree 5 none :: ([])
def wsX0_key : List Cond := .code yX0_key cX0_key 5 (some .int) :: ([.fieldLink RX0 54 "MotionDesk" "textCount" "I", .fieldLink RX0 48 "MotionDesk" "textTimes" "[I", .fieldLink RX0 51 "MotionDesk" "textNumbers" "[I", .methodLink RX0 57 yX0_isTime, .static yX0_isTime, .initialized RX0, .code yX0_isTime cX0_isTime 1 (some .boolean), .constant RX0 102 (1000000), .methodLink RX0 61 yX0_canHave, .static yX0_canHave, .code yX0_canHave cX0_canHave 5 (some .boolean), .constant RX0 103 (4194304), .constant RX0 104 (1048576), .methodLink RX0 105 yX0_isWithin, .static yX0_isWithin, .code yX0_isWithin cX0_isWithin 2 (some .boolean), .methodLink RX0 65 yX0_putThree, .static yX0_putThree, .code yX0_putThree cX0_putThree 5 none] ++ wsX00)
def wsX0_isNode : List Cond := .code yX0_isNode cX0_isNode 2 (some .boolean) :: ([.fieldLink RX0 18 "MotionDesk" "nodeCount" "I"] ++ wsX00)
def wsX0_isWhat : List Cond := .code yX0_isWhat cX0_isWhat 1 (some .boolean) :: ([])
def wsX0_isHow : List Cond := .code yX0_isHow cX0_isHow 1 (some .boolean) :: ([])
def wsX0_textFits : List Cond := .code yX0_textFits cX0_textFits 5 (some .boolean) :: ([.fieldLink RX0 51 "MotionDesk" "textNumbers" "[I", .methodLink RX0 61 yX0_canHave, .static yX0_canHave, .initialized RX0, .code yX0_canHave cX0_canHave 5 (some .boolean), .constant RX0 103 (4194304), .constant RX0 104 (1048576), .methodLink RX0 105 yX0_isWithin, .static yX0_isWithin, .code yX0_isWithin cX0_isWithin 2 (some .boolean)] ++ wsX00)
def wsX0_track_r1 : List Cond := [Cond.fieldLink RX0 54 "MotionDesk" "textCount" "I", Cond.fieldLink RX0 69 "MotionDesk" "trackCount" "I", Cond.fieldLink RX0 30 "MotionDesk" "trackNode" "[I", Cond.fieldLink RX0 33 "MotionDesk" "trackWhat" "[I", Cond.fieldLink RX0 36 "MotionDesk" "trackHow" "[I", Cond.fieldLink RX0 39 "MotionDesk" "trackKeys" "[I", Cond.fieldLink RX0 48 "MotionDesk" "textTimes" "[I", Cond.fieldLink RX0 42 "MotionDesk" "keyTimes" "[I", Cond.methodLink RX0 85 arraycopyName, Cond.native arraycopyName, Cond.static arraycopyName, Cond.initialized "java/lang/System", Cond.fieldLink RX0 51 "MotionDesk" "textNumbers" "[I", Cond.fieldLink RX0 45 "MotionDesk" "keyNumbers" "[I", Cond.methodLink RX0 72 yX0_isNode, Cond.instanceMethod yX0_isNode, Cond.selects RX0 yX0_isNode yX0_isNode, Cond.initialized RX0, Cond.code yX0_isNode cX0_isNode 2 (some .boolean), Cond.fieldLink RX0 18 "MotionDesk" "nodeCount" "I", Cond.methodLink RX0 75 yX0_isWhat, Cond.static yX0_isWhat, Cond.code yX0_isWhat cX0_isWhat 1 (some .boolean), Cond.methodLink RX0 78 yX0_isHow]
def wsX0_track_r2 : List Cond := [Cond.static yX0_isHow, Cond.code yX0_isHow cX0_isHow 1 (some .boolean), Cond.methodLink RX0 81 yX0_textFits, Cond.instanceMethod yX0_textFits, Cond.selects RX0 yX0_textFits yX0_textFits, Cond.code yX0_textFits cX0_textFits 5 (some .boolean), Cond.methodLink RX0 61 yX0_canHave, Cond.static yX0_canHave, Cond.code yX0_canHave cX0_canHave 5 (some .boolean), Cond.constant RX0 103 (4194304), Cond.constant RX0 104 (1048576), Cond.methodLink RX0 105 yX0_isWithin, Cond.static yX0_isWithin, Cond.code yX0_isWithin cX0_isWithin 2 (some .boolean)]
def wsX0_track : List Cond := .code yX0_track cX0_track 7 (some .int) :: ((wsX0_track_r1 ++ wsX0_track_r2) ++ wsX00)
def wsX0_set : List Cond := .code yX0_set cX0_set 6 (some .boolean) :: ([.fieldLink RX0 22 "MotionDesk" "values" "[I", .methodLink RX0 72 yX0_isNode, .instanceMethod yX0_isNode, .selects RX0 yX0_isNode yX0_isNode, .initialized RX0, .code yX0_isNode cX0_isNode 2 (some .boolean), .fieldLink RX0 18 "MotionDesk" "nodeCount" "I", .methodLink RX0 75 yX0_isWhat, .static yX0_isWhat, .code yX0_isWhat cX0_isWhat 1 (some .boolean), .methodLink RX0 61 yX0_canHave, .static yX0_canHave, .code yX0_canHave cX0_canHave 5 (some .boolean), .constant RX0 103 (4194304), .constant RX0 104 (1048576), .methodLink RX0 105 yX0_isWithin, .static yX0_isWithin, .code yX0_isWithin cX0_isWithin 2 (some .boolean), .methodLink RX0 26 yX0_placeOf, .static yX0_placeOf, .code yX0_placeOf cX0_placeOf 2 (some .int), .methodLink RX0 65 yX0_putThree, .static yX0_putThree, .code yX0_putThree cX0_putThree 5 none] ++ wsX00)
def wsX0_keyInForce : List Cond := .code yX0_keyInForce cX0_keyInForce 4 (some .int) :: ([.fieldLink RX0 42 "MotionDesk" "keyTimes" "[I", .fieldLink RX0 91 "MotionDesk" "now" "I"] ++ wsX00)
def wsJ9_floorDiv_f86c9 : List Cond := .code yJ9_floorDiv_f86c9 cJ9_floorDiv_f86c9 6 (some .long) :: ([])
def wsX0_div : List Cond := .code yX0_div cX0_div 4 (some .long) :: ([.methodLink RX0 132 yJ9_floorDiv_f86c9, .static yJ9_floorDiv_f86c9, .initialized RJ9, .code yJ9_floorDiv_f86c9 cJ9_floorDiv_f86c9 6 (some .long)])
def wsX0_mul : List Cond := .code yX0_mul cX0_mul 4 (some .long) :: ([.constantLong RX0 119 (65536), .methodLink RX0 115 yX0_div, .static yX0_div, .initialized RX0, .code yX0_div cX0_div 4 (some .long), .methodLink RX0 132 yJ9_floorDiv_f86c9, .static yJ9_floorDiv_f86c9, .initialized RJ9, .code yJ9_floorDiv_f86c9 cJ9_floorDiv_f86c9 6 (some .long)])
def wsX0_smoothed : List Cond := .code yX0_smoothed cX0_smoothed 2 (some .long) :: ([.constantLong RX0 128 (196608), .constantLong RX0 130 (2), .methodLink RX0 125 yX0_mul, .static yX0_mul, .initialized RX0, .code yX0_mul cX0_mul 4 (some .long), .constantLong RX0 119 (65536), .methodLink RX0 115 yX0_div, .static yX0_div, .code yX0_div cX0_div 4 (some .long), .methodLink RX0 132 yJ9_floorDiv_f86c9, .static yJ9_floorDiv_f86c9, .initialized RJ9, .code yJ9_floorDiv_f86c9 cJ9_floorDiv_f86c9 6 (some .long)])
def wsX0_between : List Cond := .code yX0_between cX0_between 12 (some .int) :: ([.fieldLink RX0 45 "MotionDesk" "keyNumbers" "[I", .fieldLink RX0 91 "MotionDesk" "now" "I", .fieldLink RX0 42 "MotionDesk" "keyTimes" "[I", .constantLong RX0 119 (65536), .methodLink RX0 115 yX0_div, .static yX0_div, .initialized RX0, .code yX0_div cX0_div 4 (some .long), .methodLink RX0 132 yJ9_floorDiv_f86c9, .static yJ9_floorDiv_f86c9, .initialized RJ9, .code yJ9_floorDiv_f86c9 cJ9_floorDiv_f86c9 6 (some .long), .methodLink RX0 121 yX0_smoothed, .static yX0_smoothed, .code yX0_smoothed cX0_smoothed 2 (some .long), .constantLong RX0 128 (196608), .constantLong RX0 130 (2), .methodLink RX0 125 yX0_mul, .static yX0_mul, .code yX0_mul cX0_mul 4 (some .long)] ++ wsX00)
def wsX0_play_r1 : List Cond := [Cond.fieldLink RX0 39 "MotionDesk" "trackKeys" "[I", Cond.fieldLink RX0 30 "MotionDesk" "trackNode" "[I", Cond.fieldLink RX0 33 "MotionDesk" "trackWhat" "[I", Cond.fieldLink RX0 91 "MotionDesk" "now" "I", Cond.fieldLink RX0 42 "MotionDesk" "keyTimes" "[I", Cond.fieldLink RX0 22 "MotionDesk" "values" "[I", Cond.fieldLink RX0 45 "MotionDesk" "keyNumbers" "[I", Cond.fieldLink RX0 36 "MotionDesk" "trackHow" "[I", Cond.methodLink RX0 108 yX0_keyInForce, Cond.instanceMethod yX0_keyInForce, Cond.selects RX0 yX0_keyInForce yX0_keyInForce, Cond.initialized RX0, Cond.code yX0_keyInForce cX0_keyInForce 4 (some .int), Cond.methodLink RX0 26 yX0_placeOf, Cond.static yX0_placeOf, Cond.code yX0_placeOf cX0_placeOf 2 (some .int), Cond.methodLink RX0 111 yX0_between, Cond.instanceMethod yX0_between, Cond.selects RX0 yX0_between yX0_between, Cond.code yX0_between cX0_between 12 (some .int), Cond.constantLong RX0 119 (65536), Cond.methodLink RX0 115 yX0_div, Cond.static yX0_div, Cond.code yX0_div cX0_div 4 (some .long)]
def wsX0_play_r2 : List Cond := [Cond.methodLink RX0 132 yJ9_floorDiv_f86c9, Cond.static yJ9_floorDiv_f86c9, Cond.initialized RJ9, Cond.code yJ9_floorDiv_f86c9 cJ9_floorDiv_f86c9 6 (some .long), Cond.methodLink RX0 121 yX0_smoothed, Cond.static yX0_smoothed, Cond.code yX0_smoothed cX0_smoothed 2 (some .long), Cond.constantLong RX0 128 (196608), Cond.constantLong RX0 130 (2), Cond.methodLink RX0 125 yX0_mul, Cond.static yX0_mul, Cond.code yX0_mul cX0_mul 4 (some .long)]
def wsX0_play : List Cond := .code yX0_play cX0_play 7 none :: ((wsX0_play_r1 ++ wsX0_play_r2) ++ wsX00)
def wsX0_time_r1 : List Cond := [Cond.fieldLink RX0 91 "MotionDesk" "now" "I", Cond.fieldLink RX0 69 "MotionDesk" "trackCount" "I", Cond.methodLink RX0 57 yX0_isTime, Cond.static yX0_isTime, Cond.initialized RX0, Cond.code yX0_isTime cX0_isTime 1 (some .boolean), Cond.constant RX0 102 (1000000), Cond.methodLink RX0 94 yX0_play, Cond.instanceMethod yX0_play, Cond.selects RX0 yX0_play yX0_play, Cond.code yX0_play cX0_play 7 none, Cond.fieldLink RX0 39 "MotionDesk" "trackKeys" "[I", Cond.fieldLink RX0 30 "MotionDesk" "trackNode" "[I", Cond.fieldLink RX0 33 "MotionDesk" "trackWhat" "[I", Cond.fieldLink RX0 42 "MotionDesk" "keyTimes" "[I", Cond.fieldLink RX0 22 "MotionDesk" "values" "[I", Cond.fieldLink RX0 45 "MotionDesk" "keyNumbers" "[I", Cond.fieldLink RX0 36 "MotionDesk" "trackHow" "[I", Cond.methodLink RX0 108 yX0_keyInForce, Cond.instanceMethod yX0_keyInForce, Cond.selects RX0 yX0_keyInForce yX0_keyInForce, Cond.code yX0_keyInForce cX0_keyInForce 4 (some .int), Cond.methodLink RX0 26 yX0_placeOf, Cond.static yX0_placeOf]
def wsX0_time_r2 : List Cond := [Cond.code yX0_placeOf cX0_placeOf 2 (some .int), Cond.methodLink RX0 111 yX0_between, Cond.instanceMethod yX0_between, Cond.selects RX0 yX0_between yX0_between, Cond.code yX0_between cX0_between 12 (some .int), Cond.constantLong RX0 119 (65536), Cond.methodLink RX0 115 yX0_div, Cond.static yX0_div, Cond.code yX0_div cX0_div 4 (some .long), Cond.methodLink RX0 132 yJ9_floorDiv_f86c9, Cond.static yJ9_floorDiv_f86c9, Cond.initialized RJ9, Cond.code yJ9_floorDiv_f86c9 cJ9_floorDiv_f86c9 6 (some .long), Cond.methodLink RX0 121 yX0_smoothed, Cond.static yX0_smoothed, Cond.code yX0_smoothed cX0_smoothed 2 (some .long), Cond.constantLong RX0 128 (196608), Cond.constantLong RX0 130 (2), Cond.methodLink RX0 125 yX0_mul, Cond.static yX0_mul, Cond.code yX0_mul cX0_mul 4 (some .long)]
def wsX0_time : List Cond := .code yX0_time cX0_time 3 (some .boolean) :: ((wsX0_time_r1 ++ wsX0_time_r2) ++ wsX00)
def wsX0_value : List Cond := .code yX0_value cX0_value 4 (some .int) :: ([.fieldLink RX0 22 "MotionDesk" "values" "[I", .methodLink RX0 72 yX0_isNode, .instanceMethod yX0_isNode, .selects RX0 yX0_isNode yX0_isNode, .initialized RX0, .code yX0_isNode cX0_isNode 2 (some .boolean), .fieldLink RX0 18 "MotionDesk" "nodeCount" "I", .methodLink RX0 75 yX0_isWhat, .static yX0_isWhat, .code yX0_isWhat cX0_isWhat 1 (some .boolean), .methodLink RX0 26 yX0_placeOf, .static yX0_placeOf, .code yX0_placeOf cX0_placeOf 2 (some .int)] ++ wsX00)
def wsX0_keysOfAllTracks : List Cond := .code yX0_keysOfAllTracks cX0_keysOfAllTracks 3 (some .int) :: ([.fieldLink RX0 69 "MotionDesk" "trackCount" "I", .fieldLink RX0 39 "MotionDesk" "trackKeys" "[I"] ++ wsX00)
def wsX0_count : List Cond := .code yX0_count cX0_count 2 (some .int) :: ([.fieldLink RX0 18 "MotionDesk" "nodeCount" "I", .fieldLink RX0 69 "MotionDesk" "trackCount" "I", .fieldLink RX0 91 "MotionDesk" "now" "I", .fieldLink RX0 54 "MotionDesk" "textCount" "I", .methodLink RX0 98 yX0_keysOfAllTracks, .instanceMethod yX0_keysOfAllTracks, .selects RX0 yX0_keysOfAllTracks yX0_keysOfAllTracks, .initialized RX0, .code yX0_keysOfAllTracks cX0_keysOfAllTracks 3 (some .int), .fieldLink RX0 39 "MotionDesk" "trackKeys" "[I"] ++ wsX00)
def wsX0_about : List Cond := .code yX0_about cX0_about 3 (some .int) :: ([.fieldLink RX0 69 "MotionDesk" "trackCount" "I", .fieldLink RX0 30 "MotionDesk" "trackNode" "[I", .fieldLink RX0 33 "MotionDesk" "trackWhat" "[I", .fieldLink RX0 36 "MotionDesk" "trackHow" "[I", .fieldLink RX0 39 "MotionDesk" "trackKeys" "[I"] ++ wsX00)
def wsX0_clear : List Cond := .code yX0_clear cX0_clear 1 none :: ([.fieldLink RX0 69 "MotionDesk" "trackCount" "I"] ++ wsX00)
def wsJ9_max_7cf53 : List Cond := .code yJ9_max_7cf53 cJ9_max_7cf53 2 (some .int) :: ([])
def wsJ9_min_7cf53 : List Cond := .code yJ9_min_7cf53 cJ9_min_7cf53 2 (some .int) :: ([])
def wsL_cell : List Cond := .code yL_cell cL_cell 2 (some .int) :: ([])
set_option maxRecDepth 20000 in
theorem ggX0_init_X0_placeOf : GoodIn wsX0_init wsX0_placeOf := goodIn_r _ [26] (by decide +kernel) (by decide +kernel)
set_option maxRecDepth 20000 in
theorem gX0_init_X0_placeOf : GoodIn wsX0_init (va_wsS RX0 26 yX0_placeOf wsX0_placeOf) := goodIn_app (goodIn_of _ (by decide +kernel)) ggX0_init_X0_placeOf
set_option maxRecDepth 20000 in
theorem ggX0_key_X0_isTime : GoodIn wsX0_key wsX0_isTime := goodIn_r _ [7, 8] (by decide +kernel) (by decide +kernel)
set_option maxRecDepth 20000 in
theorem gX0_key_X0_isTime : GoodIn wsX0_key (va_wsS RX0 57 yX0_isTime wsX0_isTime) := goodIn_app (goodIn_of _ (by decide +kernel)) ggX0_key_X0_isTime
set_option maxRecDepth 20000 in
theorem ggX0_key_X0_canHave : GoodIn wsX0_key wsX0_canHave := goodIn_r _ [11, 12, 13, 14, 15, 6, 16] (by decide +kernel) (by decide +kernel)
set_option maxRecDepth 20000 in
theorem gX0_key_X0_canHave : GoodIn wsX0_key (va_wsS RX0 61 yX0_canHave wsX0_canHave) := goodIn_app (goodIn_of _ (by decide +kernel)) ggX0_key_X0_canHave
set_option maxRecDepth 20000 in
theorem ggX0_key_X0_putThree : GoodIn wsX0_key wsX0_putThree := goodIn_r _ [19] (by decide +kernel) (by decide +kernel)
set_option maxRecDepth 20000 in
theorem gX0_key_X0_putThree : GoodIn wsX0_key (va_wsS RX0 65 yX0_putThree wsX0_putThree) := goodIn_app (goodIn_of _ (by decide +kernel)) ggX0_key_X0_putThree
set_option maxRecDepth 20000 in
theorem ggX0_track_X0_isNode : GoodIn wsX0_track wsX0_isNode := goodIn_r _ [19, 20, 39, 40, 41, 42, 43, 44, 45, 46, 47, 48, 49, 50, 51] (by decide +kernel) (by decide +kernel)
set_option maxRecDepth 20000 in
theorem gX0_track_X0_isNode : GoodIn wsX0_track (wsV RX0 72 RX0 yX0_isNode wsX0_isNode) := goodIn_app (goodIn_of _ (by decide +kernel)) ggX0_track_X0_isNode
set_option maxRecDepth 20000 in
theorem ggX0_track_X0_isWhat : GoodIn wsX0_track wsX0_isWhat := goodIn_r _ [23] (by decide +kernel) (by decide +kernel)
set_option maxRecDepth 20000 in
theorem gX0_track_X0_isWhat : GoodIn wsX0_track (va_wsS RX0 75 yX0_isWhat wsX0_isWhat) := goodIn_app (goodIn_of _ (by decide +kernel)) ggX0_track_X0_isWhat
set_option maxRecDepth 20000 in
theorem ggX0_track_X0_isHow : GoodIn wsX0_track wsX0_isHow := goodIn_r _ [26] (by decide +kernel) (by decide +kernel)
set_option maxRecDepth 20000 in
theorem gX0_track_X0_isHow : GoodIn wsX0_track (va_wsS RX0 78 yX0_isHow wsX0_isHow) := goodIn_app (goodIn_of _ (by decide +kernel)) ggX0_track_X0_isHow
set_option maxRecDepth 20000 in
theorem ggX0_track_X0_textFits : GoodIn wsX0_track wsX0_textFits := goodIn_r _ [30, 13, 31, 32, 18, 33, 34, 35, 36, 37, 38, 39, 40, 41, 42, 43, 44, 45, 46, 47, 48, 49, 50, 51] (by decide +kernel) (by decide +kernel)
set_option maxRecDepth 20000 in
theorem gX0_track_X0_textFits : GoodIn wsX0_track (wsV RX0 81 RX0 yX0_textFits wsX0_textFits) := goodIn_app (goodIn_of _ (by decide +kernel)) ggX0_track_X0_textFits
set_option maxRecDepth 20000 in
theorem ggX0_set_X0_isNode : GoodIn wsX0_set wsX0_isNode := goodIn_r _ [6, 7, 25, 26, 27, 28, 29, 30, 31, 32, 33, 34, 35, 36, 37] (by decide +kernel) (by decide +kernel)
set_option maxRecDepth 20000 in
theorem gX0_set_X0_isNode : GoodIn wsX0_set (wsV RX0 72 RX0 yX0_isNode wsX0_isNode) := goodIn_app (goodIn_of _ (by decide +kernel)) ggX0_set_X0_isNode
set_option maxRecDepth 20000 in
theorem ggX0_set_X0_isWhat : GoodIn wsX0_set wsX0_isWhat := goodIn_r _ [10] (by decide +kernel) (by decide +kernel)
set_option maxRecDepth 20000 in
theorem gX0_set_X0_isWhat : GoodIn wsX0_set (va_wsS RX0 75 yX0_isWhat wsX0_isWhat) := goodIn_app (goodIn_of _ (by decide +kernel)) ggX0_set_X0_isWhat
set_option maxRecDepth 20000 in
theorem ggX0_set_X0_canHave : GoodIn wsX0_set wsX0_canHave := goodIn_r _ [13, 14, 15, 16, 17, 5, 18] (by decide +kernel) (by decide +kernel)
set_option maxRecDepth 20000 in
theorem gX0_set_X0_canHave : GoodIn wsX0_set (va_wsS RX0 61 yX0_canHave wsX0_canHave) := goodIn_app (goodIn_of _ (by decide +kernel)) ggX0_set_X0_canHave
set_option maxRecDepth 20000 in
theorem ggX0_set_X0_placeOf : GoodIn wsX0_set wsX0_placeOf := goodIn_r _ [21] (by decide +kernel) (by decide +kernel)
set_option maxRecDepth 20000 in
theorem gX0_set_X0_placeOf : GoodIn wsX0_set (va_wsS RX0 26 yX0_placeOf wsX0_placeOf) := goodIn_app (goodIn_of _ (by decide +kernel)) ggX0_set_X0_placeOf
set_option maxRecDepth 20000 in
theorem ggX0_set_X0_putThree : GoodIn wsX0_set wsX0_putThree := goodIn_r _ [24] (by decide +kernel) (by decide +kernel)
set_option maxRecDepth 20000 in
theorem gX0_set_X0_putThree : GoodIn wsX0_set (va_wsS RX0 65 yX0_putThree wsX0_putThree) := goodIn_app (goodIn_of _ (by decide +kernel)) ggX0_set_X0_putThree
set_option maxRecDepth 20000 in
theorem ggX0_time_X0_isTime : GoodIn wsX0_time wsX0_isTime := goodIn_r _ [6, 7] (by decide +kernel) (by decide +kernel)
set_option maxRecDepth 20000 in
theorem gX0_time_X0_isTime : GoodIn wsX0_time (va_wsS RX0 57 yX0_isTime wsX0_isTime) := goodIn_app (goodIn_of _ (by decide +kernel)) ggX0_time_X0_isTime
set_option maxRecDepth 20000 in
theorem ggX0_time_X0_play : GoodIn wsX0_time wsX0_play := goodIn_r _ [11, 12, 13, 14, 1, 15, 16, 17, 18, 19, 20, 21, 5, 22, 23, 24, 25, 26, 27, 28, 29, 30, 31, 32, 33, 34, 35, 36, 37, 38, 39, 40, 41, 42, 43, 44, 45, 46, 47, 48, 49, 50, 51, 52, 53, 54, 55, 56, 57, 58] (by decide +kernel) (by decide +kernel)
set_option maxRecDepth 20000 in
theorem gX0_time_X0_play : GoodIn wsX0_time (wsV RX0 94 RX0 yX0_play wsX0_play) := goodIn_app (goodIn_of _ (by decide +kernel)) ggX0_time_X0_play
set_option maxRecDepth 20000 in
theorem ggX0_value_X0_isNode : GoodIn wsX0_value wsX0_isNode := goodIn_r _ [6, 7, 14, 15, 16, 17, 18, 19, 20, 21, 22, 23, 24, 25, 26] (by decide +kernel) (by decide +kernel)
set_option maxRecDepth 20000 in
theorem gX0_value_X0_isNode : GoodIn wsX0_value (wsV RX0 72 RX0 yX0_isNode wsX0_isNode) := goodIn_app (goodIn_of _ (by decide +kernel)) ggX0_value_X0_isNode
set_option maxRecDepth 20000 in
theorem ggX0_value_X0_isWhat : GoodIn wsX0_value wsX0_isWhat := goodIn_r _ [10] (by decide +kernel) (by decide +kernel)
set_option maxRecDepth 20000 in
theorem gX0_value_X0_isWhat : GoodIn wsX0_value (va_wsS RX0 75 yX0_isWhat wsX0_isWhat) := goodIn_app (goodIn_of _ (by decide +kernel)) ggX0_value_X0_isWhat
set_option maxRecDepth 20000 in
theorem ggX0_value_X0_placeOf : GoodIn wsX0_value wsX0_placeOf := goodIn_r _ [13] (by decide +kernel) (by decide +kernel)
set_option maxRecDepth 20000 in
theorem gX0_value_X0_placeOf : GoodIn wsX0_value (va_wsS RX0 26 yX0_placeOf wsX0_placeOf) := goodIn_app (goodIn_of _ (by decide +kernel)) ggX0_value_X0_placeOf
set_option maxRecDepth 20000 in
theorem ggX0_count_X0_keysOfAllTracks : GoodIn wsX0_count wsX0_keysOfAllTracks := goodIn_r _ [9, 2, 10, 11, 12, 13, 14, 15, 16, 17, 18, 19, 20, 21, 22, 23] (by decide +kernel) (by decide +kernel)
set_option maxRecDepth 20000 in
theorem gX0_count_X0_keysOfAllTracks : GoodIn wsX0_count (wsV RX0 98 RX0 yX0_keysOfAllTracks wsX0_keysOfAllTracks) := goodIn_app (goodIn_of _ (by decide +kernel)) ggX0_count_X0_keysOfAllTracks
set_option maxRecDepth 20000 in
theorem ggX0_canHave_X0_isWithin : GoodIn wsX0_canHave wsX0_isWithin := goodIn_r _ [6] (by decide +kernel) (by decide +kernel)
set_option maxRecDepth 20000 in
theorem gX0_canHave_X0_isWithin : GoodIn wsX0_canHave (va_wsS RX0 105 yX0_isWithin wsX0_isWithin) := goodIn_app (goodIn_of _ (by decide +kernel)) ggX0_canHave_X0_isWithin
set_option maxRecDepth 20000 in
theorem ggX0_textFits_X0_canHave : GoodIn wsX0_textFits wsX0_canHave := goodIn_r _ [5, 6, 7, 8, 9, 4, 10] (by decide +kernel) (by decide +kernel)
set_option maxRecDepth 20000 in
theorem gX0_textFits_X0_canHave : GoodIn wsX0_textFits (va_wsS RX0 61 yX0_canHave wsX0_canHave) := goodIn_app (goodIn_of _ (by decide +kernel)) ggX0_textFits_X0_canHave
set_option maxRecDepth 20000 in
theorem ggX0_play_X0_keyInForce : GoodIn wsX0_play wsX0_keyInForce := goodIn_r _ [13, 5, 4, 37, 38, 39, 40, 41, 42, 43, 44, 45, 46, 47, 48, 49] (by decide +kernel) (by decide +kernel)
set_option maxRecDepth 20000 in
theorem gX0_play_X0_keyInForce : GoodIn wsX0_play (wsV RX0 108 RX0 yX0_keyInForce wsX0_keyInForce) := goodIn_app (goodIn_of _ (by decide +kernel)) ggX0_play_X0_keyInForce
set_option maxRecDepth 20000 in
theorem ggX0_play_X0_placeOf : GoodIn wsX0_play wsX0_placeOf := goodIn_r _ [16] (by decide +kernel) (by decide +kernel)
set_option maxRecDepth 20000 in
theorem gX0_play_X0_placeOf : GoodIn wsX0_play (va_wsS RX0 26 yX0_placeOf wsX0_placeOf) := goodIn_app (goodIn_of _ (by decide +kernel)) ggX0_play_X0_placeOf
set_option maxRecDepth 20000 in
theorem ggX0_play_X0_between : GoodIn wsX0_play wsX0_between := goodIn_r _ [20, 7, 4, 5, 21, 22, 23, 12, 24, 25, 26, 27, 28, 29, 30, 31, 32, 33, 34, 35, 36, 37, 38, 39, 40, 41, 42, 43, 44, 45, 46, 47, 48, 49] (by decide +kernel) (by decide +kernel)
set_option maxRecDepth 20000 in
theorem gX0_play_X0_between : GoodIn wsX0_play (wsV RX0 111 RX0 yX0_between wsX0_between) := goodIn_app (goodIn_of _ (by decide +kernel)) ggX0_play_X0_between
set_option maxRecDepth 20000 in
theorem ggX0_between_X0_div : GoodIn wsX0_between wsX0_div := goodIn_r _ [8, 9, 10, 11, 12] (by decide +kernel) (by decide +kernel)
set_option maxRecDepth 20000 in
theorem gX0_between_X0_div : GoodIn wsX0_between (va_wsS RX0 115 yX0_div wsX0_div) := goodIn_app (goodIn_of _ (by decide +kernel)) ggX0_between_X0_div
set_option maxRecDepth 20000 in
theorem ggX0_between_X0_smoothed : GoodIn wsX0_between wsX0_smoothed := goodIn_r _ [15, 16, 17, 18, 19, 7, 20, 4, 5, 6, 8, 9, 10, 11, 12] (by decide +kernel) (by decide +kernel)
set_option maxRecDepth 20000 in
theorem gX0_between_X0_smoothed : GoodIn wsX0_between (va_wsS RX0 121 yX0_smoothed wsX0_smoothed) := goodIn_app (goodIn_of _ (by decide +kernel)) ggX0_between_X0_smoothed
set_option maxRecDepth 20000 in
theorem ggX0_between_X0_mul : GoodIn wsX0_between wsX0_mul := goodIn_r _ [20, 4, 5, 6, 7, 8, 9, 10, 11, 12] (by decide +kernel) (by decide +kernel)
set_option maxRecDepth 20000 in
theorem gX0_between_X0_mul : GoodIn wsX0_between (va_wsS RX0 125 yX0_mul wsX0_mul) := goodIn_app (goodIn_of _ (by decide +kernel)) ggX0_between_X0_mul
set_option maxRecDepth 20000 in
theorem ggX0_smoothed_X0_mul : GoodIn wsX0_smoothed wsX0_mul := goodIn_r _ [6, 7, 8, 9, 5, 10, 11, 12, 13, 14] (by decide +kernel) (by decide +kernel)
set_option maxRecDepth 20000 in
theorem gX0_smoothed_X0_mul : GoodIn wsX0_smoothed (va_wsS RX0 125 yX0_mul wsX0_mul) := goodIn_app (goodIn_of _ (by decide +kernel)) ggX0_smoothed_X0_mul
set_option maxRecDepth 20000 in
theorem ggX0_mul_X0_div : GoodIn wsX0_mul wsX0_div := goodIn_r _ [5, 6, 7, 8, 9] (by decide +kernel) (by decide +kernel)
set_option maxRecDepth 20000 in
theorem gX0_mul_X0_div : GoodIn wsX0_mul (va_wsS RX0 115 yX0_div wsX0_div) := goodIn_app (goodIn_of _ (by decide +kernel)) ggX0_mul_X0_div
set_option maxRecDepth 20000 in
theorem ggX0_div_J9_floorDiv_f86c9 : GoodIn wsX0_div wsJ9_floorDiv_f86c9 := goodIn_r _ [4] (by decide +kernel) (by decide +kernel)
set_option maxRecDepth 20000 in
theorem gX0_div_J9_floorDiv_f86c9 : GoodIn wsX0_div (va_wsS RX0 132 yJ9_floorDiv_f86c9 wsJ9_floorDiv_f86c9) := goodIn_app (goodIn_of _ (by decide +kernel)) ggX0_div_J9_floorDiv_f86c9

abbrev cX1_init : ByteArray := prog_3_method_1_code
def yX1_init : MethodName := ⟨RX1, "<init>", "(I)V"⟩
abbrev cX1_key : ByteArray := prog_3_method_5_code
def yX1_key : MethodName := ⟨RX1, "key", "(IIII)I"⟩
abbrev cX1_fits : ByteArray := prog_3_method_3_code
def yX1_fits : MethodName := ⟨RX1, "fits", "(II)Z"⟩
abbrev cX1_track : ByteArray := prog_3_method_6_code
def yX1_track : MethodName := ⟨RX1, "track", "(III)I"⟩
abbrev cX1_there : ByteArray := prog_3_method_4_code
def yX1_there : MethodName := ⟨RX1, "there", "(II)Z"⟩
abbrev cX1_set : ByteArray := prog_3_method_7_code
def yX1_set : MethodName := ⟨RX1, "set", "(IIIII)Z"⟩
abbrev cX1_time : ByteArray := prog_3_method_11_code
def yX1_time : MethodName := ⟨RX1, "time", "(I)Z"⟩
abbrev cX1_at : ByteArray := prog_3_method_10_code
def yX1_at : MethodName := ⟨RX1, "at", "(III)I"⟩
abbrev cX1_div : ByteArray := prog_3_method_8_code
def yX1_div : MethodName := ⟨RX1, "div", "(JJ)J"⟩
abbrev cX1_mul : ByteArray := prog_3_method_9_code
def yX1_mul : MethodName := ⟨RX1, "mul", "(JJ)J"⟩
abbrev cX1_value : ByteArray := prog_3_method_12_code
def yX1_value : MethodName := ⟨RX1, "value", "(III)I"⟩
abbrev cX1_count : ByteArray := prog_3_method_13_code
def yX1_count : MethodName := ⟨RX1, "count", "(I)I"⟩
abbrev cX1_about : ByteArray := prog_3_method_14_code
def yX1_about : MethodName := ⟨RX1, "about", "(II)I"⟩
abbrev cX1_clear : ByteArray := prog_3_method_15_code
def yX1_clear : MethodName := ⟨RX1, "clear", "()V"⟩
def wsX1_init : List Cond := .code yX1_init cX1_init 4 none :: ([.methodLink RX1 1 objectInit, .instanceMethod objectInit, .code objectInit ⟨#[0xb1]⟩ 1 none, .arrayClass .int, .fieldLink RX1 7 "MotionDeskModel" "poses" "[I", .fieldLink RX1 13 "MotionDeskModel" "textTimes" "[I", .fieldLink RX1 16 "MotionDeskModel" "textValues" "[I", .fieldLink RX1 19 "MotionDeskModel" "nodeOf" "[I", .fieldLink RX1 22 "MotionDeskModel" "whatOf" "[I", .fieldLink RX1 25 "MotionDeskModel" "howOf" "[I", .fieldLink RX1 28 "MotionDeskModel" "keysOf" "[I", .fieldLink RX1 31 "MotionDeskModel" "times" "[I", .fieldLink RX1 34 "MotionDeskModel" "values" "[I", .fieldLink RX1 37 "MotionDeskModel" "nodes" "I", .constant RX1 41 (65536)] ++ wsX10)
def wsX1_key : List Cond := .code yX1_key cX1_key 6 (some .int) :: ([.fieldLink RX1 42 "MotionDeskModel" "thrown" "I", .constant RX1 47 (1000000), .fieldLink RX1 48 "MotionDeskModel" "textKeys" "I", .fieldLink RX1 13 "MotionDeskModel" "textTimes" "[I", .fieldLink RX1 16 "MotionDeskModel" "textValues" "[I", .methodLink RX1 51 yX1_fits, .static yX1_fits, .initialized RX1, .code yX1_fits cX1_fits 3 (some .boolean), .constant RX1 45 (4194304), .constant RX1 46 (1048576)] ++ wsX10)
def wsX1_fits : List Cond := .code yX1_fits cX1_fits 3 (some .boolean) :: ([.constant RX1 45 (4194304), .constant RX1 46 (1048576)])
def wsX1_track : List Cond := .code yX1_track cX1_track 7 (some .int) :: ([.fieldLink RX1 42 "MotionDeskModel" "thrown" "I", .fieldLink RX1 48 "MotionDeskModel" "textKeys" "I", .fieldLink RX1 58 "MotionDeskModel" "tracks" "I", .fieldLink RX1 16 "MotionDeskModel" "textValues" "[I", .fieldLink RX1 19 "MotionDeskModel" "nodeOf" "[I", .fieldLink RX1 22 "MotionDeskModel" "whatOf" "[I", .fieldLink RX1 25 "MotionDeskModel" "howOf" "[I", .fieldLink RX1 28 "MotionDeskModel" "keysOf" "[I", .fieldLink RX1 31 "MotionDeskModel" "times" "[I", .fieldLink RX1 13 "MotionDeskModel" "textTimes" "[I", .fieldLink RX1 34 "MotionDeskModel" "values" "[I", .methodLink RX1 55 yX1_there, .instanceMethod yX1_there, .selects RX1 yX1_there yX1_there, .initialized RX1, .code yX1_there cX1_there 3 (some .boolean), .fieldLink RX1 37 "MotionDeskModel" "nodes" "I", .methodLink RX1 51 yX1_fits, .static yX1_fits, .code yX1_fits cX1_fits 3 (some .boolean), .constant RX1 45 (4194304), .constant RX1 46 (1048576)] ++ wsX10)
def wsX1_there : List Cond := .code yX1_there cX1_there 3 (some .boolean) :: ([.fieldLink RX1 37 "MotionDeskModel" "nodes" "I"] ++ wsX10)
def wsX1_set : List Cond := .code yX1_set cX1_set 6 (some .boolean) :: ([.fieldLink RX1 42 "MotionDeskModel" "thrown" "I", .fieldLink RX1 7 "MotionDeskModel" "poses" "[I", .methodLink RX1 55 yX1_there, .instanceMethod yX1_there, .selects RX1 yX1_there yX1_there, .initialized RX1, .code yX1_there cX1_there 3 (some .boolean), .fieldLink RX1 37 "MotionDeskModel" "nodes" "I", .methodLink RX1 51 yX1_fits, .static yX1_fits, .code yX1_fits cX1_fits 3 (some .boolean), .constant RX1 45 (4194304), .constant RX1 46 (1048576)] ++ wsX10)
def wsX1_time : List Cond := .code yX1_time cX1_time 4 (some .boolean) :: ([.fieldLink RX1 42 "MotionDeskModel" "thrown" "I", .constant RX1 47 (1000000), .fieldLink RX1 74 "MotionDeskModel" "now" "I", .fieldLink RX1 58 "MotionDeskModel" "tracks" "I", .fieldLink RX1 7 "MotionDeskModel" "poses" "[I", .fieldLink RX1 19 "MotionDeskModel" "nodeOf" "[I", .fieldLink RX1 22 "MotionDeskModel" "whatOf" "[I", .methodLink RX1 77 yX1_at, .instanceMethod yX1_at, .selects RX1 yX1_at yX1_at, .initialized RX1, .code yX1_at cX1_at 19 (some .int), .fieldLink RX1 28 "MotionDeskModel" "keysOf" "[I", .fieldLink RX1 31 "MotionDeskModel" "times" "[I", .fieldLink RX1 34 "MotionDeskModel" "values" "[I", .fieldLink RX1 25 "MotionDeskModel" "howOf" "[I", .constantLong RX1 61 (65536), .constantLong RX1 70 (196608), .constantLong RX1 72 (2), .methodLink RX1 63 yX1_div, .static yX1_div, .code yX1_div cX1_div 6 (some .long), .methodLink RX1 67 yX1_mul, .static yX1_mul, .code yX1_mul cX1_mul 4 (some .long)] ++ wsX10)
def wsX1_at : List Cond := .code yX1_at cX1_at 19 (some .int) :: ([.fieldLink RX1 28 "MotionDeskModel" "keysOf" "[I", .fieldLink RX1 31 "MotionDeskModel" "times" "[I", .fieldLink RX1 34 "MotionDeskModel" "values" "[I", .fieldLink RX1 25 "MotionDeskModel" "howOf" "[I", .constantLong RX1 61 (65536), .constantLong RX1 70 (196608), .constantLong RX1 72 (2), .methodLink RX1 63 yX1_div, .static yX1_div, .initialized RX1, .code yX1_div cX1_div 6 (some .long), .methodLink RX1 67 yX1_mul, .static yX1_mul, .code yX1_mul cX1_mul 4 (some .long)] ++ wsX10)
def wsX1_div : List Cond := .code yX1_div cX1_div 6 (some .long) :: ([])
def wsX1_mul : List Cond := .code yX1_mul cX1_mul 4 (some .long) :: ([.constantLong RX1 61 (65536), .methodLink RX1 63 yX1_div, .static yX1_div, .initialized RX1, .code yX1_div cX1_div 6 (some .long)])
def wsX1_value : List Cond := .code yX1_value cX1_value 4 (some .int) :: ([.fieldLink RX1 42 "MotionDeskModel" "thrown" "I", .fieldLink RX1 7 "MotionDeskModel" "poses" "[I", .methodLink RX1 55 yX1_there, .instanceMethod yX1_there, .selects RX1 yX1_there yX1_there, .initialized RX1, .code yX1_there cX1_there 3 (some .boolean), .fieldLink RX1 37 "MotionDeskModel" "nodes" "I"] ++ wsX10)
def wsX1_count : List Cond := .code yX1_count cX1_count 4 (some .int) :: ([.fieldLink RX1 42 "MotionDeskModel" "thrown" "I", .fieldLink RX1 58 "MotionDeskModel" "tracks" "I", .fieldLink RX1 28 "MotionDeskModel" "keysOf" "[I", .fieldLink RX1 37 "MotionDeskModel" "nodes" "I", .fieldLink RX1 74 "MotionDeskModel" "now" "I", .fieldLink RX1 48 "MotionDeskModel" "textKeys" "I"] ++ wsX10)
def wsX1_about : List Cond := .code yX1_about cX1_about 3 (some .int) :: ([.fieldLink RX1 42 "MotionDeskModel" "thrown" "I", .fieldLink RX1 58 "MotionDeskModel" "tracks" "I", .fieldLink RX1 19 "MotionDeskModel" "nodeOf" "[I", .fieldLink RX1 22 "MotionDeskModel" "whatOf" "[I", .fieldLink RX1 25 "MotionDeskModel" "howOf" "[I", .fieldLink RX1 28 "MotionDeskModel" "keysOf" "[I"] ++ wsX10)
def wsX1_clear : List Cond := .code yX1_clear cX1_clear 1 none :: ([.fieldLink RX1 42 "MotionDeskModel" "thrown" "I", .fieldLink RX1 58 "MotionDeskModel" "tracks" "I"] ++ wsX10)
set_option maxRecDepth 20000 in
theorem gX1_key_X1_fits : GoodIn wsX1_key (va_wsS RX1 51 yX1_fits wsX1_fits) := goodIn_p _ [9] rfl (by decide +kernel)
set_option maxRecDepth 20000 in
theorem gX1_track_X1_there : GoodIn wsX1_track (wsV RX1 55 RX1 yX1_there wsX1_there) := goodIn_p _ [16] rfl (by decide +kernel)
set_option maxRecDepth 20000 in
theorem gX1_track_X1_fits : GoodIn wsX1_track (va_wsS RX1 51 yX1_fits wsX1_fits) := goodIn_p _ [20] rfl (by decide +kernel)
set_option maxRecDepth 20000 in
theorem gX1_set_X1_there : GoodIn wsX1_set (wsV RX1 55 RX1 yX1_there wsX1_there) := goodIn_p _ [7] rfl (by decide +kernel)
set_option maxRecDepth 20000 in
theorem gX1_set_X1_fits : GoodIn wsX1_set (va_wsS RX1 51 yX1_fits wsX1_fits) := goodIn_p _ [11] rfl (by decide +kernel)
set_option maxRecDepth 20000 in
theorem gX1_time_X1_at : GoodIn wsX1_time (wsV RX1 77 RX1 yX1_at wsX1_at) := goodIn_p _ [12, 22, 25] rfl (by decide +kernel)
set_option maxRecDepth 20000 in
theorem gX1_at_X1_div : GoodIn wsX1_at (va_wsS RX1 63 yX1_div wsX1_div) := goodIn_p _ [11] rfl (by decide +kernel)
set_option maxRecDepth 20000 in
theorem gX1_at_X1_mul : GoodIn wsX1_at (va_wsS RX1 67 yX1_mul wsX1_mul) := goodIn_p _ [14, 11] rfl (by decide +kernel)
set_option maxRecDepth 20000 in
theorem gX1_mul_X1_div : GoodIn wsX1_mul (va_wsS RX1 63 yX1_div wsX1_div) := goodIn_p _ [5] rfl (by decide +kernel)
set_option maxRecDepth 20000 in
theorem gX1_value_X1_there : GoodIn wsX1_value (wsV RX1 55 RX1 yX1_there wsX1_there) := goodIn_p _ [7] rfl (by decide +kernel)
abbrev vwCl : List vw_C := [(RX0, TX0, 13), (RX1, TX1, 14)]
theorem inX0 : ∀ w ∈ wsX00, w ∈ lw_tbl := by decide +kernel
theorem inX1 : ∀ w ∈ wsX10, w ∈ lw_tbl := by decide +kernel
set_option maxRecDepth 20000 in
theorem gL_law_L_cell : GoodIn lw_tbl (va_wsS RL 9 yL_cell wsL_cell) := goodIn_p _ [169] rfl (by decide +kernel)
set_option maxRecDepth 20000 in
theorem gL_law_X0_init : GoodIn lw_tbl (wsX0_init) := goodIn_p _ [17, 20, 23, 26, 29] rfl (by decide +kernel)
set_option maxRecDepth 20000 in
theorem gL_law_X1_init : GoodIn lw_tbl (wsX1_init) := goodIn_p _ [174, 20] rfl (by decide +kernel)
set_option maxRecDepth 20000 in
theorem gL_law_X0_key : GoodIn lw_tbl (wsV RL 21 RX0 yX0_key wsX0_key) := goodIn_p _ [75, 78, 82, 87, 90] rfl (by decide +kernel)
set_option maxRecDepth 20000 in
theorem gL_law_X1_key : GoodIn lw_tbl (wsV RL 25 RX1 yX1_key wsX1_key) := goodIn_p _ [223, 227] rfl (by decide +kernel)
set_option maxRecDepth 20000 in
theorem gL_law_X0_track : GoodIn lw_tbl (wsV RL 26 RX0 yX0_track wsX0_track) := goodIn_p _ [94, 98, 101, 104, 108, 82, 87] rfl (by decide +kernel)
set_option maxRecDepth 20000 in
theorem gL_law_X1_track : GoodIn lw_tbl (wsV RL 30 RX1 yX1_track wsX1_track) := goodIn_p _ [233, 237, 227] rfl (by decide +kernel)
set_option maxRecDepth 20000 in
theorem gL_law_X0_set : GoodIn lw_tbl (wsV RL 31 RX0 yX0_set wsX0_set) := goodIn_p _ [115, 98, 101, 82, 87, 29, 90] rfl (by decide +kernel)
set_option maxRecDepth 20000 in
theorem gL_law_X1_set : GoodIn lw_tbl (wsV RL 35 RX1 yX1_set wsX1_set) := goodIn_p _ [241, 237, 227] rfl (by decide +kernel)
set_option maxRecDepth 20000 in
theorem gL_law_X0_time : GoodIn lw_tbl (wsV RL 36 RX0 yX0_time wsX0_time) := goodIn_p _ [119, 78, 123, 127, 29, 131, 134, 137, 141, 144] rfl (by decide +kernel)
set_option maxRecDepth 20000 in
theorem gL_law_X1_time : GoodIn lw_tbl (wsV RL 40 RX1 yX1_time wsX1_time) := goodIn_p _ [245, 249, 252, 256] rfl (by decide +kernel)
set_option maxRecDepth 20000 in
theorem gL_law_X0_value : GoodIn lw_tbl (wsV RL 41 RX0 yX0_value wsX0_value) := goodIn_p _ [150, 98, 101, 29] rfl (by decide +kernel)
set_option maxRecDepth 20000 in
theorem gL_law_X1_value : GoodIn lw_tbl (wsV RL 44 RX1 yX1_value wsX1_value) := goodIn_p _ [262, 237] rfl (by decide +kernel)
set_option maxRecDepth 20000 in
theorem gL_law_X0_count : GoodIn lw_tbl (wsV RL 45 RX0 yX0_count wsX0_count) := goodIn_p _ [154, 158] rfl (by decide +kernel)
set_option maxRecDepth 20000 in
theorem gL_law_X1_count : GoodIn lw_tbl (wsV RL 49 RX1 yX1_count wsX1_count) := goodIn_p _ [266] rfl (by decide +kernel)
set_option maxRecDepth 20000 in
theorem gL_law_X0_about : GoodIn lw_tbl (wsV RL 50 RX0 yX0_about wsX0_about) := goodIn_p _ [162] rfl (by decide +kernel)
set_option maxRecDepth 20000 in
theorem gL_law_X1_about : GoodIn lw_tbl (wsV RL 54 RX1 yX1_about wsX1_about) := goodIn_p _ [270] rfl (by decide +kernel)
set_option maxRecDepth 20000 in
theorem gL_law_X0_clear : GoodIn lw_tbl (wsV RL 55 RX0 yX0_clear wsX0_clear) := goodIn_p _ [166] rfl (by decide +kernel)
set_option maxRecDepth 20000 in
theorem gL_law_X1_clear : GoodIn lw_tbl (wsV RL 58 RX1 yX1_clear wsX1_clear) := goodIn_p _ [274] rfl (by decide +kernel)
end
section
theorem dX0_init_0 : decode cX0_init 0 = .ok (.aload_n 0, 1) := by decide +kernel
theorem dX0_init_1 : decode cX0_init 1 = .ok (.invokespecial 1, 3) := by decide +kernel
theorem dX0_init_4 : decode cX0_init 4 = .ok (.aload_n 0, 1) := by decide +kernel
theorem dX0_init_5 : decode cX0_init 5 = .ok (.iconst 1, 1) := by decide +kernel
theorem dX0_init_6 : decode cX0_init 6 = .ok (.bipush 48, 2) := by decide +kernel
theorem dX0_init_8 : decode cX0_init 8 = .ok (.iload_n 1, 1) := by decide +kernel
theorem dX0_init_9 : decode cX0_init 9 = .ok (.invokestatic 9, 3) := by decide +kernel
theorem dX0_init_12 : decode cX0_init 12 = .ok (.invokestatic 15, 3) := by decide +kernel
theorem dX0_init_15 : decode cX0_init 15 = .ok (.putfield 18, 3) := by decide +kernel
theorem dX0_init_18 : decode cX0_init 18 = .ok (.aload_n 0, 1) := by decide +kernel
theorem dX0_init_19 : decode cX0_init 19 = .ok (.aload_n 0, 1) := by decide +kernel
theorem dX0_init_20 : decode cX0_init 20 = .ok (.getfield 18, 3) := by decide +kernel
theorem dX0_init_23 : decode cX0_init 23 = .ok (.iconst 3, 1) := by decide +kernel
theorem dX0_init_24 : decode cX0_init 24 = .ok (.imul, 1) := by decide +kernel
theorem dX0_init_25 : decode cX0_init 25 = .ok (.iconst 3, 1) := by decide +kernel
theorem dX0_init_26 : decode cX0_init 26 = .ok (.imul, 1) := by decide +kernel
theorem dX0_init_27 : decode cX0_init 27 = .ok (.newarray .int, 2) := by decide +kernel
theorem dX0_init_29 : decode cX0_init 29 = .ok (.putfield 22, 3) := by decide +kernel
theorem dX0_init_32 : decode cX0_init 32 = .ok (.iconst 0, 1) := by decide +kernel
theorem dX0_init_33 : decode cX0_init 33 = .ok (.istore_n 2, 1) := by decide +kernel
theorem dX0_init_34 : decode cX0_init 34 = .ok (.iload_n 2, 1) := by decide +kernel
theorem dX0_init_35 : decode cX0_init 35 = .ok (.aload_n 0, 1) := by decide +kernel
theorem dX0_init_36 : decode cX0_init 36 = .ok (.getfield 18, 3) := by decide +kernel
theorem dX0_init_39 : decode cX0_init 39 = .ok (.if_icmp .ge 36, 3) := by decide +kernel
theorem dX0_init_42 : decode cX0_init 42 = .ok (.iconst 0, 1) := by decide +kernel
theorem dX0_init_43 : decode cX0_init 43 = .ok (.istore_n 3, 1) := by decide +kernel
theorem dX0_init_44 : decode cX0_init 44 = .ok (.iload_n 3, 1) := by decide +kernel
theorem dX0_init_45 : decode cX0_init 45 = .ok (.iconst 3, 1) := by decide +kernel
theorem dX0_init_46 : decode cX0_init 46 = .ok (.if_icmp .ge 23, 3) := by decide +kernel
theorem dX0_init_49 : decode cX0_init 49 = .ok (.aload_n 0, 1) := by decide +kernel
theorem dX0_init_50 : decode cX0_init 50 = .ok (.getfield 22, 3) := by decide +kernel
theorem dX0_init_53 : decode cX0_init 53 = .ok (.iload_n 2, 1) := by decide +kernel
theorem dX0_init_54 : decode cX0_init 54 = .ok (.iconst 2, 1) := by decide +kernel
theorem dX0_init_55 : decode cX0_init 55 = .ok (.invokestatic 26, 3) := by decide +kernel
theorem dX0_init_58 : decode cX0_init 58 = .ok (.iload_n 3, 1) := by decide +kernel
theorem dX0_init_59 : decode cX0_init 59 = .ok (.iadd, 1) := by decide +kernel
theorem dX0_init_60 : decode cX0_init 60 = .ok (.ldc 29, 2) := by decide +kernel
theorem dX0_init_62 : decode cX0_init 62 = .ok (.iastore, 1) := by decide +kernel
theorem dX0_init_63 : decode cX0_init 63 = .ok (.iinc 3 1, 3) := by decide +kernel
theorem dX0_init_66 : decode cX0_init 66 = .ok (.goto (-22), 3) := by decide +kernel
theorem dX0_init_69 : decode cX0_init 69 = .ok (.iinc 2 1, 3) := by decide +kernel
theorem dX0_init_72 : decode cX0_init 72 = .ok (.goto (-38), 3) := by decide +kernel
theorem dX0_init_75 : decode cX0_init 75 = .ok (.aload_n 0, 1) := by decide +kernel
theorem dX0_init_76 : decode cX0_init 76 = .ok (.bipush 32, 2) := by decide +kernel
theorem dX0_init_78 : decode cX0_init 78 = .ok (.newarray .int, 2) := by decide +kernel
theorem dX0_init_80 : decode cX0_init 80 = .ok (.putfield 30, 3) := by decide +kernel
theorem dX0_init_83 : decode cX0_init 83 = .ok (.aload_n 0, 1) := by decide +kernel
theorem dX0_init_84 : decode cX0_init 84 = .ok (.bipush 32, 2) := by decide +kernel
theorem dX0_init_86 : decode cX0_init 86 = .ok (.newarray .int, 2) := by decide +kernel
theorem dX0_init_88 : decode cX0_init 88 = .ok (.putfield 33, 3) := by decide +kernel
theorem dX0_init_91 : decode cX0_init 91 = .ok (.aload_n 0, 1) := by decide +kernel
theorem dX0_init_92 : decode cX0_init 92 = .ok (.bipush 32, 2) := by decide +kernel
theorem dX0_init_94 : decode cX0_init 94 = .ok (.newarray .int, 2) := by decide +kernel
theorem dX0_init_96 : decode cX0_init 96 = .ok (.putfield 36, 3) := by decide +kernel
theorem dX0_init_99 : decode cX0_init 99 = .ok (.aload_n 0, 1) := by decide +kernel
theorem dX0_init_100 : decode cX0_init 100 = .ok (.bipush 32, 2) := by decide +kernel
theorem dX0_init_102 : decode cX0_init 102 = .ok (.newarray .int, 2) := by decide +kernel
theorem dX0_init_104 : decode cX0_init 104 = .ok (.putfield 39, 3) := by decide +kernel
theorem dX0_init_107 : decode cX0_init 107 = .ok (.aload_n 0, 1) := by decide +kernel
theorem dX0_init_108 : decode cX0_init 108 = .ok (.sipush 1024, 3) := by decide +kernel
theorem dX0_init_111 : decode cX0_init 111 = .ok (.newarray .int, 2) := by decide +kernel
theorem dX0_init_113 : decode cX0_init 113 = .ok (.putfield 42, 3) := by decide +kernel
theorem dX0_init_116 : decode cX0_init 116 = .ok (.aload_n 0, 1) := by decide +kernel
theorem dX0_init_117 : decode cX0_init 117 = .ok (.sipush 3072, 3) := by decide +kernel
theorem dX0_init_120 : decode cX0_init 120 = .ok (.newarray .int, 2) := by decide +kernel
theorem dX0_init_122 : decode cX0_init 122 = .ok (.putfield 45, 3) := by decide +kernel
theorem dX0_init_125 : decode cX0_init 125 = .ok (.aload_n 0, 1) := by decide +kernel
theorem dX0_init_126 : decode cX0_init 126 = .ok (.bipush 32, 2) := by decide +kernel
theorem dX0_init_128 : decode cX0_init 128 = .ok (.newarray .int, 2) := by decide +kernel
theorem dX0_init_130 : decode cX0_init 130 = .ok (.putfield 48, 3) := by decide +kernel
theorem dX0_init_133 : decode cX0_init 133 = .ok (.aload_n 0, 1) := by decide +kernel
theorem dX0_init_134 : decode cX0_init 134 = .ok (.bipush 96, 2) := by decide +kernel
theorem dX0_init_136 : decode cX0_init 136 = .ok (.newarray .int, 2) := by decide +kernel
theorem dX0_init_138 : decode cX0_init 138 = .ok (.putfield 51, 3) := by decide +kernel
theorem dX0_init_141 : decode cX0_init 141 = .ok (.return_, 1) := by decide +kernel
theorem dX0_key_0 : decode cX0_key 0 = .ok (.aload_n 0, 1) := by decide +kernel
theorem dX0_key_1 : decode cX0_key 1 = .ok (.getfield 54, 3) := by decide +kernel
theorem dX0_key_4 : decode cX0_key 4 = .ok (.bipush 32, 2) := by decide +kernel
theorem dX0_key_6 : decode cX0_key 6 = .ok (.if_icmp .ge 21, 3) := by decide +kernel
theorem dX0_key_9 : decode cX0_key 9 = .ok (.iload_n 1, 1) := by decide +kernel
theorem dX0_key_10 : decode cX0_key 10 = .ok (.invokestatic 57, 3) := by decide +kernel
theorem dX0_key_13 : decode cX0_key 13 = .ok (.ifCond .eq 14, 3) := by decide +kernel
theorem dX0_key_16 : decode cX0_key 16 = .ok (.iconst 0, 1) := by decide +kernel
theorem dX0_key_17 : decode cX0_key 17 = .ok (.iload_n 2, 1) := by decide +kernel
theorem dX0_key_18 : decode cX0_key 18 = .ok (.iload_n 3, 1) := by decide +kernel
theorem dX0_key_19 : decode cX0_key 19 = .ok (.iload 4, 2) := by decide +kernel
theorem dX0_key_21 : decode cX0_key 21 = .ok (.invokestatic 61, 3) := by decide +kernel
theorem dX0_key_24 : decode cX0_key 24 = .ok (.ifCond .ne 5, 3) := by decide +kernel
theorem dX0_key_27 : decode cX0_key 27 = .ok (.iconst (-1), 1) := by decide +kernel
theorem dX0_key_28 : decode cX0_key 28 = .ok (.ireturn, 1) := by decide +kernel
theorem dX0_key_29 : decode cX0_key 29 = .ok (.aload_n 0, 1) := by decide +kernel
theorem dX0_key_30 : decode cX0_key 30 = .ok (.getfield 54, 3) := by decide +kernel
theorem dX0_key_33 : decode cX0_key 33 = .ok (.ifCond .le 20, 3) := by decide +kernel
theorem dX0_key_36 : decode cX0_key 36 = .ok (.iload_n 1, 1) := by decide +kernel
theorem dX0_key_37 : decode cX0_key 37 = .ok (.aload_n 0, 1) := by decide +kernel
theorem dX0_key_38 : decode cX0_key 38 = .ok (.getfield 48, 3) := by decide +kernel
theorem dX0_key_41 : decode cX0_key 41 = .ok (.aload_n 0, 1) := by decide +kernel
theorem dX0_key_42 : decode cX0_key 42 = .ok (.getfield 54, 3) := by decide +kernel
theorem dX0_key_45 : decode cX0_key 45 = .ok (.iconst 1, 1) := by decide +kernel
theorem dX0_key_46 : decode cX0_key 46 = .ok (.isub, 1) := by decide +kernel
theorem dX0_key_47 : decode cX0_key 47 = .ok (.iaload, 1) := by decide +kernel
theorem dX0_key_48 : decode cX0_key 48 = .ok (.if_icmp .gt 5, 3) := by decide +kernel
theorem dX0_key_51 : decode cX0_key 51 = .ok (.iconst (-1), 1) := by decide +kernel
theorem dX0_key_52 : decode cX0_key 52 = .ok (.ireturn, 1) := by decide +kernel
theorem dX0_key_53 : decode cX0_key 53 = .ok (.aload_n 0, 1) := by decide +kernel
theorem dX0_key_54 : decode cX0_key 54 = .ok (.getfield 48, 3) := by decide +kernel
theorem dX0_key_57 : decode cX0_key 57 = .ok (.aload_n 0, 1) := by decide +kernel
theorem dX0_key_58 : decode cX0_key 58 = .ok (.getfield 54, 3) := by decide +kernel
theorem dX0_key_61 : decode cX0_key 61 = .ok (.iload_n 1, 1) := by decide +kernel
theorem dX0_key_62 : decode cX0_key 62 = .ok (.iastore, 1) := by decide +kernel
theorem dX0_key_63 : decode cX0_key 63 = .ok (.aload_n 0, 1) := by decide +kernel
theorem dX0_key_64 : decode cX0_key 64 = .ok (.getfield 51, 3) := by decide +kernel
theorem dX0_key_67 : decode cX0_key 67 = .ok (.aload_n 0, 1) := by decide +kernel
theorem dX0_key_68 : decode cX0_key 68 = .ok (.getfield 54, 3) := by decide +kernel
theorem dX0_key_71 : decode cX0_key 71 = .ok (.iconst 3, 1) := by decide +kernel
theorem dX0_key_72 : decode cX0_key 72 = .ok (.imul, 1) := by decide +kernel
theorem dX0_key_73 : decode cX0_key 73 = .ok (.iload_n 2, 1) := by decide +kernel
theorem dX0_key_74 : decode cX0_key 74 = .ok (.iload_n 3, 1) := by decide +kernel
theorem dX0_key_75 : decode cX0_key 75 = .ok (.iload 4, 2) := by decide +kernel
theorem dX0_key_77 : decode cX0_key 77 = .ok (.invokestatic 65, 3) := by decide +kernel
theorem dX0_key_80 : decode cX0_key 80 = .ok (.aload_n 0, 1) := by decide +kernel
theorem dX0_key_81 : decode cX0_key 81 = .ok (.dup, 1) := by decide +kernel
theorem dX0_key_82 : decode cX0_key 82 = .ok (.getfield 54, 3) := by decide +kernel
theorem dX0_key_85 : decode cX0_key 85 = .ok (.iconst 1, 1) := by decide +kernel
theorem dX0_key_86 : decode cX0_key 86 = .ok (.iadd, 1) := by decide +kernel
theorem dX0_key_87 : decode cX0_key 87 = .ok (.putfield 54, 3) := by decide +kernel
theorem dX0_key_90 : decode cX0_key 90 = .ok (.aload_n 0, 1) := by decide +kernel
theorem dX0_key_91 : decode cX0_key 91 = .ok (.getfield 54, 3) := by decide +kernel
theorem dX0_key_94 : decode cX0_key 94 = .ok (.ireturn, 1) := by decide +kernel
theorem dX0_track_0 : decode cX0_track 0 = .ok (.aload_n 0, 1) := by decide +kernel
theorem dX0_track_1 : decode cX0_track 1 = .ok (.getfield 54, 3) := by decide +kernel
theorem dX0_track_4 : decode cX0_track 4 = .ok (.istore 4, 2) := by decide +kernel
theorem dX0_track_6 : decode cX0_track 6 = .ok (.aload_n 0, 1) := by decide +kernel
theorem dX0_track_7 : decode cX0_track 7 = .ok (.iconst 0, 1) := by decide +kernel
theorem dX0_track_8 : decode cX0_track 8 = .ok (.putfield 54, 3) := by decide +kernel
theorem dX0_track_11 : decode cX0_track 11 = .ok (.iload 4, 2) := by decide +kernel
theorem dX0_track_13 : decode cX0_track 13 = .ok (.ifCond .eq 12, 3) := by decide +kernel
theorem dX0_track_16 : decode cX0_track 16 = .ok (.aload_n 0, 1) := by decide +kernel
theorem dX0_track_17 : decode cX0_track 17 = .ok (.getfield 69, 3) := by decide +kernel
theorem dX0_track_20 : decode cX0_track 20 = .ok (.bipush 32, 2) := by decide +kernel
theorem dX0_track_22 : decode cX0_track 22 = .ok (.if_icmp .lt 5, 3) := by decide +kernel
theorem dX0_track_25 : decode cX0_track 25 = .ok (.iconst (-1), 1) := by decide +kernel
theorem dX0_track_26 : decode cX0_track 26 = .ok (.ireturn, 1) := by decide +kernel
theorem dX0_track_27 : decode cX0_track 27 = .ok (.aload_n 0, 1) := by decide +kernel
theorem dX0_track_28 : decode cX0_track 28 = .ok (.iload_n 1, 1) := by decide +kernel
theorem dX0_track_29 : decode cX0_track 29 = .ok (.invokevirtual 72, 3) := by decide +kernel
theorem dX0_track_32 : decode cX0_track 32 = .ok (.ifCond .eq 27, 3) := by decide +kernel
theorem dX0_track_35 : decode cX0_track 35 = .ok (.iload_n 2, 1) := by decide +kernel
theorem dX0_track_36 : decode cX0_track 36 = .ok (.invokestatic 75, 3) := by decide +kernel
theorem dX0_track_39 : decode cX0_track 39 = .ok (.ifCond .eq 20, 3) := by decide +kernel
theorem dX0_track_42 : decode cX0_track 42 = .ok (.iload_n 3, 1) := by decide +kernel
theorem dX0_track_43 : decode cX0_track 43 = .ok (.invokestatic 78, 3) := by decide +kernel
theorem dX0_track_46 : decode cX0_track 46 = .ok (.ifCond .eq 13, 3) := by decide +kernel
theorem dX0_track_49 : decode cX0_track 49 = .ok (.aload_n 0, 1) := by decide +kernel
theorem dX0_track_50 : decode cX0_track 50 = .ok (.iload 4, 2) := by decide +kernel
theorem dX0_track_52 : decode cX0_track 52 = .ok (.iload_n 2, 1) := by decide +kernel
theorem dX0_track_53 : decode cX0_track 53 = .ok (.invokevirtual 81, 3) := by decide +kernel
theorem dX0_track_56 : decode cX0_track 56 = .ok (.ifCond .ne 5, 3) := by decide +kernel
theorem dX0_track_59 : decode cX0_track 59 = .ok (.iconst (-1), 1) := by decide +kernel
theorem dX0_track_60 : decode cX0_track 60 = .ok (.ireturn, 1) := by decide +kernel
theorem dX0_track_61 : decode cX0_track 61 = .ok (.aload_n 0, 1) := by decide +kernel
theorem dX0_track_62 : decode cX0_track 62 = .ok (.getfield 69, 3) := by decide +kernel
theorem dX0_track_65 : decode cX0_track 65 = .ok (.istore 5, 2) := by decide +kernel
theorem dX0_track_67 : decode cX0_track 67 = .ok (.aload_n 0, 1) := by decide +kernel
theorem dX0_track_68 : decode cX0_track 68 = .ok (.getfield 30, 3) := by decide +kernel
theorem dX0_track_71 : decode cX0_track 71 = .ok (.iload 5, 2) := by decide +kernel
theorem dX0_track_73 : decode cX0_track 73 = .ok (.iload_n 1, 1) := by decide +kernel
theorem dX0_track_74 : decode cX0_track 74 = .ok (.iastore, 1) := by decide +kernel
theorem dX0_track_75 : decode cX0_track 75 = .ok (.aload_n 0, 1) := by decide +kernel
theorem dX0_track_76 : decode cX0_track 76 = .ok (.getfield 33, 3) := by decide +kernel
theorem dX0_track_79 : decode cX0_track 79 = .ok (.iload 5, 2) := by decide +kernel
theorem dX0_track_81 : decode cX0_track 81 = .ok (.iload_n 2, 1) := by decide +kernel
theorem dX0_track_82 : decode cX0_track 82 = .ok (.iastore, 1) := by decide +kernel
theorem dX0_track_83 : decode cX0_track 83 = .ok (.aload_n 0, 1) := by decide +kernel
theorem dX0_track_84 : decode cX0_track 84 = .ok (.getfield 36, 3) := by decide +kernel
theorem dX0_track_87 : decode cX0_track 87 = .ok (.iload 5, 2) := by decide +kernel
theorem dX0_track_89 : decode cX0_track 89 = .ok (.iload_n 3, 1) := by decide +kernel
theorem dX0_track_90 : decode cX0_track 90 = .ok (.iastore, 1) := by decide +kernel
theorem dX0_track_91 : decode cX0_track 91 = .ok (.aload_n 0, 1) := by decide +kernel
theorem dX0_track_92 : decode cX0_track 92 = .ok (.getfield 39, 3) := by decide +kernel
theorem dX0_track_95 : decode cX0_track 95 = .ok (.iload 5, 2) := by decide +kernel
theorem dX0_track_97 : decode cX0_track 97 = .ok (.iload 4, 2) := by decide +kernel
theorem dX0_track_99 : decode cX0_track 99 = .ok (.iastore, 1) := by decide +kernel
theorem dX0_track_100 : decode cX0_track 100 = .ok (.iload 5, 2) := by decide +kernel
theorem dX0_track_102 : decode cX0_track 102 = .ok (.bipush 32, 2) := by decide +kernel
theorem dX0_track_104 : decode cX0_track 104 = .ok (.imul, 1) := by decide +kernel
theorem dX0_track_105 : decode cX0_track 105 = .ok (.istore 6, 2) := by decide +kernel
theorem dX0_track_107 : decode cX0_track 107 = .ok (.aload_n 0, 1) := by decide +kernel
theorem dX0_track_108 : decode cX0_track 108 = .ok (.getfield 48, 3) := by decide +kernel
theorem dX0_track_111 : decode cX0_track 111 = .ok (.iconst 0, 1) := by decide +kernel
theorem dX0_track_112 : decode cX0_track 112 = .ok (.aload_n 0, 1) := by decide +kernel
theorem dX0_track_113 : decode cX0_track 113 = .ok (.getfield 42, 3) := by decide +kernel
theorem dX0_track_116 : decode cX0_track 116 = .ok (.iload 6, 2) := by decide +kernel
theorem dX0_track_118 : decode cX0_track 118 = .ok (.iload 4, 2) := by decide +kernel
theorem dX0_track_120 : decode cX0_track 120 = .ok (.invokestatic 85, 3) := by decide +kernel
theorem dX0_track_123 : decode cX0_track 123 = .ok (.aload_n 0, 1) := by decide +kernel
theorem dX0_track_124 : decode cX0_track 124 = .ok (.getfield 51, 3) := by decide +kernel
theorem dX0_track_127 : decode cX0_track 127 = .ok (.iconst 0, 1) := by decide +kernel
theorem dX0_track_128 : decode cX0_track 128 = .ok (.aload_n 0, 1) := by decide +kernel
theorem dX0_track_129 : decode cX0_track 129 = .ok (.getfield 45, 3) := by decide +kernel
theorem dX0_track_132 : decode cX0_track 132 = .ok (.iload 6, 2) := by decide +kernel
theorem dX0_track_134 : decode cX0_track 134 = .ok (.iconst 3, 1) := by decide +kernel
theorem dX0_track_135 : decode cX0_track 135 = .ok (.imul, 1) := by decide +kernel
theorem dX0_track_136 : decode cX0_track 136 = .ok (.iload 4, 2) := by decide +kernel
theorem dX0_track_138 : decode cX0_track 138 = .ok (.iconst 3, 1) := by decide +kernel
theorem dX0_track_139 : decode cX0_track 139 = .ok (.imul, 1) := by decide +kernel
theorem dX0_track_140 : decode cX0_track 140 = .ok (.invokestatic 85, 3) := by decide +kernel
theorem dX0_track_143 : decode cX0_track 143 = .ok (.aload_n 0, 1) := by decide +kernel
theorem dX0_track_144 : decode cX0_track 144 = .ok (.dup, 1) := by decide +kernel
theorem dX0_track_145 : decode cX0_track 145 = .ok (.getfield 69, 3) := by decide +kernel
theorem dX0_track_148 : decode cX0_track 148 = .ok (.iconst 1, 1) := by decide +kernel
theorem dX0_track_149 : decode cX0_track 149 = .ok (.iadd, 1) := by decide +kernel
theorem dX0_track_150 : decode cX0_track 150 = .ok (.putfield 69, 3) := by decide +kernel
theorem dX0_track_153 : decode cX0_track 153 = .ok (.iload 5, 2) := by decide +kernel
theorem dX0_track_155 : decode cX0_track 155 = .ok (.ireturn, 1) := by decide +kernel
theorem dX0_set_0 : decode cX0_set 0 = .ok (.aload_n 0, 1) := by decide +kernel
theorem dX0_set_1 : decode cX0_set 1 = .ok (.iload_n 1, 1) := by decide +kernel
theorem dX0_set_2 : decode cX0_set 2 = .ok (.invokevirtual 72, 3) := by decide +kernel
theorem dX0_set_5 : decode cX0_set 5 = .ok (.ifCond .eq 22, 3) := by decide +kernel
theorem dX0_set_8 : decode cX0_set 8 = .ok (.iload_n 2, 1) := by decide +kernel
theorem dX0_set_9 : decode cX0_set 9 = .ok (.invokestatic 75, 3) := by decide +kernel
theorem dX0_set_12 : decode cX0_set 12 = .ok (.ifCond .eq 15, 3) := by decide +kernel
theorem dX0_set_15 : decode cX0_set 15 = .ok (.iload_n 2, 1) := by decide +kernel
theorem dX0_set_16 : decode cX0_set 16 = .ok (.iload_n 3, 1) := by decide +kernel
theorem dX0_set_17 : decode cX0_set 17 = .ok (.iload 4, 2) := by decide +kernel
theorem dX0_set_19 : decode cX0_set 19 = .ok (.iload 5, 2) := by decide +kernel
theorem dX0_set_21 : decode cX0_set 21 = .ok (.invokestatic 61, 3) := by decide +kernel
theorem dX0_set_24 : decode cX0_set 24 = .ok (.ifCond .ne 5, 3) := by decide +kernel
theorem dX0_set_27 : decode cX0_set 27 = .ok (.iconst 0, 1) := by decide +kernel
theorem dX0_set_28 : decode cX0_set 28 = .ok (.ireturn, 1) := by decide +kernel
theorem dX0_set_29 : decode cX0_set 29 = .ok (.aload_n 0, 1) := by decide +kernel
theorem dX0_set_30 : decode cX0_set 30 = .ok (.getfield 22, 3) := by decide +kernel
theorem dX0_set_33 : decode cX0_set 33 = .ok (.iload_n 1, 1) := by decide +kernel
theorem dX0_set_34 : decode cX0_set 34 = .ok (.iload_n 2, 1) := by decide +kernel
theorem dX0_set_35 : decode cX0_set 35 = .ok (.invokestatic 26, 3) := by decide +kernel
theorem dX0_set_38 : decode cX0_set 38 = .ok (.iload_n 3, 1) := by decide +kernel
theorem dX0_set_39 : decode cX0_set 39 = .ok (.iload 4, 2) := by decide +kernel
theorem dX0_set_41 : decode cX0_set 41 = .ok (.iload 5, 2) := by decide +kernel
theorem dX0_set_43 : decode cX0_set 43 = .ok (.invokestatic 65, 3) := by decide +kernel
theorem dX0_set_46 : decode cX0_set 46 = .ok (.iconst 1, 1) := by decide +kernel
theorem dX0_set_47 : decode cX0_set 47 = .ok (.ireturn, 1) := by decide +kernel
theorem dX0_time_0 : decode cX0_time 0 = .ok (.iload_n 1, 1) := by decide +kernel
theorem dX0_time_1 : decode cX0_time 1 = .ok (.invokestatic 57, 3) := by decide +kernel
theorem dX0_time_4 : decode cX0_time 4 = .ok (.ifCond .ne 5, 3) := by decide +kernel
theorem dX0_time_7 : decode cX0_time 7 = .ok (.iconst 0, 1) := by decide +kernel
theorem dX0_time_8 : decode cX0_time 8 = .ok (.ireturn, 1) := by decide +kernel
theorem dX0_time_9 : decode cX0_time 9 = .ok (.aload_n 0, 1) := by decide +kernel
theorem dX0_time_10 : decode cX0_time 10 = .ok (.iload_n 1, 1) := by decide +kernel
theorem dX0_time_11 : decode cX0_time 11 = .ok (.putfield 91, 3) := by decide +kernel
theorem dX0_time_14 : decode cX0_time 14 = .ok (.iconst 0, 1) := by decide +kernel
theorem dX0_time_15 : decode cX0_time 15 = .ok (.istore_n 2, 1) := by decide +kernel
theorem dX0_time_16 : decode cX0_time 16 = .ok (.iload_n 2, 1) := by decide +kernel
theorem dX0_time_17 : decode cX0_time 17 = .ok (.aload_n 0, 1) := by decide +kernel
theorem dX0_time_18 : decode cX0_time 18 = .ok (.getfield 69, 3) := by decide +kernel
theorem dX0_time_21 : decode cX0_time 21 = .ok (.if_icmp .ge 14, 3) := by decide +kernel
theorem dX0_time_24 : decode cX0_time 24 = .ok (.aload_n 0, 1) := by decide +kernel
theorem dX0_time_25 : decode cX0_time 25 = .ok (.iload_n 2, 1) := by decide +kernel
theorem dX0_time_26 : decode cX0_time 26 = .ok (.invokevirtual 94, 3) := by decide +kernel
theorem dX0_time_29 : decode cX0_time 29 = .ok (.iinc 2 1, 3) := by decide +kernel
theorem dX0_time_32 : decode cX0_time 32 = .ok (.goto (-16), 3) := by decide +kernel
theorem dX0_time_35 : decode cX0_time 35 = .ok (.iconst 1, 1) := by decide +kernel
theorem dX0_time_36 : decode cX0_time 36 = .ok (.ireturn, 1) := by decide +kernel
theorem dX0_value_0 : decode cX0_value 0 = .ok (.aload_n 0, 1) := by decide +kernel
theorem dX0_value_1 : decode cX0_value 1 = .ok (.iload_n 1, 1) := by decide +kernel
theorem dX0_value_2 : decode cX0_value 2 = .ok (.invokevirtual 72, 3) := by decide +kernel
theorem dX0_value_5 : decode cX0_value 5 = .ok (.ifCond .eq 19, 3) := by decide +kernel
theorem dX0_value_8 : decode cX0_value 8 = .ok (.iload_n 2, 1) := by decide +kernel
theorem dX0_value_9 : decode cX0_value 9 = .ok (.invokestatic 75, 3) := by decide +kernel
theorem dX0_value_12 : decode cX0_value 12 = .ok (.ifCond .eq 12, 3) := by decide +kernel
theorem dX0_value_15 : decode cX0_value 15 = .ok (.iload_n 3, 1) := by decide +kernel
theorem dX0_value_16 : decode cX0_value 16 = .ok (.ifCond .lt 8, 3) := by decide +kernel
theorem dX0_value_19 : decode cX0_value 19 = .ok (.iload_n 3, 1) := by decide +kernel
theorem dX0_value_20 : decode cX0_value 20 = .ok (.iconst 3, 1) := by decide +kernel
theorem dX0_value_21 : decode cX0_value 21 = .ok (.if_icmp .lt 5, 3) := by decide +kernel
theorem dX0_value_24 : decode cX0_value 24 = .ok (.iconst 0, 1) := by decide +kernel
theorem dX0_value_25 : decode cX0_value 25 = .ok (.ireturn, 1) := by decide +kernel
theorem dX0_value_26 : decode cX0_value 26 = .ok (.aload_n 0, 1) := by decide +kernel
theorem dX0_value_27 : decode cX0_value 27 = .ok (.getfield 22, 3) := by decide +kernel
theorem dX0_value_30 : decode cX0_value 30 = .ok (.iload_n 1, 1) := by decide +kernel
theorem dX0_value_31 : decode cX0_value 31 = .ok (.iload_n 2, 1) := by decide +kernel
theorem dX0_value_32 : decode cX0_value 32 = .ok (.invokestatic 26, 3) := by decide +kernel
theorem dX0_value_35 : decode cX0_value 35 = .ok (.iload_n 3, 1) := by decide +kernel
theorem dX0_value_36 : decode cX0_value 36 = .ok (.iadd, 1) := by decide +kernel
theorem dX0_value_37 : decode cX0_value 37 = .ok (.iaload, 1) := by decide +kernel
theorem dX0_value_38 : decode cX0_value 38 = .ok (.ireturn, 1) := by decide +kernel
theorem dX0_count_0 : decode cX0_count 0 = .ok (.iload_n 1, 1) := by decide +kernel
theorem dX0_count_1 : decode cX0_count 1 = .ok (.tableswitch 60 0 4 #[35, 40, 45, 50, 55], 35) := by decide +kernel
theorem dX0_count_36 : decode cX0_count 36 = .ok (.aload_n 0, 1) := by decide +kernel
theorem dX0_count_37 : decode cX0_count 37 = .ok (.getfield 18, 3) := by decide +kernel
theorem dX0_count_40 : decode cX0_count 40 = .ok (.ireturn, 1) := by decide +kernel
theorem dX0_count_41 : decode cX0_count 41 = .ok (.aload_n 0, 1) := by decide +kernel
theorem dX0_count_42 : decode cX0_count 42 = .ok (.getfield 69, 3) := by decide +kernel
theorem dX0_count_45 : decode cX0_count 45 = .ok (.ireturn, 1) := by decide +kernel
theorem dX0_count_46 : decode cX0_count 46 = .ok (.aload_n 0, 1) := by decide +kernel
theorem dX0_count_47 : decode cX0_count 47 = .ok (.invokevirtual 98, 3) := by decide +kernel
theorem dX0_count_50 : decode cX0_count 50 = .ok (.ireturn, 1) := by decide +kernel
theorem dX0_count_51 : decode cX0_count 51 = .ok (.aload_n 0, 1) := by decide +kernel
theorem dX0_count_52 : decode cX0_count 52 = .ok (.getfield 91, 3) := by decide +kernel
theorem dX0_count_55 : decode cX0_count 55 = .ok (.ireturn, 1) := by decide +kernel
theorem dX0_count_56 : decode cX0_count 56 = .ok (.aload_n 0, 1) := by decide +kernel
theorem dX0_count_57 : decode cX0_count 57 = .ok (.getfield 54, 3) := by decide +kernel
theorem dX0_count_60 : decode cX0_count 60 = .ok (.ireturn, 1) := by decide +kernel
theorem dX0_count_61 : decode cX0_count 61 = .ok (.iconst (-1), 1) := by decide +kernel
theorem dX0_count_62 : decode cX0_count 62 = .ok (.ireturn, 1) := by decide +kernel
theorem dX0_about_0 : decode cX0_about 0 = .ok (.iload_n 1, 1) := by decide +kernel
theorem dX0_about_1 : decode cX0_about 1 = .ok (.ifCond .lt 11, 3) := by decide +kernel
theorem dX0_about_4 : decode cX0_about 4 = .ok (.iload_n 1, 1) := by decide +kernel
theorem dX0_about_5 : decode cX0_about 5 = .ok (.aload_n 0, 1) := by decide +kernel
theorem dX0_about_6 : decode cX0_about 6 = .ok (.getfield 69, 3) := by decide +kernel
theorem dX0_about_9 : decode cX0_about 9 = .ok (.if_icmp .lt 5, 3) := by decide +kernel
theorem dX0_about_12 : decode cX0_about 12 = .ok (.iconst (-1), 1) := by decide +kernel
theorem dX0_about_13 : decode cX0_about 13 = .ok (.ireturn, 1) := by decide +kernel
theorem dX0_about_14 : decode cX0_about 14 = .ok (.iload_n 2, 1) := by decide +kernel
theorem dX0_about_15 : decode cX0_about 15 = .ok (.tableswitch 57 0 3 #[29, 36, 43, 50], 29) := by decide +kernel
theorem dX0_about_44 : decode cX0_about 44 = .ok (.aload_n 0, 1) := by decide +kernel
theorem dX0_about_45 : decode cX0_about 45 = .ok (.getfield 30, 3) := by decide +kernel
theorem dX0_about_48 : decode cX0_about 48 = .ok (.iload_n 1, 1) := by decide +kernel
theorem dX0_about_49 : decode cX0_about 49 = .ok (.iaload, 1) := by decide +kernel
theorem dX0_about_50 : decode cX0_about 50 = .ok (.ireturn, 1) := by decide +kernel
theorem dX0_about_51 : decode cX0_about 51 = .ok (.aload_n 0, 1) := by decide +kernel
theorem dX0_about_52 : decode cX0_about 52 = .ok (.getfield 33, 3) := by decide +kernel
theorem dX0_about_55 : decode cX0_about 55 = .ok (.iload_n 1, 1) := by decide +kernel
theorem dX0_about_56 : decode cX0_about 56 = .ok (.iaload, 1) := by decide +kernel
theorem dX0_about_57 : decode cX0_about 57 = .ok (.ireturn, 1) := by decide +kernel
theorem dX0_about_58 : decode cX0_about 58 = .ok (.aload_n 0, 1) := by decide +kernel
theorem dX0_about_59 : decode cX0_about 59 = .ok (.getfield 36, 3) := by decide +kernel
theorem dX0_about_62 : decode cX0_about 62 = .ok (.iload_n 1, 1) := by decide +kernel
theorem dX0_about_63 : decode cX0_about 63 = .ok (.iaload, 1) := by decide +kernel
theorem dX0_about_64 : decode cX0_about 64 = .ok (.ireturn, 1) := by decide +kernel
theorem dX0_about_65 : decode cX0_about 65 = .ok (.aload_n 0, 1) := by decide +kernel
theorem dX0_about_66 : decode cX0_about 66 = .ok (.getfield 39, 3) := by decide +kernel
theorem dX0_about_69 : decode cX0_about 69 = .ok (.iload_n 1, 1) := by decide +kernel
theorem dX0_about_70 : decode cX0_about 70 = .ok (.iaload, 1) := by decide +kernel
theorem dX0_about_71 : decode cX0_about 71 = .ok (.ireturn, 1) := by decide +kernel
theorem dX0_about_72 : decode cX0_about 72 = .ok (.iconst (-1), 1) := by decide +kernel
theorem dX0_about_73 : decode cX0_about 73 = .ok (.ireturn, 1) := by decide +kernel
theorem dX0_clear_0 : decode cX0_clear 0 = .ok (.aload_n 0, 1) := by decide +kernel
theorem dX0_clear_1 : decode cX0_clear 1 = .ok (.iconst 0, 1) := by decide +kernel
theorem dX0_clear_2 : decode cX0_clear 2 = .ok (.putfield 69, 3) := by decide +kernel
theorem dX0_clear_5 : decode cX0_clear 5 = .ok (.return_, 1) := by decide +kernel
theorem dX0_isNode_0 : decode cX0_isNode 0 = .ok (.iload_n 1, 1) := by decide +kernel
theorem dX0_isNode_1 : decode cX0_isNode 1 = .ok (.ifCond .lt 15, 3) := by decide +kernel
theorem dX0_isNode_4 : decode cX0_isNode 4 = .ok (.iload_n 1, 1) := by decide +kernel
theorem dX0_isNode_5 : decode cX0_isNode 5 = .ok (.aload_n 0, 1) := by decide +kernel
theorem dX0_isNode_6 : decode cX0_isNode 6 = .ok (.getfield 18, 3) := by decide +kernel
theorem dX0_isNode_9 : decode cX0_isNode 9 = .ok (.if_icmp .ge 7, 3) := by decide +kernel
theorem dX0_isNode_12 : decode cX0_isNode 12 = .ok (.iconst 1, 1) := by decide +kernel
theorem dX0_isNode_13 : decode cX0_isNode 13 = .ok (.goto 4, 3) := by decide +kernel
theorem dX0_isNode_16 : decode cX0_isNode 16 = .ok (.iconst 0, 1) := by decide +kernel
theorem dX0_isNode_17 : decode cX0_isNode 17 = .ok (.ireturn, 1) := by decide +kernel
theorem dX0_isWhat_0 : decode cX0_isWhat 0 = .ok (.iload_n 0, 1) := by decide +kernel
theorem dX0_isWhat_1 : decode cX0_isWhat 1 = .ok (.ifCond .lt 12, 3) := by decide +kernel
theorem dX0_isWhat_4 : decode cX0_isWhat 4 = .ok (.iload_n 0, 1) := by decide +kernel
theorem dX0_isWhat_5 : decode cX0_isWhat 5 = .ok (.iconst 3, 1) := by decide +kernel
theorem dX0_isWhat_6 : decode cX0_isWhat 6 = .ok (.if_icmp .ge 7, 3) := by decide +kernel
theorem dX0_isWhat_9 : decode cX0_isWhat 9 = .ok (.iconst 1, 1) := by decide +kernel
theorem dX0_isWhat_10 : decode cX0_isWhat 10 = .ok (.goto 4, 3) := by decide +kernel
theorem dX0_isWhat_13 : decode cX0_isWhat 13 = .ok (.iconst 0, 1) := by decide +kernel
theorem dX0_isWhat_14 : decode cX0_isWhat 14 = .ok (.ireturn, 1) := by decide +kernel
theorem dX0_isHow_0 : decode cX0_isHow 0 = .ok (.iload_n 0, 1) := by decide +kernel
theorem dX0_isHow_1 : decode cX0_isHow 1 = .ok (.ifCond .lt 12, 3) := by decide +kernel
theorem dX0_isHow_4 : decode cX0_isHow 4 = .ok (.iload_n 0, 1) := by decide +kernel
theorem dX0_isHow_5 : decode cX0_isHow 5 = .ok (.iconst 2, 1) := by decide +kernel
theorem dX0_isHow_6 : decode cX0_isHow 6 = .ok (.if_icmp .gt 7, 3) := by decide +kernel
theorem dX0_isHow_9 : decode cX0_isHow 9 = .ok (.iconst 1, 1) := by decide +kernel
theorem dX0_isHow_10 : decode cX0_isHow 10 = .ok (.goto 4, 3) := by decide +kernel
theorem dX0_isHow_13 : decode cX0_isHow 13 = .ok (.iconst 0, 1) := by decide +kernel
theorem dX0_isHow_14 : decode cX0_isHow 14 = .ok (.ireturn, 1) := by decide +kernel
theorem dX0_isTime_0 : decode cX0_isTime 0 = .ok (.iload_n 0, 1) := by decide +kernel
theorem dX0_isTime_1 : decode cX0_isTime 1 = .ok (.ifCond .lt 13, 3) := by decide +kernel
theorem dX0_isTime_4 : decode cX0_isTime 4 = .ok (.iload_n 0, 1) := by decide +kernel
theorem dX0_isTime_5 : decode cX0_isTime 5 = .ok (.ldc 102, 2) := by decide +kernel
theorem dX0_isTime_7 : decode cX0_isTime 7 = .ok (.if_icmp .gt 7, 3) := by decide +kernel
theorem dX0_isTime_10 : decode cX0_isTime 10 = .ok (.iconst 1, 1) := by decide +kernel
theorem dX0_isTime_11 : decode cX0_isTime 11 = .ok (.goto 4, 3) := by decide +kernel
theorem dX0_isTime_14 : decode cX0_isTime 14 = .ok (.iconst 0, 1) := by decide +kernel
theorem dX0_isTime_15 : decode cX0_isTime 15 = .ok (.ireturn, 1) := by decide +kernel
theorem dX0_canHave_0 : decode cX0_canHave 0 = .ok (.iload_n 0, 1) := by decide +kernel
theorem dX0_canHave_1 : decode cX0_canHave 1 = .ok (.ifCond .ne 8, 3) := by decide +kernel
theorem dX0_canHave_4 : decode cX0_canHave 4 = .ok (.ldc 103, 2) := by decide +kernel
theorem dX0_canHave_6 : decode cX0_canHave 6 = .ok (.goto 5, 3) := by decide +kernel
theorem dX0_canHave_9 : decode cX0_canHave 9 = .ok (.ldc 104, 2) := by decide +kernel
theorem dX0_canHave_11 : decode cX0_canHave 11 = .ok (.istore 4, 2) := by decide +kernel
theorem dX0_canHave_13 : decode cX0_canHave 13 = .ok (.iload_n 1, 1) := by decide +kernel
theorem dX0_canHave_14 : decode cX0_canHave 14 = .ok (.iload 4, 2) := by decide +kernel
theorem dX0_canHave_16 : decode cX0_canHave 16 = .ok (.invokestatic 105, 3) := by decide +kernel
theorem dX0_canHave_19 : decode cX0_canHave 19 = .ok (.ifCond .eq 25, 3) := by decide +kernel
theorem dX0_canHave_22 : decode cX0_canHave 22 = .ok (.iload_n 2, 1) := by decide +kernel
theorem dX0_canHave_23 : decode cX0_canHave 23 = .ok (.iload 4, 2) := by decide +kernel
theorem dX0_canHave_25 : decode cX0_canHave 25 = .ok (.invokestatic 105, 3) := by decide +kernel
theorem dX0_canHave_28 : decode cX0_canHave 28 = .ok (.ifCond .eq 16, 3) := by decide +kernel
theorem dX0_canHave_31 : decode cX0_canHave 31 = .ok (.iload_n 3, 1) := by decide +kernel
theorem dX0_canHave_32 : decode cX0_canHave 32 = .ok (.iload 4, 2) := by decide +kernel
theorem dX0_canHave_34 : decode cX0_canHave 34 = .ok (.invokestatic 105, 3) := by decide +kernel
theorem dX0_canHave_37 : decode cX0_canHave 37 = .ok (.ifCond .eq 7, 3) := by decide +kernel
theorem dX0_canHave_40 : decode cX0_canHave 40 = .ok (.iconst 1, 1) := by decide +kernel
theorem dX0_canHave_41 : decode cX0_canHave 41 = .ok (.goto 4, 3) := by decide +kernel
theorem dX0_canHave_44 : decode cX0_canHave 44 = .ok (.iconst 0, 1) := by decide +kernel
theorem dX0_canHave_45 : decode cX0_canHave 45 = .ok (.ireturn, 1) := by decide +kernel
theorem dX0_isWithin_0 : decode cX0_isWithin 0 = .ok (.iload_n 0, 1) := by decide +kernel
theorem dX0_isWithin_1 : decode cX0_isWithin 1 = .ok (.iload_n 1, 1) := by decide +kernel
theorem dX0_isWithin_2 : decode cX0_isWithin 2 = .ok (.ineg, 1) := by decide +kernel
theorem dX0_isWithin_3 : decode cX0_isWithin 3 = .ok (.if_icmp .lt 12, 3) := by decide +kernel
theorem dX0_isWithin_6 : decode cX0_isWithin 6 = .ok (.iload_n 0, 1) := by decide +kernel
theorem dX0_isWithin_7 : decode cX0_isWithin 7 = .ok (.iload_n 1, 1) := by decide +kernel
theorem dX0_isWithin_8 : decode cX0_isWithin 8 = .ok (.if_icmp .gt 7, 3) := by decide +kernel
theorem dX0_isWithin_11 : decode cX0_isWithin 11 = .ok (.iconst 1, 1) := by decide +kernel
theorem dX0_isWithin_12 : decode cX0_isWithin 12 = .ok (.goto 4, 3) := by decide +kernel
theorem dX0_isWithin_15 : decode cX0_isWithin 15 = .ok (.iconst 0, 1) := by decide +kernel
theorem dX0_isWithin_16 : decode cX0_isWithin 16 = .ok (.ireturn, 1) := by decide +kernel
theorem dX0_textFits_0 : decode cX0_textFits 0 = .ok (.iconst 0, 1) := by decide +kernel
theorem dX0_textFits_1 : decode cX0_textFits 1 = .ok (.istore_n 3, 1) := by decide +kernel
theorem dX0_textFits_2 : decode cX0_textFits 2 = .ok (.iload_n 3, 1) := by decide +kernel
theorem dX0_textFits_3 : decode cX0_textFits 3 = .ok (.iload_n 1, 1) := by decide +kernel
theorem dX0_textFits_4 : decode cX0_textFits 4 = .ok (.if_icmp .ge 48, 3) := by decide +kernel
theorem dX0_textFits_7 : decode cX0_textFits 7 = .ok (.iload_n 3, 1) := by decide +kernel
theorem dX0_textFits_8 : decode cX0_textFits 8 = .ok (.iconst 3, 1) := by decide +kernel
theorem dX0_textFits_9 : decode cX0_textFits 9 = .ok (.imul, 1) := by decide +kernel
theorem dX0_textFits_10 : decode cX0_textFits 10 = .ok (.istore 4, 2) := by decide +kernel
theorem dX0_textFits_12 : decode cX0_textFits 12 = .ok (.iload_n 2, 1) := by decide +kernel
theorem dX0_textFits_13 : decode cX0_textFits 13 = .ok (.aload_n 0, 1) := by decide +kernel
theorem dX0_textFits_14 : decode cX0_textFits 14 = .ok (.getfield 51, 3) := by decide +kernel
theorem dX0_textFits_17 : decode cX0_textFits 17 = .ok (.iload 4, 2) := by decide +kernel
theorem dX0_textFits_19 : decode cX0_textFits 19 = .ok (.iaload, 1) := by decide +kernel
theorem dX0_textFits_20 : decode cX0_textFits 20 = .ok (.aload_n 0, 1) := by decide +kernel
theorem dX0_textFits_21 : decode cX0_textFits 21 = .ok (.getfield 51, 3) := by decide +kernel
theorem dX0_textFits_24 : decode cX0_textFits 24 = .ok (.iload 4, 2) := by decide +kernel
theorem dX0_textFits_26 : decode cX0_textFits 26 = .ok (.iconst 1, 1) := by decide +kernel
theorem dX0_textFits_27 : decode cX0_textFits 27 = .ok (.iadd, 1) := by decide +kernel
theorem dX0_textFits_28 : decode cX0_textFits 28 = .ok (.iaload, 1) := by decide +kernel
theorem dX0_textFits_29 : decode cX0_textFits 29 = .ok (.aload_n 0, 1) := by decide +kernel
theorem dX0_textFits_30 : decode cX0_textFits 30 = .ok (.getfield 51, 3) := by decide +kernel
theorem dX0_textFits_33 : decode cX0_textFits 33 = .ok (.iload 4, 2) := by decide +kernel
theorem dX0_textFits_35 : decode cX0_textFits 35 = .ok (.iconst 2, 1) := by decide +kernel
theorem dX0_textFits_36 : decode cX0_textFits 36 = .ok (.iadd, 1) := by decide +kernel
theorem dX0_textFits_37 : decode cX0_textFits 37 = .ok (.iaload, 1) := by decide +kernel
theorem dX0_textFits_38 : decode cX0_textFits 38 = .ok (.invokestatic 61, 3) := by decide +kernel
theorem dX0_textFits_41 : decode cX0_textFits 41 = .ok (.ifCond .ne 5, 3) := by decide +kernel
theorem dX0_textFits_44 : decode cX0_textFits 44 = .ok (.iconst 0, 1) := by decide +kernel
theorem dX0_textFits_45 : decode cX0_textFits 45 = .ok (.ireturn, 1) := by decide +kernel
theorem dX0_textFits_46 : decode cX0_textFits 46 = .ok (.iinc 3 1, 3) := by decide +kernel
theorem dX0_textFits_49 : decode cX0_textFits 49 = .ok (.goto (-47), 3) := by decide +kernel
theorem dX0_textFits_52 : decode cX0_textFits 52 = .ok (.iconst 1, 1) := by decide +kernel
theorem dX0_textFits_53 : decode cX0_textFits 53 = .ok (.ireturn, 1) := by decide +kernel
theorem dX0_placeOf_0 : decode cX0_placeOf 0 = .ok (.iload_n 0, 1) := by decide +kernel
theorem dX0_placeOf_1 : decode cX0_placeOf 1 = .ok (.iconst 3, 1) := by decide +kernel
theorem dX0_placeOf_2 : decode cX0_placeOf 2 = .ok (.imul, 1) := by decide +kernel
theorem dX0_placeOf_3 : decode cX0_placeOf 3 = .ok (.iload_n 1, 1) := by decide +kernel
theorem dX0_placeOf_4 : decode cX0_placeOf 4 = .ok (.iadd, 1) := by decide +kernel
theorem dX0_placeOf_5 : decode cX0_placeOf 5 = .ok (.iconst 3, 1) := by decide +kernel
theorem dX0_placeOf_6 : decode cX0_placeOf 6 = .ok (.imul, 1) := by decide +kernel
theorem dX0_placeOf_7 : decode cX0_placeOf 7 = .ok (.ireturn, 1) := by decide +kernel
theorem dX0_putThree_0 : decode cX0_putThree 0 = .ok (.aload_n 0, 1) := by decide +kernel
theorem dX0_putThree_1 : decode cX0_putThree 1 = .ok (.iload_n 1, 1) := by decide +kernel
theorem dX0_putThree_2 : decode cX0_putThree 2 = .ok (.iload_n 2, 1) := by decide +kernel
theorem dX0_putThree_3 : decode cX0_putThree 3 = .ok (.iastore, 1) := by decide +kernel
theorem dX0_putThree_4 : decode cX0_putThree 4 = .ok (.aload_n 0, 1) := by decide +kernel
theorem dX0_putThree_5 : decode cX0_putThree 5 = .ok (.iload_n 1, 1) := by decide +kernel
theorem dX0_putThree_6 : decode cX0_putThree 6 = .ok (.iconst 1, 1) := by decide +kernel
theorem dX0_putThree_7 : decode cX0_putThree 7 = .ok (.iadd, 1) := by decide +kernel
theorem dX0_putThree_8 : decode cX0_putThree 8 = .ok (.iload_n 3, 1) := by decide +kernel
theorem dX0_putThree_9 : decode cX0_putThree 9 = .ok (.iastore, 1) := by decide +kernel
theorem dX0_putThree_10 : decode cX0_putThree 10 = .ok (.aload_n 0, 1) := by decide +kernel
theorem dX0_putThree_11 : decode cX0_putThree 11 = .ok (.iload_n 1, 1) := by decide +kernel
theorem dX0_putThree_12 : decode cX0_putThree 12 = .ok (.iconst 2, 1) := by decide +kernel
theorem dX0_putThree_13 : decode cX0_putThree 13 = .ok (.iadd, 1) := by decide +kernel
theorem dX0_putThree_14 : decode cX0_putThree 14 = .ok (.iload 4, 2) := by decide +kernel
theorem dX0_putThree_16 : decode cX0_putThree 16 = .ok (.iastore, 1) := by decide +kernel
theorem dX0_putThree_17 : decode cX0_putThree 17 = .ok (.return_, 1) := by decide +kernel
theorem dX0_keysOfAllTracks_0 : decode cX0_keysOfAllTracks 0 = .ok (.iconst 0, 1) := by decide +kernel
theorem dX0_keysOfAllTracks_1 : decode cX0_keysOfAllTracks 1 = .ok (.istore_n 1, 1) := by decide +kernel
theorem dX0_keysOfAllTracks_2 : decode cX0_keysOfAllTracks 2 = .ok (.iconst 0, 1) := by decide +kernel
theorem dX0_keysOfAllTracks_3 : decode cX0_keysOfAllTracks 3 = .ok (.istore_n 2, 1) := by decide +kernel
theorem dX0_keysOfAllTracks_4 : decode cX0_keysOfAllTracks 4 = .ok (.iload_n 2, 1) := by decide +kernel
theorem dX0_keysOfAllTracks_5 : decode cX0_keysOfAllTracks 5 = .ok (.aload_n 0, 1) := by decide +kernel
theorem dX0_keysOfAllTracks_6 : decode cX0_keysOfAllTracks 6 = .ok (.getfield 69, 3) := by decide +kernel
theorem dX0_keysOfAllTracks_9 : decode cX0_keysOfAllTracks 9 = .ok (.if_icmp .ge 18, 3) := by decide +kernel
theorem dX0_keysOfAllTracks_12 : decode cX0_keysOfAllTracks 12 = .ok (.iload_n 1, 1) := by decide +kernel
theorem dX0_keysOfAllTracks_13 : decode cX0_keysOfAllTracks 13 = .ok (.aload_n 0, 1) := by decide +kernel
theorem dX0_keysOfAllTracks_14 : decode cX0_keysOfAllTracks 14 = .ok (.getfield 39, 3) := by decide +kernel
theorem dX0_keysOfAllTracks_17 : decode cX0_keysOfAllTracks 17 = .ok (.iload_n 2, 1) := by decide +kernel
theorem dX0_keysOfAllTracks_18 : decode cX0_keysOfAllTracks 18 = .ok (.iaload, 1) := by decide +kernel
theorem dX0_keysOfAllTracks_19 : decode cX0_keysOfAllTracks 19 = .ok (.iadd, 1) := by decide +kernel
theorem dX0_keysOfAllTracks_20 : decode cX0_keysOfAllTracks 20 = .ok (.istore_n 1, 1) := by decide +kernel
theorem dX0_keysOfAllTracks_21 : decode cX0_keysOfAllTracks 21 = .ok (.iinc 2 1, 3) := by decide +kernel
theorem dX0_keysOfAllTracks_24 : decode cX0_keysOfAllTracks 24 = .ok (.goto (-20), 3) := by decide +kernel
theorem dX0_keysOfAllTracks_27 : decode cX0_keysOfAllTracks 27 = .ok (.iload_n 1, 1) := by decide +kernel
theorem dX0_keysOfAllTracks_28 : decode cX0_keysOfAllTracks 28 = .ok (.ireturn, 1) := by decide +kernel
theorem dX0_play_0 : decode cX0_play 0 = .ok (.iload_n 1, 1) := by decide +kernel
theorem dX0_play_1 : decode cX0_play 1 = .ok (.bipush 32, 2) := by decide +kernel
theorem dX0_play_3 : decode cX0_play 3 = .ok (.imul, 1) := by decide +kernel
theorem dX0_play_4 : decode cX0_play 4 = .ok (.aload_n 0, 1) := by decide +kernel
theorem dX0_play_5 : decode cX0_play 5 = .ok (.getfield 39, 3) := by decide +kernel
theorem dX0_play_8 : decode cX0_play 8 = .ok (.iload_n 1, 1) := by decide +kernel
theorem dX0_play_9 : decode cX0_play 9 = .ok (.iaload, 1) := by decide +kernel
theorem dX0_play_10 : decode cX0_play 10 = .ok (.iadd, 1) := by decide +kernel
theorem dX0_play_11 : decode cX0_play 11 = .ok (.iconst 1, 1) := by decide +kernel
theorem dX0_play_12 : decode cX0_play 12 = .ok (.isub, 1) := by decide +kernel
theorem dX0_play_13 : decode cX0_play 13 = .ok (.istore_n 2, 1) := by decide +kernel
theorem dX0_play_14 : decode cX0_play 14 = .ok (.aload_n 0, 1) := by decide +kernel
theorem dX0_play_15 : decode cX0_play 15 = .ok (.iload_n 1, 1) := by decide +kernel
theorem dX0_play_16 : decode cX0_play 16 = .ok (.bipush 32, 2) := by decide +kernel
theorem dX0_play_18 : decode cX0_play 18 = .ok (.imul, 1) := by decide +kernel
theorem dX0_play_19 : decode cX0_play 19 = .ok (.iload_n 2, 1) := by decide +kernel
theorem dX0_play_20 : decode cX0_play 20 = .ok (.invokevirtual 108, 3) := by decide +kernel
theorem dX0_play_23 : decode cX0_play 23 = .ok (.istore_n 3, 1) := by decide +kernel
theorem dX0_play_24 : decode cX0_play 24 = .ok (.aload_n 0, 1) := by decide +kernel
theorem dX0_play_25 : decode cX0_play 25 = .ok (.getfield 30, 3) := by decide +kernel
theorem dX0_play_28 : decode cX0_play 28 = .ok (.iload_n 1, 1) := by decide +kernel
theorem dX0_play_29 : decode cX0_play 29 = .ok (.iaload, 1) := by decide +kernel
theorem dX0_play_30 : decode cX0_play 30 = .ok (.aload_n 0, 1) := by decide +kernel
theorem dX0_play_31 : decode cX0_play 31 = .ok (.getfield 33, 3) := by decide +kernel
theorem dX0_play_34 : decode cX0_play 34 = .ok (.iload_n 1, 1) := by decide +kernel
theorem dX0_play_35 : decode cX0_play 35 = .ok (.iaload, 1) := by decide +kernel
theorem dX0_play_36 : decode cX0_play 36 = .ok (.invokestatic 26, 3) := by decide +kernel
theorem dX0_play_39 : decode cX0_play 39 = .ok (.istore 4, 2) := by decide +kernel
theorem dX0_play_41 : decode cX0_play 41 = .ok (.iload_n 3, 1) := by decide +kernel
theorem dX0_play_42 : decode cX0_play 42 = .ok (.iload_n 2, 1) := by decide +kernel
theorem dX0_play_43 : decode cX0_play 43 = .ok (.if_icmp .eq 16, 3) := by decide +kernel
theorem dX0_play_46 : decode cX0_play 46 = .ok (.aload_n 0, 1) := by decide +kernel
theorem dX0_play_47 : decode cX0_play 47 = .ok (.getfield 91, 3) := by decide +kernel
theorem dX0_play_50 : decode cX0_play 50 = .ok (.aload_n 0, 1) := by decide +kernel
theorem dX0_play_51 : decode cX0_play 51 = .ok (.getfield 42, 3) := by decide +kernel
theorem dX0_play_54 : decode cX0_play 54 = .ok (.iload_n 3, 1) := by decide +kernel
theorem dX0_play_55 : decode cX0_play 55 = .ok (.iaload, 1) := by decide +kernel
theorem dX0_play_56 : decode cX0_play 56 = .ok (.if_icmp .ge 7, 3) := by decide +kernel
theorem dX0_play_59 : decode cX0_play 59 = .ok (.iconst 1, 1) := by decide +kernel
theorem dX0_play_60 : decode cX0_play 60 = .ok (.goto 4, 3) := by decide +kernel
theorem dX0_play_63 : decode cX0_play 63 = .ok (.iconst 0, 1) := by decide +kernel
theorem dX0_play_64 : decode cX0_play 64 = .ok (.istore 5, 2) := by decide +kernel
theorem dX0_play_66 : decode cX0_play 66 = .ok (.iconst 0, 1) := by decide +kernel
theorem dX0_play_67 : decode cX0_play 67 = .ok (.istore 6, 2) := by decide +kernel
theorem dX0_play_69 : decode cX0_play 69 = .ok (.iload 6, 2) := by decide +kernel
theorem dX0_play_71 : decode cX0_play 71 = .ok (.iconst 3, 1) := by decide +kernel
theorem dX0_play_72 : decode cX0_play 72 = .ok (.if_icmp .ge 51, 3) := by decide +kernel
theorem dX0_play_75 : decode cX0_play 75 = .ok (.aload_n 0, 1) := by decide +kernel
theorem dX0_play_76 : decode cX0_play 76 = .ok (.getfield 22, 3) := by decide +kernel
theorem dX0_play_79 : decode cX0_play 79 = .ok (.iload 4, 2) := by decide +kernel
theorem dX0_play_81 : decode cX0_play 81 = .ok (.iload 6, 2) := by decide +kernel
theorem dX0_play_83 : decode cX0_play 83 = .ok (.iadd, 1) := by decide +kernel
theorem dX0_play_84 : decode cX0_play 84 = .ok (.iload 5, 2) := by decide +kernel
theorem dX0_play_86 : decode cX0_play 86 = .ok (.ifCond .eq 17, 3) := by decide +kernel
theorem dX0_play_89 : decode cX0_play 89 = .ok (.aload_n 0, 1) := by decide +kernel
theorem dX0_play_90 : decode cX0_play 90 = .ok (.getfield 45, 3) := by decide +kernel
theorem dX0_play_93 : decode cX0_play 93 = .ok (.iload_n 3, 1) := by decide +kernel
theorem dX0_play_94 : decode cX0_play 94 = .ok (.iconst 3, 1) := by decide +kernel
theorem dX0_play_95 : decode cX0_play 95 = .ok (.imul, 1) := by decide +kernel
theorem dX0_play_96 : decode cX0_play 96 = .ok (.iload 6, 2) := by decide +kernel
theorem dX0_play_98 : decode cX0_play 98 = .ok (.iadd, 1) := by decide +kernel
theorem dX0_play_99 : decode cX0_play 99 = .ok (.iaload, 1) := by decide +kernel
theorem dX0_play_100 : decode cX0_play 100 = .ok (.goto 16, 3) := by decide +kernel
theorem dX0_play_103 : decode cX0_play 103 = .ok (.aload_n 0, 1) := by decide +kernel
theorem dX0_play_104 : decode cX0_play 104 = .ok (.aload_n 0, 1) := by decide +kernel
theorem dX0_play_105 : decode cX0_play 105 = .ok (.getfield 36, 3) := by decide +kernel
theorem dX0_play_108 : decode cX0_play 108 = .ok (.iload_n 1, 1) := by decide +kernel
theorem dX0_play_109 : decode cX0_play 109 = .ok (.iaload, 1) := by decide +kernel
theorem dX0_play_110 : decode cX0_play 110 = .ok (.iload_n 3, 1) := by decide +kernel
theorem dX0_play_111 : decode cX0_play 111 = .ok (.iload 6, 2) := by decide +kernel
theorem dX0_play_113 : decode cX0_play 113 = .ok (.invokevirtual 111, 3) := by decide +kernel
theorem dX0_play_116 : decode cX0_play 116 = .ok (.iastore, 1) := by decide +kernel
theorem dX0_play_117 : decode cX0_play 117 = .ok (.iinc 6 1, 3) := by decide +kernel
theorem dX0_play_120 : decode cX0_play 120 = .ok (.goto (-51), 3) := by decide +kernel
theorem dX0_play_123 : decode cX0_play 123 = .ok (.return_, 1) := by decide +kernel
theorem dX0_keyInForce_0 : decode cX0_keyInForce 0 = .ok (.iload_n 1, 1) := by decide +kernel
theorem dX0_keyInForce_1 : decode cX0_keyInForce 1 = .ok (.istore_n 3, 1) := by decide +kernel
theorem dX0_keyInForce_2 : decode cX0_keyInForce 2 = .ok (.iload_n 3, 1) := by decide +kernel
theorem dX0_keyInForce_3 : decode cX0_keyInForce 3 = .ok (.iload_n 2, 1) := by decide +kernel
theorem dX0_keyInForce_4 : decode cX0_keyInForce 4 = .ok (.if_icmp .ge 24, 3) := by decide +kernel
theorem dX0_keyInForce_7 : decode cX0_keyInForce 7 = .ok (.aload_n 0, 1) := by decide +kernel
theorem dX0_keyInForce_8 : decode cX0_keyInForce 8 = .ok (.getfield 42, 3) := by decide +kernel
theorem dX0_keyInForce_11 : decode cX0_keyInForce 11 = .ok (.iload_n 3, 1) := by decide +kernel
theorem dX0_keyInForce_12 : decode cX0_keyInForce 12 = .ok (.iconst 1, 1) := by decide +kernel
theorem dX0_keyInForce_13 : decode cX0_keyInForce 13 = .ok (.iadd, 1) := by decide +kernel
theorem dX0_keyInForce_14 : decode cX0_keyInForce 14 = .ok (.iaload, 1) := by decide +kernel
theorem dX0_keyInForce_15 : decode cX0_keyInForce 15 = .ok (.aload_n 0, 1) := by decide +kernel
theorem dX0_keyInForce_16 : decode cX0_keyInForce 16 = .ok (.getfield 91, 3) := by decide +kernel
theorem dX0_keyInForce_19 : decode cX0_keyInForce 19 = .ok (.if_icmp .gt 9, 3) := by decide +kernel
theorem dX0_keyInForce_22 : decode cX0_keyInForce 22 = .ok (.iinc 3 1, 3) := by decide +kernel
theorem dX0_keyInForce_25 : decode cX0_keyInForce 25 = .ok (.goto (-23), 3) := by decide +kernel
theorem dX0_keyInForce_28 : decode cX0_keyInForce 28 = .ok (.iload_n 3, 1) := by decide +kernel
theorem dX0_keyInForce_29 : decode cX0_keyInForce 29 = .ok (.ireturn, 1) := by decide +kernel
theorem dX0_between_0 : decode cX0_between 0 = .ok (.aload_n 0, 1) := by decide +kernel
theorem dX0_between_1 : decode cX0_between 1 = .ok (.getfield 45, 3) := by decide +kernel
theorem dX0_between_4 : decode cX0_between 4 = .ok (.iload_n 2, 1) := by decide +kernel
theorem dX0_between_5 : decode cX0_between 5 = .ok (.iconst 3, 1) := by decide +kernel
theorem dX0_between_6 : decode cX0_between 6 = .ok (.imul, 1) := by decide +kernel
theorem dX0_between_7 : decode cX0_between 7 = .ok (.iload_n 3, 1) := by decide +kernel
theorem dX0_between_8 : decode cX0_between 8 = .ok (.iadd, 1) := by decide +kernel
theorem dX0_between_9 : decode cX0_between 9 = .ok (.iaload, 1) := by decide +kernel
theorem dX0_between_10 : decode cX0_between 10 = .ok (.i2l, 1) := by decide +kernel
theorem dX0_between_11 : decode cX0_between 11 = .ok (.lstore 4, 2) := by decide +kernel
theorem dX0_between_13 : decode cX0_between 13 = .ok (.aload_n 0, 1) := by decide +kernel
theorem dX0_between_14 : decode cX0_between 14 = .ok (.getfield 45, 3) := by decide +kernel
theorem dX0_between_17 : decode cX0_between 17 = .ok (.iload_n 2, 1) := by decide +kernel
theorem dX0_between_18 : decode cX0_between 18 = .ok (.iconst 1, 1) := by decide +kernel
theorem dX0_between_19 : decode cX0_between 19 = .ok (.iadd, 1) := by decide +kernel
theorem dX0_between_20 : decode cX0_between 20 = .ok (.iconst 3, 1) := by decide +kernel
theorem dX0_between_21 : decode cX0_between 21 = .ok (.imul, 1) := by decide +kernel
theorem dX0_between_22 : decode cX0_between 22 = .ok (.iload_n 3, 1) := by decide +kernel
theorem dX0_between_23 : decode cX0_between 23 = .ok (.iadd, 1) := by decide +kernel
theorem dX0_between_24 : decode cX0_between 24 = .ok (.iaload, 1) := by decide +kernel
theorem dX0_between_25 : decode cX0_between 25 = .ok (.i2l, 1) := by decide +kernel
theorem dX0_between_26 : decode cX0_between 26 = .ok (.lload 4, 2) := by decide +kernel
theorem dX0_between_28 : decode cX0_between 28 = .ok (.lsub, 1) := by decide +kernel
theorem dX0_between_29 : decode cX0_between 29 = .ok (.lstore 6, 2) := by decide +kernel
theorem dX0_between_31 : decode cX0_between 31 = .ok (.aload_n 0, 1) := by decide +kernel
theorem dX0_between_32 : decode cX0_between 32 = .ok (.getfield 91, 3) := by decide +kernel
theorem dX0_between_35 : decode cX0_between 35 = .ok (.aload_n 0, 1) := by decide +kernel
theorem dX0_between_36 : decode cX0_between 36 = .ok (.getfield 42, 3) := by decide +kernel
theorem dX0_between_39 : decode cX0_between 39 = .ok (.iload_n 2, 1) := by decide +kernel
theorem dX0_between_40 : decode cX0_between 40 = .ok (.iaload, 1) := by decide +kernel
theorem dX0_between_41 : decode cX0_between 41 = .ok (.isub, 1) := by decide +kernel
theorem dX0_between_42 : decode cX0_between 42 = .ok (.i2l, 1) := by decide +kernel
theorem dX0_between_43 : decode cX0_between 43 = .ok (.lstore 8, 2) := by decide +kernel
theorem dX0_between_45 : decode cX0_between 45 = .ok (.aload_n 0, 1) := by decide +kernel
theorem dX0_between_46 : decode cX0_between 46 = .ok (.getfield 42, 3) := by decide +kernel
theorem dX0_between_49 : decode cX0_between 49 = .ok (.iload_n 2, 1) := by decide +kernel
theorem dX0_between_50 : decode cX0_between 50 = .ok (.iconst 1, 1) := by decide +kernel
theorem dX0_between_51 : decode cX0_between 51 = .ok (.iadd, 1) := by decide +kernel
theorem dX0_between_52 : decode cX0_between 52 = .ok (.iaload, 1) := by decide +kernel
theorem dX0_between_53 : decode cX0_between 53 = .ok (.aload_n 0, 1) := by decide +kernel
theorem dX0_between_54 : decode cX0_between 54 = .ok (.getfield 42, 3) := by decide +kernel
theorem dX0_between_57 : decode cX0_between 57 = .ok (.iload_n 2, 1) := by decide +kernel
theorem dX0_between_58 : decode cX0_between 58 = .ok (.iaload, 1) := by decide +kernel
theorem dX0_between_59 : decode cX0_between 59 = .ok (.isub, 1) := by decide +kernel
theorem dX0_between_60 : decode cX0_between 60 = .ok (.i2l, 1) := by decide +kernel
theorem dX0_between_61 : decode cX0_between 61 = .ok (.lstore 10, 2) := by decide +kernel
theorem dX0_between_63 : decode cX0_between 63 = .ok (.iload_n 1, 1) := by decide +kernel
theorem dX0_between_64 : decode cX0_between 64 = .ok (.iconst 1, 1) := by decide +kernel
theorem dX0_between_65 : decode cX0_between 65 = .ok (.if_icmp .ne 18, 3) := by decide +kernel
theorem dX0_between_68 : decode cX0_between 68 = .ok (.lload 4, 2) := by decide +kernel
theorem dX0_between_70 : decode cX0_between 70 = .ok (.lload 6, 2) := by decide +kernel
theorem dX0_between_72 : decode cX0_between 72 = .ok (.lload 8, 2) := by decide +kernel
theorem dX0_between_74 : decode cX0_between 74 = .ok (.lmul, 1) := by decide +kernel
theorem dX0_between_75 : decode cX0_between 75 = .ok (.lload 10, 2) := by decide +kernel
theorem dX0_between_77 : decode cX0_between 77 = .ok (.invokestatic 115, 3) := by decide +kernel
theorem dX0_between_80 : decode cX0_between 80 = .ok (.ladd, 1) := by decide +kernel
theorem dX0_between_81 : decode cX0_between 81 = .ok (.l2i, 1) := by decide +kernel
theorem dX0_between_82 : decode cX0_between 82 = .ok (.ireturn, 1) := by decide +kernel
theorem dX0_between_83 : decode cX0_between 83 = .ok (.iload_n 1, 1) := by decide +kernel
theorem dX0_between_84 : decode cX0_between 84 = .ok (.iconst 2, 1) := by decide +kernel
theorem dX0_between_85 : decode cX0_between 85 = .ok (.if_icmp .ne 27, 3) := by decide +kernel
theorem dX0_between_88 : decode cX0_between 88 = .ok (.lload 4, 2) := by decide +kernel
theorem dX0_between_90 : decode cX0_between 90 = .ok (.lload 6, 2) := by decide +kernel
theorem dX0_between_92 : decode cX0_between 92 = .ok (.lload 8, 2) := by decide +kernel
theorem dX0_between_94 : decode cX0_between 94 = .ok (.ldc2_w 119, 3) := by decide +kernel
theorem dX0_between_97 : decode cX0_between 97 = .ok (.lmul, 1) := by decide +kernel
theorem dX0_between_98 : decode cX0_between 98 = .ok (.lload 10, 2) := by decide +kernel
theorem dX0_between_100 : decode cX0_between 100 = .ok (.invokestatic 115, 3) := by decide +kernel
theorem dX0_between_103 : decode cX0_between 103 = .ok (.invokestatic 121, 3) := by decide +kernel
theorem dX0_between_106 : decode cX0_between 106 = .ok (.invokestatic 125, 3) := by decide +kernel
theorem dX0_between_109 : decode cX0_between 109 = .ok (.ladd, 1) := by decide +kernel
theorem dX0_between_110 : decode cX0_between 110 = .ok (.l2i, 1) := by decide +kernel
theorem dX0_between_111 : decode cX0_between 111 = .ok (.ireturn, 1) := by decide +kernel
theorem dX0_between_112 : decode cX0_between 112 = .ok (.lload 4, 2) := by decide +kernel
theorem dX0_between_114 : decode cX0_between 114 = .ok (.l2i, 1) := by decide +kernel
theorem dX0_between_115 : decode cX0_between 115 = .ok (.ireturn, 1) := by decide +kernel
theorem dX0_smoothed_0 : decode cX0_smoothed 0 = .ok (.lload_n 0, 1) := by decide +kernel
theorem dX0_smoothed_1 : decode cX0_smoothed 1 = .ok (.lload_n 0, 1) := by decide +kernel
theorem dX0_smoothed_2 : decode cX0_smoothed 2 = .ok (.invokestatic 125, 3) := by decide +kernel
theorem dX0_smoothed_5 : decode cX0_smoothed 5 = .ok (.ldc2_w 128, 3) := by decide +kernel
theorem dX0_smoothed_8 : decode cX0_smoothed 8 = .ok (.ldc2_w 130, 3) := by decide +kernel
theorem dX0_smoothed_11 : decode cX0_smoothed 11 = .ok (.lload_n 0, 1) := by decide +kernel
theorem dX0_smoothed_12 : decode cX0_smoothed 12 = .ok (.lmul, 1) := by decide +kernel
theorem dX0_smoothed_13 : decode cX0_smoothed 13 = .ok (.lsub, 1) := by decide +kernel
theorem dX0_smoothed_14 : decode cX0_smoothed 14 = .ok (.invokestatic 125, 3) := by decide +kernel
theorem dX0_smoothed_17 : decode cX0_smoothed 17 = .ok (.lreturn, 1) := by decide +kernel
theorem dX0_mul_0 : decode cX0_mul 0 = .ok (.lload_n 0, 1) := by decide +kernel
theorem dX0_mul_1 : decode cX0_mul 1 = .ok (.lload_n 2, 1) := by decide +kernel
theorem dX0_mul_2 : decode cX0_mul 2 = .ok (.lmul, 1) := by decide +kernel
theorem dX0_mul_3 : decode cX0_mul 3 = .ok (.ldc2_w 119, 3) := by decide +kernel
theorem dX0_mul_6 : decode cX0_mul 6 = .ok (.invokestatic 115, 3) := by decide +kernel
theorem dX0_mul_9 : decode cX0_mul 9 = .ok (.lreturn, 1) := by decide +kernel
theorem dX0_div_0 : decode cX0_div 0 = .ok (.lload_n 2, 1) := by decide +kernel
theorem dX0_div_1 : decode cX0_div 1 = .ok (.lconst 0, 1) := by decide +kernel
theorem dX0_div_2 : decode cX0_div 2 = .ok (.lcmp, 1) := by decide +kernel
theorem dX0_div_3 : decode cX0_div 3 = .ok (.ifCond .ne 7, 3) := by decide +kernel
theorem dX0_div_6 : decode cX0_div 6 = .ok (.lconst 0, 1) := by decide +kernel
theorem dX0_div_7 : decode cX0_div 7 = .ok (.goto 8, 3) := by decide +kernel
theorem dX0_div_10 : decode cX0_div 10 = .ok (.lload_n 0, 1) := by decide +kernel
theorem dX0_div_11 : decode cX0_div 11 = .ok (.lload_n 2, 1) := by decide +kernel
theorem dX0_div_12 : decode cX0_div 12 = .ok (.invokestatic 132, 3) := by decide +kernel
theorem dX0_div_15 : decode cX0_div 15 = .ok (.lreturn, 1) := by decide +kernel
theorem dJ9_floorDiv_f86c9_0 : decode cJ9_floorDiv_f86c9 0 = .ok (.lload_n 0, 1) := by decide +kernel
theorem dJ9_floorDiv_f86c9_1 : decode cJ9_floorDiv_f86c9 1 = .ok (.lload_n 2, 1) := by decide +kernel
theorem dJ9_floorDiv_f86c9_2 : decode cJ9_floorDiv_f86c9 2 = .ok (.ldiv, 1) := by decide +kernel
theorem dJ9_floorDiv_f86c9_3 : decode cJ9_floorDiv_f86c9 3 = .ok (.lstore 4, 2) := by decide +kernel
theorem dJ9_floorDiv_f86c9_5 : decode cJ9_floorDiv_f86c9 5 = .ok (.lload_n 0, 1) := by decide +kernel
theorem dJ9_floorDiv_f86c9_6 : decode cJ9_floorDiv_f86c9 6 = .ok (.lload_n 2, 1) := by decide +kernel
theorem dJ9_floorDiv_f86c9_7 : decode cJ9_floorDiv_f86c9 7 = .ok (.lxor, 1) := by decide +kernel
theorem dJ9_floorDiv_f86c9_8 : decode cJ9_floorDiv_f86c9 8 = .ok (.lconst 0, 1) := by decide +kernel
theorem dJ9_floorDiv_f86c9_9 : decode cJ9_floorDiv_f86c9 9 = .ok (.lcmp, 1) := by decide +kernel
theorem dJ9_floorDiv_f86c9_10 : decode cJ9_floorDiv_f86c9 10 = .ok (.ifCond .ge 17, 3) := by decide +kernel
theorem dJ9_floorDiv_f86c9_13 : decode cJ9_floorDiv_f86c9 13 = .ok (.lload 4, 2) := by decide +kernel
theorem dJ9_floorDiv_f86c9_15 : decode cJ9_floorDiv_f86c9 15 = .ok (.lload_n 2, 1) := by decide +kernel
theorem dJ9_floorDiv_f86c9_16 : decode cJ9_floorDiv_f86c9 16 = .ok (.lmul, 1) := by decide +kernel
theorem dJ9_floorDiv_f86c9_17 : decode cJ9_floorDiv_f86c9 17 = .ok (.lload_n 0, 1) := by decide +kernel
theorem dJ9_floorDiv_f86c9_18 : decode cJ9_floorDiv_f86c9 18 = .ok (.lcmp, 1) := by decide +kernel
theorem dJ9_floorDiv_f86c9_19 : decode cJ9_floorDiv_f86c9 19 = .ok (.ifCond .eq 8, 3) := by decide +kernel
theorem dJ9_floorDiv_f86c9_22 : decode cJ9_floorDiv_f86c9 22 = .ok (.lload 4, 2) := by decide +kernel
theorem dJ9_floorDiv_f86c9_24 : decode cJ9_floorDiv_f86c9 24 = .ok (.lconst 1, 1) := by decide +kernel
theorem dJ9_floorDiv_f86c9_25 : decode cJ9_floorDiv_f86c9 25 = .ok (.lsub, 1) := by decide +kernel
theorem dJ9_floorDiv_f86c9_26 : decode cJ9_floorDiv_f86c9 26 = .ok (.lreturn, 1) := by decide +kernel
theorem dJ9_floorDiv_f86c9_27 : decode cJ9_floorDiv_f86c9 27 = .ok (.lload 4, 2) := by decide +kernel
theorem dJ9_floorDiv_f86c9_29 : decode cJ9_floorDiv_f86c9 29 = .ok (.lreturn, 1) := by decide +kernel
theorem dJ9_max_7cf53_0 : decode cJ9_max_7cf53 0 = .ok (.iload_n 0, 1) := by decide +kernel
theorem dJ9_max_7cf53_1 : decode cJ9_max_7cf53 1 = .ok (.iload_n 1, 1) := by decide +kernel
theorem dJ9_max_7cf53_2 : decode cJ9_max_7cf53 2 = .ok (.if_icmp .lt 7, 3) := by decide +kernel
theorem dJ9_max_7cf53_5 : decode cJ9_max_7cf53 5 = .ok (.iload_n 0, 1) := by decide +kernel
theorem dJ9_max_7cf53_6 : decode cJ9_max_7cf53 6 = .ok (.goto 4, 3) := by decide +kernel
theorem dJ9_max_7cf53_9 : decode cJ9_max_7cf53 9 = .ok (.iload_n 1, 1) := by decide +kernel
theorem dJ9_max_7cf53_10 : decode cJ9_max_7cf53 10 = .ok (.ireturn, 1) := by decide +kernel
theorem dJ9_min_7cf53_0 : decode cJ9_min_7cf53 0 = .ok (.iload_n 0, 1) := by decide +kernel
theorem dJ9_min_7cf53_1 : decode cJ9_min_7cf53 1 = .ok (.iload_n 1, 1) := by decide +kernel
theorem dJ9_min_7cf53_2 : decode cJ9_min_7cf53 2 = .ok (.if_icmp .gt 7, 3) := by decide +kernel
theorem dJ9_min_7cf53_5 : decode cJ9_min_7cf53 5 = .ok (.iload_n 0, 1) := by decide +kernel
theorem dJ9_min_7cf53_6 : decode cJ9_min_7cf53 6 = .ok (.goto 4, 3) := by decide +kernel
theorem dJ9_min_7cf53_9 : decode cJ9_min_7cf53 9 = .ok (.iload_n 1, 1) := by decide +kernel
theorem dJ9_min_7cf53_10 : decode cJ9_min_7cf53 10 = .ok (.ireturn, 1) := by decide +kernel
end
section
theorem dX1_init_0 : decode cX1_init 0 = .ok (.aload_n 0, 1) := by decide +kernel
theorem dX1_init_1 : decode cX1_init 1 = .ok (.invokespecial 1, 3) := by decide +kernel
theorem dX1_init_4 : decode cX1_init 4 = .ok (.aload_n 0, 1) := by decide +kernel
theorem dX1_init_5 : decode cX1_init 5 = .ok (.sipush 432, 3) := by decide +kernel
theorem dX1_init_8 : decode cX1_init 8 = .ok (.newarray .int, 2) := by decide +kernel
theorem dX1_init_10 : decode cX1_init 10 = .ok (.putfield 7, 3) := by decide +kernel
theorem dX1_init_13 : decode cX1_init 13 = .ok (.aload_n 0, 1) := by decide +kernel
theorem dX1_init_14 : decode cX1_init 14 = .ok (.bipush 32, 2) := by decide +kernel
theorem dX1_init_16 : decode cX1_init 16 = .ok (.newarray .int, 2) := by decide +kernel
theorem dX1_init_18 : decode cX1_init 18 = .ok (.putfield 13, 3) := by decide +kernel
theorem dX1_init_21 : decode cX1_init 21 = .ok (.aload_n 0, 1) := by decide +kernel
theorem dX1_init_22 : decode cX1_init 22 = .ok (.bipush 96, 2) := by decide +kernel
theorem dX1_init_24 : decode cX1_init 24 = .ok (.newarray .int, 2) := by decide +kernel
theorem dX1_init_26 : decode cX1_init 26 = .ok (.putfield 16, 3) := by decide +kernel
theorem dX1_init_29 : decode cX1_init 29 = .ok (.aload_n 0, 1) := by decide +kernel
theorem dX1_init_30 : decode cX1_init 30 = .ok (.bipush 32, 2) := by decide +kernel
theorem dX1_init_32 : decode cX1_init 32 = .ok (.newarray .int, 2) := by decide +kernel
theorem dX1_init_34 : decode cX1_init 34 = .ok (.putfield 19, 3) := by decide +kernel
theorem dX1_init_37 : decode cX1_init 37 = .ok (.aload_n 0, 1) := by decide +kernel
theorem dX1_init_38 : decode cX1_init 38 = .ok (.bipush 32, 2) := by decide +kernel
theorem dX1_init_40 : decode cX1_init 40 = .ok (.newarray .int, 2) := by decide +kernel
theorem dX1_init_42 : decode cX1_init 42 = .ok (.putfield 22, 3) := by decide +kernel
theorem dX1_init_45 : decode cX1_init 45 = .ok (.aload_n 0, 1) := by decide +kernel
theorem dX1_init_46 : decode cX1_init 46 = .ok (.bipush 32, 2) := by decide +kernel
theorem dX1_init_48 : decode cX1_init 48 = .ok (.newarray .int, 2) := by decide +kernel
theorem dX1_init_50 : decode cX1_init 50 = .ok (.putfield 25, 3) := by decide +kernel
theorem dX1_init_53 : decode cX1_init 53 = .ok (.aload_n 0, 1) := by decide +kernel
theorem dX1_init_54 : decode cX1_init 54 = .ok (.bipush 32, 2) := by decide +kernel
theorem dX1_init_56 : decode cX1_init 56 = .ok (.newarray .int, 2) := by decide +kernel
theorem dX1_init_58 : decode cX1_init 58 = .ok (.putfield 28, 3) := by decide +kernel
theorem dX1_init_61 : decode cX1_init 61 = .ok (.aload_n 0, 1) := by decide +kernel
theorem dX1_init_62 : decode cX1_init 62 = .ok (.sipush 1024, 3) := by decide +kernel
theorem dX1_init_65 : decode cX1_init 65 = .ok (.newarray .int, 2) := by decide +kernel
theorem dX1_init_67 : decode cX1_init 67 = .ok (.putfield 31, 3) := by decide +kernel
theorem dX1_init_70 : decode cX1_init 70 = .ok (.aload_n 0, 1) := by decide +kernel
theorem dX1_init_71 : decode cX1_init 71 = .ok (.sipush 3072, 3) := by decide +kernel
theorem dX1_init_74 : decode cX1_init 74 = .ok (.newarray .int, 2) := by decide +kernel
theorem dX1_init_76 : decode cX1_init 76 = .ok (.putfield 34, 3) := by decide +kernel
theorem dX1_init_79 : decode cX1_init 79 = .ok (.aload_n 0, 1) := by decide +kernel
theorem dX1_init_80 : decode cX1_init 80 = .ok (.iload_n 1, 1) := by decide +kernel
theorem dX1_init_81 : decode cX1_init 81 = .ok (.iconst 1, 1) := by decide +kernel
theorem dX1_init_82 : decode cX1_init 82 = .ok (.if_icmp .ge 7, 3) := by decide +kernel
theorem dX1_init_85 : decode cX1_init 85 = .ok (.iconst 1, 1) := by decide +kernel
theorem dX1_init_86 : decode cX1_init 86 = .ok (.goto 15, 3) := by decide +kernel
theorem dX1_init_89 : decode cX1_init 89 = .ok (.iload_n 1, 1) := by decide +kernel
theorem dX1_init_90 : decode cX1_init 90 = .ok (.bipush 48, 2) := by decide +kernel
theorem dX1_init_92 : decode cX1_init 92 = .ok (.if_icmp .le 8, 3) := by decide +kernel
theorem dX1_init_95 : decode cX1_init 95 = .ok (.bipush 48, 2) := by decide +kernel
theorem dX1_init_97 : decode cX1_init 97 = .ok (.goto 4, 3) := by decide +kernel
theorem dX1_init_100 : decode cX1_init 100 = .ok (.iload_n 1, 1) := by decide +kernel
theorem dX1_init_101 : decode cX1_init 101 = .ok (.putfield 37, 3) := by decide +kernel
theorem dX1_init_104 : decode cX1_init 104 = .ok (.iconst 0, 1) := by decide +kernel
theorem dX1_init_105 : decode cX1_init 105 = .ok (.istore_n 2, 1) := by decide +kernel
theorem dX1_init_106 : decode cX1_init 106 = .ok (.iload_n 2, 1) := by decide +kernel
theorem dX1_init_107 : decode cX1_init 107 = .ok (.aload_n 0, 1) := by decide +kernel
theorem dX1_init_108 : decode cX1_init 108 = .ok (.getfield 37, 3) := by decide +kernel
theorem dX1_init_111 : decode cX1_init 111 = .ok (.if_icmp .ge 37, 3) := by decide +kernel
theorem dX1_init_114 : decode cX1_init 114 = .ok (.bipush 6, 2) := by decide +kernel
theorem dX1_init_116 : decode cX1_init 116 = .ok (.istore_n 3, 1) := by decide +kernel
theorem dX1_init_117 : decode cX1_init 117 = .ok (.iload_n 3, 1) := by decide +kernel
theorem dX1_init_118 : decode cX1_init 118 = .ok (.bipush 9, 2) := by decide +kernel
theorem dX1_init_120 : decode cX1_init 120 = .ok (.if_icmp .ge 22, 3) := by decide +kernel
theorem dX1_init_123 : decode cX1_init 123 = .ok (.aload_n 0, 1) := by decide +kernel
theorem dX1_init_124 : decode cX1_init 124 = .ok (.getfield 7, 3) := by decide +kernel
theorem dX1_init_127 : decode cX1_init 127 = .ok (.bipush 9, 2) := by decide +kernel
theorem dX1_init_129 : decode cX1_init 129 = .ok (.iload_n 2, 1) := by decide +kernel
theorem dX1_init_130 : decode cX1_init 130 = .ok (.imul, 1) := by decide +kernel
theorem dX1_init_131 : decode cX1_init 131 = .ok (.iload_n 3, 1) := by decide +kernel
theorem dX1_init_132 : decode cX1_init 132 = .ok (.iadd, 1) := by decide +kernel
theorem dX1_init_133 : decode cX1_init 133 = .ok (.ldc 41, 2) := by decide +kernel
theorem dX1_init_135 : decode cX1_init 135 = .ok (.iastore, 1) := by decide +kernel
theorem dX1_init_136 : decode cX1_init 136 = .ok (.iinc 3 1, 3) := by decide +kernel
theorem dX1_init_139 : decode cX1_init 139 = .ok (.goto (-22), 3) := by decide +kernel
theorem dX1_init_142 : decode cX1_init 142 = .ok (.iinc 2 1, 3) := by decide +kernel
theorem dX1_init_145 : decode cX1_init 145 = .ok (.goto (-39), 3) := by decide +kernel
theorem dX1_init_148 : decode cX1_init 148 = .ok (.return_, 1) := by decide +kernel
theorem dX1_key_0 : decode cX1_key 0 = .ok (.aload_n 0, 1) := by decide +kernel
theorem dX1_key_1 : decode cX1_key 1 = .ok (.iconst 0, 1) := by decide +kernel
theorem dX1_key_2 : decode cX1_key 2 = .ok (.putfield 42, 3) := by decide +kernel
theorem dX1_key_5 : decode cX1_key 5 = .ok (.iload_n 1, 1) := by decide +kernel
theorem dX1_key_6 : decode cX1_key 6 = .ok (.ifCond .lt 35, 3) := by decide +kernel
theorem dX1_key_9 : decode cX1_key 9 = .ok (.iload_n 1, 1) := by decide +kernel
theorem dX1_key_10 : decode cX1_key 10 = .ok (.ldc 47, 2) := by decide +kernel
theorem dX1_key_12 : decode cX1_key 12 = .ok (.if_icmp .gt 29, 3) := by decide +kernel
theorem dX1_key_15 : decode cX1_key 15 = .ok (.aload_n 0, 1) := by decide +kernel
theorem dX1_key_16 : decode cX1_key 16 = .ok (.getfield 48, 3) := by decide +kernel
theorem dX1_key_19 : decode cX1_key 19 = .ok (.ifCond .eq 18, 3) := by decide +kernel
theorem dX1_key_22 : decode cX1_key 22 = .ok (.iload_n 1, 1) := by decide +kernel
theorem dX1_key_23 : decode cX1_key 23 = .ok (.aload_n 0, 1) := by decide +kernel
theorem dX1_key_24 : decode cX1_key 24 = .ok (.getfield 13, 3) := by decide +kernel
theorem dX1_key_27 : decode cX1_key 27 = .ok (.aload_n 0, 1) := by decide +kernel
theorem dX1_key_28 : decode cX1_key 28 = .ok (.getfield 48, 3) := by decide +kernel
theorem dX1_key_31 : decode cX1_key 31 = .ok (.iconst 1, 1) := by decide +kernel
theorem dX1_key_32 : decode cX1_key 32 = .ok (.isub, 1) := by decide +kernel
theorem dX1_key_33 : decode cX1_key 33 = .ok (.iaload, 1) := by decide +kernel
theorem dX1_key_34 : decode cX1_key 34 = .ok (.if_icmp .le 7, 3) := by decide +kernel
theorem dX1_key_37 : decode cX1_key 37 = .ok (.iconst 1, 1) := by decide +kernel
theorem dX1_key_38 : decode cX1_key 38 = .ok (.goto 4, 3) := by decide +kernel
theorem dX1_key_41 : decode cX1_key 41 = .ok (.iconst 0, 1) := by decide +kernel
theorem dX1_key_42 : decode cX1_key 42 = .ok (.istore 5, 2) := by decide +kernel
theorem dX1_key_44 : decode cX1_key 44 = .ok (.aload_n 0, 1) := by decide +kernel
theorem dX1_key_45 : decode cX1_key 45 = .ok (.getfield 48, 3) := by decide +kernel
theorem dX1_key_48 : decode cX1_key 48 = .ok (.bipush 32, 2) := by decide +kernel
theorem dX1_key_50 : decode cX1_key 50 = .ok (.if_icmp .eq 33, 3) := by decide +kernel
theorem dX1_key_53 : decode cX1_key 53 = .ok (.iload 5, 2) := by decide +kernel
theorem dX1_key_55 : decode cX1_key 55 = .ok (.ifCond .eq 28, 3) := by decide +kernel
theorem dX1_key_58 : decode cX1_key 58 = .ok (.iconst 0, 1) := by decide +kernel
theorem dX1_key_59 : decode cX1_key 59 = .ok (.iload_n 2, 1) := by decide +kernel
theorem dX1_key_60 : decode cX1_key 60 = .ok (.invokestatic 51, 3) := by decide +kernel
theorem dX1_key_63 : decode cX1_key 63 = .ok (.ifCond .eq 20, 3) := by decide +kernel
theorem dX1_key_66 : decode cX1_key 66 = .ok (.iconst 0, 1) := by decide +kernel
theorem dX1_key_67 : decode cX1_key 67 = .ok (.iload_n 3, 1) := by decide +kernel
theorem dX1_key_68 : decode cX1_key 68 = .ok (.invokestatic 51, 3) := by decide +kernel
theorem dX1_key_71 : decode cX1_key 71 = .ok (.ifCond .eq 12, 3) := by decide +kernel
theorem dX1_key_74 : decode cX1_key 74 = .ok (.iconst 0, 1) := by decide +kernel
theorem dX1_key_75 : decode cX1_key 75 = .ok (.iload 4, 2) := by decide +kernel
theorem dX1_key_77 : decode cX1_key 77 = .ok (.invokestatic 51, 3) := by decide +kernel
theorem dX1_key_80 : decode cX1_key 80 = .ok (.ifCond .ne 5, 3) := by decide +kernel
theorem dX1_key_83 : decode cX1_key 83 = .ok (.iconst (-1), 1) := by decide +kernel
theorem dX1_key_84 : decode cX1_key 84 = .ok (.ireturn, 1) := by decide +kernel
theorem dX1_key_85 : decode cX1_key 85 = .ok (.aload_n 0, 1) := by decide +kernel
theorem dX1_key_86 : decode cX1_key 86 = .ok (.getfield 13, 3) := by decide +kernel
theorem dX1_key_89 : decode cX1_key 89 = .ok (.aload_n 0, 1) := by decide +kernel
theorem dX1_key_90 : decode cX1_key 90 = .ok (.getfield 48, 3) := by decide +kernel
theorem dX1_key_93 : decode cX1_key 93 = .ok (.iload_n 1, 1) := by decide +kernel
theorem dX1_key_94 : decode cX1_key 94 = .ok (.iastore, 1) := by decide +kernel
theorem dX1_key_95 : decode cX1_key 95 = .ok (.aload_n 0, 1) := by decide +kernel
theorem dX1_key_96 : decode cX1_key 96 = .ok (.getfield 16, 3) := by decide +kernel
theorem dX1_key_99 : decode cX1_key 99 = .ok (.iconst 3, 1) := by decide +kernel
theorem dX1_key_100 : decode cX1_key 100 = .ok (.aload_n 0, 1) := by decide +kernel
theorem dX1_key_101 : decode cX1_key 101 = .ok (.getfield 48, 3) := by decide +kernel
theorem dX1_key_104 : decode cX1_key 104 = .ok (.imul, 1) := by decide +kernel
theorem dX1_key_105 : decode cX1_key 105 = .ok (.iload_n 2, 1) := by decide +kernel
theorem dX1_key_106 : decode cX1_key 106 = .ok (.iastore, 1) := by decide +kernel
theorem dX1_key_107 : decode cX1_key 107 = .ok (.aload_n 0, 1) := by decide +kernel
theorem dX1_key_108 : decode cX1_key 108 = .ok (.getfield 16, 3) := by decide +kernel
theorem dX1_key_111 : decode cX1_key 111 = .ok (.iconst 3, 1) := by decide +kernel
theorem dX1_key_112 : decode cX1_key 112 = .ok (.aload_n 0, 1) := by decide +kernel
theorem dX1_key_113 : decode cX1_key 113 = .ok (.getfield 48, 3) := by decide +kernel
theorem dX1_key_116 : decode cX1_key 116 = .ok (.imul, 1) := by decide +kernel
theorem dX1_key_117 : decode cX1_key 117 = .ok (.iconst 1, 1) := by decide +kernel
theorem dX1_key_118 : decode cX1_key 118 = .ok (.iadd, 1) := by decide +kernel
theorem dX1_key_119 : decode cX1_key 119 = .ok (.iload_n 3, 1) := by decide +kernel
theorem dX1_key_120 : decode cX1_key 120 = .ok (.iastore, 1) := by decide +kernel
theorem dX1_key_121 : decode cX1_key 121 = .ok (.aload_n 0, 1) := by decide +kernel
theorem dX1_key_122 : decode cX1_key 122 = .ok (.getfield 16, 3) := by decide +kernel
theorem dX1_key_125 : decode cX1_key 125 = .ok (.iconst 3, 1) := by decide +kernel
theorem dX1_key_126 : decode cX1_key 126 = .ok (.aload_n 0, 1) := by decide +kernel
theorem dX1_key_127 : decode cX1_key 127 = .ok (.getfield 48, 3) := by decide +kernel
theorem dX1_key_130 : decode cX1_key 130 = .ok (.imul, 1) := by decide +kernel
theorem dX1_key_131 : decode cX1_key 131 = .ok (.iconst 2, 1) := by decide +kernel
theorem dX1_key_132 : decode cX1_key 132 = .ok (.iadd, 1) := by decide +kernel
theorem dX1_key_133 : decode cX1_key 133 = .ok (.iload 4, 2) := by decide +kernel
theorem dX1_key_135 : decode cX1_key 135 = .ok (.iastore, 1) := by decide +kernel
theorem dX1_key_136 : decode cX1_key 136 = .ok (.aload_n 0, 1) := by decide +kernel
theorem dX1_key_137 : decode cX1_key 137 = .ok (.dup, 1) := by decide +kernel
theorem dX1_key_138 : decode cX1_key 138 = .ok (.getfield 48, 3) := by decide +kernel
theorem dX1_key_141 : decode cX1_key 141 = .ok (.iconst 1, 1) := by decide +kernel
theorem dX1_key_142 : decode cX1_key 142 = .ok (.iadd, 1) := by decide +kernel
theorem dX1_key_143 : decode cX1_key 143 = .ok (.putfield 48, 3) := by decide +kernel
theorem dX1_key_146 : decode cX1_key 146 = .ok (.aload_n 0, 1) := by decide +kernel
theorem dX1_key_147 : decode cX1_key 147 = .ok (.getfield 48, 3) := by decide +kernel
theorem dX1_key_150 : decode cX1_key 150 = .ok (.ireturn, 1) := by decide +kernel
theorem dX1_fits_0 : decode cX1_fits 0 = .ok (.iload_n 0, 1) := by decide +kernel
theorem dX1_fits_1 : decode cX1_fits 1 = .ok (.ifCond .ne 8, 3) := by decide +kernel
theorem dX1_fits_4 : decode cX1_fits 4 = .ok (.ldc 45, 2) := by decide +kernel
theorem dX1_fits_6 : decode cX1_fits 6 = .ok (.goto 5, 3) := by decide +kernel
theorem dX1_fits_9 : decode cX1_fits 9 = .ok (.ldc 46, 2) := by decide +kernel
theorem dX1_fits_11 : decode cX1_fits 11 = .ok (.istore_n 2, 1) := by decide +kernel
theorem dX1_fits_12 : decode cX1_fits 12 = .ok (.iload_n 1, 1) := by decide +kernel
theorem dX1_fits_13 : decode cX1_fits 13 = .ok (.iload_n 2, 1) := by decide +kernel
theorem dX1_fits_14 : decode cX1_fits 14 = .ok (.ineg, 1) := by decide +kernel
theorem dX1_fits_15 : decode cX1_fits 15 = .ok (.if_icmp .lt 12, 3) := by decide +kernel
theorem dX1_fits_18 : decode cX1_fits 18 = .ok (.iload_n 1, 1) := by decide +kernel
theorem dX1_fits_19 : decode cX1_fits 19 = .ok (.iload_n 2, 1) := by decide +kernel
theorem dX1_fits_20 : decode cX1_fits 20 = .ok (.if_icmp .gt 7, 3) := by decide +kernel
theorem dX1_fits_23 : decode cX1_fits 23 = .ok (.iconst 1, 1) := by decide +kernel
theorem dX1_fits_24 : decode cX1_fits 24 = .ok (.goto 4, 3) := by decide +kernel
theorem dX1_fits_27 : decode cX1_fits 27 = .ok (.iconst 0, 1) := by decide +kernel
theorem dX1_fits_28 : decode cX1_fits 28 = .ok (.ireturn, 1) := by decide +kernel
theorem dX1_track_0 : decode cX1_track 0 = .ok (.aload_n 0, 1) := by decide +kernel
theorem dX1_track_1 : decode cX1_track 1 = .ok (.iconst 0, 1) := by decide +kernel
theorem dX1_track_2 : decode cX1_track 2 = .ok (.putfield 42, 3) := by decide +kernel
theorem dX1_track_5 : decode cX1_track 5 = .ok (.aload_n 0, 1) := by decide +kernel
theorem dX1_track_6 : decode cX1_track 6 = .ok (.getfield 48, 3) := by decide +kernel
theorem dX1_track_9 : decode cX1_track 9 = .ok (.istore 4, 2) := by decide +kernel
theorem dX1_track_11 : decode cX1_track 11 = .ok (.aload_n 0, 1) := by decide +kernel
theorem dX1_track_12 : decode cX1_track 12 = .ok (.iconst 0, 1) := by decide +kernel
theorem dX1_track_13 : decode cX1_track 13 = .ok (.putfield 48, 3) := by decide +kernel
theorem dX1_track_16 : decode cX1_track 16 = .ok (.iload 4, 2) := by decide +kernel
theorem dX1_track_18 : decode cX1_track 18 = .ok (.ifCond .le 34, 3) := by decide +kernel
theorem dX1_track_21 : decode cX1_track 21 = .ok (.aload_n 0, 1) := by decide +kernel
theorem dX1_track_22 : decode cX1_track 22 = .ok (.iload_n 1, 1) := by decide +kernel
theorem dX1_track_23 : decode cX1_track 23 = .ok (.iload_n 2, 1) := by decide +kernel
theorem dX1_track_24 : decode cX1_track 24 = .ok (.invokevirtual 55, 3) := by decide +kernel
theorem dX1_track_27 : decode cX1_track 27 = .ok (.ifCond .eq 25, 3) := by decide +kernel
theorem dX1_track_30 : decode cX1_track 30 = .ok (.iload_n 3, 1) := by decide +kernel
theorem dX1_track_31 : decode cX1_track 31 = .ok (.ifCond .lt 21, 3) := by decide +kernel
theorem dX1_track_34 : decode cX1_track 34 = .ok (.iload_n 3, 1) := by decide +kernel
theorem dX1_track_35 : decode cX1_track 35 = .ok (.iconst 2, 1) := by decide +kernel
theorem dX1_track_36 : decode cX1_track 36 = .ok (.if_icmp .gt 16, 3) := by decide +kernel
theorem dX1_track_39 : decode cX1_track 39 = .ok (.aload_n 0, 1) := by decide +kernel
theorem dX1_track_40 : decode cX1_track 40 = .ok (.getfield 58, 3) := by decide +kernel
theorem dX1_track_43 : decode cX1_track 43 = .ok (.bipush 32, 2) := by decide +kernel
theorem dX1_track_45 : decode cX1_track 45 = .ok (.if_icmp .ge 7, 3) := by decide +kernel
theorem dX1_track_48 : decode cX1_track 48 = .ok (.iconst 1, 1) := by decide +kernel
theorem dX1_track_49 : decode cX1_track 49 = .ok (.goto 4, 3) := by decide +kernel
theorem dX1_track_52 : decode cX1_track 52 = .ok (.iconst 0, 1) := by decide +kernel
theorem dX1_track_53 : decode cX1_track 53 = .ok (.istore 5, 2) := by decide +kernel
theorem dX1_track_55 : decode cX1_track 55 = .ok (.iconst 0, 1) := by decide +kernel
theorem dX1_track_56 : decode cX1_track 56 = .ok (.istore 6, 2) := by decide +kernel
theorem dX1_track_58 : decode cX1_track 58 = .ok (.iload 6, 2) := by decide +kernel
theorem dX1_track_60 : decode cX1_track 60 = .ok (.iconst 3, 1) := by decide +kernel
theorem dX1_track_61 : decode cX1_track 61 = .ok (.iload 4, 2) := by decide +kernel
theorem dX1_track_63 : decode cX1_track 63 = .ok (.imul, 1) := by decide +kernel
theorem dX1_track_64 : decode cX1_track 64 = .ok (.if_icmp .ge 35, 3) := by decide +kernel
theorem dX1_track_67 : decode cX1_track 67 = .ok (.iload 5, 2) := by decide +kernel
theorem dX1_track_69 : decode cX1_track 69 = .ok (.ifCond .eq 21, 3) := by decide +kernel
theorem dX1_track_72 : decode cX1_track 72 = .ok (.iload_n 2, 1) := by decide +kernel
theorem dX1_track_73 : decode cX1_track 73 = .ok (.aload_n 0, 1) := by decide +kernel
theorem dX1_track_74 : decode cX1_track 74 = .ok (.getfield 16, 3) := by decide +kernel
theorem dX1_track_77 : decode cX1_track 77 = .ok (.iload 6, 2) := by decide +kernel
theorem dX1_track_79 : decode cX1_track 79 = .ok (.iaload, 1) := by decide +kernel
theorem dX1_track_80 : decode cX1_track 80 = .ok (.invokestatic 51, 3) := by decide +kernel
theorem dX1_track_83 : decode cX1_track 83 = .ok (.ifCond .eq 7, 3) := by decide +kernel
theorem dX1_track_86 : decode cX1_track 86 = .ok (.iconst 1, 1) := by decide +kernel
theorem dX1_track_87 : decode cX1_track 87 = .ok (.goto 4, 3) := by decide +kernel
theorem dX1_track_90 : decode cX1_track 90 = .ok (.iconst 0, 1) := by decide +kernel
theorem dX1_track_91 : decode cX1_track 91 = .ok (.istore 5, 2) := by decide +kernel
theorem dX1_track_93 : decode cX1_track 93 = .ok (.iinc 6 1, 3) := by decide +kernel
theorem dX1_track_96 : decode cX1_track 96 = .ok (.goto (-38), 3) := by decide +kernel
theorem dX1_track_99 : decode cX1_track 99 = .ok (.iload 5, 2) := by decide +kernel
theorem dX1_track_101 : decode cX1_track 101 = .ok (.ifCond .ne 5, 3) := by decide +kernel
theorem dX1_track_104 : decode cX1_track 104 = .ok (.iconst (-1), 1) := by decide +kernel
theorem dX1_track_105 : decode cX1_track 105 = .ok (.ireturn, 1) := by decide +kernel
theorem dX1_track_106 : decode cX1_track 106 = .ok (.aload_n 0, 1) := by decide +kernel
theorem dX1_track_107 : decode cX1_track 107 = .ok (.getfield 19, 3) := by decide +kernel
theorem dX1_track_110 : decode cX1_track 110 = .ok (.aload_n 0, 1) := by decide +kernel
theorem dX1_track_111 : decode cX1_track 111 = .ok (.getfield 58, 3) := by decide +kernel
theorem dX1_track_114 : decode cX1_track 114 = .ok (.iload_n 1, 1) := by decide +kernel
theorem dX1_track_115 : decode cX1_track 115 = .ok (.iastore, 1) := by decide +kernel
theorem dX1_track_116 : decode cX1_track 116 = .ok (.aload_n 0, 1) := by decide +kernel
theorem dX1_track_117 : decode cX1_track 117 = .ok (.getfield 22, 3) := by decide +kernel
theorem dX1_track_120 : decode cX1_track 120 = .ok (.aload_n 0, 1) := by decide +kernel
theorem dX1_track_121 : decode cX1_track 121 = .ok (.getfield 58, 3) := by decide +kernel
theorem dX1_track_124 : decode cX1_track 124 = .ok (.iload_n 2, 1) := by decide +kernel
theorem dX1_track_125 : decode cX1_track 125 = .ok (.iastore, 1) := by decide +kernel
theorem dX1_track_126 : decode cX1_track 126 = .ok (.aload_n 0, 1) := by decide +kernel
theorem dX1_track_127 : decode cX1_track 127 = .ok (.getfield 25, 3) := by decide +kernel
theorem dX1_track_130 : decode cX1_track 130 = .ok (.aload_n 0, 1) := by decide +kernel
theorem dX1_track_131 : decode cX1_track 131 = .ok (.getfield 58, 3) := by decide +kernel
theorem dX1_track_134 : decode cX1_track 134 = .ok (.iload_n 3, 1) := by decide +kernel
theorem dX1_track_135 : decode cX1_track 135 = .ok (.iastore, 1) := by decide +kernel
theorem dX1_track_136 : decode cX1_track 136 = .ok (.aload_n 0, 1) := by decide +kernel
theorem dX1_track_137 : decode cX1_track 137 = .ok (.getfield 28, 3) := by decide +kernel
theorem dX1_track_140 : decode cX1_track 140 = .ok (.aload_n 0, 1) := by decide +kernel
theorem dX1_track_141 : decode cX1_track 141 = .ok (.getfield 58, 3) := by decide +kernel
theorem dX1_track_144 : decode cX1_track 144 = .ok (.iload 4, 2) := by decide +kernel
theorem dX1_track_146 : decode cX1_track 146 = .ok (.iastore, 1) := by decide +kernel
theorem dX1_track_147 : decode cX1_track 147 = .ok (.iconst 0, 1) := by decide +kernel
theorem dX1_track_148 : decode cX1_track 148 = .ok (.istore 6, 2) := by decide +kernel
theorem dX1_track_150 : decode cX1_track 150 = .ok (.iload 6, 2) := by decide +kernel
theorem dX1_track_152 : decode cX1_track 152 = .ok (.iload 4, 2) := by decide +kernel
theorem dX1_track_154 : decode cX1_track 154 = .ok (.if_icmp .ge 31, 3) := by decide +kernel
theorem dX1_track_157 : decode cX1_track 157 = .ok (.aload_n 0, 1) := by decide +kernel
theorem dX1_track_158 : decode cX1_track 158 = .ok (.getfield 31, 3) := by decide +kernel
theorem dX1_track_161 : decode cX1_track 161 = .ok (.bipush 32, 2) := by decide +kernel
theorem dX1_track_163 : decode cX1_track 163 = .ok (.aload_n 0, 1) := by decide +kernel
theorem dX1_track_164 : decode cX1_track 164 = .ok (.getfield 58, 3) := by decide +kernel
theorem dX1_track_167 : decode cX1_track 167 = .ok (.imul, 1) := by decide +kernel
theorem dX1_track_168 : decode cX1_track 168 = .ok (.iload 6, 2) := by decide +kernel
theorem dX1_track_170 : decode cX1_track 170 = .ok (.iadd, 1) := by decide +kernel
theorem dX1_track_171 : decode cX1_track 171 = .ok (.aload_n 0, 1) := by decide +kernel
theorem dX1_track_172 : decode cX1_track 172 = .ok (.getfield 13, 3) := by decide +kernel
theorem dX1_track_175 : decode cX1_track 175 = .ok (.iload 6, 2) := by decide +kernel
theorem dX1_track_177 : decode cX1_track 177 = .ok (.iaload, 1) := by decide +kernel
theorem dX1_track_178 : decode cX1_track 178 = .ok (.iastore, 1) := by decide +kernel
theorem dX1_track_179 : decode cX1_track 179 = .ok (.iinc 6 1, 3) := by decide +kernel
theorem dX1_track_182 : decode cX1_track 182 = .ok (.goto (-32), 3) := by decide +kernel
theorem dX1_track_185 : decode cX1_track 185 = .ok (.iconst 0, 1) := by decide +kernel
theorem dX1_track_186 : decode cX1_track 186 = .ok (.istore 6, 2) := by decide +kernel
theorem dX1_track_188 : decode cX1_track 188 = .ok (.iload 6, 2) := by decide +kernel
theorem dX1_track_190 : decode cX1_track 190 = .ok (.iconst 3, 1) := by decide +kernel
theorem dX1_track_191 : decode cX1_track 191 = .ok (.iload 4, 2) := by decide +kernel
theorem dX1_track_193 : decode cX1_track 193 = .ok (.imul, 1) := by decide +kernel
theorem dX1_track_194 : decode cX1_track 194 = .ok (.if_icmp .ge 31, 3) := by decide +kernel
theorem dX1_track_197 : decode cX1_track 197 = .ok (.aload_n 0, 1) := by decide +kernel
theorem dX1_track_198 : decode cX1_track 198 = .ok (.getfield 34, 3) := by decide +kernel
theorem dX1_track_201 : decode cX1_track 201 = .ok (.bipush 96, 2) := by decide +kernel
theorem dX1_track_203 : decode cX1_track 203 = .ok (.aload_n 0, 1) := by decide +kernel
theorem dX1_track_204 : decode cX1_track 204 = .ok (.getfield 58, 3) := by decide +kernel
theorem dX1_track_207 : decode cX1_track 207 = .ok (.imul, 1) := by decide +kernel
theorem dX1_track_208 : decode cX1_track 208 = .ok (.iload 6, 2) := by decide +kernel
theorem dX1_track_210 : decode cX1_track 210 = .ok (.iadd, 1) := by decide +kernel
theorem dX1_track_211 : decode cX1_track 211 = .ok (.aload_n 0, 1) := by decide +kernel
theorem dX1_track_212 : decode cX1_track 212 = .ok (.getfield 16, 3) := by decide +kernel
theorem dX1_track_215 : decode cX1_track 215 = .ok (.iload 6, 2) := by decide +kernel
theorem dX1_track_217 : decode cX1_track 217 = .ok (.iaload, 1) := by decide +kernel
theorem dX1_track_218 : decode cX1_track 218 = .ok (.iastore, 1) := by decide +kernel
theorem dX1_track_219 : decode cX1_track 219 = .ok (.iinc 6 1, 3) := by decide +kernel
theorem dX1_track_222 : decode cX1_track 222 = .ok (.goto (-34), 3) := by decide +kernel
theorem dX1_track_225 : decode cX1_track 225 = .ok (.aload_n 0, 1) := by decide +kernel
theorem dX1_track_226 : decode cX1_track 226 = .ok (.dup, 1) := by decide +kernel
theorem dX1_track_227 : decode cX1_track 227 = .ok (.getfield 58, 3) := by decide +kernel
theorem dX1_track_230 : decode cX1_track 230 = .ok (.iconst 1, 1) := by decide +kernel
theorem dX1_track_231 : decode cX1_track 231 = .ok (.iadd, 1) := by decide +kernel
theorem dX1_track_232 : decode cX1_track 232 = .ok (.putfield 58, 3) := by decide +kernel
theorem dX1_track_235 : decode cX1_track 235 = .ok (.aload_n 0, 1) := by decide +kernel
theorem dX1_track_236 : decode cX1_track 236 = .ok (.getfield 58, 3) := by decide +kernel
theorem dX1_track_239 : decode cX1_track 239 = .ok (.iconst 1, 1) := by decide +kernel
theorem dX1_track_240 : decode cX1_track 240 = .ok (.isub, 1) := by decide +kernel
theorem dX1_track_241 : decode cX1_track 241 = .ok (.ireturn, 1) := by decide +kernel
theorem dX1_there_0 : decode cX1_there 0 = .ok (.iload_n 1, 1) := by decide +kernel
theorem dX1_there_1 : decode cX1_there 1 = .ok (.ifCond .lt 24, 3) := by decide +kernel
theorem dX1_there_4 : decode cX1_there 4 = .ok (.iload_n 1, 1) := by decide +kernel
theorem dX1_there_5 : decode cX1_there 5 = .ok (.aload_n 0, 1) := by decide +kernel
theorem dX1_there_6 : decode cX1_there 6 = .ok (.getfield 37, 3) := by decide +kernel
theorem dX1_there_9 : decode cX1_there 9 = .ok (.if_icmp .ge 16, 3) := by decide +kernel
theorem dX1_there_12 : decode cX1_there 12 = .ok (.iload_n 2, 1) := by decide +kernel
theorem dX1_there_13 : decode cX1_there 13 = .ok (.ifCond .lt 12, 3) := by decide +kernel
theorem dX1_there_16 : decode cX1_there 16 = .ok (.iload_n 2, 1) := by decide +kernel
theorem dX1_there_17 : decode cX1_there 17 = .ok (.iconst 3, 1) := by decide +kernel
theorem dX1_there_18 : decode cX1_there 18 = .ok (.if_icmp .ge 7, 3) := by decide +kernel
theorem dX1_there_21 : decode cX1_there 21 = .ok (.iconst 1, 1) := by decide +kernel
theorem dX1_there_22 : decode cX1_there 22 = .ok (.goto 4, 3) := by decide +kernel
theorem dX1_there_25 : decode cX1_there 25 = .ok (.iconst 0, 1) := by decide +kernel
theorem dX1_there_26 : decode cX1_there 26 = .ok (.ireturn, 1) := by decide +kernel
theorem dX1_set_0 : decode cX1_set 0 = .ok (.aload_n 0, 1) := by decide +kernel
theorem dX1_set_1 : decode cX1_set 1 = .ok (.iconst 0, 1) := by decide +kernel
theorem dX1_set_2 : decode cX1_set 2 = .ok (.putfield 42, 3) := by decide +kernel
theorem dX1_set_5 : decode cX1_set 5 = .ok (.aload_n 0, 1) := by decide +kernel
theorem dX1_set_6 : decode cX1_set 6 = .ok (.iload_n 1, 1) := by decide +kernel
theorem dX1_set_7 : decode cX1_set 7 = .ok (.iload_n 2, 1) := by decide +kernel
theorem dX1_set_8 : decode cX1_set 8 = .ok (.invokevirtual 55, 3) := by decide +kernel
theorem dX1_set_11 : decode cX1_set 11 = .ok (.ifCond .eq 29, 3) := by decide +kernel
theorem dX1_set_14 : decode cX1_set 14 = .ok (.iload_n 2, 1) := by decide +kernel
theorem dX1_set_15 : decode cX1_set 15 = .ok (.iload_n 3, 1) := by decide +kernel
theorem dX1_set_16 : decode cX1_set 16 = .ok (.invokestatic 51, 3) := by decide +kernel
theorem dX1_set_19 : decode cX1_set 19 = .ok (.ifCond .eq 21, 3) := by decide +kernel
theorem dX1_set_22 : decode cX1_set 22 = .ok (.iload_n 2, 1) := by decide +kernel
theorem dX1_set_23 : decode cX1_set 23 = .ok (.iload 4, 2) := by decide +kernel
theorem dX1_set_25 : decode cX1_set 25 = .ok (.invokestatic 51, 3) := by decide +kernel
theorem dX1_set_28 : decode cX1_set 28 = .ok (.ifCond .eq 12, 3) := by decide +kernel
theorem dX1_set_31 : decode cX1_set 31 = .ok (.iload_n 2, 1) := by decide +kernel
theorem dX1_set_32 : decode cX1_set 32 = .ok (.iload 5, 2) := by decide +kernel
theorem dX1_set_34 : decode cX1_set 34 = .ok (.invokestatic 51, 3) := by decide +kernel
theorem dX1_set_37 : decode cX1_set 37 = .ok (.ifCond .ne 5, 3) := by decide +kernel
theorem dX1_set_40 : decode cX1_set 40 = .ok (.iconst 0, 1) := by decide +kernel
theorem dX1_set_41 : decode cX1_set 41 = .ok (.ireturn, 1) := by decide +kernel
theorem dX1_set_42 : decode cX1_set 42 = .ok (.aload_n 0, 1) := by decide +kernel
theorem dX1_set_43 : decode cX1_set 43 = .ok (.getfield 7, 3) := by decide +kernel
theorem dX1_set_46 : decode cX1_set 46 = .ok (.bipush 9, 2) := by decide +kernel
theorem dX1_set_48 : decode cX1_set 48 = .ok (.iload_n 1, 1) := by decide +kernel
theorem dX1_set_49 : decode cX1_set 49 = .ok (.imul, 1) := by decide +kernel
theorem dX1_set_50 : decode cX1_set 50 = .ok (.iconst 3, 1) := by decide +kernel
theorem dX1_set_51 : decode cX1_set 51 = .ok (.iload_n 2, 1) := by decide +kernel
theorem dX1_set_52 : decode cX1_set 52 = .ok (.imul, 1) := by decide +kernel
theorem dX1_set_53 : decode cX1_set 53 = .ok (.iadd, 1) := by decide +kernel
theorem dX1_set_54 : decode cX1_set 54 = .ok (.iload_n 3, 1) := by decide +kernel
theorem dX1_set_55 : decode cX1_set 55 = .ok (.iastore, 1) := by decide +kernel
theorem dX1_set_56 : decode cX1_set 56 = .ok (.aload_n 0, 1) := by decide +kernel
theorem dX1_set_57 : decode cX1_set 57 = .ok (.getfield 7, 3) := by decide +kernel
theorem dX1_set_60 : decode cX1_set 60 = .ok (.bipush 9, 2) := by decide +kernel
theorem dX1_set_62 : decode cX1_set 62 = .ok (.iload_n 1, 1) := by decide +kernel
theorem dX1_set_63 : decode cX1_set 63 = .ok (.imul, 1) := by decide +kernel
theorem dX1_set_64 : decode cX1_set 64 = .ok (.iconst 3, 1) := by decide +kernel
theorem dX1_set_65 : decode cX1_set 65 = .ok (.iload_n 2, 1) := by decide +kernel
theorem dX1_set_66 : decode cX1_set 66 = .ok (.imul, 1) := by decide +kernel
theorem dX1_set_67 : decode cX1_set 67 = .ok (.iadd, 1) := by decide +kernel
theorem dX1_set_68 : decode cX1_set 68 = .ok (.iconst 1, 1) := by decide +kernel
theorem dX1_set_69 : decode cX1_set 69 = .ok (.iadd, 1) := by decide +kernel
theorem dX1_set_70 : decode cX1_set 70 = .ok (.iload 4, 2) := by decide +kernel
theorem dX1_set_72 : decode cX1_set 72 = .ok (.iastore, 1) := by decide +kernel
theorem dX1_set_73 : decode cX1_set 73 = .ok (.aload_n 0, 1) := by decide +kernel
theorem dX1_set_74 : decode cX1_set 74 = .ok (.getfield 7, 3) := by decide +kernel
theorem dX1_set_77 : decode cX1_set 77 = .ok (.bipush 9, 2) := by decide +kernel
theorem dX1_set_79 : decode cX1_set 79 = .ok (.iload_n 1, 1) := by decide +kernel
theorem dX1_set_80 : decode cX1_set 80 = .ok (.imul, 1) := by decide +kernel
theorem dX1_set_81 : decode cX1_set 81 = .ok (.iconst 3, 1) := by decide +kernel
theorem dX1_set_82 : decode cX1_set 82 = .ok (.iload_n 2, 1) := by decide +kernel
theorem dX1_set_83 : decode cX1_set 83 = .ok (.imul, 1) := by decide +kernel
theorem dX1_set_84 : decode cX1_set 84 = .ok (.iadd, 1) := by decide +kernel
theorem dX1_set_85 : decode cX1_set 85 = .ok (.iconst 2, 1) := by decide +kernel
theorem dX1_set_86 : decode cX1_set 86 = .ok (.iadd, 1) := by decide +kernel
theorem dX1_set_87 : decode cX1_set 87 = .ok (.iload 5, 2) := by decide +kernel
theorem dX1_set_89 : decode cX1_set 89 = .ok (.iastore, 1) := by decide +kernel
theorem dX1_set_90 : decode cX1_set 90 = .ok (.iconst 1, 1) := by decide +kernel
theorem dX1_set_91 : decode cX1_set 91 = .ok (.ireturn, 1) := by decide +kernel
theorem dX1_time_0 : decode cX1_time 0 = .ok (.aload_n 0, 1) := by decide +kernel
theorem dX1_time_1 : decode cX1_time 1 = .ok (.iconst 0, 1) := by decide +kernel
theorem dX1_time_2 : decode cX1_time 2 = .ok (.putfield 42, 3) := by decide +kernel
theorem dX1_time_5 : decode cX1_time 5 = .ok (.iload_n 1, 1) := by decide +kernel
theorem dX1_time_6 : decode cX1_time 6 = .ok (.ifCond .lt 9, 3) := by decide +kernel
theorem dX1_time_9 : decode cX1_time 9 = .ok (.iload_n 1, 1) := by decide +kernel
theorem dX1_time_10 : decode cX1_time 10 = .ok (.ldc 47, 2) := by decide +kernel
theorem dX1_time_12 : decode cX1_time 12 = .ok (.if_icmp .le 5, 3) := by decide +kernel
theorem dX1_time_15 : decode cX1_time 15 = .ok (.iconst 0, 1) := by decide +kernel
theorem dX1_time_16 : decode cX1_time 16 = .ok (.ireturn, 1) := by decide +kernel
theorem dX1_time_17 : decode cX1_time 17 = .ok (.aload_n 0, 1) := by decide +kernel
theorem dX1_time_18 : decode cX1_time 18 = .ok (.iload_n 1, 1) := by decide +kernel
theorem dX1_time_19 : decode cX1_time 19 = .ok (.putfield 74, 3) := by decide +kernel
theorem dX1_time_22 : decode cX1_time 22 = .ok (.iconst 0, 1) := by decide +kernel
theorem dX1_time_23 : decode cX1_time 23 = .ok (.istore_n 2, 1) := by decide +kernel
theorem dX1_time_24 : decode cX1_time 24 = .ok (.iload_n 2, 1) := by decide +kernel
theorem dX1_time_25 : decode cX1_time 25 = .ok (.aload_n 0, 1) := by decide +kernel
theorem dX1_time_26 : decode cX1_time 26 = .ok (.getfield 58, 3) := by decide +kernel
theorem dX1_time_29 : decode cX1_time 29 = .ok (.if_icmp .ge 54, 3) := by decide +kernel
theorem dX1_time_32 : decode cX1_time 32 = .ok (.iconst 0, 1) := by decide +kernel
theorem dX1_time_33 : decode cX1_time 33 = .ok (.istore_n 3, 1) := by decide +kernel
theorem dX1_time_34 : decode cX1_time 34 = .ok (.iload_n 3, 1) := by decide +kernel
theorem dX1_time_35 : decode cX1_time 35 = .ok (.iconst 3, 1) := by decide +kernel
theorem dX1_time_36 : decode cX1_time 36 = .ok (.if_icmp .ge 41, 3) := by decide +kernel
theorem dX1_time_39 : decode cX1_time 39 = .ok (.aload_n 0, 1) := by decide +kernel
theorem dX1_time_40 : decode cX1_time 40 = .ok (.getfield 7, 3) := by decide +kernel
theorem dX1_time_43 : decode cX1_time 43 = .ok (.bipush 9, 2) := by decide +kernel
theorem dX1_time_45 : decode cX1_time 45 = .ok (.aload_n 0, 1) := by decide +kernel
theorem dX1_time_46 : decode cX1_time 46 = .ok (.getfield 19, 3) := by decide +kernel
theorem dX1_time_49 : decode cX1_time 49 = .ok (.iload_n 2, 1) := by decide +kernel
theorem dX1_time_50 : decode cX1_time 50 = .ok (.iaload, 1) := by decide +kernel
theorem dX1_time_51 : decode cX1_time 51 = .ok (.imul, 1) := by decide +kernel
theorem dX1_time_52 : decode cX1_time 52 = .ok (.iconst 3, 1) := by decide +kernel
theorem dX1_time_53 : decode cX1_time 53 = .ok (.aload_n 0, 1) := by decide +kernel
theorem dX1_time_54 : decode cX1_time 54 = .ok (.getfield 22, 3) := by decide +kernel
theorem dX1_time_57 : decode cX1_time 57 = .ok (.iload_n 2, 1) := by decide +kernel
theorem dX1_time_58 : decode cX1_time 58 = .ok (.iaload, 1) := by decide +kernel
theorem dX1_time_59 : decode cX1_time 59 = .ok (.imul, 1) := by decide +kernel
theorem dX1_time_60 : decode cX1_time 60 = .ok (.iadd, 1) := by decide +kernel
theorem dX1_time_61 : decode cX1_time 61 = .ok (.iload_n 3, 1) := by decide +kernel
theorem dX1_time_62 : decode cX1_time 62 = .ok (.iadd, 1) := by decide +kernel
theorem dX1_time_63 : decode cX1_time 63 = .ok (.aload_n 0, 1) := by decide +kernel
theorem dX1_time_64 : decode cX1_time 64 = .ok (.iload_n 2, 1) := by decide +kernel
theorem dX1_time_65 : decode cX1_time 65 = .ok (.iload_n 3, 1) := by decide +kernel
theorem dX1_time_66 : decode cX1_time 66 = .ok (.iload_n 1, 1) := by decide +kernel
theorem dX1_time_67 : decode cX1_time 67 = .ok (.invokevirtual 77, 3) := by decide +kernel
theorem dX1_time_70 : decode cX1_time 70 = .ok (.iastore, 1) := by decide +kernel
theorem dX1_time_71 : decode cX1_time 71 = .ok (.iinc 3 1, 3) := by decide +kernel
theorem dX1_time_74 : decode cX1_time 74 = .ok (.goto (-40), 3) := by decide +kernel
theorem dX1_time_77 : decode cX1_time 77 = .ok (.iinc 2 1, 3) := by decide +kernel
theorem dX1_time_80 : decode cX1_time 80 = .ok (.goto (-56), 3) := by decide +kernel
theorem dX1_time_83 : decode cX1_time 83 = .ok (.iconst 1, 1) := by decide +kernel
theorem dX1_time_84 : decode cX1_time 84 = .ok (.ireturn, 1) := by decide +kernel
theorem dX1_at_0 : decode cX1_at 0 = .ok (.bipush 32, 2) := by decide +kernel
theorem dX1_at_2 : decode cX1_at 2 = .ok (.iload_n 1, 1) := by decide +kernel
theorem dX1_at_3 : decode cX1_at 3 = .ok (.imul, 1) := by decide +kernel
theorem dX1_at_4 : decode cX1_at 4 = .ok (.istore 4, 2) := by decide +kernel
theorem dX1_at_6 : decode cX1_at 6 = .ok (.aload_n 0, 1) := by decide +kernel
theorem dX1_at_7 : decode cX1_at 7 = .ok (.getfield 28, 3) := by decide +kernel
theorem dX1_at_10 : decode cX1_at 10 = .ok (.iload_n 1, 1) := by decide +kernel
theorem dX1_at_11 : decode cX1_at 11 = .ok (.iaload, 1) := by decide +kernel
theorem dX1_at_12 : decode cX1_at 12 = .ok (.iconst 1, 1) := by decide +kernel
theorem dX1_at_13 : decode cX1_at 13 = .ok (.isub, 1) := by decide +kernel
theorem dX1_at_14 : decode cX1_at 14 = .ok (.istore 5, 2) := by decide +kernel
theorem dX1_at_16 : decode cX1_at 16 = .ok (.iload_n 3, 1) := by decide +kernel
theorem dX1_at_17 : decode cX1_at 17 = .ok (.aload_n 0, 1) := by decide +kernel
theorem dX1_at_18 : decode cX1_at 18 = .ok (.getfield 31, 3) := by decide +kernel
theorem dX1_at_21 : decode cX1_at 21 = .ok (.iload 4, 2) := by decide +kernel
theorem dX1_at_23 : decode cX1_at 23 = .ok (.iaload, 1) := by decide +kernel
theorem dX1_at_24 : decode cX1_at 24 = .ok (.if_icmp .ge 15, 3) := by decide +kernel
theorem dX1_at_27 : decode cX1_at 27 = .ok (.aload_n 0, 1) := by decide +kernel
theorem dX1_at_28 : decode cX1_at 28 = .ok (.getfield 34, 3) := by decide +kernel
theorem dX1_at_31 : decode cX1_at 31 = .ok (.bipush 96, 2) := by decide +kernel
theorem dX1_at_33 : decode cX1_at 33 = .ok (.iload_n 1, 1) := by decide +kernel
theorem dX1_at_34 : decode cX1_at 34 = .ok (.imul, 1) := by decide +kernel
theorem dX1_at_35 : decode cX1_at 35 = .ok (.iload_n 2, 1) := by decide +kernel
theorem dX1_at_36 : decode cX1_at 36 = .ok (.iadd, 1) := by decide +kernel
theorem dX1_at_37 : decode cX1_at 37 = .ok (.iaload, 1) := by decide +kernel
theorem dX1_at_38 : decode cX1_at 38 = .ok (.ireturn, 1) := by decide +kernel
theorem dX1_at_39 : decode cX1_at 39 = .ok (.iload_n 3, 1) := by decide +kernel
theorem dX1_at_40 : decode cX1_at 40 = .ok (.aload_n 0, 1) := by decide +kernel
theorem dX1_at_41 : decode cX1_at 41 = .ok (.getfield 31, 3) := by decide +kernel
theorem dX1_at_44 : decode cX1_at 44 = .ok (.iload 4, 2) := by decide +kernel
theorem dX1_at_46 : decode cX1_at 46 = .ok (.iload 5, 2) := by decide +kernel
theorem dX1_at_48 : decode cX1_at 48 = .ok (.iadd, 1) := by decide +kernel
theorem dX1_at_49 : decode cX1_at 49 = .ok (.iaload, 1) := by decide +kernel
theorem dX1_at_50 : decode cX1_at 50 = .ok (.if_icmp .lt 20, 3) := by decide +kernel
theorem dX1_at_53 : decode cX1_at 53 = .ok (.aload_n 0, 1) := by decide +kernel
theorem dX1_at_54 : decode cX1_at 54 = .ok (.getfield 34, 3) := by decide +kernel
theorem dX1_at_57 : decode cX1_at 57 = .ok (.bipush 96, 2) := by decide +kernel
theorem dX1_at_59 : decode cX1_at 59 = .ok (.iload_n 1, 1) := by decide +kernel
theorem dX1_at_60 : decode cX1_at 60 = .ok (.imul, 1) := by decide +kernel
theorem dX1_at_61 : decode cX1_at 61 = .ok (.iconst 3, 1) := by decide +kernel
theorem dX1_at_62 : decode cX1_at 62 = .ok (.iload 5, 2) := by decide +kernel
theorem dX1_at_64 : decode cX1_at 64 = .ok (.imul, 1) := by decide +kernel
theorem dX1_at_65 : decode cX1_at 65 = .ok (.iadd, 1) := by decide +kernel
theorem dX1_at_66 : decode cX1_at 66 = .ok (.iload_n 2, 1) := by decide +kernel
theorem dX1_at_67 : decode cX1_at 67 = .ok (.iadd, 1) := by decide +kernel
theorem dX1_at_68 : decode cX1_at 68 = .ok (.iaload, 1) := by decide +kernel
theorem dX1_at_69 : decode cX1_at 69 = .ok (.ireturn, 1) := by decide +kernel
theorem dX1_at_70 : decode cX1_at 70 = .ok (.iconst 0, 1) := by decide +kernel
theorem dX1_at_71 : decode cX1_at 71 = .ok (.istore 6, 2) := by decide +kernel
theorem dX1_at_73 : decode cX1_at 73 = .ok (.iload_n 3, 1) := by decide +kernel
theorem dX1_at_74 : decode cX1_at 74 = .ok (.aload_n 0, 1) := by decide +kernel
theorem dX1_at_75 : decode cX1_at 75 = .ok (.getfield 31, 3) := by decide +kernel
theorem dX1_at_78 : decode cX1_at 78 = .ok (.iload 4, 2) := by decide +kernel
theorem dX1_at_80 : decode cX1_at 80 = .ok (.iload 6, 2) := by decide +kernel
theorem dX1_at_82 : decode cX1_at 82 = .ok (.iadd, 1) := by decide +kernel
theorem dX1_at_83 : decode cX1_at 83 = .ok (.iconst 1, 1) := by decide +kernel
theorem dX1_at_84 : decode cX1_at 84 = .ok (.iadd, 1) := by decide +kernel
theorem dX1_at_85 : decode cX1_at 85 = .ok (.iaload, 1) := by decide +kernel
theorem dX1_at_86 : decode cX1_at 86 = .ok (.if_icmp .lt 9, 3) := by decide +kernel
theorem dX1_at_89 : decode cX1_at 89 = .ok (.iinc 6 1, 3) := by decide +kernel
theorem dX1_at_92 : decode cX1_at 92 = .ok (.goto (-19), 3) := by decide +kernel
theorem dX1_at_95 : decode cX1_at 95 = .ok (.aload_n 0, 1) := by decide +kernel
theorem dX1_at_96 : decode cX1_at 96 = .ok (.getfield 31, 3) := by decide +kernel
theorem dX1_at_99 : decode cX1_at 99 = .ok (.iload 4, 2) := by decide +kernel
theorem dX1_at_101 : decode cX1_at 101 = .ok (.iload 6, 2) := by decide +kernel
theorem dX1_at_103 : decode cX1_at 103 = .ok (.iadd, 1) := by decide +kernel
theorem dX1_at_104 : decode cX1_at 104 = .ok (.iaload, 1) := by decide +kernel
theorem dX1_at_105 : decode cX1_at 105 = .ok (.i2l, 1) := by decide +kernel
theorem dX1_at_106 : decode cX1_at 106 = .ok (.lstore 7, 2) := by decide +kernel
theorem dX1_at_108 : decode cX1_at 108 = .ok (.aload_n 0, 1) := by decide +kernel
theorem dX1_at_109 : decode cX1_at 109 = .ok (.getfield 31, 3) := by decide +kernel
theorem dX1_at_112 : decode cX1_at 112 = .ok (.iload 4, 2) := by decide +kernel
theorem dX1_at_114 : decode cX1_at 114 = .ok (.iload 6, 2) := by decide +kernel
theorem dX1_at_116 : decode cX1_at 116 = .ok (.iadd, 1) := by decide +kernel
theorem dX1_at_117 : decode cX1_at 117 = .ok (.iconst 1, 1) := by decide +kernel
theorem dX1_at_118 : decode cX1_at 118 = .ok (.iadd, 1) := by decide +kernel
theorem dX1_at_119 : decode cX1_at 119 = .ok (.iaload, 1) := by decide +kernel
theorem dX1_at_120 : decode cX1_at 120 = .ok (.i2l, 1) := by decide +kernel
theorem dX1_at_121 : decode cX1_at 121 = .ok (.lstore 9, 2) := by decide +kernel
theorem dX1_at_123 : decode cX1_at 123 = .ok (.aload_n 0, 1) := by decide +kernel
theorem dX1_at_124 : decode cX1_at 124 = .ok (.getfield 34, 3) := by decide +kernel
theorem dX1_at_127 : decode cX1_at 127 = .ok (.bipush 96, 2) := by decide +kernel
theorem dX1_at_129 : decode cX1_at 129 = .ok (.iload_n 1, 1) := by decide +kernel
theorem dX1_at_130 : decode cX1_at 130 = .ok (.imul, 1) := by decide +kernel
theorem dX1_at_131 : decode cX1_at 131 = .ok (.iconst 3, 1) := by decide +kernel
theorem dX1_at_132 : decode cX1_at 132 = .ok (.iload 6, 2) := by decide +kernel
theorem dX1_at_134 : decode cX1_at 134 = .ok (.imul, 1) := by decide +kernel
theorem dX1_at_135 : decode cX1_at 135 = .ok (.iadd, 1) := by decide +kernel
theorem dX1_at_136 : decode cX1_at 136 = .ok (.iload_n 2, 1) := by decide +kernel
theorem dX1_at_137 : decode cX1_at 137 = .ok (.iadd, 1) := by decide +kernel
theorem dX1_at_138 : decode cX1_at 138 = .ok (.iaload, 1) := by decide +kernel
theorem dX1_at_139 : decode cX1_at 139 = .ok (.i2l, 1) := by decide +kernel
theorem dX1_at_140 : decode cX1_at 140 = .ok (.lstore 11, 2) := by decide +kernel
theorem dX1_at_142 : decode cX1_at 142 = .ok (.aload_n 0, 1) := by decide +kernel
theorem dX1_at_143 : decode cX1_at 143 = .ok (.getfield 34, 3) := by decide +kernel
theorem dX1_at_146 : decode cX1_at 146 = .ok (.bipush 96, 2) := by decide +kernel
theorem dX1_at_148 : decode cX1_at 148 = .ok (.iload_n 1, 1) := by decide +kernel
theorem dX1_at_149 : decode cX1_at 149 = .ok (.imul, 1) := by decide +kernel
theorem dX1_at_150 : decode cX1_at 150 = .ok (.iconst 3, 1) := by decide +kernel
theorem dX1_at_151 : decode cX1_at 151 = .ok (.iload 6, 2) := by decide +kernel
theorem dX1_at_153 : decode cX1_at 153 = .ok (.imul, 1) := by decide +kernel
theorem dX1_at_154 : decode cX1_at 154 = .ok (.iadd, 1) := by decide +kernel
theorem dX1_at_155 : decode cX1_at 155 = .ok (.iconst 3, 1) := by decide +kernel
theorem dX1_at_156 : decode cX1_at 156 = .ok (.iadd, 1) := by decide +kernel
theorem dX1_at_157 : decode cX1_at 157 = .ok (.iload_n 2, 1) := by decide +kernel
theorem dX1_at_158 : decode cX1_at 158 = .ok (.iadd, 1) := by decide +kernel
theorem dX1_at_159 : decode cX1_at 159 = .ok (.iaload, 1) := by decide +kernel
theorem dX1_at_160 : decode cX1_at 160 = .ok (.i2l, 1) := by decide +kernel
theorem dX1_at_161 : decode cX1_at 161 = .ok (.lstore 13, 2) := by decide +kernel
theorem dX1_at_163 : decode cX1_at 163 = .ok (.aload_n 0, 1) := by decide +kernel
theorem dX1_at_164 : decode cX1_at 164 = .ok (.getfield 25, 3) := by decide +kernel
theorem dX1_at_167 : decode cX1_at 167 = .ok (.iload_n 1, 1) := by decide +kernel
theorem dX1_at_168 : decode cX1_at 168 = .ok (.iaload, 1) := by decide +kernel
theorem dX1_at_169 : decode cX1_at 169 = .ok (.ifCond .ne 7, 3) := by decide +kernel
theorem dX1_at_172 : decode cX1_at 172 = .ok (.lload 11, 2) := by decide +kernel
theorem dX1_at_174 : decode cX1_at 174 = .ok (.l2i, 1) := by decide +kernel
theorem dX1_at_175 : decode cX1_at 175 = .ok (.ireturn, 1) := by decide +kernel
theorem dX1_at_176 : decode cX1_at 176 = .ok (.aload_n 0, 1) := by decide +kernel
theorem dX1_at_177 : decode cX1_at 177 = .ok (.getfield 25, 3) := by decide +kernel
theorem dX1_at_180 : decode cX1_at 180 = .ok (.iload_n 1, 1) := by decide +kernel
theorem dX1_at_181 : decode cX1_at 181 = .ok (.iaload, 1) := by decide +kernel
theorem dX1_at_182 : decode cX1_at 182 = .ok (.iconst 1, 1) := by decide +kernel
theorem dX1_at_183 : decode cX1_at 183 = .ok (.if_icmp .ne 27, 3) := by decide +kernel
theorem dX1_at_186 : decode cX1_at 186 = .ok (.lload 11, 2) := by decide +kernel
theorem dX1_at_188 : decode cX1_at 188 = .ok (.lload 13, 2) := by decide +kernel
theorem dX1_at_190 : decode cX1_at 190 = .ok (.lload 11, 2) := by decide +kernel
theorem dX1_at_192 : decode cX1_at 192 = .ok (.lsub, 1) := by decide +kernel
theorem dX1_at_193 : decode cX1_at 193 = .ok (.iload_n 3, 1) := by decide +kernel
theorem dX1_at_194 : decode cX1_at 194 = .ok (.i2l, 1) := by decide +kernel
theorem dX1_at_195 : decode cX1_at 195 = .ok (.lload 7, 2) := by decide +kernel
theorem dX1_at_197 : decode cX1_at 197 = .ok (.lsub, 1) := by decide +kernel
theorem dX1_at_198 : decode cX1_at 198 = .ok (.lmul, 1) := by decide +kernel
theorem dX1_at_199 : decode cX1_at 199 = .ok (.lload 9, 2) := by decide +kernel
theorem dX1_at_201 : decode cX1_at 201 = .ok (.lload 7, 2) := by decide +kernel
theorem dX1_at_203 : decode cX1_at 203 = .ok (.lsub, 1) := by decide +kernel
theorem dX1_at_204 : decode cX1_at 204 = .ok (.invokestatic 63, 3) := by decide +kernel
theorem dX1_at_207 : decode cX1_at 207 = .ok (.ladd, 1) := by decide +kernel
theorem dX1_at_208 : decode cX1_at 208 = .ok (.l2i, 1) := by decide +kernel
theorem dX1_at_209 : decode cX1_at 209 = .ok (.ireturn, 1) := by decide +kernel
theorem dX1_at_210 : decode cX1_at 210 = .ok (.iload_n 3, 1) := by decide +kernel
theorem dX1_at_211 : decode cX1_at 211 = .ok (.i2l, 1) := by decide +kernel
theorem dX1_at_212 : decode cX1_at 212 = .ok (.lload 7, 2) := by decide +kernel
theorem dX1_at_214 : decode cX1_at 214 = .ok (.lsub, 1) := by decide +kernel
theorem dX1_at_215 : decode cX1_at 215 = .ok (.ldc2_w 61, 3) := by decide +kernel
theorem dX1_at_218 : decode cX1_at 218 = .ok (.lmul, 1) := by decide +kernel
theorem dX1_at_219 : decode cX1_at 219 = .ok (.lload 9, 2) := by decide +kernel
theorem dX1_at_221 : decode cX1_at 221 = .ok (.lload 7, 2) := by decide +kernel
theorem dX1_at_223 : decode cX1_at 223 = .ok (.lsub, 1) := by decide +kernel
theorem dX1_at_224 : decode cX1_at 224 = .ok (.invokestatic 63, 3) := by decide +kernel
theorem dX1_at_227 : decode cX1_at 227 = .ok (.lstore 15, 2) := by decide +kernel
theorem dX1_at_229 : decode cX1_at 229 = .ok (.lload 15, 2) := by decide +kernel
theorem dX1_at_231 : decode cX1_at 231 = .ok (.lload 15, 2) := by decide +kernel
theorem dX1_at_233 : decode cX1_at 233 = .ok (.invokestatic 67, 3) := by decide +kernel
theorem dX1_at_236 : decode cX1_at 236 = .ok (.ldc2_w 70, 3) := by decide +kernel
theorem dX1_at_239 : decode cX1_at 239 = .ok (.ldc2_w 72, 3) := by decide +kernel
theorem dX1_at_242 : decode cX1_at 242 = .ok (.lload 15, 2) := by decide +kernel
theorem dX1_at_244 : decode cX1_at 244 = .ok (.lmul, 1) := by decide +kernel
theorem dX1_at_245 : decode cX1_at 245 = .ok (.lsub, 1) := by decide +kernel
theorem dX1_at_246 : decode cX1_at 246 = .ok (.invokestatic 67, 3) := by decide +kernel
theorem dX1_at_249 : decode cX1_at 249 = .ok (.lstore 17, 2) := by decide +kernel
theorem dX1_at_251 : decode cX1_at 251 = .ok (.lload 11, 2) := by decide +kernel
theorem dX1_at_253 : decode cX1_at 253 = .ok (.lload 13, 2) := by decide +kernel
theorem dX1_at_255 : decode cX1_at 255 = .ok (.lload 11, 2) := by decide +kernel
theorem dX1_at_257 : decode cX1_at 257 = .ok (.lsub, 1) := by decide +kernel
theorem dX1_at_258 : decode cX1_at 258 = .ok (.lload 17, 2) := by decide +kernel
theorem dX1_at_260 : decode cX1_at 260 = .ok (.invokestatic 67, 3) := by decide +kernel
theorem dX1_at_263 : decode cX1_at 263 = .ok (.ladd, 1) := by decide +kernel
theorem dX1_at_264 : decode cX1_at 264 = .ok (.l2i, 1) := by decide +kernel
theorem dX1_at_265 : decode cX1_at 265 = .ok (.ireturn, 1) := by decide +kernel
theorem dX1_div_0 : decode cX1_div 0 = .ok (.lload_n 0, 1) := by decide +kernel
theorem dX1_div_1 : decode cX1_div 1 = .ok (.lload_n 2, 1) := by decide +kernel
theorem dX1_div_2 : decode cX1_div 2 = .ok (.ldiv, 1) := by decide +kernel
theorem dX1_div_3 : decode cX1_div 3 = .ok (.lstore 4, 2) := by decide +kernel
theorem dX1_div_5 : decode cX1_div 5 = .ok (.lload 4, 2) := by decide +kernel
theorem dX1_div_7 : decode cX1_div 7 = .ok (.lload_n 2, 1) := by decide +kernel
theorem dX1_div_8 : decode cX1_div 8 = .ok (.lmul, 1) := by decide +kernel
theorem dX1_div_9 : decode cX1_div 9 = .ok (.lload_n 0, 1) := by decide +kernel
theorem dX1_div_10 : decode cX1_div 10 = .ok (.lcmp, 1) := by decide +kernel
theorem dX1_div_11 : decode cX1_div 11 = .ok (.ifCond .le 10, 3) := by decide +kernel
theorem dX1_div_14 : decode cX1_div 14 = .ok (.lload 4, 2) := by decide +kernel
theorem dX1_div_16 : decode cX1_div 16 = .ok (.lconst 1, 1) := by decide +kernel
theorem dX1_div_17 : decode cX1_div 17 = .ok (.lsub, 1) := by decide +kernel
theorem dX1_div_18 : decode cX1_div 18 = .ok (.goto 5, 3) := by decide +kernel
theorem dX1_div_21 : decode cX1_div 21 = .ok (.lload 4, 2) := by decide +kernel
theorem dX1_div_23 : decode cX1_div 23 = .ok (.lreturn, 1) := by decide +kernel
theorem dX1_mul_0 : decode cX1_mul 0 = .ok (.lload_n 0, 1) := by decide +kernel
theorem dX1_mul_1 : decode cX1_mul 1 = .ok (.lload_n 2, 1) := by decide +kernel
theorem dX1_mul_2 : decode cX1_mul 2 = .ok (.lmul, 1) := by decide +kernel
theorem dX1_mul_3 : decode cX1_mul 3 = .ok (.ldc2_w 61, 3) := by decide +kernel
theorem dX1_mul_6 : decode cX1_mul 6 = .ok (.invokestatic 63, 3) := by decide +kernel
theorem dX1_mul_9 : decode cX1_mul 9 = .ok (.lreturn, 1) := by decide +kernel
theorem dX1_value_0 : decode cX1_value 0 = .ok (.aload_n 0, 1) := by decide +kernel
theorem dX1_value_1 : decode cX1_value 1 = .ok (.iconst 0, 1) := by decide +kernel
theorem dX1_value_2 : decode cX1_value 2 = .ok (.putfield 42, 3) := by decide +kernel
theorem dX1_value_5 : decode cX1_value 5 = .ok (.aload_n 0, 1) := by decide +kernel
theorem dX1_value_6 : decode cX1_value 6 = .ok (.iload_n 1, 1) := by decide +kernel
theorem dX1_value_7 : decode cX1_value 7 = .ok (.iload_n 2, 1) := by decide +kernel
theorem dX1_value_8 : decode cX1_value 8 = .ok (.invokevirtual 55, 3) := by decide +kernel
theorem dX1_value_11 : decode cX1_value 11 = .ok (.ifCond .eq 30, 3) := by decide +kernel
theorem dX1_value_14 : decode cX1_value 14 = .ok (.iload_n 3, 1) := by decide +kernel
theorem dX1_value_15 : decode cX1_value 15 = .ok (.ifCond .lt 26, 3) := by decide +kernel
theorem dX1_value_18 : decode cX1_value 18 = .ok (.iload_n 3, 1) := by decide +kernel
theorem dX1_value_19 : decode cX1_value 19 = .ok (.iconst 3, 1) := by decide +kernel
theorem dX1_value_20 : decode cX1_value 20 = .ok (.if_icmp .ge 21, 3) := by decide +kernel
theorem dX1_value_23 : decode cX1_value 23 = .ok (.aload_n 0, 1) := by decide +kernel
theorem dX1_value_24 : decode cX1_value 24 = .ok (.getfield 7, 3) := by decide +kernel
theorem dX1_value_27 : decode cX1_value 27 = .ok (.bipush 9, 2) := by decide +kernel
theorem dX1_value_29 : decode cX1_value 29 = .ok (.iload_n 1, 1) := by decide +kernel
theorem dX1_value_30 : decode cX1_value 30 = .ok (.imul, 1) := by decide +kernel
theorem dX1_value_31 : decode cX1_value 31 = .ok (.iconst 3, 1) := by decide +kernel
theorem dX1_value_32 : decode cX1_value 32 = .ok (.iload_n 2, 1) := by decide +kernel
theorem dX1_value_33 : decode cX1_value 33 = .ok (.imul, 1) := by decide +kernel
theorem dX1_value_34 : decode cX1_value 34 = .ok (.iadd, 1) := by decide +kernel
theorem dX1_value_35 : decode cX1_value 35 = .ok (.iload_n 3, 1) := by decide +kernel
theorem dX1_value_36 : decode cX1_value 36 = .ok (.iadd, 1) := by decide +kernel
theorem dX1_value_37 : decode cX1_value 37 = .ok (.iaload, 1) := by decide +kernel
theorem dX1_value_38 : decode cX1_value 38 = .ok (.goto 4, 3) := by decide +kernel
theorem dX1_value_41 : decode cX1_value 41 = .ok (.iconst 0, 1) := by decide +kernel
theorem dX1_value_42 : decode cX1_value 42 = .ok (.ireturn, 1) := by decide +kernel
theorem dX1_count_0 : decode cX1_count 0 = .ok (.aload_n 0, 1) := by decide +kernel
theorem dX1_count_1 : decode cX1_count 1 = .ok (.iconst 0, 1) := by decide +kernel
theorem dX1_count_2 : decode cX1_count 2 = .ok (.putfield 42, 3) := by decide +kernel
theorem dX1_count_5 : decode cX1_count 5 = .ok (.iconst 0, 1) := by decide +kernel
theorem dX1_count_6 : decode cX1_count 6 = .ok (.istore_n 2, 1) := by decide +kernel
theorem dX1_count_7 : decode cX1_count 7 = .ok (.iconst 0, 1) := by decide +kernel
theorem dX1_count_8 : decode cX1_count 8 = .ok (.istore_n 3, 1) := by decide +kernel
theorem dX1_count_9 : decode cX1_count 9 = .ok (.iload_n 3, 1) := by decide +kernel
theorem dX1_count_10 : decode cX1_count 10 = .ok (.aload_n 0, 1) := by decide +kernel
theorem dX1_count_11 : decode cX1_count 11 = .ok (.getfield 58, 3) := by decide +kernel
theorem dX1_count_14 : decode cX1_count 14 = .ok (.if_icmp .ge 18, 3) := by decide +kernel
theorem dX1_count_17 : decode cX1_count 17 = .ok (.iload_n 2, 1) := by decide +kernel
theorem dX1_count_18 : decode cX1_count 18 = .ok (.aload_n 0, 1) := by decide +kernel
theorem dX1_count_19 : decode cX1_count 19 = .ok (.getfield 28, 3) := by decide +kernel
theorem dX1_count_22 : decode cX1_count 22 = .ok (.iload_n 3, 1) := by decide +kernel
theorem dX1_count_23 : decode cX1_count 23 = .ok (.iaload, 1) := by decide +kernel
theorem dX1_count_24 : decode cX1_count 24 = .ok (.iadd, 1) := by decide +kernel
theorem dX1_count_25 : decode cX1_count 25 = .ok (.istore_n 2, 1) := by decide +kernel
theorem dX1_count_26 : decode cX1_count 26 = .ok (.iinc 3 1, 3) := by decide +kernel
theorem dX1_count_29 : decode cX1_count 29 = .ok (.goto (-20), 3) := by decide +kernel
theorem dX1_count_32 : decode cX1_count 32 = .ok (.iload_n 1, 1) := by decide +kernel
theorem dX1_count_33 : decode cX1_count 33 = .ok (.tableswitch 57 0 4 #[35, 40, 45, 47, 52], 35) := by decide +kernel
theorem dX1_count_68 : decode cX1_count 68 = .ok (.aload_n 0, 1) := by decide +kernel
theorem dX1_count_69 : decode cX1_count 69 = .ok (.getfield 37, 3) := by decide +kernel
theorem dX1_count_72 : decode cX1_count 72 = .ok (.ireturn, 1) := by decide +kernel
theorem dX1_count_73 : decode cX1_count 73 = .ok (.aload_n 0, 1) := by decide +kernel
theorem dX1_count_74 : decode cX1_count 74 = .ok (.getfield 58, 3) := by decide +kernel
theorem dX1_count_77 : decode cX1_count 77 = .ok (.ireturn, 1) := by decide +kernel
theorem dX1_count_78 : decode cX1_count 78 = .ok (.iload_n 2, 1) := by decide +kernel
theorem dX1_count_79 : decode cX1_count 79 = .ok (.ireturn, 1) := by decide +kernel
theorem dX1_count_80 : decode cX1_count 80 = .ok (.aload_n 0, 1) := by decide +kernel
theorem dX1_count_81 : decode cX1_count 81 = .ok (.getfield 74, 3) := by decide +kernel
theorem dX1_count_84 : decode cX1_count 84 = .ok (.ireturn, 1) := by decide +kernel
theorem dX1_count_85 : decode cX1_count 85 = .ok (.aload_n 0, 1) := by decide +kernel
theorem dX1_count_86 : decode cX1_count 86 = .ok (.getfield 48, 3) := by decide +kernel
theorem dX1_count_89 : decode cX1_count 89 = .ok (.ireturn, 1) := by decide +kernel
theorem dX1_count_90 : decode cX1_count 90 = .ok (.iconst (-1), 1) := by decide +kernel
theorem dX1_count_91 : decode cX1_count 91 = .ok (.ireturn, 1) := by decide +kernel
theorem dX1_about_0 : decode cX1_about 0 = .ok (.aload_n 0, 1) := by decide +kernel
theorem dX1_about_1 : decode cX1_about 1 = .ok (.iconst 0, 1) := by decide +kernel
theorem dX1_about_2 : decode cX1_about 2 = .ok (.putfield 42, 3) := by decide +kernel
theorem dX1_about_5 : decode cX1_about 5 = .ok (.iload_n 1, 1) := by decide +kernel
theorem dX1_about_6 : decode cX1_about 6 = .ok (.ifCond .lt 11, 3) := by decide +kernel
theorem dX1_about_9 : decode cX1_about 9 = .ok (.iload_n 1, 1) := by decide +kernel
theorem dX1_about_10 : decode cX1_about 10 = .ok (.aload_n 0, 1) := by decide +kernel
theorem dX1_about_11 : decode cX1_about 11 = .ok (.getfield 58, 3) := by decide +kernel
theorem dX1_about_14 : decode cX1_about 14 = .ok (.if_icmp .lt 5, 3) := by decide +kernel
theorem dX1_about_17 : decode cX1_about 17 = .ok (.iconst (-1), 1) := by decide +kernel
theorem dX1_about_18 : decode cX1_about 18 = .ok (.ireturn, 1) := by decide +kernel
theorem dX1_about_19 : decode cX1_about 19 = .ok (.iload_n 2, 1) := by decide +kernel
theorem dX1_about_20 : decode cX1_about 20 = .ok (.ifCond .ne 12, 3) := by decide +kernel
theorem dX1_about_23 : decode cX1_about 23 = .ok (.aload_n 0, 1) := by decide +kernel
theorem dX1_about_24 : decode cX1_about 24 = .ok (.getfield 19, 3) := by decide +kernel
theorem dX1_about_27 : decode cX1_about 27 = .ok (.iload_n 1, 1) := by decide +kernel
theorem dX1_about_28 : decode cX1_about 28 = .ok (.iaload, 1) := by decide +kernel
theorem dX1_about_29 : decode cX1_about 29 = .ok (.goto 46, 3) := by decide +kernel
theorem dX1_about_32 : decode cX1_about 32 = .ok (.iload_n 2, 1) := by decide +kernel
theorem dX1_about_33 : decode cX1_about 33 = .ok (.iconst 1, 1) := by decide +kernel
theorem dX1_about_34 : decode cX1_about 34 = .ok (.if_icmp .ne 12, 3) := by decide +kernel
theorem dX1_about_37 : decode cX1_about 37 = .ok (.aload_n 0, 1) := by decide +kernel
theorem dX1_about_38 : decode cX1_about 38 = .ok (.getfield 22, 3) := by decide +kernel
theorem dX1_about_41 : decode cX1_about 41 = .ok (.iload_n 1, 1) := by decide +kernel
theorem dX1_about_42 : decode cX1_about 42 = .ok (.iaload, 1) := by decide +kernel
theorem dX1_about_43 : decode cX1_about 43 = .ok (.goto 32, 3) := by decide +kernel
theorem dX1_about_46 : decode cX1_about 46 = .ok (.iload_n 2, 1) := by decide +kernel
theorem dX1_about_47 : decode cX1_about 47 = .ok (.iconst 2, 1) := by decide +kernel
theorem dX1_about_48 : decode cX1_about 48 = .ok (.if_icmp .ne 12, 3) := by decide +kernel
theorem dX1_about_51 : decode cX1_about 51 = .ok (.aload_n 0, 1) := by decide +kernel
theorem dX1_about_52 : decode cX1_about 52 = .ok (.getfield 25, 3) := by decide +kernel
theorem dX1_about_55 : decode cX1_about 55 = .ok (.iload_n 1, 1) := by decide +kernel
theorem dX1_about_56 : decode cX1_about 56 = .ok (.iaload, 1) := by decide +kernel
theorem dX1_about_57 : decode cX1_about 57 = .ok (.goto 18, 3) := by decide +kernel
theorem dX1_about_60 : decode cX1_about 60 = .ok (.iload_n 2, 1) := by decide +kernel
theorem dX1_about_61 : decode cX1_about 61 = .ok (.iconst 3, 1) := by decide +kernel
theorem dX1_about_62 : decode cX1_about 62 = .ok (.if_icmp .ne 12, 3) := by decide +kernel
theorem dX1_about_65 : decode cX1_about 65 = .ok (.aload_n 0, 1) := by decide +kernel
theorem dX1_about_66 : decode cX1_about 66 = .ok (.getfield 28, 3) := by decide +kernel
theorem dX1_about_69 : decode cX1_about 69 = .ok (.iload_n 1, 1) := by decide +kernel
theorem dX1_about_70 : decode cX1_about 70 = .ok (.iaload, 1) := by decide +kernel
theorem dX1_about_71 : decode cX1_about 71 = .ok (.goto 4, 3) := by decide +kernel
theorem dX1_about_74 : decode cX1_about 74 = .ok (.iconst (-1), 1) := by decide +kernel
theorem dX1_about_75 : decode cX1_about 75 = .ok (.ireturn, 1) := by decide +kernel
theorem dX1_clear_0 : decode cX1_clear 0 = .ok (.aload_n 0, 1) := by decide +kernel
theorem dX1_clear_1 : decode cX1_clear 1 = .ok (.iconst 0, 1) := by decide +kernel
theorem dX1_clear_2 : decode cX1_clear 2 = .ok (.putfield 42, 3) := by decide +kernel
theorem dX1_clear_5 : decode cX1_clear 5 = .ok (.aload_n 0, 1) := by decide +kernel
theorem dX1_clear_6 : decode cX1_clear 6 = .ok (.iconst 0, 1) := by decide +kernel
theorem dX1_clear_7 : decode cX1_clear 7 = .ok (.putfield 58, 3) := by decide +kernel
theorem dX1_clear_10 : decode cX1_clear 10 = .ok (.return_, 1) := by decide +kernel
theorem dL_cell_0 : decode cL_cell 0 = .ok (.iload_n 1, 1) := by decide +kernel
theorem dL_cell_1 : decode cL_cell 1 = .ok (.aload_n 0, 1) := by decide +kernel
theorem dL_cell_2 : decode cL_cell 2 = .ok (.arraylength, 1) := by decide +kernel
theorem dL_cell_3 : decode cL_cell 3 = .ok (.if_icmp .ge 9, 3) := by decide +kernel
theorem dL_cell_6 : decode cL_cell 6 = .ok (.aload_n 0, 1) := by decide +kernel
theorem dL_cell_7 : decode cL_cell 7 = .ok (.iload_n 1, 1) := by decide +kernel
theorem dL_cell_8 : decode cL_cell 8 = .ok (.iaload, 1) := by decide +kernel
theorem dL_cell_9 : decode cL_cell 9 = .ok (.goto 4, 3) := by decide +kernel
theorem dL_cell_12 : decode cL_cell 12 = .ok (.iconst 0, 1) := by decide +kernel
theorem dL_cell_13 : decode cL_cell 13 = .ok (.ireturn, 1) := by decide +kernel
theorem dL_law_0 : decode cL_law 0 = .ok (.new 7, 3) := by decide +kernel
theorem dL_law_3 : decode cL_law 3 = .ok (.dup, 1) := by decide +kernel
theorem dL_law_4 : decode cL_law 4 = .ok (.aload_n 0, 1) := by decide +kernel
theorem dL_law_5 : decode cL_law 5 = .ok (.iconst 0, 1) := by decide +kernel
theorem dL_law_6 : decode cL_law 6 = .ok (.invokestatic 9, 3) := by decide +kernel
theorem dL_law_9 : decode cL_law 9 = .ok (.invokespecial 15, 3) := by decide +kernel
theorem dL_law_12 : decode cL_law 12 = .ok (.astore_n 1, 1) := by decide +kernel
theorem dL_law_13 : decode cL_law 13 = .ok (.new 18, 3) := by decide +kernel
theorem dL_law_16 : decode cL_law 16 = .ok (.dup, 1) := by decide +kernel
theorem dL_law_17 : decode cL_law 17 = .ok (.aload_n 0, 1) := by decide +kernel
theorem dL_law_18 : decode cL_law 18 = .ok (.iconst 0, 1) := by decide +kernel
theorem dL_law_19 : decode cL_law 19 = .ok (.invokestatic 9, 3) := by decide +kernel
theorem dL_law_22 : decode cL_law 22 = .ok (.invokespecial 20, 3) := by decide +kernel
theorem dL_law_25 : decode cL_law 25 = .ok (.astore_n 2, 1) := by decide +kernel
theorem dL_law_26 : decode cL_law 26 = .ok (.iconst 1, 1) := by decide +kernel
theorem dL_law_27 : decode cL_law 27 = .ok (.istore_n 3, 1) := by decide +kernel
theorem dL_law_28 : decode cL_law 28 = .ok (.iload_n 3, 1) := by decide +kernel
theorem dL_law_29 : decode cL_law 29 = .ok (.aload_n 0, 1) := by decide +kernel
theorem dL_law_30 : decode cL_law 30 = .ok (.arraylength, 1) := by decide +kernel
theorem dL_law_31 : decode cL_law 31 = .ok (.bipush 6, 2) := by decide +kernel
theorem dL_law_33 : decode cL_law 33 = .ok (.isub, 1) := by decide +kernel
theorem dL_law_34 : decode cL_law 34 = .ok (.if_icmp .gt 352, 3) := by decide +kernel
theorem dL_law_37 : decode cL_law 37 = .ok (.aload_n 0, 1) := by decide +kernel
theorem dL_law_38 : decode cL_law 38 = .ok (.iload_n 3, 1) := by decide +kernel
theorem dL_law_39 : decode cL_law 39 = .ok (.iaload, 1) := by decide +kernel
theorem dL_law_40 : decode cL_law 40 = .ok (.bipush 7, 2) := by decide +kernel
theorem dL_law_42 : decode cL_law 42 = .ok (.iand, 1) := by decide +kernel
theorem dL_law_43 : decode cL_law 43 = .ok (.tableswitch 337 0 7 #[45, 98, 141, 204, 227, 270, 293, 326], 45) := by decide +kernel
theorem dL_law_88 : decode cL_law 88 = .ok (.aload_n 1, 1) := by decide +kernel
theorem dL_law_89 : decode cL_law 89 = .ok (.aload_n 0, 1) := by decide +kernel
theorem dL_law_90 : decode cL_law 90 = .ok (.iload_n 3, 1) := by decide +kernel
theorem dL_law_91 : decode cL_law 91 = .ok (.iconst 1, 1) := by decide +kernel
theorem dL_law_92 : decode cL_law 92 = .ok (.iadd, 1) := by decide +kernel
theorem dL_law_93 : decode cL_law 93 = .ok (.iaload, 1) := by decide +kernel
theorem dL_law_94 : decode cL_law 94 = .ok (.aload_n 0, 1) := by decide +kernel
theorem dL_law_95 : decode cL_law 95 = .ok (.iload_n 3, 1) := by decide +kernel
theorem dL_law_96 : decode cL_law 96 = .ok (.iconst 2, 1) := by decide +kernel
theorem dL_law_97 : decode cL_law 97 = .ok (.iadd, 1) := by decide +kernel
theorem dL_law_98 : decode cL_law 98 = .ok (.iaload, 1) := by decide +kernel
theorem dL_law_99 : decode cL_law 99 = .ok (.aload_n 0, 1) := by decide +kernel
theorem dL_law_100 : decode cL_law 100 = .ok (.iload_n 3, 1) := by decide +kernel
theorem dL_law_101 : decode cL_law 101 = .ok (.iconst 3, 1) := by decide +kernel
theorem dL_law_102 : decode cL_law 102 = .ok (.iadd, 1) := by decide +kernel
theorem dL_law_103 : decode cL_law 103 = .ok (.iaload, 1) := by decide +kernel
theorem dL_law_104 : decode cL_law 104 = .ok (.aload_n 0, 1) := by decide +kernel
theorem dL_law_105 : decode cL_law 105 = .ok (.iload_n 3, 1) := by decide +kernel
theorem dL_law_106 : decode cL_law 106 = .ok (.iconst 4, 1) := by decide +kernel
theorem dL_law_107 : decode cL_law 107 = .ok (.iadd, 1) := by decide +kernel
theorem dL_law_108 : decode cL_law 108 = .ok (.iaload, 1) := by decide +kernel
theorem dL_law_109 : decode cL_law 109 = .ok (.invokevirtual 21, 3) := by decide +kernel
theorem dL_law_112 : decode cL_law 112 = .ok (.aload_n 2, 1) := by decide +kernel
theorem dL_law_113 : decode cL_law 113 = .ok (.aload_n 0, 1) := by decide +kernel
theorem dL_law_114 : decode cL_law 114 = .ok (.iload_n 3, 1) := by decide +kernel
theorem dL_law_115 : decode cL_law 115 = .ok (.iconst 1, 1) := by decide +kernel
theorem dL_law_116 : decode cL_law 116 = .ok (.iadd, 1) := by decide +kernel
theorem dL_law_117 : decode cL_law 117 = .ok (.iaload, 1) := by decide +kernel
theorem dL_law_118 : decode cL_law 118 = .ok (.aload_n 0, 1) := by decide +kernel
theorem dL_law_119 : decode cL_law 119 = .ok (.iload_n 3, 1) := by decide +kernel
theorem dL_law_120 : decode cL_law 120 = .ok (.iconst 2, 1) := by decide +kernel
theorem dL_law_121 : decode cL_law 121 = .ok (.iadd, 1) := by decide +kernel
theorem dL_law_122 : decode cL_law 122 = .ok (.iaload, 1) := by decide +kernel
theorem dL_law_123 : decode cL_law 123 = .ok (.aload_n 0, 1) := by decide +kernel
theorem dL_law_124 : decode cL_law 124 = .ok (.iload_n 3, 1) := by decide +kernel
theorem dL_law_125 : decode cL_law 125 = .ok (.iconst 3, 1) := by decide +kernel
theorem dL_law_126 : decode cL_law 126 = .ok (.iadd, 1) := by decide +kernel
theorem dL_law_127 : decode cL_law 127 = .ok (.iaload, 1) := by decide +kernel
theorem dL_law_128 : decode cL_law 128 = .ok (.aload_n 0, 1) := by decide +kernel
theorem dL_law_129 : decode cL_law 129 = .ok (.iload_n 3, 1) := by decide +kernel
theorem dL_law_130 : decode cL_law 130 = .ok (.iconst 4, 1) := by decide +kernel
theorem dL_law_131 : decode cL_law 131 = .ok (.iadd, 1) := by decide +kernel
theorem dL_law_132 : decode cL_law 132 = .ok (.iaload, 1) := by decide +kernel
theorem dL_law_133 : decode cL_law 133 = .ok (.invokevirtual 25, 3) := by decide +kernel
theorem dL_law_136 : decode cL_law 136 = .ok (.if_icmp .eq 244, 3) := by decide +kernel
theorem dL_law_139 : decode cL_law 139 = .ok (.iconst 0, 1) := by decide +kernel
theorem dL_law_140 : decode cL_law 140 = .ok (.ireturn, 1) := by decide +kernel
theorem dL_law_141 : decode cL_law 141 = .ok (.aload_n 1, 1) := by decide +kernel
theorem dL_law_142 : decode cL_law 142 = .ok (.aload_n 0, 1) := by decide +kernel
theorem dL_law_143 : decode cL_law 143 = .ok (.iload_n 3, 1) := by decide +kernel
theorem dL_law_144 : decode cL_law 144 = .ok (.iconst 1, 1) := by decide +kernel
theorem dL_law_145 : decode cL_law 145 = .ok (.iadd, 1) := by decide +kernel
theorem dL_law_146 : decode cL_law 146 = .ok (.iaload, 1) := by decide +kernel
theorem dL_law_147 : decode cL_law 147 = .ok (.aload_n 0, 1) := by decide +kernel
theorem dL_law_148 : decode cL_law 148 = .ok (.iload_n 3, 1) := by decide +kernel
theorem dL_law_149 : decode cL_law 149 = .ok (.iconst 2, 1) := by decide +kernel
theorem dL_law_150 : decode cL_law 150 = .ok (.iadd, 1) := by decide +kernel
theorem dL_law_151 : decode cL_law 151 = .ok (.iaload, 1) := by decide +kernel
theorem dL_law_152 : decode cL_law 152 = .ok (.aload_n 0, 1) := by decide +kernel
theorem dL_law_153 : decode cL_law 153 = .ok (.iload_n 3, 1) := by decide +kernel
theorem dL_law_154 : decode cL_law 154 = .ok (.iconst 3, 1) := by decide +kernel
theorem dL_law_155 : decode cL_law 155 = .ok (.iadd, 1) := by decide +kernel
theorem dL_law_156 : decode cL_law 156 = .ok (.iaload, 1) := by decide +kernel
theorem dL_law_157 : decode cL_law 157 = .ok (.invokevirtual 26, 3) := by decide +kernel
theorem dL_law_160 : decode cL_law 160 = .ok (.aload_n 2, 1) := by decide +kernel
theorem dL_law_161 : decode cL_law 161 = .ok (.aload_n 0, 1) := by decide +kernel
theorem dL_law_162 : decode cL_law 162 = .ok (.iload_n 3, 1) := by decide +kernel
theorem dL_law_163 : decode cL_law 163 = .ok (.iconst 1, 1) := by decide +kernel
theorem dL_law_164 : decode cL_law 164 = .ok (.iadd, 1) := by decide +kernel
theorem dL_law_165 : decode cL_law 165 = .ok (.iaload, 1) := by decide +kernel
theorem dL_law_166 : decode cL_law 166 = .ok (.aload_n 0, 1) := by decide +kernel
theorem dL_law_167 : decode cL_law 167 = .ok (.iload_n 3, 1) := by decide +kernel
theorem dL_law_168 : decode cL_law 168 = .ok (.iconst 2, 1) := by decide +kernel
theorem dL_law_169 : decode cL_law 169 = .ok (.iadd, 1) := by decide +kernel
theorem dL_law_170 : decode cL_law 170 = .ok (.iaload, 1) := by decide +kernel
theorem dL_law_171 : decode cL_law 171 = .ok (.aload_n 0, 1) := by decide +kernel
theorem dL_law_172 : decode cL_law 172 = .ok (.iload_n 3, 1) := by decide +kernel
theorem dL_law_173 : decode cL_law 173 = .ok (.iconst 3, 1) := by decide +kernel
theorem dL_law_174 : decode cL_law 174 = .ok (.iadd, 1) := by decide +kernel
theorem dL_law_175 : decode cL_law 175 = .ok (.iaload, 1) := by decide +kernel
theorem dL_law_176 : decode cL_law 176 = .ok (.invokevirtual 30, 3) := by decide +kernel
theorem dL_law_179 : decode cL_law 179 = .ok (.if_icmp .eq 201, 3) := by decide +kernel
theorem dL_law_182 : decode cL_law 182 = .ok (.iconst 0, 1) := by decide +kernel
theorem dL_law_183 : decode cL_law 183 = .ok (.ireturn, 1) := by decide +kernel
theorem dL_law_184 : decode cL_law 184 = .ok (.aload_n 1, 1) := by decide +kernel
theorem dL_law_185 : decode cL_law 185 = .ok (.aload_n 0, 1) := by decide +kernel
theorem dL_law_186 : decode cL_law 186 = .ok (.iload_n 3, 1) := by decide +kernel
theorem dL_law_187 : decode cL_law 187 = .ok (.iconst 1, 1) := by decide +kernel
theorem dL_law_188 : decode cL_law 188 = .ok (.iadd, 1) := by decide +kernel
theorem dL_law_189 : decode cL_law 189 = .ok (.iaload, 1) := by decide +kernel
theorem dL_law_190 : decode cL_law 190 = .ok (.aload_n 0, 1) := by decide +kernel
theorem dL_law_191 : decode cL_law 191 = .ok (.iload_n 3, 1) := by decide +kernel
theorem dL_law_192 : decode cL_law 192 = .ok (.iconst 2, 1) := by decide +kernel
theorem dL_law_193 : decode cL_law 193 = .ok (.iadd, 1) := by decide +kernel
theorem dL_law_194 : decode cL_law 194 = .ok (.iaload, 1) := by decide +kernel
theorem dL_law_195 : decode cL_law 195 = .ok (.aload_n 0, 1) := by decide +kernel
theorem dL_law_196 : decode cL_law 196 = .ok (.iload_n 3, 1) := by decide +kernel
theorem dL_law_197 : decode cL_law 197 = .ok (.iconst 3, 1) := by decide +kernel
theorem dL_law_198 : decode cL_law 198 = .ok (.iadd, 1) := by decide +kernel
theorem dL_law_199 : decode cL_law 199 = .ok (.iaload, 1) := by decide +kernel
theorem dL_law_200 : decode cL_law 200 = .ok (.aload_n 0, 1) := by decide +kernel
theorem dL_law_201 : decode cL_law 201 = .ok (.iload_n 3, 1) := by decide +kernel
theorem dL_law_202 : decode cL_law 202 = .ok (.iconst 4, 1) := by decide +kernel
theorem dL_law_203 : decode cL_law 203 = .ok (.iadd, 1) := by decide +kernel
theorem dL_law_204 : decode cL_law 204 = .ok (.iaload, 1) := by decide +kernel
theorem dL_law_205 : decode cL_law 205 = .ok (.aload_n 0, 1) := by decide +kernel
theorem dL_law_206 : decode cL_law 206 = .ok (.iload_n 3, 1) := by decide +kernel
theorem dL_law_207 : decode cL_law 207 = .ok (.iconst 5, 1) := by decide +kernel
theorem dL_law_208 : decode cL_law 208 = .ok (.iadd, 1) := by decide +kernel
theorem dL_law_209 : decode cL_law 209 = .ok (.iaload, 1) := by decide +kernel
theorem dL_law_210 : decode cL_law 210 = .ok (.invokevirtual 31, 3) := by decide +kernel
theorem dL_law_213 : decode cL_law 213 = .ok (.aload_n 2, 1) := by decide +kernel
theorem dL_law_214 : decode cL_law 214 = .ok (.aload_n 0, 1) := by decide +kernel
theorem dL_law_215 : decode cL_law 215 = .ok (.iload_n 3, 1) := by decide +kernel
theorem dL_law_216 : decode cL_law 216 = .ok (.iconst 1, 1) := by decide +kernel
theorem dL_law_217 : decode cL_law 217 = .ok (.iadd, 1) := by decide +kernel
theorem dL_law_218 : decode cL_law 218 = .ok (.iaload, 1) := by decide +kernel
theorem dL_law_219 : decode cL_law 219 = .ok (.aload_n 0, 1) := by decide +kernel
theorem dL_law_220 : decode cL_law 220 = .ok (.iload_n 3, 1) := by decide +kernel
theorem dL_law_221 : decode cL_law 221 = .ok (.iconst 2, 1) := by decide +kernel
theorem dL_law_222 : decode cL_law 222 = .ok (.iadd, 1) := by decide +kernel
theorem dL_law_223 : decode cL_law 223 = .ok (.iaload, 1) := by decide +kernel
theorem dL_law_224 : decode cL_law 224 = .ok (.aload_n 0, 1) := by decide +kernel
theorem dL_law_225 : decode cL_law 225 = .ok (.iload_n 3, 1) := by decide +kernel
theorem dL_law_226 : decode cL_law 226 = .ok (.iconst 3, 1) := by decide +kernel
theorem dL_law_227 : decode cL_law 227 = .ok (.iadd, 1) := by decide +kernel
theorem dL_law_228 : decode cL_law 228 = .ok (.iaload, 1) := by decide +kernel
theorem dL_law_229 : decode cL_law 229 = .ok (.aload_n 0, 1) := by decide +kernel
theorem dL_law_230 : decode cL_law 230 = .ok (.iload_n 3, 1) := by decide +kernel
theorem dL_law_231 : decode cL_law 231 = .ok (.iconst 4, 1) := by decide +kernel
theorem dL_law_232 : decode cL_law 232 = .ok (.iadd, 1) := by decide +kernel
theorem dL_law_233 : decode cL_law 233 = .ok (.iaload, 1) := by decide +kernel
theorem dL_law_234 : decode cL_law 234 = .ok (.aload_n 0, 1) := by decide +kernel
theorem dL_law_235 : decode cL_law 235 = .ok (.iload_n 3, 1) := by decide +kernel
theorem dL_law_236 : decode cL_law 236 = .ok (.iconst 5, 1) := by decide +kernel
theorem dL_law_237 : decode cL_law 237 = .ok (.iadd, 1) := by decide +kernel
theorem dL_law_238 : decode cL_law 238 = .ok (.iaload, 1) := by decide +kernel
theorem dL_law_239 : decode cL_law 239 = .ok (.invokevirtual 35, 3) := by decide +kernel
theorem dL_law_242 : decode cL_law 242 = .ok (.if_icmp .eq 138, 3) := by decide +kernel
theorem dL_law_245 : decode cL_law 245 = .ok (.iconst 0, 1) := by decide +kernel
theorem dL_law_246 : decode cL_law 246 = .ok (.ireturn, 1) := by decide +kernel
theorem dL_law_247 : decode cL_law 247 = .ok (.aload_n 1, 1) := by decide +kernel
theorem dL_law_248 : decode cL_law 248 = .ok (.aload_n 0, 1) := by decide +kernel
theorem dL_law_249 : decode cL_law 249 = .ok (.iload_n 3, 1) := by decide +kernel
theorem dL_law_250 : decode cL_law 250 = .ok (.iconst 1, 1) := by decide +kernel
theorem dL_law_251 : decode cL_law 251 = .ok (.iadd, 1) := by decide +kernel
theorem dL_law_252 : decode cL_law 252 = .ok (.iaload, 1) := by decide +kernel
theorem dL_law_253 : decode cL_law 253 = .ok (.invokevirtual 36, 3) := by decide +kernel
theorem dL_law_256 : decode cL_law 256 = .ok (.aload_n 2, 1) := by decide +kernel
theorem dL_law_257 : decode cL_law 257 = .ok (.aload_n 0, 1) := by decide +kernel
theorem dL_law_258 : decode cL_law 258 = .ok (.iload_n 3, 1) := by decide +kernel
theorem dL_law_259 : decode cL_law 259 = .ok (.iconst 1, 1) := by decide +kernel
theorem dL_law_260 : decode cL_law 260 = .ok (.iadd, 1) := by decide +kernel
theorem dL_law_261 : decode cL_law 261 = .ok (.iaload, 1) := by decide +kernel
theorem dL_law_262 : decode cL_law 262 = .ok (.invokevirtual 40, 3) := by decide +kernel
theorem dL_law_265 : decode cL_law 265 = .ok (.if_icmp .eq 115, 3) := by decide +kernel
theorem dL_law_268 : decode cL_law 268 = .ok (.iconst 0, 1) := by decide +kernel
theorem dL_law_269 : decode cL_law 269 = .ok (.ireturn, 1) := by decide +kernel
theorem dL_law_270 : decode cL_law 270 = .ok (.aload_n 1, 1) := by decide +kernel
theorem dL_law_271 : decode cL_law 271 = .ok (.aload_n 0, 1) := by decide +kernel
theorem dL_law_272 : decode cL_law 272 = .ok (.iload_n 3, 1) := by decide +kernel
theorem dL_law_273 : decode cL_law 273 = .ok (.iconst 1, 1) := by decide +kernel
theorem dL_law_274 : decode cL_law 274 = .ok (.iadd, 1) := by decide +kernel
theorem dL_law_275 : decode cL_law 275 = .ok (.iaload, 1) := by decide +kernel
theorem dL_law_276 : decode cL_law 276 = .ok (.aload_n 0, 1) := by decide +kernel
theorem dL_law_277 : decode cL_law 277 = .ok (.iload_n 3, 1) := by decide +kernel
theorem dL_law_278 : decode cL_law 278 = .ok (.iconst 2, 1) := by decide +kernel
theorem dL_law_279 : decode cL_law 279 = .ok (.iadd, 1) := by decide +kernel
theorem dL_law_280 : decode cL_law 280 = .ok (.iaload, 1) := by decide +kernel
theorem dL_law_281 : decode cL_law 281 = .ok (.aload_n 0, 1) := by decide +kernel
theorem dL_law_282 : decode cL_law 282 = .ok (.iload_n 3, 1) := by decide +kernel
theorem dL_law_283 : decode cL_law 283 = .ok (.iconst 3, 1) := by decide +kernel
theorem dL_law_284 : decode cL_law 284 = .ok (.iadd, 1) := by decide +kernel
theorem dL_law_285 : decode cL_law 285 = .ok (.iaload, 1) := by decide +kernel
theorem dL_law_286 : decode cL_law 286 = .ok (.invokevirtual 41, 3) := by decide +kernel
theorem dL_law_289 : decode cL_law 289 = .ok (.aload_n 2, 1) := by decide +kernel
theorem dL_law_290 : decode cL_law 290 = .ok (.aload_n 0, 1) := by decide +kernel
theorem dL_law_291 : decode cL_law 291 = .ok (.iload_n 3, 1) := by decide +kernel
theorem dL_law_292 : decode cL_law 292 = .ok (.iconst 1, 1) := by decide +kernel
theorem dL_law_293 : decode cL_law 293 = .ok (.iadd, 1) := by decide +kernel
theorem dL_law_294 : decode cL_law 294 = .ok (.iaload, 1) := by decide +kernel
theorem dL_law_295 : decode cL_law 295 = .ok (.aload_n 0, 1) := by decide +kernel
theorem dL_law_296 : decode cL_law 296 = .ok (.iload_n 3, 1) := by decide +kernel
theorem dL_law_297 : decode cL_law 297 = .ok (.iconst 2, 1) := by decide +kernel
theorem dL_law_298 : decode cL_law 298 = .ok (.iadd, 1) := by decide +kernel
theorem dL_law_299 : decode cL_law 299 = .ok (.iaload, 1) := by decide +kernel
theorem dL_law_300 : decode cL_law 300 = .ok (.aload_n 0, 1) := by decide +kernel
theorem dL_law_301 : decode cL_law 301 = .ok (.iload_n 3, 1) := by decide +kernel
theorem dL_law_302 : decode cL_law 302 = .ok (.iconst 3, 1) := by decide +kernel
theorem dL_law_303 : decode cL_law 303 = .ok (.iadd, 1) := by decide +kernel
theorem dL_law_304 : decode cL_law 304 = .ok (.iaload, 1) := by decide +kernel
theorem dL_law_305 : decode cL_law 305 = .ok (.invokevirtual 44, 3) := by decide +kernel
theorem dL_law_308 : decode cL_law 308 = .ok (.if_icmp .eq 72, 3) := by decide +kernel
theorem dL_law_311 : decode cL_law 311 = .ok (.iconst 0, 1) := by decide +kernel
theorem dL_law_312 : decode cL_law 312 = .ok (.ireturn, 1) := by decide +kernel
theorem dL_law_313 : decode cL_law 313 = .ok (.aload_n 1, 1) := by decide +kernel
theorem dL_law_314 : decode cL_law 314 = .ok (.aload_n 0, 1) := by decide +kernel
theorem dL_law_315 : decode cL_law 315 = .ok (.iload_n 3, 1) := by decide +kernel
theorem dL_law_316 : decode cL_law 316 = .ok (.iconst 1, 1) := by decide +kernel
theorem dL_law_317 : decode cL_law 317 = .ok (.iadd, 1) := by decide +kernel
theorem dL_law_318 : decode cL_law 318 = .ok (.iaload, 1) := by decide +kernel
theorem dL_law_319 : decode cL_law 319 = .ok (.invokevirtual 45, 3) := by decide +kernel
theorem dL_law_322 : decode cL_law 322 = .ok (.aload_n 2, 1) := by decide +kernel
theorem dL_law_323 : decode cL_law 323 = .ok (.aload_n 0, 1) := by decide +kernel
theorem dL_law_324 : decode cL_law 324 = .ok (.iload_n 3, 1) := by decide +kernel
theorem dL_law_325 : decode cL_law 325 = .ok (.iconst 1, 1) := by decide +kernel
theorem dL_law_326 : decode cL_law 326 = .ok (.iadd, 1) := by decide +kernel
theorem dL_law_327 : decode cL_law 327 = .ok (.iaload, 1) := by decide +kernel
theorem dL_law_328 : decode cL_law 328 = .ok (.invokevirtual 49, 3) := by decide +kernel
theorem dL_law_331 : decode cL_law 331 = .ok (.if_icmp .eq 49, 3) := by decide +kernel
theorem dL_law_334 : decode cL_law 334 = .ok (.iconst 0, 1) := by decide +kernel
theorem dL_law_335 : decode cL_law 335 = .ok (.ireturn, 1) := by decide +kernel
theorem dL_law_336 : decode cL_law 336 = .ok (.aload_n 1, 1) := by decide +kernel
theorem dL_law_337 : decode cL_law 337 = .ok (.aload_n 0, 1) := by decide +kernel
theorem dL_law_338 : decode cL_law 338 = .ok (.iload_n 3, 1) := by decide +kernel
theorem dL_law_339 : decode cL_law 339 = .ok (.iconst 1, 1) := by decide +kernel
theorem dL_law_340 : decode cL_law 340 = .ok (.iadd, 1) := by decide +kernel
theorem dL_law_341 : decode cL_law 341 = .ok (.iaload, 1) := by decide +kernel
theorem dL_law_342 : decode cL_law 342 = .ok (.aload_n 0, 1) := by decide +kernel
theorem dL_law_343 : decode cL_law 343 = .ok (.iload_n 3, 1) := by decide +kernel
theorem dL_law_344 : decode cL_law 344 = .ok (.iconst 2, 1) := by decide +kernel
theorem dL_law_345 : decode cL_law 345 = .ok (.iadd, 1) := by decide +kernel
theorem dL_law_346 : decode cL_law 346 = .ok (.iaload, 1) := by decide +kernel
theorem dL_law_347 : decode cL_law 347 = .ok (.invokevirtual 50, 3) := by decide +kernel
theorem dL_law_350 : decode cL_law 350 = .ok (.aload_n 2, 1) := by decide +kernel
theorem dL_law_351 : decode cL_law 351 = .ok (.aload_n 0, 1) := by decide +kernel
theorem dL_law_352 : decode cL_law 352 = .ok (.iload_n 3, 1) := by decide +kernel
theorem dL_law_353 : decode cL_law 353 = .ok (.iconst 1, 1) := by decide +kernel
theorem dL_law_354 : decode cL_law 354 = .ok (.iadd, 1) := by decide +kernel
theorem dL_law_355 : decode cL_law 355 = .ok (.iaload, 1) := by decide +kernel
theorem dL_law_356 : decode cL_law 356 = .ok (.aload_n 0, 1) := by decide +kernel
theorem dL_law_357 : decode cL_law 357 = .ok (.iload_n 3, 1) := by decide +kernel
theorem dL_law_358 : decode cL_law 358 = .ok (.iconst 2, 1) := by decide +kernel
theorem dL_law_359 : decode cL_law 359 = .ok (.iadd, 1) := by decide +kernel
theorem dL_law_360 : decode cL_law 360 = .ok (.iaload, 1) := by decide +kernel
theorem dL_law_361 : decode cL_law 361 = .ok (.invokevirtual 54, 3) := by decide +kernel
theorem dL_law_364 : decode cL_law 364 = .ok (.if_icmp .eq 16, 3) := by decide +kernel
theorem dL_law_367 : decode cL_law 367 = .ok (.iconst 0, 1) := by decide +kernel
theorem dL_law_368 : decode cL_law 368 = .ok (.ireturn, 1) := by decide +kernel
theorem dL_law_369 : decode cL_law 369 = .ok (.aload_n 1, 1) := by decide +kernel
theorem dL_law_370 : decode cL_law 370 = .ok (.invokevirtual 55, 3) := by decide +kernel
theorem dL_law_373 : decode cL_law 373 = .ok (.aload_n 2, 1) := by decide +kernel
theorem dL_law_374 : decode cL_law 374 = .ok (.invokevirtual 58, 3) := by decide +kernel
theorem dL_law_377 : decode cL_law 377 = .ok (.goto 3, 3) := by decide +kernel
theorem dL_law_380 : decode cL_law 380 = .ok (.iinc 3 6, 3) := by decide +kernel
theorem dL_law_383 : decode cL_law 383 = .ok (.goto (-355), 3) := by decide +kernel
theorem dL_law_386 : decode cL_law 386 = .ok (.iconst 1, 1) := by decide +kernel
theorem dL_law_387 : decode cL_law 387 = .ok (.ireturn, 1) := by decide +kernel
end
section
section TP
variable {p : Program} {l : Launch} {e : Env} {R : Room} {s : State} {m : MethodId} {args : Array Value} {below : List Frame} {meth : Method} {c : Code} {H : Heap} {locs : List Loc} {cells slots : Nat} {Q : State → Prop} {pc : Nat} {ls : Array Slot} {rest : List Value}
/-- the number on top under another name -/
theorem tp_i {x y : Int32} (h : x = y) (k : W p l e R s m args below meth c H locs cells slots Q (F0 m pc ls (.int y :: rest))) : W p l e R s m args below meth c H locs cells slots Q (F0 m pc ls (.int x :: rest)) := by
  rw [h]; exact k
theorem tp_l {x y : Int64} (h : x = y) (k : W p l e R s m args below meth c H locs cells slots Q (F0 m pc ls (.long y :: rest))) : W p l e R s m args below meth c H locs cells slots Q (F0 m pc ls (.long x :: rest)) := by
  rw [h]; exact k
end TP
-- compares of ints, as integers
theorem zlt {a b : Int32} (h : a < b) : a.toInt < b.toInt := Int32.lt_iff_toInt_lt.mp h
theorem znlt {a b : Int32} (h : ¬ a < b) : b.toInt ≤ a.toInt := by
  rw [Int32.lt_iff_toInt_lt] at h; omega
theorem zle {a b : Int32} (h : a ≤ b) : a.toInt ≤ b.toInt := Int32.le_iff_toInt_le.mp h
theorem znle {a b : Int32} (h : ¬ a ≤ b) : b.toInt < a.toInt := by
  rw [Int32.le_iff_toInt_le] at h; omega
theorem zeq {a b : Int32} (h : a = b) : a.toInt = b.toInt := by rw [h]
theorem zne {a b : Int32} (h : ¬ a = b) : a.toInt ≠ b.toInt := fun q => h (Int32.toInt_inj.mp q)
theorem z_0 : (0 : Int32).toInt = 0 := by decide
theorem z_m1 : (-1 : Int32).toInt = -1 := by decide
theorem z_neg {a : Int32} (h : 0 ≤ a.toInt) : (-a).toInt = -a.toInt := by
  have h2 := Int32.toInt_lt a
  rw [Int32.toInt_neg, Int.bmod_eq_of_le (by omega) (by omega)]
/-- a truth as the machine has it -/
theorem bt1 {P : Prop} (h : P) : (nI 1 = 0 ↔ ¬ P) := ⟨fun h1 => absurd h1 (by decide), fun h2 => absurd h h2⟩
theorem bt0 {P : Prop} (h : ¬ P) : (nI 0 = 0 ↔ ¬ P) := ⟨fun _ => h, fun _ => by decide⟩
theorem btT {P : Prop} {r : Int32} (h : r = 0 ↔ ¬ P) (c : ¬ r = 0) : P := Classical.byContradiction fun q => c (h.mpr q)
theorem btF {P : Prop} {r : Int32} (h : r = 0 ↔ ¬ P) (c : r = 0) : ¬ P := h.mp c
/-- an int in a range is nI of a number -/
theorem z_nat {x : Int32} (h : 0 ≤ x.toInt) : x = nI x.toInt.toNat := by
  have h2 := Int32.toInt_lt x
  apply Int32.toInt_inj.mp
  rw [nI_toInt (by omega)]; omega
theorem z_in {x : Int32} {n : Nat} (h : 0 ≤ x.toInt) (h2 : x.toInt < n) : ∃ j : Nat, j < n ∧ x = nI j := ⟨x.toInt.toNat, by omega, z_nat h⟩
theorem z_in1 {x : Int32} {n : Nat} (h : 1 ≤ x.toInt) (h2 : x.toInt ≤ n) : ∃ j : Nat, 1 ≤ j ∧ j ≤ n ∧ x = nI j := ⟨x.toInt.toNat, by omega, by omega, z_nat (by omega)⟩
-- three numbers side by side
def put3 (f : Nat → Int32) (k : Nat) (x y z : Int32) : Nat → Int32 := upd (upd (upd f k x) (k + 1) y) (k + 2) z
-- joining a callee's one cell into the caller's world
theorem wj_1 {A : Nat → Prop} {D : va_G} {cl : List vw_C} {ws : va_W} {H H1 : Heap} {a k : Nat} {e0 e : va_E} (hP : va_P D cl ws H) (hD : va_D A ws) (hk : ws[k]? = some (a, e0)) (hk1 : ∀ q : Nat, q < H.size → ¬ va_A [(a, e0)] H.size q → H1[q]? = H[q]?) (hP1 : va_P D cl [(a, e)] H1) : va_P D cl (ws.set k (a, e)) H1 ∧ va_D A (ws.set k (a, e)) := by
  refine ⟨?_, hD.set hk⟩
  intro i q hq
  by_cases hi : i = k
  · subst hi
    have hlt := (List.getElem?_eq_some_iff.mp hk).1
    rw [List.getElem?_set_self hlt] at hq
    cases hq
    exact hP1 0 _ rfl
  · rw [List.getElem?_set_ne (fun h => hi h.symm)] at hq
    have hl := (hP i q hq).lt
    refine (hP i q hq).kept (hk1 q.1 hl ?_)
    rintro (⟨j, e9, h⟩ | h)
    · cases j with
      | zero =>
        simp at h
        exact hi (hD.1 i k q (a, e0) hq hk h.1.symm)
      | succ j => simp at h
    · omega
section TP2
variable {p : Program} {l : Launch} {e : Env} {R : Room} {s : State} {m : MethodId} {args : Array Value} {below : List Frame} {meth : Method} {c : Code} {H : Heap} {locs : List Loc} {cells slots : Nat} {Q : State → Prop} {pc : Nat} {ls : Array Slot} {rest : List Value}
theorem tp_i2 {x y x' y' : Int32} (h : x = x') (h2 : y = y') (k : W p l e R s m args below meth c H locs cells slots Q (F0 m pc ls (.int x' :: .int y' :: rest))) : W p l e R s m args below meth c H locs cells slots Q (F0 m pc ls (.int x :: .int y :: rest)) := by
  rw [h, h2]; exact k
end TP2
end
section
-- what the methods ask of their numbers
def q_what (x : Int32) : Prop := 0 ≤ x.toInt ∧ x.toInt < 3
def q_how (x : Int32) : Prop := 0 ≤ x.toInt ∧ x.toInt ≤ 2
def q_time (x : Int32) : Prop := 0 ≤ x.toInt ∧ x.toInt ≤ 1000000
def q_node (N : Nat) (x : Int32) : Prop := 0 ≤ x.toInt ∧ x.toInt < N
def q_in (x : Int32) (r : Int) : Prop := -r ≤ x.toInt ∧ x.toInt ≤ r
def q_reach (a : Int32) : Int := if a.toInt = 0 then 4194304 else 1048576
def q_can (a x y z : Int32) : Prop := q_in x (q_reach a) ∧ q_in y (q_reach a) ∧ q_in z (q_reach a)
def q_fits (a : Int32) (xn : Nat → Int32) (k : Nat) : Prop := q_can a (xn (k * 3)) (xn (k * 3 + 1)) (xn (k * 3 + 2))
def q_all (a : Int32) (xn : Nat → Int32) (K : Nat) : Prop := ∀ k, k < K → q_fits a xn k
/-- the place of a node's what -/
def pl_of (a b : Int32) : Nat := (a.toInt.toNat * 3 + b.toInt.toNat) * 3
/-- the key in force: from k on, n keys may follow -/
def kif (kt : Nat → Int32) (nw : Int32) : Nat → Nat → Nat
  | k, 0 => k
  | k, n + 1 => if (kt (k + 1)).toInt ≤ nw.toInt then kif kt nw (k + 1) n else k
theorem kif_0 (kt : Nat → Int32) (nw : Int32) (k : Nat) : kif kt nw k 0 = k := rfl
theorem kif_s (kt : Nat → Int32) (nw : Int32) (k n : Nat) : kif kt nw k (n + 1) = if (kt (k + 1)).toInt ≤ nw.toInt then kif kt nw (k + 1) n else k := rfl
theorem kif_le (kt : Nat → Int32) (nw : Int32) : ∀ (n k : Nat), k ≤ kif kt nw k n ∧ kif kt nw k n ≤ k + n := by
  intro n
  induction n with
  | zero => intro k; exact ⟨Nat.le_refl _, Nat.le_refl _⟩
  | succ n ih =>
    intro k
    rw [kif_s]
    split
    · have := ih (k + 1); omega
    · omega
-- whole numbers by longs
def fdv (x y : Int64) : Int64 := if (x ^^^ y) < 0 ∧ ¬ x / y * y = x then x / y - 1 else x / y
def dvL (a b : Int64) : Int64 := if b = 0 then 0 else fdv a b
def mlL (a b : Int64) : Int64 := dvL (a * b) 65536
def smL (f : Int64) : Int64 := mlL (mlL f f) (196608 - 2 * f)
/-- between two keys -/
def btw (kt kn : Nat → Int32) (nw how : Int32) (k j : Nat) : Int32 :=
  if how.toInt = 1 then ((kn (k * 3 + j)).toInt64 + dvL (((kn ((k + 1) * 3 + j)).toInt64 - (kn (k * 3 + j)).toInt64) * (nw - kt k).toInt64) (kt (k + 1) - kt k).toInt64).toInt32
  else if how.toInt = 2 then ((kn (k * 3 + j)).toInt64 + mlL ((kn ((k + 1) * 3 + j)).toInt64 - (kn (k * 3 + j)).toInt64) (smL (dvL ((nw - kt k).toInt64 * 65536) (kt (k + 1) - kt k).toInt64))).toInt32
  else (kn (k * 3 + j)).toInt64.toInt32
/-- what a track of K keys from place f on sets -/
def plv (kt kn : Nat → Int32) (nw how : Int32) (f K j : Nat) : Int32 :=
  if kif kt nw f (K - 1) = f + K - 1 ∨ nw.toInt < (kt (kif kt nw f (K - 1))).toInt then kn (kif kt nw f (K - 1) * 3 + j) else btw kt kn nw how (kif kt nw f (K - 1)) j
def pl1 (kt kn : Nat → Int32) (nw : Int32) (tn tw th tk : Nat → Int32) (t : Nat) (fv : Nat → Int32) : Nat → Int32 :=
  put3 fv (pl_of (tn t) (tw t)) (plv kt kn nw (th t) (t * 32) (tk t).toInt.toNat 0) (plv kt kn nw (th t) (t * 32) (tk t).toInt.toNat 1) (plv kt kn nw (th t) (t * 32) (tk t).toInt.toNat 2)
def pls (kt kn : Nat → Int32) (nw : Int32) (tn tw th tk : Nat → Int32) (fv : Nat → Int32) : Nat → Nat → Int32
  | 0 => fv
  | t + 1 => pl1 kt kn nw tn tw th tk t (pls kt kn nw tn tw th tk fv t)
/-- a track's rows are in order -/
def q_trk (N : Nat) (tn tw tk : Nat → Int32) (t : Nat) : Prop := q_node N (tn t) ∧ q_what (tw t) ∧ 1 ≤ (tk t).toInt ∧ (tk t).toInt ≤ 32
theorem lcmp0 {x y : Int64} (h : ¬ lg_cmp x y = 0) : ¬ x = y := by
  intro q
  subst q
  exact h (by simp [lg_cmp])
theorem lcmp1 {x y : Int64} (h : lg_cmp x y = 0) : x = y := by
  unfold lg_cmp at h
  split at h
  · exact absurd h (by decide)
  · split at h
    · assumption
    · exact absurd h (by decide)
-- a new desk
def cl48 (v : Int32) : Nat := if v.toInt < 1 then 1 else if 48 < v.toInt then 48 else v.toInt.toNat
theorem cl48_le (v : Int32) : 1 ≤ cl48 v ∧ cl48 v ≤ 48 := by
  unfold cl48
  split
  · omega
  · split
    · omega
    · omega
theorem cl48_eq (v : Int32) : (if nI 1 < (if v < nI 48 then v else nI 48) then (if v < nI 48 then v else nI 48) else nI 1) = nI (cl48 v) := by
  have h1 : (nI 1).toInt = 1 := by decide
  have h48 : (nI 48).toInt = 48 := by decide
  unfold cl48
  by_cases a : v < nI 48
  · rw [if_pos a]
    have a1 := zlt a
    by_cases b : nI 1 < v
    · rw [if_pos b]
      have b1 := zlt b
      rw [if_neg (by omega), if_neg (by omega)]
      exact z_nat (by omega)
    · rw [if_neg b]
      have b1 := znlt b
      by_cases c : v.toInt < 1
      · rw [if_pos c]
      · rw [if_neg c, if_neg (by omega), show v.toInt.toNat = 1 by omega]
  · rw [if_neg a]
    have a1 := znlt a
    rw [if_pos (by decide), if_neg (by omega)]
    by_cases c : 48 < v.toInt
    · rw [if_pos c]
    · rw [if_neg c, show v.toInt.toNat = 48 by omega]
def ini (k j : Nat) : Int32 := if j / 9 < k ∧ 6 ≤ j % 9 then 65536 else 0
theorem ini_z : ini 0 = fun _ => 0 := by
  funext j
  unfold ini
  rw [if_neg (by omega)]
theorem ini_upd (k : Nat) : upd (upd (upd (ini k) ((k * 3 + 2) * 3 + 0) 65536) ((k * 3 + 2) * 3 + 1) 65536) ((k * 3 + 2) * 3 + 2) 65536 = ini (k + 1) := by
  funext j
  unfold upd ini
  by_cases c2 : j = (k * 3 + 2) * 3 + 2
  · rw [if_pos c2, if_pos (by omega)]
  · rw [if_neg c2]
    by_cases c1 : j = (k * 3 + 2) * 3 + 1
    · rw [if_pos c1, if_pos (by omega)]
    · rw [if_neg c1]
      by_cases c0 : j = (k * 3 + 2) * 3 + 0
      · rw [if_pos c0, if_pos (by omega)]
      · rw [if_neg c0]
        by_cases hc : j / 9 < k ∧ 6 ≤ j % 9
        · rw [if_pos hc, if_pos (by omega)]
        · rw [if_neg hc, if_neg (by omega)]
/-- arrays of ints have one class -/
theorem arr_one {D : va_G} {cl : List vw_C} {s : State} {cA cB : ClassId} (hK : va_K D cl ([(cA, .int)] ++ [(cB, .int)]) s) : cB = cA := by
  have h1 : s.vm.findClass ("[" ++ FieldType.int.toString) = some cA := (hK.2 0 _ rfl).2
  have h2 : s.vm.findClass ("[" ++ FieldType.int.toString) = some cB := (hK.2 1 _ rfl).2
  exact Option.some.inj (h2.symm.trans h1)
end
section
set_option maxHeartbeats 4000000 in
set_option maxRecDepth 100000 in
/-- isWhat(x) -/
theorem cx_isWhat (l : Launch) (x : Int32) : Met l yX0_isWhat wsX0_isWhat ({ frames := 0, cells := 0, slots := 0, locals := 0 }) (fun v _ => v = [Value.int x].toArray) (vp_Si (fun r => r = 0 ↔ ¬ q_what x)) 0 0 (fun _ => False) := by
  refine Met.ofW (cc := cX0_isWhat) (maxL := 1) (ret := (some .boolean)) (by decide) rfl ?_
  intro p e s m args below meth c s₁ B hml hv
  have hv : args = ([.int x]).toArray := hv
  subst hv
  have hx := B.exec
  have hb := B.bytes
  have hr := B.returns
  have hts := atoms_spec (ws := wsX0_isWhat) B.pre
  have hown : s.vm.findClass RX0 = some m.cls := findClass_of_methodNamed B.named
  have hlocks := B.notSynchronized
  have hl := lv_entry ([.int x]) (n := 1) (Nat.le_of_ble_eq_true rfl)
  rw [lg_entry_eq]
  generalize (lg_sl ([.int x]) ++ List.replicate (1 - (lg_sl ([.int x])).length) Slot.unset).toArray = ls at hl ⊢
  have hl : lv_has ls 1 [(0, .int x)] := hl
  have t0 := z_0
  have t1 : (nI 3).toInt = 3 := by decide
  refine lv_iload_n hx hb dX0_isWhat_0 rfl (lv_at hl 0 rfl) ?_
  refine lv_if_lt (tgt := 13) hx hb dX0_isWhat_1 (by decide) (fun c1 => ?_) (fun c1 => ?_)
  · skip
    have c1 := zlt c1
    refine lv_iconst (v := (nI 0)) hx hb dX0_isWhat_13 (by decide) ?_
    exact W.zret (v := (nI 0)) (ty := .boolean) hx hb hr (by decide) (fun t9 ht9 hW9 => ⟨_, rfl, bt0 (by unfold q_what; omega), ht9⟩) (fun q h => by cases h) dX0_isWhat_14
  · skip
    have c1 := znlt c1
    refine lv_iload_n hx hb dX0_isWhat_4 rfl (lv_at hl 0 rfl) ?_
    refine lv_iconst (v := (nI 3)) hx hb dX0_isWhat_5 (by decide) ?_
    refine lv_icmp_ge (tgt := 13) hx hb dX0_isWhat_6 (by decide) (fun c2 => ?_) (fun c2 => ?_)
    · skip
      have c2 := zle c2
      refine lv_iconst (v := (nI 0)) hx hb dX0_isWhat_13 (by decide) ?_
      exact W.zret (v := (nI 0)) (ty := .boolean) hx hb hr (by decide) (fun t9 ht9 hW9 => ⟨_, rfl, bt0 (by unfold q_what; omega), ht9⟩) (fun q h => by cases h) dX0_isWhat_14
    · skip
      have c2 := znle c2
      refine lv_iconst (v := (nI 1)) hx hb dX0_isWhat_9 (by decide) ?_
      refine lv_goto (tgt := 14) hx hb dX0_isWhat_10 (by decide) ?_
      exact W.zret (v := (nI 1)) (ty := .boolean) hx hb hr (by decide) (fun t9 ht9 hW9 => ⟨_, rfl, bt1 (by unfold q_what; omega), ht9⟩) (fun q h => by cases h) dX0_isWhat_14
set_option maxHeartbeats 4000000 in
set_option maxRecDepth 100000 in
/-- isHow(x) -/
theorem cx_isHow (l : Launch) (x : Int32) : Met l yX0_isHow wsX0_isHow ({ frames := 0, cells := 0, slots := 0, locals := 0 }) (fun v _ => v = [Value.int x].toArray) (vp_Si (fun r => r = 0 ↔ ¬ q_how x)) 0 0 (fun _ => False) := by
  refine Met.ofW (cc := cX0_isHow) (maxL := 1) (ret := (some .boolean)) (by decide) rfl ?_
  intro p e s m args below meth c s₁ B hml hv
  have hv : args = ([.int x]).toArray := hv
  subst hv
  have hx := B.exec
  have hb := B.bytes
  have hr := B.returns
  have hts := atoms_spec (ws := wsX0_isHow) B.pre
  have hown : s.vm.findClass RX0 = some m.cls := findClass_of_methodNamed B.named
  have hlocks := B.notSynchronized
  have hl := lv_entry ([.int x]) (n := 1) (Nat.le_of_ble_eq_true rfl)
  rw [lg_entry_eq]
  generalize (lg_sl ([.int x]) ++ List.replicate (1 - (lg_sl ([.int x])).length) Slot.unset).toArray = ls at hl ⊢
  have hl : lv_has ls 1 [(0, .int x)] := hl
  have t0 := z_0
  have t1 : (nI 2).toInt = 2 := by decide
  refine lv_iload_n hx hb dX0_isHow_0 rfl (lv_at hl 0 rfl) ?_
  refine lv_if_lt (tgt := 13) hx hb dX0_isHow_1 (by decide) (fun c1 => ?_) (fun c1 => ?_)
  · skip
    have c1 := zlt c1
    refine lv_iconst (v := (nI 0)) hx hb dX0_isHow_13 (by decide) ?_
    exact W.zret (v := (nI 0)) (ty := .boolean) hx hb hr (by decide) (fun t9 ht9 hW9 => ⟨_, rfl, bt0 (by unfold q_how; omega), ht9⟩) (fun q h => by cases h) dX0_isHow_14
  · skip
    have c1 := znlt c1
    refine lv_iload_n hx hb dX0_isHow_4 rfl (lv_at hl 0 rfl) ?_
    refine lv_iconst (v := (nI 2)) hx hb dX0_isHow_5 (by decide) ?_
    refine lv_icmp_gt (tgt := 13) hx hb dX0_isHow_6 (by decide) (fun c2 => ?_) (fun c2 => ?_)
    · skip
      have c2 := zlt c2
      refine lv_iconst (v := (nI 0)) hx hb dX0_isHow_13 (by decide) ?_
      exact W.zret (v := (nI 0)) (ty := .boolean) hx hb hr (by decide) (fun t9 ht9 hW9 => ⟨_, rfl, bt0 (by unfold q_how; omega), ht9⟩) (fun q h => by cases h) dX0_isHow_14
    · skip
      have c2 := znlt c2
      refine lv_iconst (v := (nI 1)) hx hb dX0_isHow_9 (by decide) ?_
      refine lv_goto (tgt := 14) hx hb dX0_isHow_10 (by decide) ?_
      exact W.zret (v := (nI 1)) (ty := .boolean) hx hb hr (by decide) (fun t9 ht9 hW9 => ⟨_, rfl, bt1 (by unfold q_how; omega), ht9⟩) (fun q h => by cases h) dX0_isHow_14
set_option maxHeartbeats 4000000 in
set_option maxRecDepth 100000 in
/-- isTime(x) -/
theorem cx_isTime (l : Launch) (x : Int32) : Met l yX0_isTime wsX0_isTime ({ frames := 0, cells := 0, slots := 0, locals := 0 }) (fun v _ => v = [Value.int x].toArray) (vp_Si (fun r => r = 0 ↔ ¬ q_time x)) 0 0 (fun _ => False) := by
  refine Met.ofW (cc := cX0_isTime) (maxL := 1) (ret := (some .boolean)) (by decide) rfl ?_
  intro p e s m args below meth c s₁ B hml hv
  have hv : args = ([.int x]).toArray := hv
  subst hv
  have hx := B.exec
  have hb := B.bytes
  have hr := B.returns
  have hts := atoms_spec (ws := wsX0_isTime) B.pre
  have hown : s.vm.findClass RX0 = some m.cls := findClass_of_methodNamed B.named
  have hlocks := B.notSynchronized
  have hl := lv_entry ([.int x]) (n := 1) (Nat.le_of_ble_eq_true rfl)
  rw [lg_entry_eq]
  generalize (lg_sl ([.int x]) ++ List.replicate (1 - (lg_sl ([.int x])).length) Slot.unset).toArray = ls at hl ⊢
  have hl : lv_has ls 1 [(0, .int x)] := hl
  have t0 := z_0
  have t1 : (1000000 : Int32).toInt = 1000000 := by decide
  refine lv_iload_n hx hb dX0_isTime_0 rfl (lv_at hl 0 rfl) ?_
  refine lv_if_lt (tgt := 14) hx hb dX0_isTime_1 (by decide) (fun c1 => ?_) (fun c1 => ?_)
  · skip
    have c1 := zlt c1
    refine lv_iconst (v := (nI 0)) hx hb dX0_isTime_14 (by decide) ?_
    exact W.zret (v := (nI 0)) (ty := .boolean) hx hb hr (by decide) (fun t9 ht9 hW9 => ⟨_, rfl, bt0 (by unfold q_time; omega), ht9⟩) (fun q h => by cases h) dX0_isTime_15
  · skip
    have c1 := znlt c1
    refine lv_iload_n hx hb dX0_isTime_4 rfl (lv_at hl 0 rfl) ?_
    refine lv_ldc (v := 1000000) hx hb hown (hts (.constant RX0 102 1000000) (by decide +kernel)) dX0_isTime_5 ?_
    refine lv_icmp_gt (tgt := 14) hx hb dX0_isTime_7 (by decide) (fun c2 => ?_) (fun c2 => ?_)
    · skip
      have c2 := zlt c2
      refine lv_iconst (v := (nI 0)) hx hb dX0_isTime_14 (by decide) ?_
      exact W.zret (v := (nI 0)) (ty := .boolean) hx hb hr (by decide) (fun t9 ht9 hW9 => ⟨_, rfl, bt0 (by unfold q_time; omega), ht9⟩) (fun q h => by cases h) dX0_isTime_15
    · skip
      have c2 := znlt c2
      refine lv_iconst (v := (nI 1)) hx hb dX0_isTime_10 (by decide) ?_
      refine lv_goto (tgt := 15) hx hb dX0_isTime_11 (by decide) ?_
      exact W.zret (v := (nI 1)) (ty := .boolean) hx hb hr (by decide) (fun t9 ht9 hW9 => ⟨_, rfl, bt1 (by unfold q_time; omega), ht9⟩) (fun q h => by cases h) dX0_isTime_15
set_option maxHeartbeats 4000000 in
set_option maxRecDepth 100000 in
/-- isWithin(x, r) -/
theorem cx_isWithin (l : Launch) (x r : Int32) (h0 : 0 ≤ r.toInt) : Met l yX0_isWithin wsX0_isWithin ({ frames := 0, cells := 0, slots := 0, locals := 0 }) (fun v _ => v = [Value.int x, Value.int r].toArray) (vp_Si (fun b => b = 0 ↔ ¬ q_in x r.toInt)) 0 0 (fun _ => False) := by
  refine Met.ofW (cc := cX0_isWithin) (maxL := 2) (ret := (some .boolean)) (by decide) rfl ?_
  intro p e s m args below meth c s₁ B hml hv
  have hv : args = ([.int x, .int r]).toArray := hv
  subst hv
  have hx := B.exec
  have hb := B.bytes
  have hr := B.returns
  have hts := atoms_spec (ws := wsX0_isWithin) B.pre
  have hown : s.vm.findClass RX0 = some m.cls := findClass_of_methodNamed B.named
  have hlocks := B.notSynchronized
  have hl := lv_entry ([.int x, .int r]) (n := 2) (Nat.le_of_ble_eq_true rfl)
  rw [lg_entry_eq]
  generalize (lg_sl ([.int x, .int r]) ++ List.replicate (2 - (lg_sl ([.int x, .int r])).length) Slot.unset).toArray = ls at hl ⊢
  have hl : lv_has ls 2 [(0, .int x), (1, .int r)] := hl
  have t1 := z_neg h0
  refine lv_iload_n hx hb dX0_isWithin_0 rfl (lv_at hl 0 rfl) ?_
  refine lv_iload_n hx hb dX0_isWithin_1 rfl (lv_at hl 1 rfl) ?_
  refine lv_ineg hx hb dX0_isWithin_2 ?_
  refine lv_icmp_lt (tgt := 15) hx hb dX0_isWithin_3 (by decide) (fun c1 => ?_) (fun c1 => ?_)
  · skip
    have c1 := zlt c1
    refine lv_iconst (v := (nI 0)) hx hb dX0_isWithin_15 (by decide) ?_
    exact W.zret (v := (nI 0)) (ty := .boolean) hx hb hr (by decide) (fun t9 ht9 hW9 => ⟨_, rfl, bt0 (by unfold q_in; omega), ht9⟩) (fun q h => by cases h) dX0_isWithin_16
  · skip
    have c1 := znlt c1
    refine lv_iload_n hx hb dX0_isWithin_6 rfl (lv_at hl 0 rfl) ?_
    refine lv_iload_n hx hb dX0_isWithin_7 rfl (lv_at hl 1 rfl) ?_
    refine lv_icmp_gt (tgt := 15) hx hb dX0_isWithin_8 (by decide) (fun c2 => ?_) (fun c2 => ?_)
    · skip
      have c2 := zlt c2
      refine lv_iconst (v := (nI 0)) hx hb dX0_isWithin_15 (by decide) ?_
      exact W.zret (v := (nI 0)) (ty := .boolean) hx hb hr (by decide) (fun t9 ht9 hW9 => ⟨_, rfl, bt0 (by unfold q_in; omega), ht9⟩) (fun q h => by cases h) dX0_isWithin_16
    · skip
      have c2 := znlt c2
      refine lv_iconst (v := (nI 1)) hx hb dX0_isWithin_11 (by decide) ?_
      refine lv_goto (tgt := 16) hx hb dX0_isWithin_12 (by decide) ?_
      exact W.zret (v := (nI 1)) (ty := .boolean) hx hb hr (by decide) (fun t9 ht9 hW9 => ⟨_, rfl, bt1 (by unfold q_in; omega), ht9⟩) (fun q h => by cases h) dX0_isWithin_16
set_option maxHeartbeats 4000000 in
set_option maxRecDepth 100000 in
/-- canHave(what, x, y, z) -/
theorem cx_canHave (l : Launch) (a x y z : Int32) : Met l yX0_canHave wsX0_canHave ({ frames := 1, cells := 0, slots := 0, locals := 21 }) (fun v _ => v = [Value.int a, Value.int x, Value.int y, Value.int z].toArray) (vp_Si (fun b => b = 0 ↔ ¬ q_can a x y z)) 0 0 (fun _ => False) := by
  refine Met.ofW (cc := cX0_canHave) (maxL := 5) (ret := (some .boolean)) (by decide) rfl ?_
  intro p e s m args below meth c s₁ B hml hv
  have hv : args = ([.int a, .int x, .int y, .int z]).toArray := hv
  subst hv
  have hx := B.exec
  have hb := B.bytes
  have hr := B.returns
  have hts := atoms_spec (ws := wsX0_canHave) B.pre
  have hown : s.vm.findClass RX0 = some m.cls := findClass_of_methodNamed B.named
  have hlocks := B.notSynchronized
  have hl := lv_entry ([.int a, .int x, .int y, .int z]) (n := 5) (Nat.le_of_ble_eq_true rfl)
  rw [lg_entry_eq]
  generalize (lg_sl ([.int a, .int x, .int y, .int z]) ++ List.replicate (5 - (lg_sl ([.int a, .int x, .int y, .int z])).length) Slot.unset).toArray = ls at hl ⊢
  have hl : lv_has ls 5 [(0, .int a), (1, .int x), (2, .int y), (3, .int z)] := hl
  have t0 := z_0
  have t1 : (4194304 : Int32).toInt = 4194304 := by decide
  have t2 : (1048576 : Int32).toInt = 1048576 := by decide
  refine lv_iload_n hx hb dX0_canHave_0 rfl (lv_at hl 0 rfl) ?_
  refine lv_if_ne (tgt := 9) hx hb dX0_canHave_1 (by decide) (fun c1 => ?_) (fun c1 => ?_)
  · skip
    have c1 := zne c1
    have hrch : q_reach a = 1048576 := by unfold q_reach; rw [if_neg (by omega)]
    refine lv_ldc (v := 1048576) hx hb hown (hts (.constant RX0 104 1048576) (by decide +kernel)) dX0_canHave_9 ?_
    refine lv_istore (lv' := [(4, .int 1048576), (0, .int a), (1, .int x), (2, .int y), (3, .int z)]) hx hb dX0_canHave_11 hl (by decide) rfl (fun ls hl => ?_)
    refine lv_iload_n hx hb dX0_canHave_13 rfl (lv_at hl 2 rfl) ?_
    refine lv_iload hx hb dX0_canHave_14 (lv_at hl 0 rfl) ?_
    refine vp_callSi (W.runS (As := [.int x, .int 1048576]) (rest := []) ⟨hx, hb, hml, hown, hts⟩ (cx_isWithin l x 1048576 (by omega)) (va_cwS 2 hts gX0_canHave_X0_isWithin rfl rfl rfl (by decide +kernel) ⟨Nat.le_of_ble_eq_true rfl, Nat.le_of_ble_eq_true rfl⟩) preEq rfl rfl hl.1 rfl (lv_room (Nat.le_of_ble_eq_true rfl)) dX0_canHave_16 ⟨Nat.le_of_ble_eq_true rfl, Nat.le_of_ble_eq_true rfl⟩) (fun bo2 h_bo2 => ?_)
    refine lv_if_eq (tgt := 44) hx hb dX0_canHave_19 (by decide) (fun c3 => ?_) (fun c3 => ?_)
    · skip
      have c3 := btF h_bo2 c3
      refine lv_iconst (v := (nI 0)) hx hb dX0_canHave_44 (by decide) ?_
      exact W.zret (v := (nI 0)) (ty := .boolean) hx hb hr (by decide) (fun t9 ht9 hW9 => ⟨_, rfl, bt0 (by unfold q_can; rw [hrch]; rw [t2] at c3; intro h; exact c3 (h.1)), ht9⟩) (fun q h => by cases h) dX0_canHave_45
    · skip
      have c3 := btT h_bo2 c3
      refine lv_iload_n hx hb dX0_canHave_22 rfl (lv_at hl 3 rfl) ?_
      refine lv_iload hx hb dX0_canHave_23 (lv_at hl 0 rfl) ?_
      refine vp_callSi (W.runS (As := [.int y, .int 1048576]) (rest := []) ⟨hx, hb, hml, hown, hts⟩ (cx_isWithin l y 1048576 (by omega)) (va_cwS 2 hts gX0_canHave_X0_isWithin rfl rfl rfl (by decide +kernel) ⟨Nat.le_of_ble_eq_true rfl, Nat.le_of_ble_eq_true rfl⟩) preEq rfl rfl hl.1 rfl (lv_room (Nat.le_of_ble_eq_true rfl)) dX0_canHave_25 ⟨Nat.le_of_ble_eq_true rfl, Nat.le_of_ble_eq_true rfl⟩) (fun bo4 h_bo4 => ?_)
      refine lv_if_eq (tgt := 44) hx hb dX0_canHave_28 (by decide) (fun c5 => ?_) (fun c5 => ?_)
      · skip
        have c5 := btF h_bo4 c5
        refine lv_iconst (v := (nI 0)) hx hb dX0_canHave_44 (by decide) ?_
        exact W.zret (v := (nI 0)) (ty := .boolean) hx hb hr (by decide) (fun t9 ht9 hW9 => ⟨_, rfl, bt0 (by unfold q_can; rw [hrch]; rw [t2] at c3 c5; intro h; exact c5 (h.2.1)), ht9⟩) (fun q h => by cases h) dX0_canHave_45
      · skip
        have c5 := btT h_bo4 c5
        refine lv_iload_n hx hb dX0_canHave_31 rfl (lv_at hl 4 rfl) ?_
        refine lv_iload hx hb dX0_canHave_32 (lv_at hl 0 rfl) ?_
        refine vp_callSi (W.runS (As := [.int z, .int 1048576]) (rest := []) ⟨hx, hb, hml, hown, hts⟩ (cx_isWithin l z 1048576 (by omega)) (va_cwS 2 hts gX0_canHave_X0_isWithin rfl rfl rfl (by decide +kernel) ⟨Nat.le_of_ble_eq_true rfl, Nat.le_of_ble_eq_true rfl⟩) preEq rfl rfl hl.1 rfl (lv_room (Nat.le_of_ble_eq_true rfl)) dX0_canHave_34 ⟨Nat.le_of_ble_eq_true rfl, Nat.le_of_ble_eq_true rfl⟩) (fun bo6 h_bo6 => ?_)
        refine lv_if_eq (tgt := 44) hx hb dX0_canHave_37 (by decide) (fun c7 => ?_) (fun c7 => ?_)
        · skip
          have c7 := btF h_bo6 c7
          refine lv_iconst (v := (nI 0)) hx hb dX0_canHave_44 (by decide) ?_
          exact W.zret (v := (nI 0)) (ty := .boolean) hx hb hr (by decide) (fun t9 ht9 hW9 => ⟨_, rfl, bt0 (by unfold q_can; rw [hrch]; rw [t2] at c3 c5 c7; intro h; exact c7 (h.2.2)), ht9⟩) (fun q h => by cases h) dX0_canHave_45
        · skip
          have c7 := btT h_bo6 c7
          refine lv_iconst (v := (nI 1)) hx hb dX0_canHave_40 (by decide) ?_
          refine lv_goto (tgt := 45) hx hb dX0_canHave_41 (by decide) ?_
          exact W.zret (v := (nI 1)) (ty := .boolean) hx hb hr (by decide) (fun t9 ht9 hW9 => ⟨_, rfl, bt1 (by unfold q_can; rw [hrch]; rw [t2] at c3 c5 c7; exact ⟨c3, c5, c7⟩), ht9⟩) (fun q h => by cases h) dX0_canHave_45
  · skip
    have c1 := zeq c1
    have hrch : q_reach a = 4194304 := by unfold q_reach; rw [if_pos (by omega)]
    refine lv_ldc (v := 4194304) hx hb hown (hts (.constant RX0 103 4194304) (by decide +kernel)) dX0_canHave_4 ?_
    refine lv_goto (tgt := 11) hx hb dX0_canHave_6 (by decide) ?_
    refine lv_istore (lv' := [(4, .int 4194304), (0, .int a), (1, .int x), (2, .int y), (3, .int z)]) hx hb dX0_canHave_11 hl (by decide) rfl (fun ls hl => ?_)
    refine lv_iload_n hx hb dX0_canHave_13 rfl (lv_at hl 2 rfl) ?_
    refine lv_iload hx hb dX0_canHave_14 (lv_at hl 0 rfl) ?_
    refine vp_callSi (W.runS (As := [.int x, .int 4194304]) (rest := []) ⟨hx, hb, hml, hown, hts⟩ (cx_isWithin l x 4194304 (by omega)) (va_cwS 2 hts gX0_canHave_X0_isWithin rfl rfl rfl (by decide +kernel) ⟨Nat.le_of_ble_eq_true rfl, Nat.le_of_ble_eq_true rfl⟩) preEq rfl rfl hl.1 rfl (lv_room (Nat.le_of_ble_eq_true rfl)) dX0_canHave_16 ⟨Nat.le_of_ble_eq_true rfl, Nat.le_of_ble_eq_true rfl⟩) (fun bo8 h_bo8 => ?_)
    refine lv_if_eq (tgt := 44) hx hb dX0_canHave_19 (by decide) (fun c9 => ?_) (fun c9 => ?_)
    · skip
      have c9 := btF h_bo8 c9
      refine lv_iconst (v := (nI 0)) hx hb dX0_canHave_44 (by decide) ?_
      exact W.zret (v := (nI 0)) (ty := .boolean) hx hb hr (by decide) (fun t9 ht9 hW9 => ⟨_, rfl, bt0 (by unfold q_can; rw [hrch]; rw [t1] at c9; intro h; exact c9 (h.1)), ht9⟩) (fun q h => by cases h) dX0_canHave_45
    · skip
      have c9 := btT h_bo8 c9
      refine lv_iload_n hx hb dX0_canHave_22 rfl (lv_at hl 3 rfl) ?_
      refine lv_iload hx hb dX0_canHave_23 (lv_at hl 0 rfl) ?_
      refine vp_callSi (W.runS (As := [.int y, .int 4194304]) (rest := []) ⟨hx, hb, hml, hown, hts⟩ (cx_isWithin l y 4194304 (by omega)) (va_cwS 2 hts gX0_canHave_X0_isWithin rfl rfl rfl (by decide +kernel) ⟨Nat.le_of_ble_eq_true rfl, Nat.le_of_ble_eq_true rfl⟩) preEq rfl rfl hl.1 rfl (lv_room (Nat.le_of_ble_eq_true rfl)) dX0_canHave_25 ⟨Nat.le_of_ble_eq_true rfl, Nat.le_of_ble_eq_true rfl⟩) (fun bo10 h_bo10 => ?_)
      refine lv_if_eq (tgt := 44) hx hb dX0_canHave_28 (by decide) (fun c11 => ?_) (fun c11 => ?_)
      · skip
        have c11 := btF h_bo10 c11
        refine lv_iconst (v := (nI 0)) hx hb dX0_canHave_44 (by decide) ?_
        exact W.zret (v := (nI 0)) (ty := .boolean) hx hb hr (by decide) (fun t9 ht9 hW9 => ⟨_, rfl, bt0 (by unfold q_can; rw [hrch]; rw [t1] at c9 c11; intro h; exact c11 (h.2.1)), ht9⟩) (fun q h => by cases h) dX0_canHave_45
      · skip
        have c11 := btT h_bo10 c11
        refine lv_iload_n hx hb dX0_canHave_31 rfl (lv_at hl 4 rfl) ?_
        refine lv_iload hx hb dX0_canHave_32 (lv_at hl 0 rfl) ?_
        refine vp_callSi (W.runS (As := [.int z, .int 4194304]) (rest := []) ⟨hx, hb, hml, hown, hts⟩ (cx_isWithin l z 4194304 (by omega)) (va_cwS 2 hts gX0_canHave_X0_isWithin rfl rfl rfl (by decide +kernel) ⟨Nat.le_of_ble_eq_true rfl, Nat.le_of_ble_eq_true rfl⟩) preEq rfl rfl hl.1 rfl (lv_room (Nat.le_of_ble_eq_true rfl)) dX0_canHave_34 ⟨Nat.le_of_ble_eq_true rfl, Nat.le_of_ble_eq_true rfl⟩) (fun bo12 h_bo12 => ?_)
        refine lv_if_eq (tgt := 44) hx hb dX0_canHave_37 (by decide) (fun c13 => ?_) (fun c13 => ?_)
        · skip
          have c13 := btF h_bo12 c13
          refine lv_iconst (v := (nI 0)) hx hb dX0_canHave_44 (by decide) ?_
          exact W.zret (v := (nI 0)) (ty := .boolean) hx hb hr (by decide) (fun t9 ht9 hW9 => ⟨_, rfl, bt0 (by unfold q_can; rw [hrch]; rw [t1] at c9 c11 c13; intro h; exact c13 (h.2.2)), ht9⟩) (fun q h => by cases h) dX0_canHave_45
        · skip
          have c13 := btT h_bo12 c13
          refine lv_iconst (v := (nI 1)) hx hb dX0_canHave_40 (by decide) ?_
          refine lv_goto (tgt := 45) hx hb dX0_canHave_41 (by decide) ?_
          exact W.zret (v := (nI 1)) (ty := .boolean) hx hb hr (by decide) (fun t9 ht9 hW9 => ⟨_, rfl, bt1 (by unfold q_can; rw [hrch]; rw [t1] at c9 c11 c13; exact ⟨c9, c11, c13⟩), ht9⟩) (fun q h => by cases h) dX0_canHave_45
set_option maxHeartbeats 4000000 in
set_option maxRecDepth 100000 in
/-- placeOf(node, what) -/
theorem cx_placeOf (l : Launch) (n k : Nat) : Met l yX0_placeOf wsX0_placeOf ({ frames := 0, cells := 0, slots := 0, locals := 0 }) (fun v _ => v = [Value.int (nI n), Value.int (nI k)].toArray) (vp_Si (fun b => b = nI ((n * 3 + k) * 3))) 0 0 (fun _ => False) := by
  refine Met.ofW (cc := cX0_placeOf) (maxL := 2) (ret := (some .int)) (by decide) rfl ?_
  intro p e s m args below meth c s₁ B hml hv
  have hv : args = ([.int (nI n), .int (nI k)]).toArray := hv
  subst hv
  have hx := B.exec
  have hb := B.bytes
  have hr := B.returns
  have hts := atoms_spec (ws := wsX0_placeOf) B.pre
  have hown : s.vm.findClass RX0 = some m.cls := findClass_of_methodNamed B.named
  have hlocks := B.notSynchronized
  have hl := lv_entry ([.int (nI n), .int (nI k)]) (n := 2) (Nat.le_of_ble_eq_true rfl)
  rw [lg_entry_eq]
  generalize (lg_sl ([.int (nI n), .int (nI k)]) ++ List.replicate (2 - (lg_sl ([.int (nI n), .int (nI k)])).length) Slot.unset).toArray = ls at hl ⊢
  have hl : lv_has ls 2 [(0, .int (nI n)), (1, .int (nI k))] := hl
  refine lv_iload_n hx hb dX0_placeOf_0 rfl (lv_at hl 0 rfl) ?_
  refine lv_iconst (v := (nI 3)) hx hb dX0_placeOf_1 (by decide) ?_
  refine lv_imul hx hb dX0_placeOf_2 ?_
  refine lv_iload_n hx hb dX0_placeOf_3 rfl (lv_at hl 1 rfl) ?_
  refine lv_iadd hx hb dX0_placeOf_4 ?_
  refine lv_iconst (v := (nI 3)) hx hb dX0_placeOf_5 (by decide) ?_
  refine lv_imul hx hb dX0_placeOf_6 ?_
  exact W.iret (v := ((((nI n) * (nI 3)) + (nI k)) * (nI 3))) hx hb hr (fun t9 ht9 hW9 => ⟨_, rfl, by rw [pk_mul, nI_add, pk_mul], ht9⟩) (fun q h => by cases h) dX0_placeOf_7
end
section
set_option maxHeartbeats 4000000 in
set_option maxRecDepth 100000 in
/-- Math.floorDiv(x, y) of longs -/
theorem cj_floorDiv (l : Launch) (x y : Int64) (hy : ¬ y = 0) : Met l yJ9_floorDiv_f86c9 wsJ9_floorDiv_f86c9 ({ frames := 0, cells := 0, slots := 0, locals := 0 }) (fun v _ => v = [Value.long x, Value.long y].toArray) (vp_Sl (fun r => r = fdv x y)) 0 0 (fun _ => False) := by
  refine va_MetF (cc := cJ9_floorDiv_f86c9) (maxL := 6) (ret := (some .long)) (by decide +kernel) rfl ?_
  intro p e s m args below meth c s₁ B hml hv
  have hv : args = ([.long x, .long y]).toArray := hv
  subst hv
  have hx := B.exec
  have hb := B.bytes
  have hr := B.returns
  have hts := atoms_spec (ws := wsJ9_floorDiv_f86c9) B.pre
  have hown : s.vm.findClass RJ9 = some m.cls := findClass_of_methodNamed B.named
  have hlocks := B.notSynchronized
  have hl := lv_entry ([.long x, .long y]) (n := 6) (Nat.le_of_ble_eq_true rfl)
  rw [lg_entry_eq]
  generalize (lg_sl ([.long x, .long y]) ++ List.replicate (6 - (lg_sl ([.long x, .long y])).length) Slot.unset).toArray = ls at hl ⊢
  have hl : lv_has ls 6 [(0, .long x), (2, .long y)] := hl
  refine lv_lload_n hx hb dJ9_floorDiv_f86c9_0 rfl (lv_at hl 0 rfl) ?_
  refine lv_lload_n hx hb dJ9_floorDiv_f86c9_1 rfl (lv_at hl 1 rfl) ?_
  refine lv_ldiv hx hb dJ9_floorDiv_f86c9_2 hy ?_
  refine lv_lstore (lv' := [(4, .long (x / y)), (0, .long x), (2, .long y)]) hx hb dJ9_floorDiv_f86c9_3 hl (by decide) rfl (fun ls hl => ?_)
  refine lv_lload_n hx hb dJ9_floorDiv_f86c9_5 rfl (lv_at hl 1 rfl) ?_
  refine lv_lload_n hx hb dJ9_floorDiv_f86c9_6 rfl (lv_at hl 2 rfl) ?_
  refine lv_lxor hx hb dJ9_floorDiv_f86c9_7 ?_
  refine lv_lconst (v := 0) hx hb dJ9_floorDiv_f86c9_8 (by decide) ?_
  refine W.lcmp hx hb dJ9_floorDiv_f86c9_9 ?_
  refine lv_if_ge (tgt := 27) hx hb dJ9_floorDiv_f86c9_10 (by decide) (fun c1 => ?_) (fun c1 => ?_)
  · skip
    have c1 := (lg_cmp_ge _ _).mp c1
    refine lv_lload hx hb dJ9_floorDiv_f86c9_27 (lv_at hl 0 rfl) ?_
    exact W.lret (v := (x / y)) hx hb hr (fun t9 ht9 hW9 => ⟨_, rfl, by unfold fdv; rw [if_neg (fun h => Int64.not_lt.mpr c1 h.1)], ht9⟩) (fun q h => by cases h) dJ9_floorDiv_f86c9_29
  · skip
    have c1 := (fun q => c1 ((lg_cmp_ge _ _).mpr q))
    refine lv_lload hx hb dJ9_floorDiv_f86c9_13 (lv_at hl 0 rfl) ?_
    refine lv_lload_n hx hb dJ9_floorDiv_f86c9_15 rfl (lv_at hl 2 rfl) ?_
    refine lv_lmul hx hb dJ9_floorDiv_f86c9_16 ?_
    refine lv_lload_n hx hb dJ9_floorDiv_f86c9_17 rfl (lv_at hl 1 rfl) ?_
    refine W.lcmp hx hb dJ9_floorDiv_f86c9_18 ?_
    refine lv_if_eq (tgt := 27) hx hb dJ9_floorDiv_f86c9_19 (by decide) (fun c2 => ?_) (fun c2 => ?_)
    · skip
      have c2 := (lg_cmp_eq _ _).mp c2
      refine lv_lload hx hb dJ9_floorDiv_f86c9_27 (lv_at hl 0 rfl) ?_
      exact W.lret (v := (x / y)) hx hb hr (fun t9 ht9 hW9 => ⟨_, rfl, by unfold fdv; rw [if_neg (fun h => h.2 c2)], ht9⟩) (fun q h => by cases h) dJ9_floorDiv_f86c9_29
    · skip
      have c2 := (fun q => c2 ((lg_cmp_eq _ _).mpr q))
      refine lv_lload hx hb dJ9_floorDiv_f86c9_22 (lv_at hl 0 rfl) ?_
      refine lv_lconst (v := 1) hx hb dJ9_floorDiv_f86c9_24 (by decide) ?_
      refine lv_lsub hx hb dJ9_floorDiv_f86c9_25 ?_
      exact W.lret (v := ((x / y) - 1)) hx hb hr (fun t9 ht9 hW9 => ⟨_, rfl, by unfold fdv; rw [if_pos ⟨Int64.not_le.mp c1, c2⟩], ht9⟩) (fun q h => by cases h) dJ9_floorDiv_f86c9_26
set_option maxHeartbeats 4000000 in
set_option maxRecDepth 100000 in
/-- div(a, b) -/
theorem cx_div (l : Launch) (x y : Int64) : Met l yX0_div wsX0_div ({ frames := 1, cells := 0, slots := 0, locals := 25 }) (fun v _ => v = [Value.long x, Value.long y].toArray) (vp_Sl (fun r => r = dvL x y)) 0 0 (fun _ => False) := by
  refine Met.ofW (cc := cX0_div) (maxL := 4) (ret := (some .long)) (by decide) rfl ?_
  intro p e s m args below meth c s₁ B hml hv
  have hv : args = ([.long x, .long y]).toArray := hv
  subst hv
  have hx := B.exec
  have hb := B.bytes
  have hr := B.returns
  have hts := atoms_spec (ws := wsX0_div) B.pre
  have hown : s.vm.findClass RX0 = some m.cls := findClass_of_methodNamed B.named
  have hlocks := B.notSynchronized
  have hl := lv_entry ([.long x, .long y]) (n := 4) (Nat.le_of_ble_eq_true rfl)
  rw [lg_entry_eq]
  generalize (lg_sl ([.long x, .long y]) ++ List.replicate (4 - (lg_sl ([.long x, .long y])).length) Slot.unset).toArray = ls at hl ⊢
  have hl : lv_has ls 4 [(0, .long x), (2, .long y)] := hl
  refine lv_lload_n hx hb dX0_div_0 rfl (lv_at hl 1 rfl) ?_
  refine lv_lconst (v := 0) hx hb dX0_div_1 (by decide) ?_
  refine W.lcmp hx hb dX0_div_2 ?_
  refine lv_if_ne (tgt := 10) hx hb dX0_div_3 (by decide) (fun c1 => ?_) (fun c1 => ?_)
  · skip
    have c1 := (fun q => c1 ((lg_cmp_eq y 0).mpr q))
    refine lv_lload_n hx hb dX0_div_10 rfl (lv_at hl 0 rfl) ?_
    refine lv_lload_n hx hb dX0_div_11 rfl (lv_at hl 1 rfl) ?_
    refine vp_callSl (W.runS (As := [.long x, .long y]) (rest := []) ⟨hx, hb, hml, hown, hts⟩ (cj_floorDiv l x y c1) (va_cwS 2 hts gX0_div_J9_floorDiv_f86c9 rfl rfl rfl (by decide +kernel) ⟨Nat.le_of_ble_eq_true rfl, Nat.le_of_ble_eq_true rfl⟩) preEq rfl rfl hl.1 rfl (lv_room (Nat.le_of_ble_eq_true rfl)) dX0_div_12 ⟨Nat.le_of_ble_eq_true rfl, Nat.le_of_ble_eq_true rfl⟩) (fun r1 h_r1 => ?_)
    exact W.lret (v := r1) hx hb hr (fun t9 ht9 hW9 => ⟨_, rfl, by unfold dvL; rw [if_neg c1]; exact h_r1, ht9⟩) (fun q h => by cases h) dX0_div_15
  · skip
    have c1 := (lg_cmp_eq y 0).mp c1
    refine lv_lconst (v := 0) hx hb dX0_div_6 (by decide) ?_
    refine lv_goto (tgt := 15) hx hb dX0_div_7 (by decide) ?_
    exact W.lret (v := 0) hx hb hr (fun t9 ht9 hW9 => ⟨_, rfl, by unfold dvL; rw [if_pos c1], ht9⟩) (fun q h => by cases h) dX0_div_15
set_option maxHeartbeats 4000000 in
set_option maxRecDepth 100000 in
/-- mul(a, b) -/
theorem cx_mul (l : Launch) (x y : Int64) : Met l yX0_mul wsX0_mul ({ frames := 2, cells := 0, slots := 0, locals := 48 }) (fun v _ => v = [Value.long x, Value.long y].toArray) (vp_Sl (fun r => r = mlL x y)) 0 0 (fun _ => False) := by
  refine Met.ofW (cc := cX0_mul) (maxL := 4) (ret := (some .long)) (by decide) rfl ?_
  intro p e s m args below meth c s₁ B hml hv
  have hv : args = ([.long x, .long y]).toArray := hv
  subst hv
  have hx := B.exec
  have hb := B.bytes
  have hr := B.returns
  have hts := atoms_spec (ws := wsX0_mul) B.pre
  have hown : s.vm.findClass RX0 = some m.cls := findClass_of_methodNamed B.named
  have hlocks := B.notSynchronized
  have hl := lv_entry ([.long x, .long y]) (n := 4) (Nat.le_of_ble_eq_true rfl)
  rw [lg_entry_eq]
  generalize (lg_sl ([.long x, .long y]) ++ List.replicate (4 - (lg_sl ([.long x, .long y])).length) Slot.unset).toArray = ls at hl ⊢
  have hl : lv_has ls 4 [(0, .long x), (2, .long y)] := hl
  refine lv_lload_n hx hb dX0_mul_0 rfl (lv_at hl 0 rfl) ?_
  refine lv_lload_n hx hb dX0_mul_1 rfl (lv_at hl 1 rfl) ?_
  refine lv_lmul hx hb dX0_mul_2 ?_
  refine lv_ldc2 (v := 65536) hx hb hown (hts (.constantLong RX0 119 65536) (by decide +kernel)) dX0_mul_3 ?_
  refine vp_callSl (W.runS (As := [.long (x * y), .long 65536]) (rest := []) ⟨hx, hb, hml, hown, hts⟩ (cx_div l (x * y) 65536) (va_cwS 2 hts gX0_mul_X0_div rfl rfl rfl (by decide +kernel) ⟨Nat.le_of_ble_eq_true rfl, Nat.le_of_ble_eq_true rfl⟩) preEq rfl rfl hl.1 rfl (lv_room (Nat.le_of_ble_eq_true rfl)) dX0_mul_6 ⟨Nat.le_of_ble_eq_true rfl, Nat.le_of_ble_eq_true rfl⟩) (fun r1 h_r1 => ?_)
  exact W.lret (v := r1) hx hb hr (fun t9 ht9 hW9 => ⟨_, rfl, h_r1, ht9⟩) (fun q h => by cases h) dX0_mul_9
set_option maxHeartbeats 4000000 in
set_option maxRecDepth 100000 in
/-- smoothed(f) -/
theorem cx_smoothed (l : Launch) (x : Int64) : Met l yX0_smoothed wsX0_smoothed ({ frames := 3, cells := 0, slots := 0, locals := 71 }) (fun v _ => v = [Value.long x].toArray) (vp_Sl (fun r => r = smL x)) 0 0 (fun _ => False) := by
  refine Met.ofW (cc := cX0_smoothed) (maxL := 2) (ret := (some .long)) (by decide) rfl ?_
  intro p e s m args below meth c s₁ B hml hv
  have hv : args = ([.long x]).toArray := hv
  subst hv
  have hx := B.exec
  have hb := B.bytes
  have hr := B.returns
  have hts := atoms_spec (ws := wsX0_smoothed) B.pre
  have hown : s.vm.findClass RX0 = some m.cls := findClass_of_methodNamed B.named
  have hlocks := B.notSynchronized
  have hl := lv_entry ([.long x]) (n := 2) (Nat.le_of_ble_eq_true rfl)
  rw [lg_entry_eq]
  generalize (lg_sl ([.long x]) ++ List.replicate (2 - (lg_sl ([.long x])).length) Slot.unset).toArray = ls at hl ⊢
  have hl : lv_has ls 2 [(0, .long x)] := hl
  refine lv_lload_n hx hb dX0_smoothed_0 rfl (lv_at hl 0 rfl) ?_
  refine lv_lload_n hx hb dX0_smoothed_1 rfl (lv_at hl 0 rfl) ?_
  refine vp_callSl (W.runS (As := [.long x, .long x]) (rest := []) ⟨hx, hb, hml, hown, hts⟩ (cx_mul l x x) (va_cwS 2 hts gX0_smoothed_X0_mul rfl rfl rfl (by decide +kernel) ⟨Nat.le_of_ble_eq_true rfl, Nat.le_of_ble_eq_true rfl⟩) preEq rfl rfl hl.1 rfl (lv_room (Nat.le_of_ble_eq_true rfl)) dX0_smoothed_2 ⟨Nat.le_of_ble_eq_true rfl, Nat.le_of_ble_eq_true rfl⟩) (fun r1 h_r1 => ?_)
  refine lv_ldc2 (v := 196608) hx hb hown (hts (.constantLong RX0 128 196608) (by decide +kernel)) dX0_smoothed_5 ?_
  refine lv_ldc2 (v := 2) hx hb hown (hts (.constantLong RX0 130 2) (by decide +kernel)) dX0_smoothed_8 ?_
  refine lv_lload_n hx hb dX0_smoothed_11 rfl (lv_at hl 0 rfl) ?_
  refine lv_lmul hx hb dX0_smoothed_12 ?_
  refine lv_lsub hx hb dX0_smoothed_13 ?_
  refine vp_callSl (W.runS (As := [.long r1, .long (196608 - (2 * x))]) (rest := []) ⟨hx, hb, hml, hown, hts⟩ (cx_mul l r1 (196608 - (2 * x))) (va_cwS 2 hts gX0_smoothed_X0_mul rfl rfl rfl (by decide +kernel) ⟨Nat.le_of_ble_eq_true rfl, Nat.le_of_ble_eq_true rfl⟩) preEq rfl rfl hl.1 rfl (lv_room (Nat.le_of_ble_eq_true rfl)) dX0_smoothed_14 ⟨Nat.le_of_ble_eq_true rfl, Nat.le_of_ble_eq_true rfl⟩) (fun r2 h_r2 => ?_)
  exact W.lret (v := r2) hx hb hr (fun t9 ht9 hW9 => ⟨_, rfl, by rw [h_r2, h_r1]; rfl, ht9⟩) (fun q h => by cases h) dX0_smoothed_17
end
section
abbrev wX (cA : ClassId) (h0 a1 a2 a3 a4 a5 a6 a7 a8 a9 N T X : Nat) (nw : Int32) (fv tn tw th tk kt kn xt xn : Nat → Int32) : va_W := [(h0, .inr (0, [.int (nI N), .ref a1, .int (nI T), .ref a2, .ref a3, .ref a4, .ref a5, .ref a6, .ref a7, .int (nI X), .ref a8, .ref a9, .int nw])), (a1, .inl (cA, N * 9, .inl fv)), (a2, .inl (cA, 32, .inl tn)), (a3, .inl (cA, 32, .inl tw)), (a4, .inl (cA, 32, .inl th)), (a5, .inl (cA, 32, .inl tk)), (a6, .inl (cA, 1024, .inl kt)), (a7, .inl (cA, 3072, .inl kn)), (a8, .inl (cA, 32, .inl xt)), (a9, .inl (cA, 96, .inl xn))]
abbrev rX (dC : Nat → ClassId) (dI : Nat → Nat → Nat) (cA : ClassId) (h0 a1 a2 a3 a4 a5 a6 a7 a8 a9 N T X : Nat) (nw : Int32) (fv tn tw th tk kt kn xt xn : Nat → Int32) (U : State) : Prop := va_P (dC, dI) vwCl (wX cA h0 a1 a2 a3 a4 a5 a6 a7 a8 a9 N T X nw fv tn tw th tk kt kn xt xn) U.heap ∧ va_K (dC, dI) vwCl [(cA, .int)] U
abbrev bX (A : Nat → Prop) (dC : Nat → ClassId) (dI : Nat → Nat → Nat) (cA : ClassId) (h0 a1 a2 a3 a4 a5 a6 a7 a8 a9 N T X : Nat) (nw : Int32) (fv tn tw th tk kt kn xt xn : Nat → Int32) (U : State) : Prop := va_P (dC, dI) vwCl (wX cA h0 a1 a2 a3 a4 a5 a6 a7 a8 a9 N T X nw fv tn tw th tk kt kn xt xn) U.heap ∧ va_K (dC, dI) vwCl [(cA, .int)] U ∧ va_D A (wX cA h0 a1 a2 a3 a4 a5 a6 a7 a8 a9 N T X nw fv tn tw th tk kt kn xt xn)
abbrev eX (sz : Nat) (dC : Nat → ClassId) (dI : Nat → Nat → Nat) (cA : ClassId) (h0 a1 a2 a3 a4 a5 a6 a7 a8 a9 N T X : Nat) (nw : Int32) (fv tn tw th tk kt kn xt xn : Nat → Int32) (U : State) : Prop := U.heap.size = sz ∧ va_P (dC, dI) vwCl (wX cA h0 a1 a2 a3 a4 a5 a6 a7 a8 a9 N T X nw fv tn tw th tk kt kn xt xn) U.heap ∧ va_K (dC, dI) vwCl [(cA, .int)] U ∧ va_D (fun _ => True) (wX cA h0 a1 a2 a3 a4 a5 a6 a7 a8 a9 N T X nw fv tn tw th tk kt kn xt xn)
set_option maxHeartbeats 4000000 in
set_option maxRecDepth 100000 in
/-- isNode(x) -/
theorem cx_isNode (l : Launch) (dC : Nat → ClassId) (dI : Nat → Nat → Nat) (cA : ClassId) (h0 a1 a2 a3 a4 a5 a6 a7 a8 a9 N T X : Nat) (nw : Int32) (fv tn tw th tk kt kn xt xn : Nat → Int32) (x : Int32) (hN : N ≤ 48) : Met l yX0_isNode wsX0_isNode ({ frames := 0, cells := 0, slots := 0, locals := 0 }) (va_Pc [.ref h0, .int x] (rX dC dI cA h0 a1 a2 a3 a4 a5 a6 a7 a8 a9 N T X nw fv tn tw th tk kt kn xt xn)) (vp_Si (fun r => r = 0 ↔ ¬ q_node N x)) 0 0 (fun _ => False) := by
  refine Met.ofW (cc := cX0_isNode) (maxL := 2) (ret := (some .boolean)) (by decide) rfl ?_
  intro p e s m args below meth c s₁ B hml hv
  obtain ⟨rfl, hP, hK⟩ := hv
  have hx := B.exec
  have hb := B.bytes
  have hr := B.returns
  have hts := atoms_spec (ws := wsX0_isNode) B.pre
  have hown : s.vm.findClass RX0 = some m.cls := findClass_of_methodNamed B.named
  have hlocks := B.notSynchronized
  have hl := lv_entry ([.ref h0, .int x]) (n := 2) (Nat.le_of_ble_eq_true rfl)
  rw [lg_entry_eq]
  generalize (lg_sl ([.ref h0, .int x]) ++ List.replicate (2 - (lg_sl ([.ref h0, .int x])).length) Slot.unset).toArray = ls at hl ⊢
  have hl : lv_has ls 2 [(0, .ref h0), (1, .int x)] := hl
  have t0 := z_0
  have t1 : (nI N).toInt = N := nI_toInt (by omega)
  refine lv_iload_n hx hb dX0_isNode_0 rfl (lv_at hl 1 rfl) ?_
  refine lv_if_lt (tgt := 16) hx hb dX0_isNode_1 (by decide) (fun c1 => ?_) (fun c1 => ?_)
  · skip
    have c1 := zlt c1
    refine lv_iconst (v := (nI 0)) hx hb dX0_isNode_16 (by decide) ?_
    exact W.zret (v := (nI 0)) (ty := .boolean) hx hb hr (by decide) (fun t9 ht9 hW9 => ⟨_, rfl, bt0 (by unfold q_node; omega), ht9⟩) (fun q h => by cases h) dX0_isNode_17
  · skip
    have c1 := znlt c1
    refine lv_iload_n hx hb dX0_isNode_4 rfl (lv_at hl 1 rfl) ?_
    refine lv_aload_n hx hb dX0_isNode_5 rfl (lv_at hl 0 rfl) ?_
    refine va_get (D := (dC, dI)) (ci := 0) (v := .int (nI N)) (C := RX0) (T := TX0) (N := 13) hx hb hts (by decide +kernel) hown hK hP 0 rfl rfl 0 (by decide) (hts (.fieldLink RX0 18 "MotionDesk" "nodeCount" "I") (by decide +kernel)) (fun _ h9 => h9) rfl dX0_isNode_6 ?_
    refine lv_icmp_ge (tgt := 16) hx hb dX0_isNode_9 (by decide) (fun c2 => ?_) (fun c2 => ?_)
    · skip
      have c2 := zle c2
      refine lv_iconst (v := (nI 0)) hx hb dX0_isNode_16 (by decide) ?_
      exact W.zret (v := (nI 0)) (ty := .boolean) hx hb hr (by decide) (fun t9 ht9 hW9 => ⟨_, rfl, bt0 (by unfold q_node; omega), ht9⟩) (fun q h => by cases h) dX0_isNode_17
    · skip
      have c2 := znle c2
      refine lv_iconst (v := (nI 1)) hx hb dX0_isNode_12 (by decide) ?_
      refine lv_goto (tgt := 17) hx hb dX0_isNode_13 (by decide) ?_
      exact W.zret (v := (nI 1)) (ty := .boolean) hx hb hr (by decide) (fun t9 ht9 hW9 => ⟨_, rfl, bt1 (by unfold q_node; omega), ht9⟩) (fun q h => by cases h) dX0_isNode_17
set_option maxHeartbeats 4000000 in
set_option maxRecDepth 100000 in
/-- keyInForce(first, last) -/
theorem cx_kif (l : Launch) (dC : Nat → ClassId) (dI : Nat → Nat → Nat) (cA : ClassId) (h0 a1 a2 a3 a4 a5 a6 a7 a8 a9 N T X : Nat) (nw : Int32) (fv tn tw th tk kt kn xt xn : Nat → Int32) (f0 g0 : Nat) (hg : f0 + g0 < 1024) : Met l yX0_keyInForce wsX0_keyInForce ({ frames := 0, cells := 0, slots := 0, locals := 0 }) (va_Pc [.ref h0, .int (nI f0), .int (nI (f0 + g0))] (rX dC dI cA h0 a1 a2 a3 a4 a5 a6 a7 a8 a9 N T X nw fv tn tw th tk kt kn xt xn)) (vp_Si (fun r => r = nI (kif kt nw f0 g0))) 0 0 (fun _ => False) := by
  refine Met.ofW (cc := cX0_keyInForce) (maxL := 4) (ret := (some .int)) (by decide) rfl ?_
  intro p e s m args below meth c s₁ B hml hv
  obtain ⟨rfl, hP, hK⟩ := hv
  have hx := B.exec
  have hb := B.bytes
  have hr := B.returns
  have hts := atoms_spec (ws := wsX0_keyInForce) B.pre
  have hown : s.vm.findClass RX0 = some m.cls := findClass_of_methodNamed B.named
  have hlocks := B.notSynchronized
  have hl := lv_entry ([.ref h0, .int (nI f0), .int (nI (f0 + g0))]) (n := 4) (Nat.le_of_ble_eq_true rfl)
  rw [lg_entry_eq]
  generalize (lg_sl ([.ref h0, .int (nI f0), .int (nI (f0 + g0))]) ++ List.replicate (4 - (lg_sl ([.ref h0, .int (nI f0), .int (nI (f0 + g0))])).length) Slot.unset).toArray = ls at hl ⊢
  have hl : lv_has ls 4 [(0, .ref h0), (1, .int (nI f0)), (2, .int (nI (f0 + g0)))] := hl
  refine lv_iload_n hx hb dX0_keyInForce_0 rfl (lv_at hl 1 rfl) ?_
  refine lv_istore_n (lv' := [(3, .int (nI f0)), (0, .ref h0), (1, .int (nI f0)), (2, .int (nI (f0 + g0)))]) hx hb dX0_keyInForce_1 rfl hl (by decide) rfl (fun ls hl => ?_)
  obtain ⟨n, k, hn, hk, hl9⟩ : ∃ n k : Nat, k + n = f0 + g0 ∧ kif kt nw k n = kif kt nw f0 g0 ∧ lv_has ls 4 [(3, .int (nI k)), (0, .ref h0), (1, .int (nI f0)), (2, .int (nI (f0 + g0)))] := ⟨g0, f0, rfl, rfl, hl⟩
  clear hl; have hl := hl9; clear hl9
  induction n generalizing k ls with
  | zero =>
    have t1 : (nI k).toInt = k := nI_toInt (by omega)
    have t2 : (nI (f0 + g0)).toInt = (f0 + g0 : Nat) := nI_toInt (by omega)
    refine lv_iload_n hx hb dX0_keyInForce_2 rfl (lv_at hl 0 rfl) ?_
    refine lv_iload_n hx hb dX0_keyInForce_3 rfl (lv_at hl 3 rfl) ?_
    refine lv_icmp_ge (tgt := 28) hx hb dX0_keyInForce_4 (by decide) (fun c1 => ?_) (fun c1 => ?_)
    · skip
      have c1 := zle c1
      refine lv_iload_n hx hb dX0_keyInForce_28 rfl (lv_at hl 0 rfl) ?_
      exact W.iret (v := nI k) hx hb hr (fun t9 ht9 hW9 => ⟨_, rfl, by rw [← hk]; rfl, ht9⟩) (fun q h => by cases h) dX0_keyInForce_29
    · skip
      have c1 := znle c1
      exfalso; omega
  | succ n ih =>
    have t1 : (nI k).toInt = k := nI_toInt (by omega)
    have t2 : (nI (f0 + g0)).toInt = (f0 + g0 : Nat) := nI_toInt (by omega)
    refine lv_iload_n hx hb dX0_keyInForce_2 rfl (lv_at hl 0 rfl) ?_
    refine lv_iload_n hx hb dX0_keyInForce_3 rfl (lv_at hl 3 rfl) ?_
    refine lv_icmp_ge (tgt := 28) hx hb dX0_keyInForce_4 (by decide) (fun c2 => ?_) (fun c2 => ?_)
    · skip
      have c2 := zle c2
      exfalso; omega
    · skip
      have c2 := znle c2
      refine lv_aload_n hx hb dX0_keyInForce_7 rfl (lv_at hl 1 rfl) ?_
      refine va_get (D := (dC, dI)) (ci := 0) (v := .ref a6) (C := RX0) (T := TX0) (N := 13) hx hb hts (by decide +kernel) hown hK hP 0 rfl rfl 7 (by decide) (hts (.fieldLink RX0 42 "MotionDesk" "keyTimes" "[I") (by decide +kernel)) (fun _ h9 => h9) rfl dX0_keyInForce_8 ?_
      refine lv_iload_n hx hb dX0_keyInForce_11 rfl (lv_at hl 0 rfl) ?_
      refine lv_iconst (v := (nI 1)) hx hb dX0_keyInForce_12 (by decide) ?_
      refine lv_iadd hx hb dX0_keyInForce_13 ?_
      refine tp_i (y := nI (k + 1)) (nI_1 k) ?_
      refine va_iald hx hb hK hP 6 0 rfl rfl (vp_in_nI (by omega) (by omega)) dX0_keyInForce_14 ?_
      refine tp_i (y := (kt (k + 1))) (by rw [nI_clamp (by omega)]) ?_
      refine lv_aload_n hx hb dX0_keyInForce_15 rfl (lv_at hl 1 rfl) ?_
      refine va_get (D := (dC, dI)) (ci := 0) (v := .int nw) (C := RX0) (T := TX0) (N := 13) hx hb hts (by decide +kernel) hown hK hP 0 rfl rfl 12 (by decide) (hts (.fieldLink RX0 91 "MotionDesk" "now" "I") (by decide +kernel)) (fun _ h9 => h9) rfl dX0_keyInForce_16 ?_
      refine lv_icmp_gt (tgt := 28) hx hb dX0_keyInForce_19 (by decide) (fun c3 => ?_) (fun c3 => ?_)
      · skip
        have c3 := zlt c3
        refine lv_iload_n hx hb dX0_keyInForce_28 rfl (lv_at hl 0 rfl) ?_
        exact W.iret (v := nI k) hx hb hr (fun t9 ht9 hW9 => ⟨_, rfl, by rw [← hk, kif_s, if_neg (by omega)], ht9⟩) (fun q h => by cases h) dX0_keyInForce_29
      · skip
        have c3 := znlt c3
        refine lv_iinc (v := nI (k + 1)) (lv' := [(3, .int (nI (k + 1))), (0, .ref h0), (1, .int (nI f0)), (2, .int (nI (f0 + g0)))]) hx hb dX0_keyInForce_22 hl (k := 0) rfl (nI_1 k) (by decide) rfl (fun ls hl => ?_)
        refine lv_goto (tgt := 2) hx hb dX0_keyInForce_25 (by decide) ?_
        exact ih (ls := ls) (k := k + 1) (by omega) (by rw [← hk, kif_s, if_pos c3]) (lv_sub hl [0, 1, 2, 3] rfl)
set_option maxHeartbeats 4000000 in
set_option maxRecDepth 100000 in
/-- keysOfAllTracks() -/
theorem cx_keys (l : Launch) (dC : Nat → ClassId) (dI : Nat → Nat → Nat) (cA : ClassId) (h0 a1 a2 a3 a4 a5 a6 a7 a8 a9 N T X : Nat) (nw : Int32) (fv tn tw th tk kt kn xt xn : Nat → Int32) (hT : T ≤ 32) : Met l yX0_keysOfAllTracks wsX0_keysOfAllTracks ({ frames := 0, cells := 0, slots := 0, locals := 0 }) (va_Pc [.ref h0] (rX dC dI cA h0 a1 a2 a3 a4 a5 a6 a7 a8 a9 N T X nw fv tn tw th tk kt kn xt xn)) (vp_Si (fun r => r = bx_sum tk T)) 0 0 (fun _ => False) := by
  refine Met.ofW (cc := cX0_keysOfAllTracks) (maxL := 3) (ret := (some .int)) (by decide) rfl ?_
  intro p e s m args below meth c s₁ B hml hv
  obtain ⟨rfl, hP, hK⟩ := hv
  have hx := B.exec
  have hb := B.bytes
  have hr := B.returns
  have hts := atoms_spec (ws := wsX0_keysOfAllTracks) B.pre
  have hown : s.vm.findClass RX0 = some m.cls := findClass_of_methodNamed B.named
  have hlocks := B.notSynchronized
  have hl := lv_entry ([.ref h0]) (n := 3) (Nat.le_of_ble_eq_true rfl)
  rw [lg_entry_eq]
  generalize (lg_sl ([.ref h0]) ++ List.replicate (3 - (lg_sl ([.ref h0])).length) Slot.unset).toArray = ls at hl ⊢
  have hl : lv_has ls 3 [(0, .ref h0)] := hl
  refine lv_iconst (v := (nI 0)) hx hb dX0_keysOfAllTracks_0 (by decide) ?_
  refine lv_istore_n (lv' := [(1, .int (nI 0)), (0, .ref h0)]) hx hb dX0_keysOfAllTracks_1 rfl hl (by decide) rfl (fun ls hl => ?_)
  refine lv_iconst (v := (nI 0)) hx hb dX0_keysOfAllTracks_2 (by decide) ?_
  refine lv_istore_n (lv' := [(2, .int (nI 0)), (1, .int (nI 0)), (0, .ref h0)]) hx hb dX0_keysOfAllTracks_3 rfl hl (by decide) rfl (fun ls hl => ?_)
  obtain ⟨n, k, hn, hl9⟩ : ∃ n k : Nat, k + n = T ∧ lv_has ls 3 [(2, .int (nI k)), (1, .int (bx_sum tk k)), (0, .ref h0)] := ⟨T, 0, by omega, hl⟩
  clear hl; have hl := hl9; clear hl9
  induction n generalizing k ls with
  | zero =>
    have t1 : (nI k).toInt = k := nI_toInt (by omega)
    have t2 : (nI T).toInt = T := nI_toInt (by omega)
    refine lv_iload_n hx hb dX0_keysOfAllTracks_4 rfl (lv_at hl 0 rfl) ?_
    refine lv_aload_n hx hb dX0_keysOfAllTracks_5 rfl (lv_at hl 2 rfl) ?_
    refine va_get (D := (dC, dI)) (ci := 0) (v := .int (nI T)) (C := RX0) (T := TX0) (N := 13) hx hb hts (by decide +kernel) hown hK hP 0 rfl rfl 2 (by decide) (hts (.fieldLink RX0 69 "MotionDesk" "trackCount" "I") (by decide +kernel)) (fun _ h9 => h9) rfl dX0_keysOfAllTracks_6 ?_
    refine lv_icmp_ge (tgt := 27) hx hb dX0_keysOfAllTracks_9 (by decide) (fun c1 => ?_) (fun c1 => ?_)
    · skip
      have c1 := zle c1
      refine lv_iload_n hx hb dX0_keysOfAllTracks_27 rfl (lv_at hl 1 rfl) ?_
      exact W.iret (v := bx_sum tk k) hx hb hr (fun t9 ht9 hW9 => ⟨_, rfl, by rw [show k = T by omega], ht9⟩) (fun q h => by cases h) dX0_keysOfAllTracks_28
    · skip
      have c1 := znle c1
      exfalso; omega
  | succ n ih =>
    have t1 : (nI k).toInt = k := nI_toInt (by omega)
    have t2 : (nI T).toInt = T := nI_toInt (by omega)
    refine lv_iload_n hx hb dX0_keysOfAllTracks_4 rfl (lv_at hl 0 rfl) ?_
    refine lv_aload_n hx hb dX0_keysOfAllTracks_5 rfl (lv_at hl 2 rfl) ?_
    refine va_get (D := (dC, dI)) (ci := 0) (v := .int (nI T)) (C := RX0) (T := TX0) (N := 13) hx hb hts (by decide +kernel) hown hK hP 0 rfl rfl 2 (by decide) (hts (.fieldLink RX0 69 "MotionDesk" "trackCount" "I") (by decide +kernel)) (fun _ h9 => h9) rfl dX0_keysOfAllTracks_6 ?_
    refine lv_icmp_ge (tgt := 27) hx hb dX0_keysOfAllTracks_9 (by decide) (fun c2 => ?_) (fun c2 => ?_)
    · skip
      have c2 := zle c2
      exfalso; omega
    · skip
      have c2 := znle c2
      refine lv_iload_n hx hb dX0_keysOfAllTracks_12 rfl (lv_at hl 1 rfl) ?_
      refine lv_aload_n hx hb dX0_keysOfAllTracks_13 rfl (lv_at hl 2 rfl) ?_
      refine va_get (D := (dC, dI)) (ci := 0) (v := .ref a5) (C := RX0) (T := TX0) (N := 13) hx hb hts (by decide +kernel) hown hK hP 0 rfl rfl 6 (by decide) (hts (.fieldLink RX0 39 "MotionDesk" "trackKeys" "[I") (by decide +kernel)) (fun _ h9 => h9) rfl dX0_keysOfAllTracks_14 ?_
      refine lv_iload_n hx hb dX0_keysOfAllTracks_17 rfl (lv_at hl 0 rfl) ?_
      refine va_iald hx hb hK hP 5 0 rfl rfl (vp_in_nI (by omega) (by omega)) dX0_keysOfAllTracks_18 ?_
      refine tp_i (y := (tk k)) (by rw [nI_clamp (by omega)]) ?_
      refine lv_iadd hx hb dX0_keysOfAllTracks_19 ?_
      refine tp_i (y := bx_sum tk (k + 1)) (rfl) ?_
      refine lv_istore_n (lv' := [(1, .int (bx_sum tk (k + 1))), (2, .int (nI k)), (0, .ref h0)]) hx hb dX0_keysOfAllTracks_20 rfl hl (by decide) rfl (fun ls hl => ?_)
      refine lv_iinc (v := nI (k + 1)) (lv' := [(2, .int (nI (k + 1))), (1, .int (bx_sum tk (k + 1))), (0, .ref h0)]) hx hb dX0_keysOfAllTracks_21 hl (k := 1) rfl (nI_1 k) (by decide) rfl (fun ls hl => ?_)
      refine lv_goto (tgt := 4) hx hb dX0_keysOfAllTracks_24 (by decide) ?_
      exact ih (ls := ls) (k := k + 1) (by omega) hl
set_option maxHeartbeats 4000000 in
set_option maxRecDepth 100000 in
/-- textFits(keys, what) -/
theorem cx_fits (l : Launch) (dC : Nat → ClassId) (dI : Nat → Nat → Nat) (cA : ClassId) (h0 a1 a2 a3 a4 a5 a6 a7 a8 a9 N T X : Nat) (nw : Int32) (fv tn tw th tk kt kn xt xn : Nat → Int32) (K : Nat) (a : Int32) (hK32 : K ≤ 32) : Met l yX0_textFits wsX0_textFits ({ frames := 2, cells := 0, slots := 0, locals := 45 }) (va_Pc [.ref h0, .int (nI K), .int a] (rX dC dI cA h0 a1 a2 a3 a4 a5 a6 a7 a8 a9 N T X nw fv tn tw th tk kt kn xt xn)) (vp_Si (fun r => r = 0 ↔ ¬ q_all a xn K)) 0 0 (fun _ => False) := by
  refine Met.ofW (cc := cX0_textFits) (maxL := 5) (ret := (some .boolean)) (by decide) rfl ?_
  intro p e s m args below meth c s₁ B hml hv
  obtain ⟨rfl, hP, hK⟩ := hv
  have hx := B.exec
  have hb := B.bytes
  have hr := B.returns
  have hts := atoms_spec (ws := wsX0_textFits) B.pre
  have hown : s.vm.findClass RX0 = some m.cls := findClass_of_methodNamed B.named
  have hlocks := B.notSynchronized
  have hl := lv_entry ([.ref h0, .int (nI K), .int a]) (n := 5) (Nat.le_of_ble_eq_true rfl)
  rw [lg_entry_eq]
  generalize (lg_sl ([.ref h0, .int (nI K), .int a]) ++ List.replicate (5 - (lg_sl ([.ref h0, .int (nI K), .int a])).length) Slot.unset).toArray = ls at hl ⊢
  have hl : lv_has ls 5 [(0, .ref h0), (1, .int (nI K)), (2, .int a)] := hl
  refine lv_iconst (v := (nI 0)) hx hb dX0_textFits_0 (by decide) ?_
  refine lv_istore_n (lv' := [(3, .int (nI 0)), (0, .ref h0), (1, .int (nI K)), (2, .int a)]) hx hb dX0_textFits_1 rfl hl (by decide) rfl (fun ls hl => ?_)
  obtain ⟨n, k, hn, ha, hl9⟩ : ∃ n k : Nat, k + n = K ∧ (∀ j, j < k → q_fits a xn j) ∧ lv_has ls 5 [(3, .int (nI k)), (0, .ref h0), (1, .int (nI K)), (2, .int a)] := ⟨K, 0, by omega, lt_0, hl⟩
  clear hl; have hl := hl9; clear hl9
  induction n generalizing k ls with
  | zero =>
    have t1 : (nI k).toInt = k := nI_toInt (by omega)
    have t2 : (nI K).toInt = K := nI_toInt (by omega)
    refine lv_iload_n hx hb dX0_textFits_2 rfl (lv_at hl 0 rfl) ?_
    refine lv_iload_n hx hb dX0_textFits_3 rfl (lv_at hl 2 rfl) ?_
    refine lv_icmp_ge (tgt := 52) hx hb dX0_textFits_4 (by decide) (fun c1 => ?_) (fun c1 => ?_)
    · skip
      have c1 := zle c1
      refine lv_iconst (v := (nI 1)) hx hb dX0_textFits_52 (by decide) ?_
      exact W.zret (v := (nI 1)) (ty := .boolean) hx hb hr (by decide) (fun t9 ht9 hW9 => ⟨_, rfl, bt1 (fun j hj => ha j (by omega)), ht9⟩) (fun q h => by cases h) dX0_textFits_53
    · skip
      have c1 := znle c1
      exfalso; omega
  | succ n ih =>
    have t1 : (nI k).toInt = k := nI_toInt (by omega)
    have t2 : (nI K).toInt = K := nI_toInt (by omega)
    refine lv_iload_n hx hb dX0_textFits_2 rfl (lv_at hl 0 rfl) ?_
    refine lv_iload_n hx hb dX0_textFits_3 rfl (lv_at hl 2 rfl) ?_
    refine lv_icmp_ge (tgt := 52) hx hb dX0_textFits_4 (by decide) (fun c2 => ?_) (fun c2 => ?_)
    · skip
      have c2 := zle c2
      exfalso; omega
    · skip
      have c2 := znle c2
      refine lv_iload_n hx hb dX0_textFits_7 rfl (lv_at hl 0 rfl) ?_
      refine lv_iconst (v := (nI 3)) hx hb dX0_textFits_8 (by decide) ?_
      refine lv_imul hx hb dX0_textFits_9 ?_
      refine tp_i (y := nI (k * 3)) (pk_mul k 3) ?_
      refine lv_istore (lv' := [(4, .int (nI (k * 3))), (3, .int (nI k)), (0, .ref h0), (1, .int (nI K)), (2, .int a)]) hx hb dX0_textFits_10 hl (by decide) rfl (fun ls hl => ?_)
      refine lv_iload_n hx hb dX0_textFits_12 rfl (lv_at hl 4 rfl) ?_
      refine lv_aload_n hx hb dX0_textFits_13 rfl (lv_at hl 2 rfl) ?_
      refine va_get (D := (dC, dI)) (ci := 0) (v := .ref a9) (C := RX0) (T := TX0) (N := 13) hx hb hts (by decide +kernel) hown hK hP 0 rfl rfl 11 (by decide) (hts (.fieldLink RX0 51 "MotionDesk" "textNumbers" "[I") (by decide +kernel)) (fun _ h9 => h9) rfl dX0_textFits_14 ?_
      refine lv_iload hx hb dX0_textFits_17 (lv_at hl 0 rfl) ?_
      refine va_iald hx hb hK hP 9 0 rfl rfl (vp_in_nI (by omega) (by omega)) dX0_textFits_19 ?_
      refine tp_i (y := (xn (k * 3))) (by rw [nI_clamp (by omega)]) ?_
      refine lv_aload_n hx hb dX0_textFits_20 rfl (lv_at hl 2 rfl) ?_
      refine va_get (D := (dC, dI)) (ci := 0) (v := .ref a9) (C := RX0) (T := TX0) (N := 13) hx hb hts (by decide +kernel) hown hK hP 0 rfl rfl 11 (by decide) (hts (.fieldLink RX0 51 "MotionDesk" "textNumbers" "[I") (by decide +kernel)) (fun _ h9 => h9) rfl dX0_textFits_21 ?_
      refine lv_iload hx hb dX0_textFits_24 (lv_at hl 0 rfl) ?_
      refine lv_iconst (v := (nI 1)) hx hb dX0_textFits_26 (by decide) ?_
      refine lv_iadd hx hb dX0_textFits_27 ?_
      refine tp_i (y := nI (k * 3 + 1)) (nI_add _ 1) ?_
      refine va_iald hx hb hK hP 9 0 rfl rfl (vp_in_nI (by omega) (by omega)) dX0_textFits_28 ?_
      refine tp_i (y := (xn (k * 3 + 1))) (by rw [nI_clamp (by omega)]) ?_
      refine lv_aload_n hx hb dX0_textFits_29 rfl (lv_at hl 2 rfl) ?_
      refine va_get (D := (dC, dI)) (ci := 0) (v := .ref a9) (C := RX0) (T := TX0) (N := 13) hx hb hts (by decide +kernel) hown hK hP 0 rfl rfl 11 (by decide) (hts (.fieldLink RX0 51 "MotionDesk" "textNumbers" "[I") (by decide +kernel)) (fun _ h9 => h9) rfl dX0_textFits_30 ?_
      refine lv_iload hx hb dX0_textFits_33 (lv_at hl 0 rfl) ?_
      refine lv_iconst (v := (nI 2)) hx hb dX0_textFits_35 (by decide) ?_
      refine lv_iadd hx hb dX0_textFits_36 ?_
      refine tp_i (y := nI (k * 3 + 2)) (nI_add _ 2) ?_
      refine va_iald hx hb hK hP 9 0 rfl rfl (vp_in_nI (by omega) (by omega)) dX0_textFits_37 ?_
      refine tp_i (y := (xn (k * 3 + 2))) (by rw [nI_clamp (by omega)]) ?_
      refine vp_callSi (W.runS (As := [.int a, .int (xn (k * 3)), .int (xn (k * 3 + 1)), .int (xn (k * 3 + 2))]) (rest := []) ⟨hx, hb, hml, hown, hts⟩ (cx_canHave l a (xn (k * 3)) (xn (k * 3 + 1)) (xn (k * 3 + 2))) (va_cwS 4 hts gX0_textFits_X0_canHave rfl rfl rfl (by decide +kernel) ⟨Nat.le_of_ble_eq_true rfl, Nat.le_of_ble_eq_true rfl⟩) preEq rfl rfl hl.1 rfl (lv_room (Nat.le_of_ble_eq_true rfl)) dX0_textFits_38 ⟨Nat.le_of_ble_eq_true rfl, Nat.le_of_ble_eq_true rfl⟩) (fun bo3 h_bo3 => ?_)
      refine lv_if_ne (tgt := 46) hx hb dX0_textFits_41 (by decide) (fun c4 => ?_) (fun c4 => ?_)
      · skip
        have c4 := btT h_bo3 c4
        refine lv_iinc (v := nI (k + 1)) (lv' := [(3, .int (nI (k + 1))), (4, .int (nI (k * 3))), (0, .ref h0), (1, .int (nI K)), (2, .int a)]) hx hb dX0_textFits_46 hl (k := 1) rfl (nI_1 k) (by decide) rfl (fun ls hl => ?_)
        refine lv_goto (tgt := 2) hx hb dX0_textFits_49 (by decide) ?_
        exact ih (ls := ls) (k := k + 1) (by omega) (lt_s ha c4) (lv_sub hl [0, 2, 3, 4] rfl)
      · skip
        have c4 := btF h_bo3 c4
        refine lv_iconst (v := (nI 0)) hx hb dX0_textFits_44 (by decide) ?_
        exact W.zret (v := (nI 0)) (ty := .boolean) hx hb hr (by decide) (fun t9 ht9 hW9 => ⟨_, rfl, bt0 (fun h => c4 (h k (by omega))), ht9⟩) (fun q h => by cases h) dX0_textFits_45
set_option maxHeartbeats 4000000 in
set_option maxRecDepth 100000 in
/-- between(how, key, i) -/
theorem cx_btw (l : Launch) (dC : Nat → ClassId) (dI : Nat → Nat → Nat) (cA : ClassId) (h0 a1 a2 a3 a4 a5 a6 a7 a8 a9 N T X : Nat) (nw : Int32) (fv tn tw th tk kt kn xt xn : Nat → Int32) (a : Int32) (k j : Nat) (hk : k + 1 < 1024) (hj : j < 3) : Met l yX0_between wsX0_between ({ frames := 4, cells := 0, slots := 0, locals := 92 }) (va_Pc [.ref h0, .int a, .int (nI k), .int (nI j)] (rX dC dI cA h0 a1 a2 a3 a4 a5 a6 a7 a8 a9 N T X nw fv tn tw th tk kt kn xt xn)) (vp_Si (fun r => r = btw kt kn nw a k j)) 0 0 (fun _ => False) := by
  refine Met.ofW (cc := cX0_between) (maxL := 12) (ret := (some .int)) (by decide) rfl ?_
  intro p e s m args below meth c s₁ B hml hv
  obtain ⟨rfl, hP, hK⟩ := hv
  have hx := B.exec
  have hb := B.bytes
  have hr := B.returns
  have hts := atoms_spec (ws := wsX0_between) B.pre
  have hown : s.vm.findClass RX0 = some m.cls := findClass_of_methodNamed B.named
  have hlocks := B.notSynchronized
  have hl := lv_entry ([.ref h0, .int a, .int (nI k), .int (nI j)]) (n := 12) (Nat.le_of_ble_eq_true rfl)
  rw [lg_entry_eq]
  generalize (lg_sl ([.ref h0, .int a, .int (nI k), .int (nI j)]) ++ List.replicate (12 - (lg_sl ([.ref h0, .int a, .int (nI k), .int (nI j)])).length) Slot.unset).toArray = ls at hl ⊢
  have hl : lv_has ls 12 [(0, .ref h0), (1, .int a), (2, .int (nI k)), (3, .int (nI j))] := hl
  have t1 : (nI 1).toInt = 1 := by decide
  have t2 : (nI 2).toInt = 2 := by decide
  refine lv_aload_n hx hb dX0_between_0 rfl (lv_at hl 0 rfl) ?_
  refine va_get (D := (dC, dI)) (ci := 0) (v := .ref a7) (C := RX0) (T := TX0) (N := 13) hx hb hts (by decide +kernel) hown hK hP 0 rfl rfl 8 (by decide) (hts (.fieldLink RX0 45 "MotionDesk" "keyNumbers" "[I") (by decide +kernel)) (fun _ h9 => h9) rfl dX0_between_1 ?_
  refine lv_iload_n hx hb dX0_between_4 rfl (lv_at hl 2 rfl) ?_
  refine lv_iconst (v := (nI 3)) hx hb dX0_between_5 (by decide) ?_
  refine lv_imul hx hb dX0_between_6 ?_
  refine tp_i (y := nI (k * 3)) (pk_mul k 3) ?_
  refine lv_iload_n hx hb dX0_between_7 rfl (lv_at hl 3 rfl) ?_
  refine lv_iadd hx hb dX0_between_8 ?_
  refine tp_i (y := nI (k * 3 + j)) (nI_add _ _) ?_
  refine va_iald hx hb hK hP 7 0 rfl rfl (vp_in_nI (by omega) (by omega)) dX0_between_9 ?_
  refine tp_i (y := (kn (k * 3 + j))) (by rw [nI_clamp (by omega)]) ?_
  refine lv_i2l (v := (kn (k * 3 + j)).toInt64) hx hb dX0_between_10 rfl ?_
  refine lv_lstore (lv' := [(4, .long ((kn (k * 3 + j)).toInt64)), (0, .ref h0), (1, .int a), (2, .int (nI k)), (3, .int (nI j))]) hx hb dX0_between_11 hl (by decide) rfl (fun ls hl => ?_)
  refine lv_aload_n hx hb dX0_between_13 rfl (lv_at hl 1 rfl) ?_
  refine va_get (D := (dC, dI)) (ci := 0) (v := .ref a7) (C := RX0) (T := TX0) (N := 13) hx hb hts (by decide +kernel) hown hK hP 0 rfl rfl 8 (by decide) (hts (.fieldLink RX0 45 "MotionDesk" "keyNumbers" "[I") (by decide +kernel)) (fun _ h9 => h9) rfl dX0_between_14 ?_
  refine lv_iload_n hx hb dX0_between_17 rfl (lv_at hl 3 rfl) ?_
  refine lv_iconst (v := (nI 1)) hx hb dX0_between_18 (by decide) ?_
  refine lv_iadd hx hb dX0_between_19 ?_
  refine tp_i (y := nI (k + 1)) (nI_1 k) ?_
  refine lv_iconst (v := (nI 3)) hx hb dX0_between_20 (by decide) ?_
  refine lv_imul hx hb dX0_between_21 ?_
  refine tp_i (y := nI ((k + 1) * 3)) (pk_mul (k + 1) 3) ?_
  refine lv_iload_n hx hb dX0_between_22 rfl (lv_at hl 4 rfl) ?_
  refine lv_iadd hx hb dX0_between_23 ?_
  refine tp_i (y := nI ((k + 1) * 3 + j)) (nI_add _ _) ?_
  refine va_iald hx hb hK hP 7 0 rfl rfl (vp_in_nI (by omega) (by omega)) dX0_between_24 ?_
  refine tp_i (y := (kn ((k + 1) * 3 + j))) (by rw [nI_clamp (by omega)]) ?_
  refine lv_i2l (v := (kn ((k + 1) * 3 + j)).toInt64) hx hb dX0_between_25 rfl ?_
  refine lv_lload hx hb dX0_between_26 (lv_at hl 0 rfl) ?_
  refine lv_lsub hx hb dX0_between_28 ?_
  refine lv_lstore (lv' := [(6, .long (((kn ((k + 1) * 3 + j)).toInt64) - ((kn (k * 3 + j)).toInt64))), (4, .long ((kn (k * 3 + j)).toInt64)), (0, .ref h0), (1, .int a), (2, .int (nI k)), (3, .int (nI j))]) hx hb dX0_between_29 hl (by decide) rfl (fun ls hl => ?_)
  refine lv_aload_n hx hb dX0_between_31 rfl (lv_at hl 2 rfl) ?_
  refine va_get (D := (dC, dI)) (ci := 0) (v := .int nw) (C := RX0) (T := TX0) (N := 13) hx hb hts (by decide +kernel) hown hK hP 0 rfl rfl 12 (by decide) (hts (.fieldLink RX0 91 "MotionDesk" "now" "I") (by decide +kernel)) (fun _ h9 => h9) rfl dX0_between_32 ?_
  refine lv_aload_n hx hb dX0_between_35 rfl (lv_at hl 2 rfl) ?_
  refine va_get (D := (dC, dI)) (ci := 0) (v := .ref a6) (C := RX0) (T := TX0) (N := 13) hx hb hts (by decide +kernel) hown hK hP 0 rfl rfl 7 (by decide) (hts (.fieldLink RX0 42 "MotionDesk" "keyTimes" "[I") (by decide +kernel)) (fun _ h9 => h9) rfl dX0_between_36 ?_
  refine lv_iload_n hx hb dX0_between_39 rfl (lv_at hl 4 rfl) ?_
  refine va_iald hx hb hK hP 6 0 rfl rfl (vp_in_nI (by omega) (by omega)) dX0_between_40 ?_
  refine tp_i (y := (kt k)) (by rw [nI_clamp (by omega)]) ?_
  refine lv_isub hx hb dX0_between_41 ?_
  refine lv_i2l (v := (nw - (kt k)).toInt64) hx hb dX0_between_42 rfl ?_
  refine lv_lstore (lv' := [(8, .long ((nw - (kt k)).toInt64)), (6, .long (((kn ((k + 1) * 3 + j)).toInt64) - ((kn (k * 3 + j)).toInt64))), (4, .long ((kn (k * 3 + j)).toInt64)), (0, .ref h0), (1, .int a), (2, .int (nI k)), (3, .int (nI j))]) hx hb dX0_between_43 hl (by decide) rfl (fun ls hl => ?_)
  refine lv_aload_n hx hb dX0_between_45 rfl (lv_at hl 3 rfl) ?_
  refine va_get (D := (dC, dI)) (ci := 0) (v := .ref a6) (C := RX0) (T := TX0) (N := 13) hx hb hts (by decide +kernel) hown hK hP 0 rfl rfl 7 (by decide) (hts (.fieldLink RX0 42 "MotionDesk" "keyTimes" "[I") (by decide +kernel)) (fun _ h9 => h9) rfl dX0_between_46 ?_
  refine lv_iload_n hx hb dX0_between_49 rfl (lv_at hl 5 rfl) ?_
  refine lv_iconst (v := (nI 1)) hx hb dX0_between_50 (by decide) ?_
  refine lv_iadd hx hb dX0_between_51 ?_
  refine tp_i (y := nI (k + 1)) (nI_1 k) ?_
  refine va_iald hx hb hK hP 6 0 rfl rfl (vp_in_nI (by omega) (by omega)) dX0_between_52 ?_
  refine tp_i (y := (kt (k + 1))) (by rw [nI_clamp (by omega)]) ?_
  refine lv_aload_n hx hb dX0_between_53 rfl (lv_at hl 3 rfl) ?_
  refine va_get (D := (dC, dI)) (ci := 0) (v := .ref a6) (C := RX0) (T := TX0) (N := 13) hx hb hts (by decide +kernel) hown hK hP 0 rfl rfl 7 (by decide) (hts (.fieldLink RX0 42 "MotionDesk" "keyTimes" "[I") (by decide +kernel)) (fun _ h9 => h9) rfl dX0_between_54 ?_
  refine lv_iload_n hx hb dX0_between_57 rfl (lv_at hl 5 rfl) ?_
  refine va_iald hx hb hK hP 6 0 rfl rfl (vp_in_nI (by omega) (by omega)) dX0_between_58 ?_
  refine tp_i (y := (kt k)) (by rw [nI_clamp (by omega)]) ?_
  refine lv_isub hx hb dX0_between_59 ?_
  refine lv_i2l (v := ((kt (k + 1)) - (kt k)).toInt64) hx hb dX0_between_60 rfl ?_
  refine lv_lstore (lv' := [(10, .long (((kt (k + 1)) - (kt k)).toInt64)), (8, .long ((nw - (kt k)).toInt64)), (6, .long (((kn ((k + 1) * 3 + j)).toInt64) - ((kn (k * 3 + j)).toInt64))), (4, .long ((kn (k * 3 + j)).toInt64)), (0, .ref h0), (1, .int a), (2, .int (nI k)), (3, .int (nI j))]) hx hb dX0_between_61 hl (by decide) rfl (fun ls hl => ?_)
  refine lv_iload_n hx hb dX0_between_63 rfl (lv_at hl 5 rfl) ?_
  refine lv_iconst (v := (nI 1)) hx hb dX0_between_64 (by decide) ?_
  refine lv_icmp_ne (tgt := 83) hx hb dX0_between_65 (by decide) (fun c1 => ?_) (fun c1 => ?_)
  · skip
    have c1 := zne c1
    refine lv_iload_n hx hb dX0_between_83 rfl (lv_at hl 5 rfl) ?_
    refine lv_iconst (v := (nI 2)) hx hb dX0_between_84 (by decide) ?_
    refine lv_icmp_ne (tgt := 112) hx hb dX0_between_85 (by decide) (fun c2 => ?_) (fun c2 => ?_)
    · skip
      have c2 := zne c2
      refine lv_lload hx hb dX0_between_112 (lv_at hl 3 rfl) ?_
      refine lv_l2i (v := ((kn (k * 3 + j)).toInt64).toInt32) hx hb dX0_between_114 rfl ?_
      exact W.iret (v := ((kn (k * 3 + j)).toInt64).toInt32) hx hb hr (fun t9 ht9 hW9 => ⟨_, rfl, by unfold btw; rw [if_neg (by omega), if_neg (by omega)], ht9⟩) (fun q h => by cases h) dX0_between_115
    · skip
      have c2 := zeq c2
      refine lv_lload hx hb dX0_between_88 (lv_at hl 3 rfl) ?_
      refine lv_lload hx hb dX0_between_90 (lv_at hl 2 rfl) ?_
      refine lv_lload hx hb dX0_between_92 (lv_at hl 1 rfl) ?_
      refine lv_ldc2 (v := 65536) hx hb hown (hts (.constantLong RX0 119 65536) (by decide +kernel)) dX0_between_94 ?_
      refine lv_lmul hx hb dX0_between_97 ?_
      refine lv_lload hx hb dX0_between_98 (lv_at hl 0 rfl) ?_
      refine vp_callSl (W.runS (As := [.long (((nw - (kt k)).toInt64) * 65536), .long (((kt (k + 1)) - (kt k)).toInt64)]) (rest := [.long (((kn ((k + 1) * 3 + j)).toInt64) - ((kn (k * 3 + j)).toInt64)), .long ((kn (k * 3 + j)).toInt64)]) ⟨hx, hb, hml, hown, hts⟩ (cx_div l (((nw - (kt k)).toInt64) * 65536) (((kt (k + 1)) - (kt k)).toInt64)) (va_cwS 2 hts gX0_between_X0_div rfl rfl rfl (by decide +kernel) ⟨Nat.le_of_ble_eq_true rfl, Nat.le_of_ble_eq_true rfl⟩) preEq rfl rfl hl.1 rfl (lv_room (Nat.le_of_ble_eq_true rfl)) dX0_between_100 ⟨Nat.le_of_ble_eq_true rfl, Nat.le_of_ble_eq_true rfl⟩) (fun r3 h_r3 => ?_)
      refine vp_callSl (W.runS (As := [.long r3]) (rest := [.long (((kn ((k + 1) * 3 + j)).toInt64) - ((kn (k * 3 + j)).toInt64)), .long ((kn (k * 3 + j)).toInt64)]) ⟨hx, hb, hml, hown, hts⟩ (cx_smoothed l r3) (va_cwS 1 hts gX0_between_X0_smoothed rfl rfl rfl (by decide +kernel) ⟨Nat.le_of_ble_eq_true rfl, Nat.le_of_ble_eq_true rfl⟩) preEq rfl rfl hl.1 rfl (lv_room (Nat.le_of_ble_eq_true rfl)) dX0_between_103 ⟨Nat.le_of_ble_eq_true rfl, Nat.le_of_ble_eq_true rfl⟩) (fun r4 h_r4 => ?_)
      refine vp_callSl (W.runS (As := [.long (((kn ((k + 1) * 3 + j)).toInt64) - ((kn (k * 3 + j)).toInt64)), .long r4]) (rest := [.long ((kn (k * 3 + j)).toInt64)]) ⟨hx, hb, hml, hown, hts⟩ (cx_mul l (((kn ((k + 1) * 3 + j)).toInt64) - ((kn (k * 3 + j)).toInt64)) r4) (va_cwS 2 hts gX0_between_X0_mul rfl rfl rfl (by decide +kernel) ⟨Nat.le_of_ble_eq_true rfl, Nat.le_of_ble_eq_true rfl⟩) preEq rfl rfl hl.1 rfl (lv_room (Nat.le_of_ble_eq_true rfl)) dX0_between_106 ⟨Nat.le_of_ble_eq_true rfl, Nat.le_of_ble_eq_true rfl⟩) (fun r5 h_r5 => ?_)
      refine lv_ladd hx hb dX0_between_109 ?_
      refine lv_l2i (v := (((kn (k * 3 + j)).toInt64) + r5).toInt32) hx hb dX0_between_110 rfl ?_
      exact W.iret (v := (((kn (k * 3 + j)).toInt64) + r5).toInt32) hx hb hr (fun t9 ht9 hW9 => ⟨_, rfl, by unfold btw; rw [if_neg (by omega), if_pos (by omega)]; rw [h_r5, h_r4, h_r3], ht9⟩) (fun q h => by cases h) dX0_between_111
  · skip
    have c1 := zeq c1
    refine lv_lload hx hb dX0_between_68 (lv_at hl 3 rfl) ?_
    refine lv_lload hx hb dX0_between_70 (lv_at hl 2 rfl) ?_
    refine lv_lload hx hb dX0_between_72 (lv_at hl 1 rfl) ?_
    refine lv_lmul hx hb dX0_between_74 ?_
    refine lv_lload hx hb dX0_between_75 (lv_at hl 0 rfl) ?_
    refine vp_callSl (W.runS (As := [.long ((((kn ((k + 1) * 3 + j)).toInt64) - ((kn (k * 3 + j)).toInt64)) * ((nw - (kt k)).toInt64)), .long (((kt (k + 1)) - (kt k)).toInt64)]) (rest := [.long ((kn (k * 3 + j)).toInt64)]) ⟨hx, hb, hml, hown, hts⟩ (cx_div l ((((kn ((k + 1) * 3 + j)).toInt64) - ((kn (k * 3 + j)).toInt64)) * ((nw - (kt k)).toInt64)) (((kt (k + 1)) - (kt k)).toInt64)) (va_cwS 2 hts gX0_between_X0_div rfl rfl rfl (by decide +kernel) ⟨Nat.le_of_ble_eq_true rfl, Nat.le_of_ble_eq_true rfl⟩) preEq rfl rfl hl.1 rfl (lv_room (Nat.le_of_ble_eq_true rfl)) dX0_between_77 ⟨Nat.le_of_ble_eq_true rfl, Nat.le_of_ble_eq_true rfl⟩) (fun r6 h_r6 => ?_)
    refine lv_ladd hx hb dX0_between_80 ?_
    refine lv_l2i (v := (((kn (k * 3 + j)).toInt64) + r6).toInt32) hx hb dX0_between_81 rfl ?_
    exact W.iret (v := (((kn (k * 3 + j)).toInt64) + r6).toInt32) hx hb hr (fun t9 ht9 hW9 => ⟨_, rfl, by unfold btw; rw [if_pos (by omega)]; rw [h_r6], ht9⟩) (fun q h => by cases h) dX0_between_82
end
section
set_option maxHeartbeats 4000000 in
set_option maxRecDepth 100000 in
/-- value(node, what, i) -/
theorem cx_value (l : Launch) (dC : Nat → ClassId) (dI : Nat → Nat → Nat) (cA : ClassId) (h0 a1 a2 a3 a4 a5 a6 a7 a8 a9 N T X : Nat) (nw : Int32) (fv tn tw th tk kt kn xt xn : Nat → Int32) (x y i : Int32) (hN : N ≤ 48) : Met l yX0_value wsX0_value ({ frames := 1, cells := 0, slots := 0, locals := 21 }) (va_Pc [.ref h0, .int x, .int y, .int i] (rX dC dI cA h0 a1 a2 a3 a4 a5 a6 a7 a8 a9 N T X nw fv tn tw th tk kt kn xt xn)) (vp_Si (fun r => (q_node N x ∧ q_what y ∧ q_what i → r = fv (pl_of x y + i.toInt.toNat)) ∧ (¬ (q_node N x ∧ q_what y ∧ q_what i) → r = nI 0))) 0 0 (fun _ => False) := by
  refine Met.ofW (cc := cX0_value) (maxL := 4) (ret := (some .int)) (by decide) rfl ?_
  intro p e s m args below meth c s₁ B hml hv
  obtain ⟨rfl, hP, hK⟩ := hv
  have hx := B.exec
  have hb := B.bytes
  have hr := B.returns
  have hts := atoms_spec (ws := wsX0_value) B.pre
  have hown : s.vm.findClass RX0 = some m.cls := findClass_of_methodNamed B.named
  have hlocks := B.notSynchronized
  have hl := lv_entry ([.ref h0, .int x, .int y, .int i]) (n := 4) (Nat.le_of_ble_eq_true rfl)
  rw [lg_entry_eq]
  generalize (lg_sl ([.ref h0, .int x, .int y, .int i]) ++ List.replicate (4 - (lg_sl ([.ref h0, .int x, .int y, .int i])).length) Slot.unset).toArray = ls at hl ⊢
  have hl : lv_has ls 4 [(0, .ref h0), (1, .int x), (2, .int y), (3, .int i)] := hl
  have t0 := z_0
  have t3 : (nI 3).toInt = 3 := by decide
  refine lv_aload_n hx hb dX0_value_0 rfl (lv_at hl 0 rfl) ?_
  refine lv_iload_n hx hb dX0_value_1 rfl (lv_at hl 1 rfl) ?_
  refine vp_callSi (W.runV (C := RX0) (As := [.int x]) (rest := []) ⟨hx, hb, hml, hown, hts⟩ (cx_isNode l dC dI cA h0 a1 a2 a3 a4 a5 a6 a7 a8 a9 N T X nw fv tn tw th tk kt kn xt xn x (by omega)) (cwV 1 hts gX0_value_X0_isNode rfl rfl rfl (by decide +kernel) ⟨Nat.le_of_ble_eq_true rfl, Nat.le_of_ble_eq_true rfl⟩) ⟨fun a U g mk q => ⟨q.1, q.2.1, va_K.moved (u := U) (U := U.calling g mk a) (Vm.Alike.refl U.vm) q.2.2⟩, va_recv hK hP (ci := 0) (q0 := 0) rfl rfl, fun U hU hW => ⟨rfl, by rw [hU]; exact hP, va_K.moved hW.alike hK⟩⟩ rfl rfl hl.1 rfl (lv_room (Nat.le_of_ble_eq_true rfl)) dX0_value_2 ⟨Nat.le_of_ble_eq_true rfl, Nat.le_of_ble_eq_true rfl⟩) (fun bo1 h_bo1 => ?_)
  refine lv_if_eq (tgt := 24) hx hb dX0_value_5 (by decide) (fun c2 => ?_) (fun c2 => ?_)
  · skip
    have c2 := btF h_bo1 c2
    refine lv_iconst (v := (nI 0)) hx hb dX0_value_24 (by decide) ?_
    exact W.iret (v := (nI 0)) hx hb hr (fun t9 ht9 hW9 => ⟨_, rfl, br_f (fun h => by exact c2 h.1) rfl, ht9⟩) (fun q h => by cases h) dX0_value_25
  · skip
    have c2 := btT h_bo1 c2
    refine lv_iload_n hx hb dX0_value_8 rfl (lv_at hl 2 rfl) ?_
    refine vp_callSi (W.runS (As := [.int y]) (rest := []) ⟨hx, hb, hml, hown, hts⟩ (cx_isWhat l y) (va_cwS 1 hts gX0_value_X0_isWhat rfl rfl rfl (by decide +kernel) ⟨Nat.le_of_ble_eq_true rfl, Nat.le_of_ble_eq_true rfl⟩) preEq rfl rfl hl.1 rfl (lv_room (Nat.le_of_ble_eq_true rfl)) dX0_value_9 ⟨Nat.le_of_ble_eq_true rfl, Nat.le_of_ble_eq_true rfl⟩) (fun bo3 h_bo3 => ?_)
    refine lv_if_eq (tgt := 24) hx hb dX0_value_12 (by decide) (fun c4 => ?_) (fun c4 => ?_)
    · skip
      have c4 := btF h_bo3 c4
      refine lv_iconst (v := (nI 0)) hx hb dX0_value_24 (by decide) ?_
      exact W.iret (v := (nI 0)) hx hb hr (fun t9 ht9 hW9 => ⟨_, rfl, br_f (fun h => by exact c4 h.2.1) rfl, ht9⟩) (fun q h => by cases h) dX0_value_25
    · skip
      have c4 := btT h_bo3 c4
      refine lv_iload_n hx hb dX0_value_15 rfl (lv_at hl 3 rfl) ?_
      refine lv_if_lt (tgt := 24) hx hb dX0_value_16 (by decide) (fun c5 => ?_) (fun c5 => ?_)
      · skip
        have c5 := zlt c5
        refine lv_iconst (v := (nI 0)) hx hb dX0_value_24 (by decide) ?_
        exact W.iret (v := (nI 0)) hx hb hr (fun t9 ht9 hW9 => ⟨_, rfl, br_f (fun h => by have := h.2.2; unfold q_what at this; omega) rfl, ht9⟩) (fun q h => by cases h) dX0_value_25
      · skip
        have c5 := znlt c5
        refine lv_iload_n hx hb dX0_value_19 rfl (lv_at hl 3 rfl) ?_
        refine lv_iconst (v := (nI 3)) hx hb dX0_value_20 (by decide) ?_
        refine lv_icmp_lt (tgt := 26) hx hb dX0_value_21 (by decide) (fun c6 => ?_) (fun c6 => ?_)
        · skip
          have c6 := zlt c6
          have hi : q_what i := by unfold q_what; omega
          have hok : q_node N x ∧ q_what y ∧ q_what i := ⟨c2, c4, hi⟩
          have e1 : x = nI x.toInt.toNat := z_nat hok.1.1
          have e2 : y = nI y.toInt.toNat := z_nat hok.2.1.1
          have e3 : i = nI i.toInt.toNat := z_nat hi.1
          have b1 : x.toInt < N := hok.1.2
          have b2 : y.toInt < 3 := hok.2.1.2
          have b0 : 0 ≤ x.toInt ∧ 0 ≤ y.toInt := ⟨hok.1.1, hok.2.1.1⟩
          have hpl : pl_of x y + 3 ≤ N * 9 := by unfold pl_of; omega
          have b3 : i.toInt < 3 := hi.2
          refine lv_aload_n hx hb dX0_value_26 rfl (lv_at hl 0 rfl) ?_
          refine va_get (D := (dC, dI)) (ci := 0) (v := .ref a1) (C := RX0) (T := TX0) (N := 13) hx hb hts (by decide +kernel) hown hK hP 0 rfl rfl 1 (by decide) (hts (.fieldLink RX0 22 "MotionDesk" "values" "[I") (by decide +kernel)) (fun _ h9 => h9) rfl dX0_value_27 ?_
          refine lv_iload_n hx hb dX0_value_30 rfl (lv_at hl 1 rfl) ?_
          refine lv_iload_n hx hb dX0_value_31 rfl (lv_at hl 2 rfl) ?_
          refine tp_i2 e2 e1 ?_
          refine vp_callSi (W.runS (As := [.int (nI x.toInt.toNat), .int (nI y.toInt.toNat)]) (rest := [.ref a1]) ⟨hx, hb, hml, hown, hts⟩ (cx_placeOf l x.toInt.toNat y.toInt.toNat) (va_cwS 2 hts gX0_value_X0_placeOf rfl rfl rfl (by decide +kernel) ⟨Nat.le_of_ble_eq_true rfl, Nat.le_of_ble_eq_true rfl⟩) preEq rfl rfl hl.1 rfl (lv_room (Nat.le_of_ble_eq_true rfl)) dX0_value_32 ⟨Nat.le_of_ble_eq_true rfl, Nat.le_of_ble_eq_true rfl⟩) (fun r7 h_r7 => ?_)
          refine tp_i (y := nI (pl_of x y)) (h_r7) ?_
          refine lv_iload_n hx hb dX0_value_35 rfl (lv_at hl 3 rfl) ?_
          refine lv_iadd hx hb dX0_value_36 ?_
          refine tp_i (y := nI (pl_of x y + i.toInt.toNat)) (by rw [← nI_add, ← e3]) ?_
          refine va_iald hx hb hK hP 1 0 rfl rfl (vp_in_nI (by omega) (by omega)) dX0_value_37 ?_
          refine tp_i (y := (fv (pl_of x y + i.toInt.toNat))) (by rw [nI_clamp (by omega)]) ?_
          exact W.iret (v := (fv (pl_of x y + i.toInt.toNat))) hx hb hr (fun t9 ht9 hW9 => ⟨_, rfl, br_t hok rfl, ht9⟩) (fun q h => by cases h) dX0_value_38
        · skip
          have c6 := znlt c6
          refine lv_iconst (v := (nI 0)) hx hb dX0_value_24 (by decide) ?_
          exact W.iret (v := (nI 0)) hx hb hr (fun t9 ht9 hW9 => ⟨_, rfl, br_f (fun h => by have := h.2.2; unfold q_what at this; omega) rfl, ht9⟩) (fun q h => by cases h) dX0_value_25
set_option maxHeartbeats 4000000 in
set_option maxRecDepth 100000 in
/-- count(what) -/
theorem cx_count (l : Launch) (dC : Nat → ClassId) (dI : Nat → Nat → Nat) (cA : ClassId) (h0 a1 a2 a3 a4 a5 a6 a7 a8 a9 N T X : Nat) (nw : Int32) (fv tn tw th tk kt kn xt xn : Nat → Int32) (a : Int32) (hT : T ≤ 32) : Met l yX0_count wsX0_count ({ frames := 1, cells := 0, slots := 0, locals := 22 }) (va_Pc [.ref h0, .int a] (rX dC dI cA h0 a1 a2 a3 a4 a5 a6 a7 a8 a9 N T X nw fv tn tw th tk kt kn xt xn)) (vp_Si (fun r => r = if a.toInt = 0 then nI N else if a.toInt = 1 then nI T else if a.toInt = 2 then bx_sum tk T else if a.toInt = 3 then nw else if a.toInt = 4 then nI X else -1)) 0 0 (fun _ => False) := by
  refine Met.ofW (cc := cX0_count) (maxL := 2) (ret := (some .int)) (by decide) rfl ?_
  intro p e s m args below meth c s₁ B hml hv
  obtain ⟨rfl, hP, hK⟩ := hv
  have hx := B.exec
  have hb := B.bytes
  have hr := B.returns
  have hts := atoms_spec (ws := wsX0_count) B.pre
  have hown : s.vm.findClass RX0 = some m.cls := findClass_of_methodNamed B.named
  have hlocks := B.notSynchronized
  have hl := lv_entry ([.ref h0, .int a]) (n := 2) (Nat.le_of_ble_eq_true rfl)
  rw [lg_entry_eq]
  generalize (lg_sl ([.ref h0, .int a]) ++ List.replicate (2 - (lg_sl ([.ref h0, .int a])).length) Slot.unset).toArray = ls at hl ⊢
  have hl : lv_has ls 2 [(0, .ref h0), (1, .int a)] := hl
  refine lv_iload_n hx hb dX0_count_0 rfl (lv_at hl 1 rfl) ?_
  by_cases hs0 : a.toInt = 0
  · refine lv_tableIn (off := 35) (tgt := 36) hx hb dX0_count_1 (by omega) (by omega) (by rw [hs0]; rfl) (by decide) ?_
    refine lv_aload_n hx hb dX0_count_36 rfl (lv_at hl 0 rfl) ?_
    refine va_get (D := (dC, dI)) (ci := 0) (v := .int (nI N)) (C := RX0) (T := TX0) (N := 13) hx hb hts (by decide +kernel) hown hK hP 0 rfl rfl 0 (by decide) (hts (.fieldLink RX0 18 "MotionDesk" "nodeCount" "I") (by decide +kernel)) (fun _ h9 => h9) rfl dX0_count_37 ?_
    exact W.iret (v := nI N) hx hb hr (fun t9 ht9 hW9 => ⟨_, rfl, by rw [if_pos hs0], ht9⟩) (fun q h => by cases h) dX0_count_40
  by_cases hs1 : a.toInt = 1
  · refine lv_tableIn (off := 40) (tgt := 41) hx hb dX0_count_1 (by omega) (by omega) (by rw [hs1]; rfl) (by decide) ?_
    refine lv_aload_n hx hb dX0_count_41 rfl (lv_at hl 0 rfl) ?_
    refine va_get (D := (dC, dI)) (ci := 0) (v := .int (nI T)) (C := RX0) (T := TX0) (N := 13) hx hb hts (by decide +kernel) hown hK hP 0 rfl rfl 2 (by decide) (hts (.fieldLink RX0 69 "MotionDesk" "trackCount" "I") (by decide +kernel)) (fun _ h9 => h9) rfl dX0_count_42 ?_
    exact W.iret (v := nI T) hx hb hr (fun t9 ht9 hW9 => ⟨_, rfl, by rw [if_neg hs0, if_pos hs1], ht9⟩) (fun q h => by cases h) dX0_count_45
  by_cases hs2 : a.toInt = 2
  · refine lv_tableIn (off := 45) (tgt := 46) hx hb dX0_count_1 (by omega) (by omega) (by rw [hs2]; rfl) (by decide) ?_
    refine lv_aload_n hx hb dX0_count_46 rfl (lv_at hl 0 rfl) ?_
    refine vp_callSi (W.runV (C := RX0) (As := []) (rest := []) ⟨hx, hb, hml, hown, hts⟩ (cx_keys l dC dI cA h0 a1 a2 a3 a4 a5 a6 a7 a8 a9 N T X nw fv tn tw th tk kt kn xt xn hT) (cwV 0 hts gX0_count_X0_keysOfAllTracks rfl rfl rfl (by decide +kernel) ⟨Nat.le_of_ble_eq_true rfl, Nat.le_of_ble_eq_true rfl⟩) ⟨fun a U g mk q => ⟨q.1, q.2.1, va_K.moved (u := U) (U := U.calling g mk a) (Vm.Alike.refl U.vm) q.2.2⟩, va_recv hK hP (ci := 0) (q0 := 0) rfl rfl, fun U hU hW => ⟨rfl, by rw [hU]; exact hP, va_K.moved hW.alike hK⟩⟩ rfl rfl hl.1 rfl (lv_room (Nat.le_of_ble_eq_true rfl)) dX0_count_47 ⟨Nat.le_of_ble_eq_true rfl, Nat.le_of_ble_eq_true rfl⟩) (fun r1 h_r1 => ?_)
    exact W.iret (v := r1) hx hb hr (fun t9 ht9 hW9 => ⟨_, rfl, by rw [if_neg hs0, if_neg hs1, if_pos hs2]; exact h_r1, ht9⟩) (fun q h => by cases h) dX0_count_50
  by_cases hs3 : a.toInt = 3
  · refine lv_tableIn (off := 50) (tgt := 51) hx hb dX0_count_1 (by omega) (by omega) (by rw [hs3]; rfl) (by decide) ?_
    refine lv_aload_n hx hb dX0_count_51 rfl (lv_at hl 0 rfl) ?_
    refine va_get (D := (dC, dI)) (ci := 0) (v := .int nw) (C := RX0) (T := TX0) (N := 13) hx hb hts (by decide +kernel) hown hK hP 0 rfl rfl 12 (by decide) (hts (.fieldLink RX0 91 "MotionDesk" "now" "I") (by decide +kernel)) (fun _ h9 => h9) rfl dX0_count_52 ?_
    exact W.iret (v := nw) hx hb hr (fun t9 ht9 hW9 => ⟨_, rfl, by rw [if_neg hs0, if_neg hs1, if_neg hs2, if_pos hs3], ht9⟩) (fun q h => by cases h) dX0_count_55
  by_cases hs4 : a.toInt = 4
  · refine lv_tableIn (off := 55) (tgt := 56) hx hb dX0_count_1 (by omega) (by omega) (by rw [hs4]; rfl) (by decide) ?_
    refine lv_aload_n hx hb dX0_count_56 rfl (lv_at hl 0 rfl) ?_
    refine va_get (D := (dC, dI)) (ci := 0) (v := .int (nI X)) (C := RX0) (T := TX0) (N := 13) hx hb hts (by decide +kernel) hown hK hP 0 rfl rfl 9 (by decide) (hts (.fieldLink RX0 54 "MotionDesk" "textCount" "I") (by decide +kernel)) (fun _ h9 => h9) rfl dX0_count_57 ?_
    exact W.iret (v := nI X) hx hb hr (fun t9 ht9 hW9 => ⟨_, rfl, by rw [if_neg hs0, if_neg hs1, if_neg hs2, if_neg hs3, if_pos hs4], ht9⟩) (fun q h => by cases h) dX0_count_60
  refine lv_tableOut (tgt := 61) hx hb dX0_count_1 (by omega) (by decide) ?_
  refine lv_iconst (v := (-1)) hx hb dX0_count_61 (by decide) ?_
  exact W.iret (v := (-1)) hx hb hr (fun t9 ht9 hW9 => ⟨_, rfl, by rw [if_neg hs0, if_neg hs1, if_neg hs2, if_neg hs3, if_neg hs4], ht9⟩) (fun q h => by cases h) dX0_count_62
set_option maxHeartbeats 4000000 in
set_option maxRecDepth 100000 in
/-- about(track, what) -/
theorem cx_about (l : Launch) (dC : Nat → ClassId) (dI : Nat → Nat → Nat) (cA : ClassId) (h0 a1 a2 a3 a4 a5 a6 a7 a8 a9 N T X : Nat) (nw : Int32) (fv tn tw th tk kt kn xt xn : Nat → Int32) (x a : Int32) (hT : T ≤ 32) : Met l yX0_about wsX0_about ({ frames := 0, cells := 0, slots := 0, locals := 0 }) (va_Pc [.ref h0, .int x, .int a] (rX dC dI cA h0 a1 a2 a3 a4 a5 a6 a7 a8 a9 N T X nw fv tn tw th tk kt kn xt xn)) (vp_Si (fun r => (q_node T x → r = if a.toInt = 0 then tn x.toInt.toNat else if a.toInt = 1 then tw x.toInt.toNat else if a.toInt = 2 then th x.toInt.toNat else if a.toInt = 3 then tk x.toInt.toNat else -1) ∧ (¬ q_node T x → r = -1))) 0 0 (fun _ => False) := by
  refine Met.ofW (cc := cX0_about) (maxL := 3) (ret := (some .int)) (by decide) rfl ?_
  intro p e s m args below meth c s₁ B hml hv
  obtain ⟨rfl, hP, hK⟩ := hv
  have hx := B.exec
  have hb := B.bytes
  have hr := B.returns
  have hts := atoms_spec (ws := wsX0_about) B.pre
  have hown : s.vm.findClass RX0 = some m.cls := findClass_of_methodNamed B.named
  have hlocks := B.notSynchronized
  have hl := lv_entry ([.ref h0, .int x, .int a]) (n := 3) (Nat.le_of_ble_eq_true rfl)
  rw [lg_entry_eq]
  generalize (lg_sl ([.ref h0, .int x, .int a]) ++ List.replicate (3 - (lg_sl ([.ref h0, .int x, .int a])).length) Slot.unset).toArray = ls at hl ⊢
  have hl : lv_has ls 3 [(0, .ref h0), (1, .int x), (2, .int a)] := hl
  have t0 := z_0
  have t1 : (nI T).toInt = T := nI_toInt (by omega)
  refine lv_iload_n hx hb dX0_about_0 rfl (lv_at hl 1 rfl) ?_
  refine lv_if_lt (tgt := 12) hx hb dX0_about_1 (by decide) (fun c1 => ?_) (fun c1 => ?_)
  · skip
    have c1 := zlt c1
    refine lv_iconst (v := (-1)) hx hb dX0_about_12 (by decide) ?_
    exact W.iret (v := (-1)) hx hb hr (fun t9 ht9 hW9 => ⟨_, rfl, br_f (by unfold q_node; omega) rfl, ht9⟩) (fun q h => by cases h) dX0_about_13
  · skip
    have c1 := znlt c1
    refine lv_iload_n hx hb dX0_about_4 rfl (lv_at hl 1 rfl) ?_
    refine lv_aload_n hx hb dX0_about_5 rfl (lv_at hl 0 rfl) ?_
    refine va_get (D := (dC, dI)) (ci := 0) (v := .int (nI T)) (C := RX0) (T := TX0) (N := 13) hx hb hts (by decide +kernel) hown hK hP 0 rfl rfl 2 (by decide) (hts (.fieldLink RX0 69 "MotionDesk" "trackCount" "I") (by decide +kernel)) (fun _ h9 => h9) rfl dX0_about_6 ?_
    refine lv_icmp_lt (tgt := 14) hx hb dX0_about_9 (by decide) (fun c2 => ?_) (fun c2 => ?_)
    · skip
      have c2 := zlt c2
      have hok : q_node T x := by unfold q_node; omega
      have e1 : x = nI x.toInt.toNat := z_nat hok.1
      have b1 : x.toInt < T := hok.2
      refine lv_iload_n hx hb dX0_about_14 rfl (lv_at hl 2 rfl) ?_
      by_cases hs0 : a.toInt = 0
      · refine lv_tableIn (off := 29) (tgt := 44) hx hb dX0_about_15 (by omega) (by omega) (by rw [hs0]; rfl) (by decide) ?_
        refine lv_aload_n hx hb dX0_about_44 rfl (lv_at hl 0 rfl) ?_
        refine va_get (D := (dC, dI)) (ci := 0) (v := .ref a2) (C := RX0) (T := TX0) (N := 13) hx hb hts (by decide +kernel) hown hK hP 0 rfl rfl 3 (by decide) (hts (.fieldLink RX0 30 "MotionDesk" "trackNode" "[I") (by decide +kernel)) (fun _ h9 => h9) rfl dX0_about_45 ?_
        refine lv_iload_n hx hb dX0_about_48 rfl (lv_at hl 1 rfl) ?_
        refine tp_i (y := nI x.toInt.toNat) (e1) ?_
        refine va_iald hx hb hK hP 2 0 rfl rfl (vp_in_nI (by omega) (by omega)) dX0_about_49 ?_
        refine tp_i (y := (tn x.toInt.toNat)) (by rw [nI_clamp (by omega)]) ?_
        exact W.iret (v := (tn x.toInt.toNat)) hx hb hr (fun t9 ht9 hW9 => ⟨_, rfl, br_t hok (by rw [if_pos hs0]), ht9⟩) (fun q h => by cases h) dX0_about_50
      by_cases hs1 : a.toInt = 1
      · refine lv_tableIn (off := 36) (tgt := 51) hx hb dX0_about_15 (by omega) (by omega) (by rw [hs1]; rfl) (by decide) ?_
        refine lv_aload_n hx hb dX0_about_51 rfl (lv_at hl 0 rfl) ?_
        refine va_get (D := (dC, dI)) (ci := 0) (v := .ref a3) (C := RX0) (T := TX0) (N := 13) hx hb hts (by decide +kernel) hown hK hP 0 rfl rfl 4 (by decide) (hts (.fieldLink RX0 33 "MotionDesk" "trackWhat" "[I") (by decide +kernel)) (fun _ h9 => h9) rfl dX0_about_52 ?_
        refine lv_iload_n hx hb dX0_about_55 rfl (lv_at hl 1 rfl) ?_
        refine tp_i (y := nI x.toInt.toNat) (e1) ?_
        refine va_iald hx hb hK hP 3 0 rfl rfl (vp_in_nI (by omega) (by omega)) dX0_about_56 ?_
        refine tp_i (y := (tw x.toInt.toNat)) (by rw [nI_clamp (by omega)]) ?_
        exact W.iret (v := (tw x.toInt.toNat)) hx hb hr (fun t9 ht9 hW9 => ⟨_, rfl, br_t hok (by rw [if_neg hs0, if_pos hs1]), ht9⟩) (fun q h => by cases h) dX0_about_57
      by_cases hs2 : a.toInt = 2
      · refine lv_tableIn (off := 43) (tgt := 58) hx hb dX0_about_15 (by omega) (by omega) (by rw [hs2]; rfl) (by decide) ?_
        refine lv_aload_n hx hb dX0_about_58 rfl (lv_at hl 0 rfl) ?_
        refine va_get (D := (dC, dI)) (ci := 0) (v := .ref a4) (C := RX0) (T := TX0) (N := 13) hx hb hts (by decide +kernel) hown hK hP 0 rfl rfl 5 (by decide) (hts (.fieldLink RX0 36 "MotionDesk" "trackHow" "[I") (by decide +kernel)) (fun _ h9 => h9) rfl dX0_about_59 ?_
        refine lv_iload_n hx hb dX0_about_62 rfl (lv_at hl 1 rfl) ?_
        refine tp_i (y := nI x.toInt.toNat) (e1) ?_
        refine va_iald hx hb hK hP 4 0 rfl rfl (vp_in_nI (by omega) (by omega)) dX0_about_63 ?_
        refine tp_i (y := (th x.toInt.toNat)) (by rw [nI_clamp (by omega)]) ?_
        exact W.iret (v := (th x.toInt.toNat)) hx hb hr (fun t9 ht9 hW9 => ⟨_, rfl, br_t hok (by rw [if_neg hs0, if_neg hs1, if_pos hs2]), ht9⟩) (fun q h => by cases h) dX0_about_64
      by_cases hs3 : a.toInt = 3
      · refine lv_tableIn (off := 50) (tgt := 65) hx hb dX0_about_15 (by omega) (by omega) (by rw [hs3]; rfl) (by decide) ?_
        refine lv_aload_n hx hb dX0_about_65 rfl (lv_at hl 0 rfl) ?_
        refine va_get (D := (dC, dI)) (ci := 0) (v := .ref a5) (C := RX0) (T := TX0) (N := 13) hx hb hts (by decide +kernel) hown hK hP 0 rfl rfl 6 (by decide) (hts (.fieldLink RX0 39 "MotionDesk" "trackKeys" "[I") (by decide +kernel)) (fun _ h9 => h9) rfl dX0_about_66 ?_
        refine lv_iload_n hx hb dX0_about_69 rfl (lv_at hl 1 rfl) ?_
        refine tp_i (y := nI x.toInt.toNat) (e1) ?_
        refine va_iald hx hb hK hP 5 0 rfl rfl (vp_in_nI (by omega) (by omega)) dX0_about_70 ?_
        refine tp_i (y := (tk x.toInt.toNat)) (by rw [nI_clamp (by omega)]) ?_
        exact W.iret (v := (tk x.toInt.toNat)) hx hb hr (fun t9 ht9 hW9 => ⟨_, rfl, br_t hok (by rw [if_neg hs0, if_neg hs1, if_neg hs2, if_pos hs3]), ht9⟩) (fun q h => by cases h) dX0_about_71
      refine lv_tableOut (tgt := 72) hx hb dX0_about_15 (by omega) (by decide) ?_
      refine lv_iconst (v := (-1)) hx hb dX0_about_72 (by decide) ?_
      exact W.iret (v := (-1)) hx hb hr (fun t9 ht9 hW9 => ⟨_, rfl, br_t hok (by rw [if_neg hs0, if_neg hs1, if_neg hs2, if_neg hs3]), ht9⟩) (fun q h => by cases h) dX0_about_73
    · skip
      have c2 := znlt c2
      refine lv_iconst (v := (-1)) hx hb dX0_about_12 (by decide) ?_
      exact W.iret (v := (-1)) hx hb hr (fun t9 ht9 hW9 => ⟨_, rfl, br_f (by unfold q_node; omega) rfl, ht9⟩) (fun q h => by cases h) dX0_about_13
set_option maxHeartbeats 4000000 in
set_option maxRecDepth 100000 in
/-- clear() -/
theorem cx_clear (l : Launch) (dC : Nat → ClassId) (dI : Nat → Nat → Nat) (cA : ClassId) (h0 a1 a2 a3 a4 a5 a6 a7 a8 a9 N T X : Nat) (nw : Int32) (fv tn tw th tk kt kn xt xn : Nat → Int32) (sz : Nat)  : Met l yX0_clear wsX0_clear ({ frames := 0, cells := 0, slots := 0, locals := 0 }) (va_Pc [.ref h0] (eX sz dC dI cA h0 a1 a2 a3 a4 a5 a6 a7 a8 a9 N T X nw fv tn tw th tk kt kn xt xn)) (va_Qv (fun (u : Unit) => True) (fun u => bX (va_A (wX cA h0 a1 a2 a3 a4 a5 a6 a7 a8 a9 N T X nw fv tn tw th tk kt kn xt xn) sz) dC dI cA h0 a1 a2 a3 a4 a5 a6 a7 a8 a9 N 0 X nw fv tn tw th tk kt kn xt xn) (va_A (wX cA h0 a1 a2 a3 a4 a5 a6 a7 a8 a9 N T X nw fv tn tw th tk kt kn xt xn) sz)) 0 0 (va_A (wX cA h0 a1 a2 a3 a4 a5 a6 a7 a8 a9 N T X nw fv tn tw th tk kt kn xt xn) sz) := by
  refine Met.ofW (cc := cX0_clear) (maxL := 1) (ret := none) (by decide) rfl ?_
  intro p e s m args below meth c s₁ B hml hv
  obtain ⟨rfl, hsz, hP, hK, hD0⟩ := hv
  have hx := B.exec
  have hb := B.bytes
  have hr := B.returns
  have hts := atoms_spec (ws := wsX0_clear) B.pre
  have hown : s.vm.findClass RX0 = some m.cls := findClass_of_methodNamed B.named
  have hlocks := B.notSynchronized
  subst hsz
  have hD := hD0.self (sz := s.heap.size)
  generalize hAe : va_A (wX cA h0 a1 a2 a3 a4 a5 a6 a7 a8 a9 N T X nw fv tn tw th tk kt kn xt xn) s.heap.size = A at hD ⊢
  have hA : ∀ q : Nat, s.heap.size ≤ q → A q := fun q h => by rw [← hAe]; exact Or.inr h
  have hS : va_S A s.heap s.heap [] := va_S.rf
  have hP : va_P (dC, dI) vwCl (wX cA h0 a1 a2 a3 a4 a5 a6 a7 a8 a9 N T X nw fv tn tw th tk kt kn xt xn) s.heap := hP
  have hl := lv_entry ([.ref h0]) (n := 1) (Nat.le_of_ble_eq_true rfl)
  rw [lg_entry_eq]
  generalize (lg_sl ([.ref h0]) ++ List.replicate (1 - (lg_sl ([.ref h0])).length) Slot.unset).toArray = ls at hl ⊢
  have hl : lv_has ls 1 [(0, .ref h0)] := hl
  refine lv_aload_n hx hb dX0_clear_0 rfl (lv_at hl 0 rfl) ?_
  refine lv_iconst (v := (nI 0)) hx hb dX0_clear_1 (by decide) ?_
  refine va_put (D := (dC, dI)) (ci := 0) (v := .int (nI 0)) (ty := .int) (C := RX0) (T := TX0) (N := 13) hx hb hts (by decide +kernel) tyX0 tyX0_ok nmX0 hown hK hP hD hS 0 rfl rfl 2 (by decide) (hts (.fieldLink RX0 69 "MotionDesk" "trackCount" "I") (by decide +kernel)) (fun _ h9 => h9) rfl (by decide +kernel) rfl rfl (Nat.le_of_ble_eq_true rfl) dX0_clear_2 (fun H locs hP hD hS => ?_)
  replace hP : va_P (dC, dI) vwCl (wX cA h0 a1 a2 a3 a4 a5 a6 a7 a8 a9 N 0 X nw fv tn tw th tk kt kn xt xn) H := hP
  replace hD : va_D A (wX cA h0 a1 a2 a3 a4 a5 a6 a7 a8 a9 N 0 X nw fv tn tw th tk kt kn xt xn) := hD
  exact W.vret hx hb hr (fun t9 ht9 hW9 => ⟨⟨(), rfl, trivial, by rw [ht9]; exact hP, va_K.moved hW9.alike hK, hD⟩, hS.F ht9⟩) hS.2.2 dX0_clear_5
end
section
set_option maxHeartbeats 4000000 in
set_option maxRecDepth 100000 in
/-- putThree(row, at, x, y, z) -/
theorem cx_put3 (l : Launch) (dC : Nat → ClassId) (dI : Nat → Nat → Nat) (cA : ClassId) (b0 nn sz : Nat) (f : Nat → Int32) (k : Nat) (x y z : Int32) (hk : k + 2 < nn) (hn : nn < 100000) : Met l yX0_putThree wsX0_putThree ({ frames := 0, cells := 0, slots := 0, locals := 0 }) (va_Pc [.ref b0, .int (nI k), .int x, .int y, .int z] (fun U => U.heap.size = sz ∧ va_P (dC, dI) vwCl [(b0, .inl (cA, nn, .inl f))] U.heap ∧ va_K (dC, dI) vwCl [(cA, .int)] U ∧ va_D (fun _ => True) [(b0, .inl (cA, nn, .inl f))])) (va_Qv (fun (u : Nat → Int32) => u = put3 f k x y z) (fun u t => va_P (dC, dI) vwCl [(b0, .inl (cA, nn, .inl u))] t.heap ∧ va_K (dC, dI) vwCl [(cA, .int)] t ∧ va_D (va_A [(b0, .inl (cA, nn, .inl f))] sz) [(b0, .inl (cA, nn, .inl u))]) (va_A [(b0, .inl (cA, nn, .inl f))] sz)) 0 0 (va_A [(b0, .inl (cA, nn, .inl f))] sz) := by
  refine Met.ofW (cc := cX0_putThree) (maxL := 5) (ret := none) (by decide) rfl ?_
  intro p e s m args below meth c s₁ B hml hv
  obtain ⟨rfl, hsz, hP, hK, hD0⟩ := hv
  have hx := B.exec
  have hb := B.bytes
  have hr := B.returns
  have hts := atoms_spec (ws := wsX0_putThree) B.pre
  have hown : s.vm.findClass RX0 = some m.cls := findClass_of_methodNamed B.named
  have hlocks := B.notSynchronized
  subst hsz
  have hD := hD0.self (sz := s.heap.size)
  generalize hAe : va_A [(b0, .inl (cA, nn, .inl f))] s.heap.size = A at hD ⊢
  have hA : ∀ q : Nat, s.heap.size ≤ q → A q := fun q h => by rw [← hAe]; exact Or.inr h
  have hS : va_S A s.heap s.heap [] := va_S.rf
  have hP : va_P (dC, dI) vwCl [(b0, .inl (cA, nn, .inl f))] s.heap := hP
  have hl := lv_entry ([.ref b0, .int (nI k), .int x, .int y, .int z]) (n := 5) (Nat.le_of_ble_eq_true rfl)
  rw [lg_entry_eq]
  generalize (lg_sl ([.ref b0, .int (nI k), .int x, .int y, .int z]) ++ List.replicate (5 - (lg_sl ([.ref b0, .int (nI k), .int x, .int y, .int z])).length) Slot.unset).toArray = ls at hl ⊢
  have hl : lv_has ls 5 [(0, .ref b0), (1, .int (nI k)), (2, .int x), (3, .int y), (4, .int z)] := hl
  refine lv_aload_n hx hb dX0_putThree_0 rfl (lv_at hl 0 rfl) ?_
  refine lv_iload_n hx hb dX0_putThree_1 rfl (lv_at hl 1 rfl) ?_
  refine lv_iload_n hx hb dX0_putThree_2 rfl (lv_at hl 2 rfl) ?_
  refine va_iast hx hb hK hP hD hS 0 0 rfl rfl (vp_in_nI (by omega) (by omega)) dX0_putThree_3 (fun H locs hP hD hS => ?_)
  rw [nI_clamp (show k < 2 ^ 31 by omega)] at hP hD
  replace hP : va_P (dC, dI) vwCl [(b0, .inl (cA, nn, .inl (upd f k x)))] H := hP
  replace hD : va_D A [(b0, .inl (cA, nn, .inl (upd f k x)))] := hD
  refine lv_aload_n hx hb dX0_putThree_4 rfl (lv_at hl 0 rfl) ?_
  refine lv_iload_n hx hb dX0_putThree_5 rfl (lv_at hl 1 rfl) ?_
  refine lv_iconst (v := (nI 1)) hx hb dX0_putThree_6 (by decide) ?_
  refine lv_iadd hx hb dX0_putThree_7 ?_
  refine tp_i (y := nI (k + 1)) (nI_1 k) ?_
  refine lv_iload_n hx hb dX0_putThree_8 rfl (lv_at hl 3 rfl) ?_
  refine va_iast hx hb hK hP hD hS 0 0 rfl rfl (vp_in_nI (by omega) (by omega)) dX0_putThree_9 (fun H locs hP hD hS => ?_)
  rw [nI_clamp (show k + 1 < 2 ^ 31 by omega)] at hP hD
  replace hP : va_P (dC, dI) vwCl [(b0, .inl (cA, nn, .inl (upd (upd f k x) (k + 1) y)))] H := hP
  replace hD : va_D A [(b0, .inl (cA, nn, .inl (upd (upd f k x) (k + 1) y)))] := hD
  refine lv_aload_n hx hb dX0_putThree_10 rfl (lv_at hl 0 rfl) ?_
  refine lv_iload_n hx hb dX0_putThree_11 rfl (lv_at hl 1 rfl) ?_
  refine lv_iconst (v := (nI 2)) hx hb dX0_putThree_12 (by decide) ?_
  refine lv_iadd hx hb dX0_putThree_13 ?_
  refine tp_i (y := nI (k + 2)) (nI_add k 2) ?_
  refine lv_iload hx hb dX0_putThree_14 (lv_at hl 4 rfl) ?_
  refine va_iast hx hb hK hP hD hS 0 0 rfl rfl (vp_in_nI (by omega) (by omega)) dX0_putThree_16 (fun H locs hP hD hS => ?_)
  rw [nI_clamp (show k + 2 < 2 ^ 31 by omega)] at hP hD
  replace hP : va_P (dC, dI) vwCl [(b0, .inl (cA, nn, .inl (upd (upd (upd f k x) (k + 1) y) (k + 2) z)))] H := hP
  replace hD : va_D A [(b0, .inl (cA, nn, .inl (upd (upd (upd f k x) (k + 1) y) (k + 2) z)))] := hD
  exact W.vret hx hb hr (fun t9 ht9 hW9 => ⟨⟨(upd (upd (upd f k x) (k + 1) y) (k + 2) z), rfl, rfl, by rw [ht9]; exact hP, va_K.moved hW9.alike hK, hD⟩, hS.F ht9⟩) hS.2.2 dX0_putThree_17
set_option maxHeartbeats 4000000 in
set_option maxRecDepth 100000 in
/-- set(node, what, ..) -/
theorem cx_set (l : Launch) (dC : Nat → ClassId) (dI : Nat → Nat → Nat) (cA : ClassId) (h0 a1 a2 a3 a4 a5 a6 a7 a8 a9 N T X : Nat) (nw : Int32) (fv tn tw th tk kt kn xt xn : Nat → Int32) (sz : Nat) (x y x1 x2 x3 : Int32) (hN : N ≤ 48) : Met l yX0_set wsX0_set ({ frames := 2, cells := 0, slots := 0, locals := 45 }) (va_Pc [.ref h0, .int x, .int y, .int x1, .int x2, .int x3] (eX sz dC dI cA h0 a1 a2 a3 a4 a5 a6 a7 a8 a9 N T X nw fv tn tw th tk kt kn xt xn)) (va_Qi (fun (r : Int32) (u : Nat → Int32) => ((q_node N x ∧ q_what y ∧ q_can y x1 x2 x3) → r = nI 1 ∧ u = put3 fv (pl_of x y) x1 x2 x3) ∧ (¬ (q_node N x ∧ q_what y ∧ q_can y x1 x2 x3) → r = nI 0 ∧ u = fv)) (fun u => bX (va_A (wX cA h0 a1 a2 a3 a4 a5 a6 a7 a8 a9 N T X nw fv tn tw th tk kt kn xt xn) sz) dC dI cA h0 a1 a2 a3 a4 a5 a6 a7 a8 a9 N T X nw u tn tw th tk kt kn xt xn) (va_A (wX cA h0 a1 a2 a3 a4 a5 a6 a7 a8 a9 N T X nw fv tn tw th tk kt kn xt xn) sz)) 0 0 (va_A (wX cA h0 a1 a2 a3 a4 a5 a6 a7 a8 a9 N T X nw fv tn tw th tk kt kn xt xn) sz) := by
  refine Met.ofW (cc := cX0_set) (maxL := 6) (ret := (some .boolean)) (by decide) rfl ?_
  intro p e s m args below meth c s₁ B hml hv
  obtain ⟨rfl, hsz, hP, hK, hD0⟩ := hv
  have hx := B.exec
  have hb := B.bytes
  have hr := B.returns
  have hts := atoms_spec (ws := wsX0_set) B.pre
  have hown : s.vm.findClass RX0 = some m.cls := findClass_of_methodNamed B.named
  have hlocks := B.notSynchronized
  subst hsz
  have hD := hD0.self (sz := s.heap.size)
  generalize hAe : va_A (wX cA h0 a1 a2 a3 a4 a5 a6 a7 a8 a9 N T X nw fv tn tw th tk kt kn xt xn) s.heap.size = A at hD ⊢
  have hA : ∀ q : Nat, s.heap.size ≤ q → A q := fun q h => by rw [← hAe]; exact Or.inr h
  have hS : va_S A s.heap s.heap [] := va_S.rf
  have hP : va_P (dC, dI) vwCl (wX cA h0 a1 a2 a3 a4 a5 a6 a7 a8 a9 N T X nw fv tn tw th tk kt kn xt xn) s.heap := hP
  have hl := lv_entry ([.ref h0, .int x, .int y, .int x1, .int x2, .int x3]) (n := 6) (Nat.le_of_ble_eq_true rfl)
  rw [lg_entry_eq]
  generalize (lg_sl ([.ref h0, .int x, .int y, .int x1, .int x2, .int x3]) ++ List.replicate (6 - (lg_sl ([.ref h0, .int x, .int y, .int x1, .int x2, .int x3])).length) Slot.unset).toArray = ls at hl ⊢
  have hl : lv_has ls 6 [(0, .ref h0), (1, .int x), (2, .int y), (3, .int x1), (4, .int x2), (5, .int x3)] := hl
  refine lv_aload_n hx hb dX0_set_0 rfl (lv_at hl 0 rfl) ?_
  refine lv_iload_n hx hb dX0_set_1 rfl (lv_at hl 1 rfl) ?_
  refine vp_callSi (W.runV (C := RX0) (As := [.int x]) (rest := []) ⟨hx, hb, hml, hown, hts⟩ (cx_isNode l dC dI cA h0 a1 a2 a3 a4 a5 a6 a7 a8 a9 N T X nw fv tn tw th tk kt kn xt xn x (by omega)) (cwV 1 hts gX0_set_X0_isNode rfl rfl rfl (by decide +kernel) ⟨Nat.le_of_ble_eq_true rfl, Nat.le_of_ble_eq_true rfl⟩) ⟨fun a U g mk q => ⟨q.1, q.2.1, va_K.moved (u := U) (U := U.calling g mk a) (Vm.Alike.refl U.vm) q.2.2⟩, va_recv hK hP (ci := 0) (q0 := 0) rfl rfl, fun U hU hW => ⟨rfl, by rw [hU]; exact hP, va_K.moved hW.alike hK⟩⟩ rfl rfl hl.1 rfl (lv_room (Nat.le_of_ble_eq_true rfl)) dX0_set_2 ⟨Nat.le_of_ble_eq_true rfl, Nat.le_of_ble_eq_true rfl⟩) (fun bo1 h_bo1 => ?_)
  refine lv_if_eq (tgt := 27) hx hb dX0_set_5 (by decide) (fun c2 => ?_) (fun c2 => ?_)
  · skip
    have c2 := btF h_bo1 c2
    refine lv_iconst (v := (nI 0)) hx hb dX0_set_27 (by decide) ?_
    exact W.zret (v := (nI 0)) (ty := .boolean) hx hb hr (by decide) (fun t9 ht9 hW9 => ⟨⟨(nI 0), fv, rfl, br_f (fun h => c2 h.1) ⟨rfl, rfl⟩, by rw [ht9]; exact hP, va_K.moved hW9.alike hK, hD⟩, hS.F ht9⟩) hS.2.2 dX0_set_28
  · skip
    have c2 := btT h_bo1 c2
    refine lv_iload_n hx hb dX0_set_8 rfl (lv_at hl 2 rfl) ?_
    refine vp_callSi (W.runS (As := [.int y]) (rest := []) ⟨hx, hb, hml, hown, hts⟩ (cx_isWhat l y) (va_cwS 1 hts gX0_set_X0_isWhat rfl rfl rfl (by decide +kernel) ⟨Nat.le_of_ble_eq_true rfl, Nat.le_of_ble_eq_true rfl⟩) preEq rfl rfl hl.1 rfl (lv_room (Nat.le_of_ble_eq_true rfl)) dX0_set_9 ⟨Nat.le_of_ble_eq_true rfl, Nat.le_of_ble_eq_true rfl⟩) (fun bo3 h_bo3 => ?_)
    refine lv_if_eq (tgt := 27) hx hb dX0_set_12 (by decide) (fun c4 => ?_) (fun c4 => ?_)
    · skip
      have c4 := btF h_bo3 c4
      refine lv_iconst (v := (nI 0)) hx hb dX0_set_27 (by decide) ?_
      exact W.zret (v := (nI 0)) (ty := .boolean) hx hb hr (by decide) (fun t9 ht9 hW9 => ⟨⟨(nI 0), fv, rfl, br_f (fun h => c4 h.2.1) ⟨rfl, rfl⟩, by rw [ht9]; exact hP, va_K.moved hW9.alike hK, hD⟩, hS.F ht9⟩) hS.2.2 dX0_set_28
    · skip
      have c4 := btT h_bo3 c4
      refine lv_iload_n hx hb dX0_set_15 rfl (lv_at hl 2 rfl) ?_
      refine lv_iload_n hx hb dX0_set_16 rfl (lv_at hl 3 rfl) ?_
      refine lv_iload hx hb dX0_set_17 (lv_at hl 4 rfl) ?_
      refine lv_iload hx hb dX0_set_19 (lv_at hl 5 rfl) ?_
      refine vp_callSi (W.runS (As := [.int y, .int x1, .int x2, .int x3]) (rest := []) ⟨hx, hb, hml, hown, hts⟩ (cx_canHave l y x1 x2 x3) (va_cwS 4 hts gX0_set_X0_canHave rfl rfl rfl (by decide +kernel) ⟨Nat.le_of_ble_eq_true rfl, Nat.le_of_ble_eq_true rfl⟩) preEq rfl rfl hl.1 rfl (lv_room (Nat.le_of_ble_eq_true rfl)) dX0_set_21 ⟨Nat.le_of_ble_eq_true rfl, Nat.le_of_ble_eq_true rfl⟩) (fun bo5 h_bo5 => ?_)
      refine lv_if_ne (tgt := 29) hx hb dX0_set_24 (by decide) (fun c6 => ?_) (fun c6 => ?_)
      · skip
        have c6 := btT h_bo5 c6
        have hok : (q_node N x ∧ q_what y ∧ q_can y x1 x2 x3) := ⟨c2, c4, c6⟩
        have e1 : x = nI x.toInt.toNat := z_nat hok.1.1
        have e2 : y = nI y.toInt.toNat := z_nat hok.2.1.1
        have b1 : x.toInt < N := hok.1.2
        have b2 : y.toInt < 3 := hok.2.1.2
        have b0 : 0 ≤ x.toInt ∧ 0 ≤ y.toInt := ⟨hok.1.1, hok.2.1.1⟩
        have hpl : pl_of x y + 3 ≤ N * 9 := by unfold pl_of; omega
        refine lv_aload_n hx hb dX0_set_29 rfl (lv_at hl 0 rfl) ?_
        refine va_get (D := (dC, dI)) (ci := 0) (v := .ref a1) (C := RX0) (T := TX0) (N := 13) hx hb hts (by decide +kernel) hown hK hP 0 rfl rfl 1 (by decide) (hts (.fieldLink RX0 22 "MotionDesk" "values" "[I") (by decide +kernel)) (fun _ h9 => h9) rfl dX0_set_30 ?_
        refine lv_iload_n hx hb dX0_set_33 rfl (lv_at hl 1 rfl) ?_
        refine lv_iload_n hx hb dX0_set_34 rfl (lv_at hl 2 rfl) ?_
        refine tp_i2 e2 e1 ?_
        refine vp_callSi (W.runS (As := [.int (nI x.toInt.toNat), .int (nI y.toInt.toNat)]) (rest := [.ref a1]) ⟨hx, hb, hml, hown, hts⟩ (cx_placeOf l x.toInt.toNat y.toInt.toNat) (va_cwS 2 hts gX0_set_X0_placeOf rfl rfl rfl (by decide +kernel) ⟨Nat.le_of_ble_eq_true rfl, Nat.le_of_ble_eq_true rfl⟩) preEq rfl rfl hl.1 rfl (lv_room (Nat.le_of_ble_eq_true rfl)) dX0_set_35 ⟨Nat.le_of_ble_eq_true rfl, Nat.le_of_ble_eq_true rfl⟩) (fun r7 h_r7 => ?_)
        refine tp_i (y := nI (pl_of x y)) (h_r7) ?_
        refine lv_iload_n hx hb dX0_set_38 rfl (lv_at hl 3 rfl) ?_
        refine lv_iload hx hb dX0_set_39 (lv_at hl 4 rfl) ?_
        refine lv_iload hx hb dX0_set_41 (lv_at hl 5 rfl) ?_
        have hPc := hP.sub (ws' := [(a1, .inl (cA, N * 9, .inl fv))]) [1] rfl
        have hDc := hD.sub (ws' := [(a1, .inl (cA, N * 9, .inl fv))]) [1] (by decide) rfl
        have hFc := va_free (wc := [(a1, .inl (cA, N * 9, .inl fv))]) hD hS hA [1] rfl
        refine va_callv (va_runS (As := [.ref a1, .int (nI (pl_of x y)), .int x1, .int x2, .int x3]) (rest := []) ⟨hx, hb, hml, hown, hts⟩ (cx_put3 l dC dI cA a1 (N * 9) s.heap.size fv (pl_of x y) x1 x2 x3 (by omega) (by omega)) (va_cwS 5 hts gX0_set_X0_putThree rfl rfl rfl (by decide +kernel) ⟨Nat.le_of_ble_eq_true rfl, Nat.le_of_ble_eq_true rfl⟩) ⟨fun a U g mk q => by obtain ⟨q0, q1, qP, qK, qD⟩ := q; exact ⟨q0, q1, qP, va_K.moved (u := U) (U := U.calling g mk a) (Vm.Alike.refl U.vm) qK, qD⟩, fun U hU hW => ⟨rfl, by rw [hU], by rw [hU]; exact hPc, va_K.moved hW.alike hK, hDc.weaken (fun _ _ _ _ => trivial)⟩⟩ rfl rfl hl.1 rfl (lv_room (Nat.le_of_ble_eq_true rfl)) dX0_set_43 ⟨Nat.zero_le _, Nat.zero_le _⟩) hS (fun q _ h => hFc q h) hFc (fun u t9 H1 locs ht9 hvm hw hB hz1 hk1 hS => ?_)
        obtain ⟨hP1, hK1, hD1⟩ := hB
        rw [ht9] at hP1
        obtain rfl : u = (put3 fv (pl_of x y) x1 x2 x3) := hw
        obtain ⟨hP, hD⟩ := wj_1 (k := 1) hP hD rfl hk1 hP1
        clear hP1 hD1 hPc hDc hFc hk1 hz1 ht9 hvm hK1
        generalize H1 = H at hP hS ⊢
        replace hP : va_P (dC, dI) vwCl (wX cA h0 a1 a2 a3 a4 a5 a6 a7 a8 a9 N T X nw (put3 fv (pl_of x y) x1 x2 x3) tn tw th tk kt kn xt xn) H := hP
        replace hD : va_D A (wX cA h0 a1 a2 a3 a4 a5 a6 a7 a8 a9 N T X nw (put3 fv (pl_of x y) x1 x2 x3) tn tw th tk kt kn xt xn) := hD
        refine lv_iconst (v := (nI 1)) hx hb dX0_set_46 (by decide) ?_
        exact W.zret (v := (nI 1)) (ty := .boolean) hx hb hr (by decide) (fun t9 ht9 hW9 => ⟨⟨(nI 1), (put3 fv (pl_of x y) x1 x2 x3), rfl, br_t hok ⟨rfl, rfl⟩, by rw [ht9]; exact hP, va_K.moved hW9.alike hK, hD⟩, hS.F ht9⟩) hS.2.2 dX0_set_47
      · skip
        have c6 := btF h_bo5 c6
        refine lv_iconst (v := (nI 0)) hx hb dX0_set_27 (by decide) ?_
        exact W.zret (v := (nI 0)) (ty := .boolean) hx hb hr (by decide) (fun t9 ht9 hW9 => ⟨⟨(nI 0), fv, rfl, br_f (fun h => c6 h.2.2) ⟨rfl, rfl⟩, by rw [ht9]; exact hP, va_K.moved hW9.alike hK, hD⟩, hS.F ht9⟩) hS.2.2 dX0_set_28
set_option maxHeartbeats 4000000 in
set_option maxRecDepth 100000 in
/-- key(time, x, y, z) -/
theorem cx_key (l : Launch) (dC : Nat → ClassId) (dI : Nat → Nat → Nat) (cA : ClassId) (h0 a1 a2 a3 a4 a5 a6 a7 a8 a9 N T X : Nat) (nw : Int32) (fv tn tw th tk kt kn xt xn : Nat → Int32) (sz : Nat) (t x1 x2 x3 : Int32) (hX : X ≤ 32) : Met l yX0_key wsX0_key ({ frames := 2, cells := 0, slots := 0, locals := 45 }) (va_Pc [.ref h0, .int t, .int x1, .int x2, .int x3] (eX sz dC dI cA h0 a1 a2 a3 a4 a5 a6 a7 a8 a9 N T X nw fv tn tw th tk kt kn xt xn)) (va_Qi (fun (r : Int32) (u : Nat × (Nat → Int32) × (Nat → Int32)) => ((X < 32 ∧ q_time t ∧ q_can (nI 0) x1 x2 x3 ∧ (0 < X → (xt (X - 1)).toInt < t.toInt)) → r = nI (X + 1) ∧ u = (X + 1, upd xt X t, put3 xn (X * 3) x1 x2 x3)) ∧ (¬ (X < 32 ∧ q_time t ∧ q_can (nI 0) x1 x2 x3 ∧ (0 < X → (xt (X - 1)).toInt < t.toInt)) → r = -1 ∧ u = (X, xt, xn))) (fun u => bX (va_A (wX cA h0 a1 a2 a3 a4 a5 a6 a7 a8 a9 N T X nw fv tn tw th tk kt kn xt xn) sz) dC dI cA h0 a1 a2 a3 a4 a5 a6 a7 a8 a9 N T u.1 nw fv tn tw th tk kt kn u.2.1 u.2.2) (va_A (wX cA h0 a1 a2 a3 a4 a5 a6 a7 a8 a9 N T X nw fv tn tw th tk kt kn xt xn) sz)) 0 0 (va_A (wX cA h0 a1 a2 a3 a4 a5 a6 a7 a8 a9 N T X nw fv tn tw th tk kt kn xt xn) sz) := by
  refine Met.ofW (cc := cX0_key) (maxL := 5) (ret := (some .int)) (by decide) rfl ?_
  intro p e s m args below meth c s₁ B hml hv
  obtain ⟨rfl, hsz, hP, hK, hD0⟩ := hv
  have hx := B.exec
  have hb := B.bytes
  have hr := B.returns
  have hts := atoms_spec (ws := wsX0_key) B.pre
  have hown : s.vm.findClass RX0 = some m.cls := findClass_of_methodNamed B.named
  have hlocks := B.notSynchronized
  subst hsz
  have hD := hD0.self (sz := s.heap.size)
  generalize hAe : va_A (wX cA h0 a1 a2 a3 a4 a5 a6 a7 a8 a9 N T X nw fv tn tw th tk kt kn xt xn) s.heap.size = A at hD ⊢
  have hA : ∀ q : Nat, s.heap.size ≤ q → A q := fun q h => by rw [← hAe]; exact Or.inr h
  have hS : va_S A s.heap s.heap [] := va_S.rf
  have hP : va_P (dC, dI) vwCl (wX cA h0 a1 a2 a3 a4 a5 a6 a7 a8 a9 N T X nw fv tn tw th tk kt kn xt xn) s.heap := hP
  have hl := lv_entry ([.ref h0, .int t, .int x1, .int x2, .int x3]) (n := 5) (Nat.le_of_ble_eq_true rfl)
  rw [lg_entry_eq]
  generalize (lg_sl ([.ref h0, .int t, .int x1, .int x2, .int x3]) ++ List.replicate (5 - (lg_sl ([.ref h0, .int t, .int x1, .int x2, .int x3])).length) Slot.unset).toArray = ls at hl ⊢
  have hl : lv_has ls 5 [(0, .ref h0), (1, .int t), (2, .int x1), (3, .int x2), (4, .int x3)] := hl
  have t0 := z_0
  have t1 : (nI X).toInt = X := nI_toInt (by omega)
  have t2 : (nI 32).toInt = 32 := by decide
  refine lv_aload_n hx hb dX0_key_0 rfl (lv_at hl 0 rfl) ?_
  refine va_get (D := (dC, dI)) (ci := 0) (v := .int (nI X)) (C := RX0) (T := TX0) (N := 13) hx hb hts (by decide +kernel) hown hK hP 0 rfl rfl 9 (by decide) (hts (.fieldLink RX0 54 "MotionDesk" "textCount" "I") (by decide +kernel)) (fun _ h9 => h9) rfl dX0_key_1 ?_
  refine lv_bipush (v := (nI 32)) hx hb dX0_key_4 (by decide) ?_
  refine lv_icmp_ge (tgt := 27) hx hb dX0_key_6 (by decide) (fun c1 => ?_) (fun c1 => ?_)
  · skip
    have c1 := zle c1
    refine lv_iconst (v := (-1)) hx hb dX0_key_27 (by decide) ?_
    exact W.iret (v := (-1)) hx hb hr (fun t9 ht9 hW9 => ⟨⟨(-1), (X, xt, xn), rfl, br_f (fun h => absurd h.1 (by omega)) ⟨rfl, rfl⟩, by rw [ht9]; exact hP, va_K.moved hW9.alike hK, hD⟩, hS.F ht9⟩) hS.2.2 dX0_key_28
  · skip
    have c1 := znle c1
    refine lv_iload_n hx hb dX0_key_9 rfl (lv_at hl 1 rfl) ?_
    refine vp_callSi (W.runS (As := [.int t]) (rest := []) ⟨hx, hb, hml, hown, hts⟩ (cx_isTime l t) (va_cwS 1 hts gX0_key_X0_isTime rfl rfl rfl (by decide +kernel) ⟨Nat.le_of_ble_eq_true rfl, Nat.le_of_ble_eq_true rfl⟩) preEq rfl rfl hl.1 rfl (lv_room (Nat.le_of_ble_eq_true rfl)) dX0_key_10 ⟨Nat.le_of_ble_eq_true rfl, Nat.le_of_ble_eq_true rfl⟩) (fun bo2 h_bo2 => ?_)
    refine lv_if_eq (tgt := 27) hx hb dX0_key_13 (by decide) (fun c3 => ?_) (fun c3 => ?_)
    · skip
      have c3 := btF h_bo2 c3
      refine lv_iconst (v := (-1)) hx hb dX0_key_27 (by decide) ?_
      exact W.iret (v := (-1)) hx hb hr (fun t9 ht9 hW9 => ⟨⟨(-1), (X, xt, xn), rfl, br_f (fun h => c3 h.2.1) ⟨rfl, rfl⟩, by rw [ht9]; exact hP, va_K.moved hW9.alike hK, hD⟩, hS.F ht9⟩) hS.2.2 dX0_key_28
    · skip
      have c3 := btT h_bo2 c3
      refine lv_iconst (v := (nI 0)) hx hb dX0_key_16 (by decide) ?_
      refine lv_iload_n hx hb dX0_key_17 rfl (lv_at hl 2 rfl) ?_
      refine lv_iload_n hx hb dX0_key_18 rfl (lv_at hl 3 rfl) ?_
      refine lv_iload hx hb dX0_key_19 (lv_at hl 4 rfl) ?_
      refine vp_callSi (W.runS (As := [.int (nI 0), .int x1, .int x2, .int x3]) (rest := []) ⟨hx, hb, hml, hown, hts⟩ (cx_canHave l (nI 0) x1 x2 x3) (va_cwS 4 hts gX0_key_X0_canHave rfl rfl rfl (by decide +kernel) ⟨Nat.le_of_ble_eq_true rfl, Nat.le_of_ble_eq_true rfl⟩) preEq rfl rfl hl.1 rfl (lv_room (Nat.le_of_ble_eq_true rfl)) dX0_key_21 ⟨Nat.le_of_ble_eq_true rfl, Nat.le_of_ble_eq_true rfl⟩) (fun bo4 h_bo4 => ?_)
      refine lv_if_ne (tgt := 29) hx hb dX0_key_24 (by decide) (fun c5 => ?_) (fun c5 => ?_)
      · skip
        have c5 := btT h_bo4 c5
        refine lv_aload_n hx hb dX0_key_29 rfl (lv_at hl 0 rfl) ?_
        refine va_get (D := (dC, dI)) (ci := 0) (v := .int (nI X)) (C := RX0) (T := TX0) (N := 13) hx hb hts (by decide +kernel) hown hK hP 0 rfl rfl 9 (by decide) (hts (.fieldLink RX0 54 "MotionDesk" "textCount" "I") (by decide +kernel)) (fun _ h9 => h9) rfl dX0_key_30 ?_
        refine lv_if_le (tgt := 53) hx hb dX0_key_33 (by decide) (fun c6 => ?_) (fun c6 => ?_)
        · skip
          have c6 := zle c6
          have hok : (X < 32 ∧ q_time t ∧ q_can (nI 0) x1 x2 x3 ∧ (0 < X → (xt (X - 1)).toInt < t.toInt)) := ⟨by omega, c3, c5, fun h => by omega⟩
          refine lv_aload_n hx hb dX0_key_53 rfl (lv_at hl 0 rfl) ?_
          refine va_get (D := (dC, dI)) (ci := 0) (v := .ref a8) (C := RX0) (T := TX0) (N := 13) hx hb hts (by decide +kernel) hown hK hP 0 rfl rfl 10 (by decide) (hts (.fieldLink RX0 48 "MotionDesk" "textTimes" "[I") (by decide +kernel)) (fun _ h9 => h9) rfl dX0_key_54 ?_
          refine lv_aload_n hx hb dX0_key_57 rfl (lv_at hl 0 rfl) ?_
          refine va_get (D := (dC, dI)) (ci := 0) (v := .int (nI X)) (C := RX0) (T := TX0) (N := 13) hx hb hts (by decide +kernel) hown hK hP 0 rfl rfl 9 (by decide) (hts (.fieldLink RX0 54 "MotionDesk" "textCount" "I") (by decide +kernel)) (fun _ h9 => h9) rfl dX0_key_58 ?_
          refine lv_iload_n hx hb dX0_key_61 rfl (lv_at hl 1 rfl) ?_
          refine va_iast hx hb hK hP hD hS 8 0 rfl rfl (vp_in_nI (by omega) (by omega)) dX0_key_62 (fun H locs hP hD hS => ?_)
          rw [nI_clamp (show X < 2 ^ 31 by omega)] at hP hD
          replace hP : va_P (dC, dI) vwCl (wX cA h0 a1 a2 a3 a4 a5 a6 a7 a8 a9 N T X nw fv tn tw th tk kt kn (upd xt X t) xn) H := hP
          replace hD : va_D A (wX cA h0 a1 a2 a3 a4 a5 a6 a7 a8 a9 N T X nw fv tn tw th tk kt kn (upd xt X t) xn) := hD
          refine lv_aload_n hx hb dX0_key_63 rfl (lv_at hl 0 rfl) ?_
          refine va_get (D := (dC, dI)) (ci := 0) (v := .ref a9) (C := RX0) (T := TX0) (N := 13) hx hb hts (by decide +kernel) hown hK hP 0 rfl rfl 11 (by decide) (hts (.fieldLink RX0 51 "MotionDesk" "textNumbers" "[I") (by decide +kernel)) (fun _ h9 => h9) rfl dX0_key_64 ?_
          refine lv_aload_n hx hb dX0_key_67 rfl (lv_at hl 0 rfl) ?_
          refine va_get (D := (dC, dI)) (ci := 0) (v := .int (nI X)) (C := RX0) (T := TX0) (N := 13) hx hb hts (by decide +kernel) hown hK hP 0 rfl rfl 9 (by decide) (hts (.fieldLink RX0 54 "MotionDesk" "textCount" "I") (by decide +kernel)) (fun _ h9 => h9) rfl dX0_key_68 ?_
          refine lv_iconst (v := (nI 3)) hx hb dX0_key_71 (by decide) ?_
          refine lv_imul hx hb dX0_key_72 ?_
          refine tp_i (y := nI (X * 3)) (pk_mul X 3) ?_
          refine lv_iload_n hx hb dX0_key_73 rfl (lv_at hl 2 rfl) ?_
          refine lv_iload_n hx hb dX0_key_74 rfl (lv_at hl 3 rfl) ?_
          refine lv_iload hx hb dX0_key_75 (lv_at hl 4 rfl) ?_
          have hPc := hP.sub (ws' := [(a9, .inl (cA, 96, .inl xn))]) [9] rfl
          have hDc := hD.sub (ws' := [(a9, .inl (cA, 96, .inl xn))]) [9] (by decide) rfl
          have hFc := va_free (wc := [(a9, .inl (cA, 96, .inl xn))]) hD hS hA [9] rfl
          refine va_callv (va_runS (As := [.ref a9, .int (nI (X * 3)), .int x1, .int x2, .int x3]) (rest := []) ⟨hx, hb, hml, hown, hts⟩ (cx_put3 l dC dI cA a9 96 H.size xn (X * 3) x1 x2 x3 (by omega) (by omega)) (va_cwS 5 hts gX0_key_X0_putThree rfl rfl rfl (by decide +kernel) ⟨Nat.le_of_ble_eq_true rfl, Nat.le_of_ble_eq_true rfl⟩) ⟨fun a U g mk q => by obtain ⟨q0, q1, qP, qK, qD⟩ := q; exact ⟨q0, q1, qP, va_K.moved (u := U) (U := U.calling g mk a) (Vm.Alike.refl U.vm) qK, qD⟩, fun U hU hW => ⟨rfl, by rw [hU], by rw [hU]; exact hPc, va_K.moved hW.alike hK, hDc.weaken (fun _ _ _ _ => trivial)⟩⟩ rfl rfl hl.1 rfl (lv_room (Nat.le_of_ble_eq_true rfl)) dX0_key_77 ⟨Nat.zero_le _, Nat.zero_le _⟩) hS (fun q _ h => hFc q h) hFc (fun u t9 H1 locs ht9 hvm hw hB hz1 hk1 hS => ?_)
          obtain ⟨hP1, hK1, hD1⟩ := hB
          rw [ht9] at hP1
          obtain rfl : u = (put3 xn (X * 3) x1 x2 x3) := hw
          obtain ⟨hP, hD⟩ := wj_1 (k := 9) hP hD rfl hk1 hP1
          clear hP1 hD1 hPc hDc hFc hk1 hz1 ht9 hvm hK1
          generalize H1 = H at hP hS ⊢
          replace hP : va_P (dC, dI) vwCl (wX cA h0 a1 a2 a3 a4 a5 a6 a7 a8 a9 N T X nw fv tn tw th tk kt kn (upd xt X t) (put3 xn (X * 3) x1 x2 x3)) H := hP
          replace hD : va_D A (wX cA h0 a1 a2 a3 a4 a5 a6 a7 a8 a9 N T X nw fv tn tw th tk kt kn (upd xt X t) (put3 xn (X * 3) x1 x2 x3)) := hD
          refine lv_aload_n hx hb dX0_key_80 rfl (lv_at hl 0 rfl) ?_
          refine lv_dup hx hb dX0_key_81 rfl ?_
          refine va_get (D := (dC, dI)) (ci := 0) (v := .int (nI X)) (C := RX0) (T := TX0) (N := 13) hx hb hts (by decide +kernel) hown hK hP 0 rfl rfl 9 (by decide) (hts (.fieldLink RX0 54 "MotionDesk" "textCount" "I") (by decide +kernel)) (fun _ h9 => h9) rfl dX0_key_82 ?_
          refine lv_iconst (v := (nI 1)) hx hb dX0_key_85 (by decide) ?_
          refine lv_iadd hx hb dX0_key_86 ?_
          refine tp_i (y := nI (X + 1)) (nI_1 X) ?_
          refine va_put (D := (dC, dI)) (ci := 0) (v := .int (nI (X + 1))) (ty := .int) (C := RX0) (T := TX0) (N := 13) hx hb hts (by decide +kernel) tyX0 tyX0_ok nmX0 hown hK hP hD hS 0 rfl rfl 9 (by decide) (hts (.fieldLink RX0 54 "MotionDesk" "textCount" "I") (by decide +kernel)) (fun _ h9 => h9) rfl (by decide +kernel) rfl rfl (Nat.le_of_ble_eq_true rfl) dX0_key_87 (fun H locs hP hD hS => ?_)
          replace hP : va_P (dC, dI) vwCl (wX cA h0 a1 a2 a3 a4 a5 a6 a7 a8 a9 N T (X + 1) nw fv tn tw th tk kt kn (upd xt X t) (put3 xn (X * 3) x1 x2 x3)) H := hP
          replace hD : va_D A (wX cA h0 a1 a2 a3 a4 a5 a6 a7 a8 a9 N T (X + 1) nw fv tn tw th tk kt kn (upd xt X t) (put3 xn (X * 3) x1 x2 x3)) := hD
          refine lv_aload_n hx hb dX0_key_90 rfl (lv_at hl 0 rfl) ?_
          refine va_get (D := (dC, dI)) (ci := 0) (v := .int (nI (X + 1))) (C := RX0) (T := TX0) (N := 13) hx hb hts (by decide +kernel) hown hK hP 0 rfl rfl 9 (by decide) (hts (.fieldLink RX0 54 "MotionDesk" "textCount" "I") (by decide +kernel)) (fun _ h9 => h9) rfl dX0_key_91 ?_
          exact W.iret (v := nI (X + 1)) hx hb hr (fun t9 ht9 hW9 => ⟨⟨nI (X + 1), ((X + 1), (upd xt X t), (put3 xn (X * 3) x1 x2 x3)), rfl, br_t hok ⟨rfl, rfl⟩, by rw [ht9]; exact hP, va_K.moved hW9.alike hK, hD⟩, hS.F ht9⟩) hS.2.2 dX0_key_94
        · skip
          have c6 := znle c6
          refine lv_iload_n hx hb dX0_key_36 rfl (lv_at hl 1 rfl) ?_
          refine lv_aload_n hx hb dX0_key_37 rfl (lv_at hl 0 rfl) ?_
          refine va_get (D := (dC, dI)) (ci := 0) (v := .ref a8) (C := RX0) (T := TX0) (N := 13) hx hb hts (by decide +kernel) hown hK hP 0 rfl rfl 10 (by decide) (hts (.fieldLink RX0 48 "MotionDesk" "textTimes" "[I") (by decide +kernel)) (fun _ h9 => h9) rfl dX0_key_38 ?_
          refine lv_aload_n hx hb dX0_key_41 rfl (lv_at hl 0 rfl) ?_
          refine va_get (D := (dC, dI)) (ci := 0) (v := .int (nI X)) (C := RX0) (T := TX0) (N := 13) hx hb hts (by decide +kernel) hown hK hP 0 rfl rfl 9 (by decide) (hts (.fieldLink RX0 54 "MotionDesk" "textCount" "I") (by decide +kernel)) (fun _ h9 => h9) rfl dX0_key_42 ?_
          refine lv_iconst (v := (nI 1)) hx hb dX0_key_45 (by decide) ?_
          refine lv_isub hx hb dX0_key_46 ?_
          refine tp_i (y := nI (X - 1)) (pk_sub (show 1 ≤ X by omega)) ?_
          refine va_iald hx hb hK hP 8 0 rfl rfl (vp_in_nI (by omega) (by omega)) dX0_key_47 ?_
          refine tp_i (y := (xt (X - 1))) (by rw [nI_clamp (by omega)]) ?_
          refine lv_icmp_gt (tgt := 53) hx hb dX0_key_48 (by decide) (fun c7 => ?_) (fun c7 => ?_)
          · skip
            have c7 := zlt c7
            have hok : (X < 32 ∧ q_time t ∧ q_can (nI 0) x1 x2 x3 ∧ (0 < X → (xt (X - 1)).toInt < t.toInt)) := ⟨by omega, c3, c5, fun _ => c7⟩
            refine lv_aload_n hx hb dX0_key_53 rfl (lv_at hl 0 rfl) ?_
            refine va_get (D := (dC, dI)) (ci := 0) (v := .ref a8) (C := RX0) (T := TX0) (N := 13) hx hb hts (by decide +kernel) hown hK hP 0 rfl rfl 10 (by decide) (hts (.fieldLink RX0 48 "MotionDesk" "textTimes" "[I") (by decide +kernel)) (fun _ h9 => h9) rfl dX0_key_54 ?_
            refine lv_aload_n hx hb dX0_key_57 rfl (lv_at hl 0 rfl) ?_
            refine va_get (D := (dC, dI)) (ci := 0) (v := .int (nI X)) (C := RX0) (T := TX0) (N := 13) hx hb hts (by decide +kernel) hown hK hP 0 rfl rfl 9 (by decide) (hts (.fieldLink RX0 54 "MotionDesk" "textCount" "I") (by decide +kernel)) (fun _ h9 => h9) rfl dX0_key_58 ?_
            refine lv_iload_n hx hb dX0_key_61 rfl (lv_at hl 1 rfl) ?_
            refine va_iast hx hb hK hP hD hS 8 0 rfl rfl (vp_in_nI (by omega) (by omega)) dX0_key_62 (fun H locs hP hD hS => ?_)
            rw [nI_clamp (show X < 2 ^ 31 by omega)] at hP hD
            replace hP : va_P (dC, dI) vwCl (wX cA h0 a1 a2 a3 a4 a5 a6 a7 a8 a9 N T X nw fv tn tw th tk kt kn (upd xt X t) xn) H := hP
            replace hD : va_D A (wX cA h0 a1 a2 a3 a4 a5 a6 a7 a8 a9 N T X nw fv tn tw th tk kt kn (upd xt X t) xn) := hD
            refine lv_aload_n hx hb dX0_key_63 rfl (lv_at hl 0 rfl) ?_
            refine va_get (D := (dC, dI)) (ci := 0) (v := .ref a9) (C := RX0) (T := TX0) (N := 13) hx hb hts (by decide +kernel) hown hK hP 0 rfl rfl 11 (by decide) (hts (.fieldLink RX0 51 "MotionDesk" "textNumbers" "[I") (by decide +kernel)) (fun _ h9 => h9) rfl dX0_key_64 ?_
            refine lv_aload_n hx hb dX0_key_67 rfl (lv_at hl 0 rfl) ?_
            refine va_get (D := (dC, dI)) (ci := 0) (v := .int (nI X)) (C := RX0) (T := TX0) (N := 13) hx hb hts (by decide +kernel) hown hK hP 0 rfl rfl 9 (by decide) (hts (.fieldLink RX0 54 "MotionDesk" "textCount" "I") (by decide +kernel)) (fun _ h9 => h9) rfl dX0_key_68 ?_
            refine lv_iconst (v := (nI 3)) hx hb dX0_key_71 (by decide) ?_
            refine lv_imul hx hb dX0_key_72 ?_
            refine tp_i (y := nI (X * 3)) (pk_mul X 3) ?_
            refine lv_iload_n hx hb dX0_key_73 rfl (lv_at hl 2 rfl) ?_
            refine lv_iload_n hx hb dX0_key_74 rfl (lv_at hl 3 rfl) ?_
            refine lv_iload hx hb dX0_key_75 (lv_at hl 4 rfl) ?_
            have hPc := hP.sub (ws' := [(a9, .inl (cA, 96, .inl xn))]) [9] rfl
            have hDc := hD.sub (ws' := [(a9, .inl (cA, 96, .inl xn))]) [9] (by decide) rfl
            have hFc := va_free (wc := [(a9, .inl (cA, 96, .inl xn))]) hD hS hA [9] rfl
            refine va_callv (va_runS (As := [.ref a9, .int (nI (X * 3)), .int x1, .int x2, .int x3]) (rest := []) ⟨hx, hb, hml, hown, hts⟩ (cx_put3 l dC dI cA a9 96 H.size xn (X * 3) x1 x2 x3 (by omega) (by omega)) (va_cwS 5 hts gX0_key_X0_putThree rfl rfl rfl (by decide +kernel) ⟨Nat.le_of_ble_eq_true rfl, Nat.le_of_ble_eq_true rfl⟩) ⟨fun a U g mk q => by obtain ⟨q0, q1, qP, qK, qD⟩ := q; exact ⟨q0, q1, qP, va_K.moved (u := U) (U := U.calling g mk a) (Vm.Alike.refl U.vm) qK, qD⟩, fun U hU hW => ⟨rfl, by rw [hU], by rw [hU]; exact hPc, va_K.moved hW.alike hK, hDc.weaken (fun _ _ _ _ => trivial)⟩⟩ rfl rfl hl.1 rfl (lv_room (Nat.le_of_ble_eq_true rfl)) dX0_key_77 ⟨Nat.zero_le _, Nat.zero_le _⟩) hS (fun q _ h => hFc q h) hFc (fun u t9 H1 locs ht9 hvm hw hB hz1 hk1 hS => ?_)
            obtain ⟨hP1, hK1, hD1⟩ := hB
            rw [ht9] at hP1
            obtain rfl : u = (put3 xn (X * 3) x1 x2 x3) := hw
            obtain ⟨hP, hD⟩ := wj_1 (k := 9) hP hD rfl hk1 hP1
            clear hP1 hD1 hPc hDc hFc hk1 hz1 ht9 hvm hK1
            generalize H1 = H at hP hS ⊢
            replace hP : va_P (dC, dI) vwCl (wX cA h0 a1 a2 a3 a4 a5 a6 a7 a8 a9 N T X nw fv tn tw th tk kt kn (upd xt X t) (put3 xn (X * 3) x1 x2 x3)) H := hP
            replace hD : va_D A (wX cA h0 a1 a2 a3 a4 a5 a6 a7 a8 a9 N T X nw fv tn tw th tk kt kn (upd xt X t) (put3 xn (X * 3) x1 x2 x3)) := hD
            refine lv_aload_n hx hb dX0_key_80 rfl (lv_at hl 0 rfl) ?_
            refine lv_dup hx hb dX0_key_81 rfl ?_
            refine va_get (D := (dC, dI)) (ci := 0) (v := .int (nI X)) (C := RX0) (T := TX0) (N := 13) hx hb hts (by decide +kernel) hown hK hP 0 rfl rfl 9 (by decide) (hts (.fieldLink RX0 54 "MotionDesk" "textCount" "I") (by decide +kernel)) (fun _ h9 => h9) rfl dX0_key_82 ?_
            refine lv_iconst (v := (nI 1)) hx hb dX0_key_85 (by decide) ?_
            refine lv_iadd hx hb dX0_key_86 ?_
            refine tp_i (y := nI (X + 1)) (nI_1 X) ?_
            refine va_put (D := (dC, dI)) (ci := 0) (v := .int (nI (X + 1))) (ty := .int) (C := RX0) (T := TX0) (N := 13) hx hb hts (by decide +kernel) tyX0 tyX0_ok nmX0 hown hK hP hD hS 0 rfl rfl 9 (by decide) (hts (.fieldLink RX0 54 "MotionDesk" "textCount" "I") (by decide +kernel)) (fun _ h9 => h9) rfl (by decide +kernel) rfl rfl (Nat.le_of_ble_eq_true rfl) dX0_key_87 (fun H locs hP hD hS => ?_)
            replace hP : va_P (dC, dI) vwCl (wX cA h0 a1 a2 a3 a4 a5 a6 a7 a8 a9 N T (X + 1) nw fv tn tw th tk kt kn (upd xt X t) (put3 xn (X * 3) x1 x2 x3)) H := hP
            replace hD : va_D A (wX cA h0 a1 a2 a3 a4 a5 a6 a7 a8 a9 N T (X + 1) nw fv tn tw th tk kt kn (upd xt X t) (put3 xn (X * 3) x1 x2 x3)) := hD
            refine lv_aload_n hx hb dX0_key_90 rfl (lv_at hl 0 rfl) ?_
            refine va_get (D := (dC, dI)) (ci := 0) (v := .int (nI (X + 1))) (C := RX0) (T := TX0) (N := 13) hx hb hts (by decide +kernel) hown hK hP 0 rfl rfl 9 (by decide) (hts (.fieldLink RX0 54 "MotionDesk" "textCount" "I") (by decide +kernel)) (fun _ h9 => h9) rfl dX0_key_91 ?_
            exact W.iret (v := nI (X + 1)) hx hb hr (fun t9 ht9 hW9 => ⟨⟨nI (X + 1), ((X + 1), (upd xt X t), (put3 xn (X * 3) x1 x2 x3)), rfl, br_t hok ⟨rfl, rfl⟩, by rw [ht9]; exact hP, va_K.moved hW9.alike hK, hD⟩, hS.F ht9⟩) hS.2.2 dX0_key_94
          · skip
            have c7 := znlt c7
            refine lv_iconst (v := (-1)) hx hb dX0_key_51 (by decide) ?_
            exact W.iret (v := (-1)) hx hb hr (fun t9 ht9 hW9 => ⟨⟨(-1), (X, xt, xn), rfl, br_f (fun h => absurd (h.2.2.2 (by omega)) (by omega)) ⟨rfl, rfl⟩, by rw [ht9]; exact hP, va_K.moved hW9.alike hK, hD⟩, hS.F ht9⟩) hS.2.2 dX0_key_52
      · skip
        have c5 := btF h_bo4 c5
        refine lv_iconst (v := (-1)) hx hb dX0_key_27 (by decide) ?_
        exact W.iret (v := (-1)) hx hb hr (fun t9 ht9 hW9 => ⟨⟨(-1), (X, xt, xn), rfl, br_f (fun h => c5 h.2.2.1) ⟨rfl, rfl⟩, by rw [ht9]; exact hP, va_K.moved hW9.alike hK, hD⟩, hS.F ht9⟩) hS.2.2 dX0_key_28
end
section
set_option maxHeartbeats 4000000 in
set_option maxRecDepth 100000 in
/-- play(track) -/
theorem cx_play (l : Launch) (dC : Nat → ClassId) (dI : Nat → Nat → Nat) (cA : ClassId) (h0 a1 a2 a3 a4 a5 a6 a7 a8 a9 N T X : Nat) (nw : Int32) (fv tn tw th tk kt kn xt xn : Nat → Int32) (sz : Nat) (t K n v : Nat) (hT : T ≤ 32) (ht : t < T) (hN : N ≤ 48) (hK1 : 1 ≤ K) (hK2 : K ≤ 32) (hn : n < N) (hv3 : v < 3) (etk : tk t = nI K) (etn : tn t = nI n) (etw : tw t = nI v) : Met l yX0_play wsX0_play ({ frames := 5, cells := 0, slots := 0, locals := 123 }) (va_Pc [.ref h0, .int (nI t)] (eX sz dC dI cA h0 a1 a2 a3 a4 a5 a6 a7 a8 a9 N T X nw fv tn tw th tk kt kn xt xn)) (va_Qv (fun (u : Nat → Int32) => u = pl1 kt kn nw tn tw th tk t fv) (fun u => bX (va_A (wX cA h0 a1 a2 a3 a4 a5 a6 a7 a8 a9 N T X nw fv tn tw th tk kt kn xt xn) sz) dC dI cA h0 a1 a2 a3 a4 a5 a6 a7 a8 a9 N T X nw u tn tw th tk kt kn xt xn) (va_A (wX cA h0 a1 a2 a3 a4 a5 a6 a7 a8 a9 N T X nw fv tn tw th tk kt kn xt xn) sz)) 0 0 (va_A (wX cA h0 a1 a2 a3 a4 a5 a6 a7 a8 a9 N T X nw fv tn tw th tk kt kn xt xn) sz) := by
  refine Met.ofW (cc := cX0_play) (maxL := 7) (ret := none) (by decide) rfl ?_
  intro p e s m args below meth c s₁ B hml hv
  obtain ⟨rfl, hsz, hP, hK, hD0⟩ := hv
  have hx := B.exec
  have hb := B.bytes
  have hr := B.returns
  have hts := atoms_spec (ws := wsX0_play) B.pre
  have hown : s.vm.findClass RX0 = some m.cls := findClass_of_methodNamed B.named
  have hlocks := B.notSynchronized
  subst hsz
  have hD := hD0.self (sz := s.heap.size)
  generalize hAe : va_A (wX cA h0 a1 a2 a3 a4 a5 a6 a7 a8 a9 N T X nw fv tn tw th tk kt kn xt xn) s.heap.size = A at hD ⊢
  have hA : ∀ q : Nat, s.heap.size ≤ q → A q := fun q h => by rw [← hAe]; exact Or.inr h
  have hS : va_S A s.heap s.heap [] := va_S.rf
  have hP : va_P (dC, dI) vwCl (wX cA h0 a1 a2 a3 a4 a5 a6 a7 a8 a9 N T X nw fv tn tw th tk kt kn xt xn) s.heap := hP
  have hl := lv_entry ([.ref h0, .int (nI t)]) (n := 7) (Nat.le_of_ble_eq_true rfl)
  rw [lg_entry_eq]
  generalize (lg_sl ([.ref h0, .int (nI t)]) ++ List.replicate (7 - (lg_sl ([.ref h0, .int (nI t)])).length) Slot.unset).toArray = ls at hl ⊢
  have hl : lv_has ls 7 [(0, .ref h0), (1, .int (nI t))] := hl
  have q1 : (tk t).toInt.toNat = K := by rw [etk, nI_toInt (by omega)]; omega
  have q2 : pl_of (tn t) (tw t) = (n * 3 + v) * 3 := by unfold pl_of; rw [etn, etw, nI_toInt (by omega), nI_toInt (by omega)]; omega
  obtain ⟨kk, hkk⟩ : ∃ kk, kk = kif kt nw (t * 32) (K - 1) := ⟨_, rfl⟩
  have hb1 : t * 32 ≤ kk ∧ kk ≤ t * 32 + (K - 1) := by rw [hkk]; exact kif_le kt nw (K - 1) (t * 32)
  have t1 : (nI kk).toInt = kk := nI_toInt (by omega)
  have t2 : (nI (t * 32 + K - 1)).toInt = (t * 32 + K - 1 : Nat) := nI_toInt (by omega)
  refine lv_iload_n hx hb dX0_play_0 rfl (lv_at hl 1 rfl) ?_
  refine lv_bipush (v := (nI 32)) hx hb dX0_play_1 (by decide) ?_
  refine lv_imul hx hb dX0_play_3 ?_
  refine tp_i (y := nI (t * 32)) (pk_mul t 32) ?_
  refine lv_aload_n hx hb dX0_play_4 rfl (lv_at hl 0 rfl) ?_
  refine va_get (D := (dC, dI)) (ci := 0) (v := .ref a5) (C := RX0) (T := TX0) (N := 13) hx hb hts (by decide +kernel) hown hK hP 0 rfl rfl 6 (by decide) (hts (.fieldLink RX0 39 "MotionDesk" "trackKeys" "[I") (by decide +kernel)) (fun _ h9 => h9) rfl dX0_play_5 ?_
  refine lv_iload_n hx hb dX0_play_8 rfl (lv_at hl 1 rfl) ?_
  refine va_iald hx hb hK hP 5 0 rfl rfl (vp_in_nI (by omega) (by omega)) dX0_play_9 ?_
  refine tp_i (y := (tk t)) (by rw [nI_clamp (by omega)]) ?_
  refine tp_i (y := nI K) (etk) ?_
  refine lv_iadd hx hb dX0_play_10 ?_
  refine tp_i (y := nI (t * 32 + K)) (nI_add _ _) ?_
  refine lv_iconst (v := (nI 1)) hx hb dX0_play_11 (by decide) ?_
  refine lv_isub hx hb dX0_play_12 ?_
  refine tp_i (y := nI (t * 32 + K - 1)) (pk_sub (show 1 ≤ t * 32 + K by omega)) ?_
  refine lv_istore_n (lv' := [(2, .int (nI (t * 32 + K - 1))), (0, .ref h0), (1, .int (nI t))]) hx hb dX0_play_13 rfl hl (by decide) rfl (fun ls hl => ?_)
  refine lv_aload_n hx hb dX0_play_14 rfl (lv_at hl 1 rfl) ?_
  refine lv_iload_n hx hb dX0_play_15 rfl (lv_at hl 2 rfl) ?_
  refine lv_bipush (v := (nI 32)) hx hb dX0_play_16 (by decide) ?_
  refine lv_imul hx hb dX0_play_18 ?_
  refine tp_i (y := nI (t * 32)) (pk_mul t 32) ?_
  refine lv_iload_n hx hb dX0_play_19 rfl (lv_at hl 0 rfl) ?_
  refine tp_i (y := nI (t * 32 + (K - 1))) (by rw [show t * 32 + K - 1 = t * 32 + (K - 1) by omega]) ?_
  refine vp_callSi (W.runV (C := RX0) (As := [.int (nI (t * 32)), .int (nI (t * 32 + (K - 1)))]) (rest := []) ⟨hx, hb, hml, hown, hts⟩ (cx_kif l dC dI cA h0 a1 a2 a3 a4 a5 a6 a7 a8 a9 N T X nw fv tn tw th tk kt kn xt xn (t * 32) (K - 1) (by omega)) (cwV 2 hts gX0_play_X0_keyInForce rfl rfl rfl (by decide +kernel) ⟨Nat.le_of_ble_eq_true rfl, Nat.le_of_ble_eq_true rfl⟩) ⟨fun a U g mk q => ⟨q.1, q.2.1, va_K.moved (u := U) (U := U.calling g mk a) (Vm.Alike.refl U.vm) q.2.2⟩, va_recv hK hP (ci := 0) (q0 := 0) rfl rfl, fun U hU hW => ⟨rfl, by rw [hU]; exact hP, va_K.moved hW.alike hK⟩⟩ rfl rfl hl.1 rfl (lv_room (Nat.le_of_ble_eq_true rfl)) dX0_play_20 ⟨Nat.le_of_ble_eq_true rfl, Nat.le_of_ble_eq_true rfl⟩) (fun r1 h_r1 => ?_)
  refine tp_i (y := nI kk) (by rw [h_r1, hkk]) ?_
  refine lv_istore_n (lv' := [(3, .int (nI kk)), (2, .int (nI (t * 32 + K - 1))), (0, .ref h0), (1, .int (nI t))]) hx hb dX0_play_23 rfl hl (by decide) rfl (fun ls hl => ?_)
  refine lv_aload_n hx hb dX0_play_24 rfl (lv_at hl 2 rfl) ?_
  refine va_get (D := (dC, dI)) (ci := 0) (v := .ref a2) (C := RX0) (T := TX0) (N := 13) hx hb hts (by decide +kernel) hown hK hP 0 rfl rfl 3 (by decide) (hts (.fieldLink RX0 30 "MotionDesk" "trackNode" "[I") (by decide +kernel)) (fun _ h9 => h9) rfl dX0_play_25 ?_
  refine lv_iload_n hx hb dX0_play_28 rfl (lv_at hl 3 rfl) ?_
  refine va_iald hx hb hK hP 2 0 rfl rfl (vp_in_nI (by omega) (by omega)) dX0_play_29 ?_
  refine tp_i (y := (tn t)) (by rw [nI_clamp (by omega)]) ?_
  refine tp_i (y := nI n) (etn) ?_
  refine lv_aload_n hx hb dX0_play_30 rfl (lv_at hl 2 rfl) ?_
  refine va_get (D := (dC, dI)) (ci := 0) (v := .ref a3) (C := RX0) (T := TX0) (N := 13) hx hb hts (by decide +kernel) hown hK hP 0 rfl rfl 4 (by decide) (hts (.fieldLink RX0 33 "MotionDesk" "trackWhat" "[I") (by decide +kernel)) (fun _ h9 => h9) rfl dX0_play_31 ?_
  refine lv_iload_n hx hb dX0_play_34 rfl (lv_at hl 3 rfl) ?_
  refine va_iald hx hb hK hP 3 0 rfl rfl (vp_in_nI (by omega) (by omega)) dX0_play_35 ?_
  refine tp_i (y := (tw t)) (by rw [nI_clamp (by omega)]) ?_
  refine tp_i (y := nI v) (etw) ?_
  refine vp_callSi (W.runS (As := [.int (nI n), .int (nI v)]) (rest := []) ⟨hx, hb, hml, hown, hts⟩ (cx_placeOf l n v) (va_cwS 2 hts gX0_play_X0_placeOf rfl rfl rfl (by decide +kernel) ⟨Nat.le_of_ble_eq_true rfl, Nat.le_of_ble_eq_true rfl⟩) preEq rfl rfl hl.1 rfl (lv_room (Nat.le_of_ble_eq_true rfl)) dX0_play_36 ⟨Nat.le_of_ble_eq_true rfl, Nat.le_of_ble_eq_true rfl⟩) (fun r2 h_r2 => ?_)
  refine tp_i (y := nI ((n * 3 + v) * 3)) (h_r2) ?_
  refine lv_istore (lv' := [(4, .int (nI ((n * 3 + v) * 3))), (3, .int (nI kk)), (2, .int (nI (t * 32 + K - 1))), (0, .ref h0), (1, .int (nI t))]) hx hb dX0_play_39 hl (by decide) rfl (fun ls hl => ?_)
  refine lv_iload_n hx hb dX0_play_41 rfl (lv_at hl 1 rfl) ?_
  refine lv_iload_n hx hb dX0_play_42 rfl (lv_at hl 2 rfl) ?_
  refine lv_icmp_eq (tgt := 59) hx hb dX0_play_43 (by decide) (fun c3 => ?_) (fun c3 => ?_)
  · skip
    have c3 := zeq c3
    refine lv_iconst (v := (nI 1)) hx hb dX0_play_59 (by decide) ?_
    refine lv_goto (tgt := 64) hx hb dX0_play_60 (by decide) ?_
    refine lv_istore (lv' := [(5, .int (nI 1)), (4, .int (nI ((n * 3 + v) * 3))), (3, .int (nI kk)), (2, .int (nI (t * 32 + K - 1))), (0, .ref h0), (1, .int (nI t))]) hx hb dX0_play_64 hl (by decide) rfl (fun ls hl => ?_)
    have hv : ∀ j, plv kt kn nw (th t) (t * 32) K j = kn (kk * 3 + j) := fun j => by unfold plv; rw [← hkk, if_pos (Or.inl (by omega))]
    refine lv_iconst (v := (nI 0)) hx hb dX0_play_66 (by decide) ?_
    refine lv_istore (lv' := [(6, .int (nI 0)), (5, .int (nI 1)), (4, .int (nI ((n * 3 + v) * 3))), (3, .int (nI kk)), (2, .int (nI (t * 32 + K - 1))), (0, .ref h0), (1, .int (nI t))]) hx hb dX0_play_67 hl (by decide) rfl (fun ls hl => ?_)
    refine lv_iload hx hb dX0_play_69 (lv_at hl 0 rfl) ?_
    refine lv_iconst (v := (nI 3)) hx hb dX0_play_71 (by decide) ?_
    refine lv_icmp_ge (tgt := 123) hx hb dX0_play_72 (by decide) (fun c4 => ?_) (fun c4 => ?_)
    · skip
      have c4 := c4
      exact absurd c4 (by decide)
    · skip
      have c4 := c4
      refine lv_aload_n hx hb dX0_play_75 rfl (lv_at hl 5 rfl) ?_
      refine va_get (D := (dC, dI)) (ci := 0) (v := .ref a1) (C := RX0) (T := TX0) (N := 13) hx hb hts (by decide +kernel) hown hK hP 0 rfl rfl 1 (by decide) (hts (.fieldLink RX0 22 "MotionDesk" "values" "[I") (by decide +kernel)) (fun _ h9 => h9) rfl dX0_play_76 ?_
      refine lv_iload hx hb dX0_play_79 (lv_at hl 2 rfl) ?_
      refine lv_iload hx hb dX0_play_81 (lv_at hl 0 rfl) ?_
      refine lv_iadd hx hb dX0_play_83 ?_
      refine tp_i (y := nI ((n * 3 + v) * 3 + 0)) (nI_add _ _) ?_
      refine lv_iload hx hb dX0_play_84 (lv_at hl 1 rfl) ?_
      refine lv_if_eq (tgt := 103) hx hb dX0_play_86 (by decide) (fun c5 => ?_) (fun c5 => ?_)
      · skip
        have c5 := c5
        exact absurd c5 (by decide)
      · skip
        have c5 := c5
        refine lv_aload_n hx hb dX0_play_89 rfl (lv_at hl 5 rfl) ?_
        refine va_get (D := (dC, dI)) (ci := 0) (v := .ref a7) (C := RX0) (T := TX0) (N := 13) hx hb hts (by decide +kernel) hown hK hP 0 rfl rfl 8 (by decide) (hts (.fieldLink RX0 45 "MotionDesk" "keyNumbers" "[I") (by decide +kernel)) (fun _ h9 => h9) rfl dX0_play_90 ?_
        refine lv_iload_n hx hb dX0_play_93 rfl (lv_at hl 3 rfl) ?_
        refine lv_iconst (v := (nI 3)) hx hb dX0_play_94 (by decide) ?_
        refine lv_imul hx hb dX0_play_95 ?_
        refine tp_i (y := nI (kk * 3)) (pk_mul kk 3) ?_
        refine lv_iload hx hb dX0_play_96 (lv_at hl 0 rfl) ?_
        refine lv_iadd hx hb dX0_play_98 ?_
        refine tp_i (y := nI (kk * 3 + 0)) (nI_add _ _) ?_
        refine va_iald hx hb hK hP 7 0 rfl rfl (vp_in_nI (by omega) (by omega)) dX0_play_99 ?_
        refine tp_i (y := (kn (kk * 3 + 0))) (by rw [nI_clamp (by omega)]) ?_
        refine lv_goto (tgt := 116) hx hb dX0_play_100 (by decide) ?_
        refine va_iast hx hb hK hP hD hS 1 0 rfl rfl (vp_in_nI (by omega) (by omega)) dX0_play_116 (fun H locs hP hD hS => ?_)
        rw [nI_clamp (show (n * 3 + v) * 3 + 0 < 2 ^ 31 by omega)] at hP hD
        replace hP : va_P (dC, dI) vwCl (wX cA h0 a1 a2 a3 a4 a5 a6 a7 a8 a9 N T X nw (upd fv ((n * 3 + v) * 3 + 0) (kn (kk * 3 + 0))) tn tw th tk kt kn xt xn) H := hP
        replace hD : va_D A (wX cA h0 a1 a2 a3 a4 a5 a6 a7 a8 a9 N T X nw (upd fv ((n * 3 + v) * 3 + 0) (kn (kk * 3 + 0))) tn tw th tk kt kn xt xn) := hD
        refine lv_iinc (v := nI 1) (lv' := [(6, .int (nI 1)), (5, .int (nI 1)), (4, .int (nI ((n * 3 + v) * 3))), (3, .int (nI kk)), (2, .int (nI (t * 32 + K - 1))), (0, .ref h0), (1, .int (nI t))]) hx hb dX0_play_117 hl (k := 0) rfl (by decide) (by decide) rfl (fun ls hl => ?_)
        refine lv_goto (tgt := 69) hx hb dX0_play_120 (by decide) ?_
        refine lv_iload hx hb dX0_play_69 (lv_at hl 0 rfl) ?_
        refine lv_iconst (v := (nI 3)) hx hb dX0_play_71 (by decide) ?_
        refine lv_icmp_ge (tgt := 123) hx hb dX0_play_72 (by decide) (fun c6 => ?_) (fun c6 => ?_)
        · skip
          have c6 := c6
          exact absurd c6 (by decide)
        · skip
          have c6 := c6
          refine lv_aload_n hx hb dX0_play_75 rfl (lv_at hl 5 rfl) ?_
          refine va_get (D := (dC, dI)) (ci := 0) (v := .ref a1) (C := RX0) (T := TX0) (N := 13) hx hb hts (by decide +kernel) hown hK hP 0 rfl rfl 1 (by decide) (hts (.fieldLink RX0 22 "MotionDesk" "values" "[I") (by decide +kernel)) (fun _ h9 => h9) rfl dX0_play_76 ?_
          refine lv_iload hx hb dX0_play_79 (lv_at hl 2 rfl) ?_
          refine lv_iload hx hb dX0_play_81 (lv_at hl 0 rfl) ?_
          refine lv_iadd hx hb dX0_play_83 ?_
          refine tp_i (y := nI ((n * 3 + v) * 3 + 1)) (nI_add _ _) ?_
          refine lv_iload hx hb dX0_play_84 (lv_at hl 1 rfl) ?_
          refine lv_if_eq (tgt := 103) hx hb dX0_play_86 (by decide) (fun c7 => ?_) (fun c7 => ?_)
          · skip
            have c7 := c7
            exact absurd c7 (by decide)
          · skip
            have c7 := c7
            refine lv_aload_n hx hb dX0_play_89 rfl (lv_at hl 5 rfl) ?_
            refine va_get (D := (dC, dI)) (ci := 0) (v := .ref a7) (C := RX0) (T := TX0) (N := 13) hx hb hts (by decide +kernel) hown hK hP 0 rfl rfl 8 (by decide) (hts (.fieldLink RX0 45 "MotionDesk" "keyNumbers" "[I") (by decide +kernel)) (fun _ h9 => h9) rfl dX0_play_90 ?_
            refine lv_iload_n hx hb dX0_play_93 rfl (lv_at hl 3 rfl) ?_
            refine lv_iconst (v := (nI 3)) hx hb dX0_play_94 (by decide) ?_
            refine lv_imul hx hb dX0_play_95 ?_
            refine tp_i (y := nI (kk * 3)) (pk_mul kk 3) ?_
            refine lv_iload hx hb dX0_play_96 (lv_at hl 0 rfl) ?_
            refine lv_iadd hx hb dX0_play_98 ?_
            refine tp_i (y := nI (kk * 3 + 1)) (nI_add _ _) ?_
            refine va_iald hx hb hK hP 7 0 rfl rfl (vp_in_nI (by omega) (by omega)) dX0_play_99 ?_
            refine tp_i (y := (kn (kk * 3 + 1))) (by rw [nI_clamp (by omega)]) ?_
            refine lv_goto (tgt := 116) hx hb dX0_play_100 (by decide) ?_
            refine va_iast hx hb hK hP hD hS 1 0 rfl rfl (vp_in_nI (by omega) (by omega)) dX0_play_116 (fun H locs hP hD hS => ?_)
            rw [nI_clamp (show (n * 3 + v) * 3 + 1 < 2 ^ 31 by omega)] at hP hD
            replace hP : va_P (dC, dI) vwCl (wX cA h0 a1 a2 a3 a4 a5 a6 a7 a8 a9 N T X nw (upd (upd fv ((n * 3 + v) * 3 + 0) (kn (kk * 3 + 0))) ((n * 3 + v) * 3 + 1) (kn (kk * 3 + 1))) tn tw th tk kt kn xt xn) H := hP
            replace hD : va_D A (wX cA h0 a1 a2 a3 a4 a5 a6 a7 a8 a9 N T X nw (upd (upd fv ((n * 3 + v) * 3 + 0) (kn (kk * 3 + 0))) ((n * 3 + v) * 3 + 1) (kn (kk * 3 + 1))) tn tw th tk kt kn xt xn) := hD
            refine lv_iinc (v := nI 2) (lv' := [(6, .int (nI 2)), (5, .int (nI 1)), (4, .int (nI ((n * 3 + v) * 3))), (3, .int (nI kk)), (2, .int (nI (t * 32 + K - 1))), (0, .ref h0), (1, .int (nI t))]) hx hb dX0_play_117 hl (k := 0) rfl (by decide) (by decide) rfl (fun ls hl => ?_)
            refine lv_goto (tgt := 69) hx hb dX0_play_120 (by decide) ?_
            refine lv_iload hx hb dX0_play_69 (lv_at hl 0 rfl) ?_
            refine lv_iconst (v := (nI 3)) hx hb dX0_play_71 (by decide) ?_
            refine lv_icmp_ge (tgt := 123) hx hb dX0_play_72 (by decide) (fun c8 => ?_) (fun c8 => ?_)
            · skip
              have c8 := c8
              exact absurd c8 (by decide)
            · skip
              have c8 := c8
              refine lv_aload_n hx hb dX0_play_75 rfl (lv_at hl 5 rfl) ?_
              refine va_get (D := (dC, dI)) (ci := 0) (v := .ref a1) (C := RX0) (T := TX0) (N := 13) hx hb hts (by decide +kernel) hown hK hP 0 rfl rfl 1 (by decide) (hts (.fieldLink RX0 22 "MotionDesk" "values" "[I") (by decide +kernel)) (fun _ h9 => h9) rfl dX0_play_76 ?_
              refine lv_iload hx hb dX0_play_79 (lv_at hl 2 rfl) ?_
              refine lv_iload hx hb dX0_play_81 (lv_at hl 0 rfl) ?_
              refine lv_iadd hx hb dX0_play_83 ?_
              refine tp_i (y := nI ((n * 3 + v) * 3 + 2)) (nI_add _ _) ?_
              refine lv_iload hx hb dX0_play_84 (lv_at hl 1 rfl) ?_
              refine lv_if_eq (tgt := 103) hx hb dX0_play_86 (by decide) (fun c9 => ?_) (fun c9 => ?_)
              · skip
                have c9 := c9
                exact absurd c9 (by decide)
              · skip
                have c9 := c9
                refine lv_aload_n hx hb dX0_play_89 rfl (lv_at hl 5 rfl) ?_
                refine va_get (D := (dC, dI)) (ci := 0) (v := .ref a7) (C := RX0) (T := TX0) (N := 13) hx hb hts (by decide +kernel) hown hK hP 0 rfl rfl 8 (by decide) (hts (.fieldLink RX0 45 "MotionDesk" "keyNumbers" "[I") (by decide +kernel)) (fun _ h9 => h9) rfl dX0_play_90 ?_
                refine lv_iload_n hx hb dX0_play_93 rfl (lv_at hl 3 rfl) ?_
                refine lv_iconst (v := (nI 3)) hx hb dX0_play_94 (by decide) ?_
                refine lv_imul hx hb dX0_play_95 ?_
                refine tp_i (y := nI (kk * 3)) (pk_mul kk 3) ?_
                refine lv_iload hx hb dX0_play_96 (lv_at hl 0 rfl) ?_
                refine lv_iadd hx hb dX0_play_98 ?_
                refine tp_i (y := nI (kk * 3 + 2)) (nI_add _ _) ?_
                refine va_iald hx hb hK hP 7 0 rfl rfl (vp_in_nI (by omega) (by omega)) dX0_play_99 ?_
                refine tp_i (y := (kn (kk * 3 + 2))) (by rw [nI_clamp (by omega)]) ?_
                refine lv_goto (tgt := 116) hx hb dX0_play_100 (by decide) ?_
                refine va_iast hx hb hK hP hD hS 1 0 rfl rfl (vp_in_nI (by omega) (by omega)) dX0_play_116 (fun H locs hP hD hS => ?_)
                rw [nI_clamp (show (n * 3 + v) * 3 + 2 < 2 ^ 31 by omega)] at hP hD
                replace hP : va_P (dC, dI) vwCl (wX cA h0 a1 a2 a3 a4 a5 a6 a7 a8 a9 N T X nw (upd (upd (upd fv ((n * 3 + v) * 3 + 0) (kn (kk * 3 + 0))) ((n * 3 + v) * 3 + 1) (kn (kk * 3 + 1))) ((n * 3 + v) * 3 + 2) (kn (kk * 3 + 2))) tn tw th tk kt kn xt xn) H := hP
                replace hD : va_D A (wX cA h0 a1 a2 a3 a4 a5 a6 a7 a8 a9 N T X nw (upd (upd (upd fv ((n * 3 + v) * 3 + 0) (kn (kk * 3 + 0))) ((n * 3 + v) * 3 + 1) (kn (kk * 3 + 1))) ((n * 3 + v) * 3 + 2) (kn (kk * 3 + 2))) tn tw th tk kt kn xt xn) := hD
                refine lv_iinc (v := nI 3) (lv' := [(6, .int (nI 3)), (5, .int (nI 1)), (4, .int (nI ((n * 3 + v) * 3))), (3, .int (nI kk)), (2, .int (nI (t * 32 + K - 1))), (0, .ref h0), (1, .int (nI t))]) hx hb dX0_play_117 hl (k := 0) rfl (by decide) (by decide) rfl (fun ls hl => ?_)
                refine lv_goto (tgt := 69) hx hb dX0_play_120 (by decide) ?_
                refine lv_iload hx hb dX0_play_69 (lv_at hl 0 rfl) ?_
                refine lv_iconst (v := (nI 3)) hx hb dX0_play_71 (by decide) ?_
                refine lv_icmp_ge (tgt := 123) hx hb dX0_play_72 (by decide) (fun c10 => ?_) (fun c10 => ?_)
                · skip
                  have c10 := c10
                  exact W.vret hx hb hr (fun t9 ht9 hW9 => ⟨⟨(upd (upd (upd fv ((n * 3 + v) * 3 + 0) (kn (kk * 3 + 0))) ((n * 3 + v) * 3 + 1) (kn (kk * 3 + 1))) ((n * 3 + v) * 3 + 2) (kn (kk * 3 + 2))), rfl, by unfold pl1 put3; simp only [q1, q2, hv, Nat.add_zero], by rw [ht9]; exact hP, va_K.moved hW9.alike hK, hD⟩, hS.F ht9⟩) hS.2.2 dX0_play_123
                · skip
                  have c10 := c10
                  exact absurd c10 (by decide)
  · skip
    have c3 := zne c3
    refine lv_aload_n hx hb dX0_play_46 rfl (lv_at hl 3 rfl) ?_
    refine va_get (D := (dC, dI)) (ci := 0) (v := .int nw) (C := RX0) (T := TX0) (N := 13) hx hb hts (by decide +kernel) hown hK hP 0 rfl rfl 12 (by decide) (hts (.fieldLink RX0 91 "MotionDesk" "now" "I") (by decide +kernel)) (fun _ h9 => h9) rfl dX0_play_47 ?_
    refine lv_aload_n hx hb dX0_play_50 rfl (lv_at hl 3 rfl) ?_
    refine va_get (D := (dC, dI)) (ci := 0) (v := .ref a6) (C := RX0) (T := TX0) (N := 13) hx hb hts (by decide +kernel) hown hK hP 0 rfl rfl 7 (by decide) (hts (.fieldLink RX0 42 "MotionDesk" "keyTimes" "[I") (by decide +kernel)) (fun _ h9 => h9) rfl dX0_play_51 ?_
    refine lv_iload_n hx hb dX0_play_54 rfl (lv_at hl 1 rfl) ?_
    refine va_iald hx hb hK hP 6 0 rfl rfl (vp_in_nI (by omega) (by omega)) dX0_play_55 ?_
    refine tp_i (y := (kt kk)) (by rw [nI_clamp (by omega)]) ?_
    refine lv_icmp_ge (tgt := 63) hx hb dX0_play_56 (by decide) (fun c11 => ?_) (fun c11 => ?_)
    · skip
      have c11 := zle c11
      refine lv_iconst (v := (nI 0)) hx hb dX0_play_63 (by decide) ?_
      refine lv_istore (lv' := [(5, .int (nI 0)), (4, .int (nI ((n * 3 + v) * 3))), (3, .int (nI kk)), (2, .int (nI (t * 32 + K - 1))), (0, .ref h0), (1, .int (nI t))]) hx hb dX0_play_64 hl (by decide) rfl (fun ls hl => ?_)
      have hb2 : kk + 1 < 1024 := by omega
      have hv : ∀ j, plv kt kn nw (th t) (t * 32) K j = btw kt kn nw (th t) kk j := fun j => by unfold plv; rw [← hkk, if_neg (by omega)]
      refine lv_iconst (v := (nI 0)) hx hb dX0_play_66 (by decide) ?_
      refine lv_istore (lv' := [(6, .int (nI 0)), (5, .int (nI 0)), (4, .int (nI ((n * 3 + v) * 3))), (3, .int (nI kk)), (2, .int (nI (t * 32 + K - 1))), (0, .ref h0), (1, .int (nI t))]) hx hb dX0_play_67 hl (by decide) rfl (fun ls hl => ?_)
      refine lv_iload hx hb dX0_play_69 (lv_at hl 0 rfl) ?_
      refine lv_iconst (v := (nI 3)) hx hb dX0_play_71 (by decide) ?_
      refine lv_icmp_ge (tgt := 123) hx hb dX0_play_72 (by decide) (fun c12 => ?_) (fun c12 => ?_)
      · skip
        have c12 := c12
        exact absurd c12 (by decide)
      · skip
        have c12 := c12
        refine lv_aload_n hx hb dX0_play_75 rfl (lv_at hl 5 rfl) ?_
        refine va_get (D := (dC, dI)) (ci := 0) (v := .ref a1) (C := RX0) (T := TX0) (N := 13) hx hb hts (by decide +kernel) hown hK hP 0 rfl rfl 1 (by decide) (hts (.fieldLink RX0 22 "MotionDesk" "values" "[I") (by decide +kernel)) (fun _ h9 => h9) rfl dX0_play_76 ?_
        refine lv_iload hx hb dX0_play_79 (lv_at hl 2 rfl) ?_
        refine lv_iload hx hb dX0_play_81 (lv_at hl 0 rfl) ?_
        refine lv_iadd hx hb dX0_play_83 ?_
        refine tp_i (y := nI ((n * 3 + v) * 3 + 0)) (nI_add _ _) ?_
        refine lv_iload hx hb dX0_play_84 (lv_at hl 1 rfl) ?_
        refine lv_if_eq (tgt := 103) hx hb dX0_play_86 (by decide) (fun c13 => ?_) (fun c13 => ?_)
        · skip
          have c13 := c13
          refine lv_aload_n hx hb dX0_play_103 rfl (lv_at hl 5 rfl) ?_
          refine lv_aload_n hx hb dX0_play_104 rfl (lv_at hl 5 rfl) ?_
          refine va_get (D := (dC, dI)) (ci := 0) (v := .ref a4) (C := RX0) (T := TX0) (N := 13) hx hb hts (by decide +kernel) hown hK hP 0 rfl rfl 5 (by decide) (hts (.fieldLink RX0 36 "MotionDesk" "trackHow" "[I") (by decide +kernel)) (fun _ h9 => h9) rfl dX0_play_105 ?_
          refine lv_iload_n hx hb dX0_play_108 rfl (lv_at hl 6 rfl) ?_
          refine va_iald hx hb hK hP 4 0 rfl rfl (vp_in_nI (by omega) (by omega)) dX0_play_109 ?_
          refine tp_i (y := (th t)) (by rw [nI_clamp (by omega)]) ?_
          refine lv_iload_n hx hb dX0_play_110 rfl (lv_at hl 3 rfl) ?_
          refine lv_iload hx hb dX0_play_111 (lv_at hl 0 rfl) ?_
          refine vp_callSi (W.runV (C := RX0) (As := [.int (th t), .int (nI kk), .int (nI 0)]) (rest := [.int (nI ((n * 3 + v) * 3 + 0)), .ref a1]) ⟨hx, hb, hml, hown, hts⟩ (cx_btw l dC dI cA h0 a1 a2 a3 a4 a5 a6 a7 a8 a9 N T X nw fv tn tw th tk kt kn xt xn (th t) kk 0 hb2 (by decide)) (cwV 3 hts gX0_play_X0_between rfl rfl rfl (by decide +kernel) ⟨Nat.le_of_ble_eq_true rfl, Nat.le_of_ble_eq_true rfl⟩) ⟨fun a U g mk q => ⟨q.1, q.2.1, va_K.moved (u := U) (U := U.calling g mk a) (Vm.Alike.refl U.vm) q.2.2⟩, va_recv hK hP (ci := 0) (q0 := 0) rfl rfl, fun U hU hW => ⟨rfl, by rw [hU]; exact hP, va_K.moved hW.alike hK⟩⟩ rfl rfl hl.1 rfl (lv_room (Nat.le_of_ble_eq_true rfl)) dX0_play_113 ⟨Nat.le_of_ble_eq_true rfl, Nat.le_of_ble_eq_true rfl⟩) (fun r14 h_r14 => ?_)
          refine tp_i (y := btw kt kn nw (th t) kk 0) (h_r14) ?_
          refine va_iast hx hb hK hP hD hS 1 0 rfl rfl (vp_in_nI (by omega) (by omega)) dX0_play_116 (fun H locs hP hD hS => ?_)
          rw [nI_clamp (show (n * 3 + v) * 3 + 0 < 2 ^ 31 by omega)] at hP hD
          replace hP : va_P (dC, dI) vwCl (wX cA h0 a1 a2 a3 a4 a5 a6 a7 a8 a9 N T X nw (upd fv ((n * 3 + v) * 3 + 0) (btw kt kn nw (th t) kk 0)) tn tw th tk kt kn xt xn) H := hP
          replace hD : va_D A (wX cA h0 a1 a2 a3 a4 a5 a6 a7 a8 a9 N T X nw (upd fv ((n * 3 + v) * 3 + 0) (btw kt kn nw (th t) kk 0)) tn tw th tk kt kn xt xn) := hD
          refine lv_iinc (v := nI 1) (lv' := [(6, .int (nI 1)), (5, .int (nI 0)), (4, .int (nI ((n * 3 + v) * 3))), (3, .int (nI kk)), (2, .int (nI (t * 32 + K - 1))), (0, .ref h0), (1, .int (nI t))]) hx hb dX0_play_117 hl (k := 0) rfl (by decide) (by decide) rfl (fun ls hl => ?_)
          refine lv_goto (tgt := 69) hx hb dX0_play_120 (by decide) ?_
          refine lv_iload hx hb dX0_play_69 (lv_at hl 0 rfl) ?_
          refine lv_iconst (v := (nI 3)) hx hb dX0_play_71 (by decide) ?_
          refine lv_icmp_ge (tgt := 123) hx hb dX0_play_72 (by decide) (fun c15 => ?_) (fun c15 => ?_)
          · skip
            have c15 := c15
            exact absurd c15 (by decide)
          · skip
            have c15 := c15
            refine lv_aload_n hx hb dX0_play_75 rfl (lv_at hl 5 rfl) ?_
            refine va_get (D := (dC, dI)) (ci := 0) (v := .ref a1) (C := RX0) (T := TX0) (N := 13) hx hb hts (by decide +kernel) hown hK hP 0 rfl rfl 1 (by decide) (hts (.fieldLink RX0 22 "MotionDesk" "values" "[I") (by decide +kernel)) (fun _ h9 => h9) rfl dX0_play_76 ?_
            refine lv_iload hx hb dX0_play_79 (lv_at hl 2 rfl) ?_
            refine lv_iload hx hb dX0_play_81 (lv_at hl 0 rfl) ?_
            refine lv_iadd hx hb dX0_play_83 ?_
            refine tp_i (y := nI ((n * 3 + v) * 3 + 1)) (nI_add _ _) ?_
            refine lv_iload hx hb dX0_play_84 (lv_at hl 1 rfl) ?_
            refine lv_if_eq (tgt := 103) hx hb dX0_play_86 (by decide) (fun c16 => ?_) (fun c16 => ?_)
            · skip
              have c16 := c16
              refine lv_aload_n hx hb dX0_play_103 rfl (lv_at hl 5 rfl) ?_
              refine lv_aload_n hx hb dX0_play_104 rfl (lv_at hl 5 rfl) ?_
              refine va_get (D := (dC, dI)) (ci := 0) (v := .ref a4) (C := RX0) (T := TX0) (N := 13) hx hb hts (by decide +kernel) hown hK hP 0 rfl rfl 5 (by decide) (hts (.fieldLink RX0 36 "MotionDesk" "trackHow" "[I") (by decide +kernel)) (fun _ h9 => h9) rfl dX0_play_105 ?_
              refine lv_iload_n hx hb dX0_play_108 rfl (lv_at hl 6 rfl) ?_
              refine va_iald hx hb hK hP 4 0 rfl rfl (vp_in_nI (by omega) (by omega)) dX0_play_109 ?_
              refine tp_i (y := (th t)) (by rw [nI_clamp (by omega)]) ?_
              refine lv_iload_n hx hb dX0_play_110 rfl (lv_at hl 3 rfl) ?_
              refine lv_iload hx hb dX0_play_111 (lv_at hl 0 rfl) ?_
              refine vp_callSi (W.runV (C := RX0) (As := [.int (th t), .int (nI kk), .int (nI 1)]) (rest := [.int (nI ((n * 3 + v) * 3 + 1)), .ref a1]) ⟨hx, hb, hml, hown, hts⟩ (cx_btw l dC dI cA h0 a1 a2 a3 a4 a5 a6 a7 a8 a9 N T X nw (upd fv ((n * 3 + v) * 3 + 0) (btw kt kn nw (th t) kk 0)) tn tw th tk kt kn xt xn (th t) kk 1 hb2 (by decide)) (cwV 3 hts gX0_play_X0_between rfl rfl rfl (by decide +kernel) ⟨Nat.le_of_ble_eq_true rfl, Nat.le_of_ble_eq_true rfl⟩) ⟨fun a U g mk q => ⟨q.1, q.2.1, va_K.moved (u := U) (U := U.calling g mk a) (Vm.Alike.refl U.vm) q.2.2⟩, va_recv hK hP (ci := 0) (q0 := 0) rfl rfl, fun U hU hW => ⟨rfl, by rw [hU]; exact hP, va_K.moved hW.alike hK⟩⟩ rfl rfl hl.1 rfl (lv_room (Nat.le_of_ble_eq_true rfl)) dX0_play_113 ⟨Nat.le_of_ble_eq_true rfl, Nat.le_of_ble_eq_true rfl⟩) (fun r17 h_r17 => ?_)
              refine tp_i (y := btw kt kn nw (th t) kk 1) (h_r17) ?_
              refine va_iast hx hb hK hP hD hS 1 0 rfl rfl (vp_in_nI (by omega) (by omega)) dX0_play_116 (fun H locs hP hD hS => ?_)
              rw [nI_clamp (show (n * 3 + v) * 3 + 1 < 2 ^ 31 by omega)] at hP hD
              replace hP : va_P (dC, dI) vwCl (wX cA h0 a1 a2 a3 a4 a5 a6 a7 a8 a9 N T X nw (upd (upd fv ((n * 3 + v) * 3 + 0) (btw kt kn nw (th t) kk 0)) ((n * 3 + v) * 3 + 1) (btw kt kn nw (th t) kk 1)) tn tw th tk kt kn xt xn) H := hP
              replace hD : va_D A (wX cA h0 a1 a2 a3 a4 a5 a6 a7 a8 a9 N T X nw (upd (upd fv ((n * 3 + v) * 3 + 0) (btw kt kn nw (th t) kk 0)) ((n * 3 + v) * 3 + 1) (btw kt kn nw (th t) kk 1)) tn tw th tk kt kn xt xn) := hD
              refine lv_iinc (v := nI 2) (lv' := [(6, .int (nI 2)), (5, .int (nI 0)), (4, .int (nI ((n * 3 + v) * 3))), (3, .int (nI kk)), (2, .int (nI (t * 32 + K - 1))), (0, .ref h0), (1, .int (nI t))]) hx hb dX0_play_117 hl (k := 0) rfl (by decide) (by decide) rfl (fun ls hl => ?_)
              refine lv_goto (tgt := 69) hx hb dX0_play_120 (by decide) ?_
              refine lv_iload hx hb dX0_play_69 (lv_at hl 0 rfl) ?_
              refine lv_iconst (v := (nI 3)) hx hb dX0_play_71 (by decide) ?_
              refine lv_icmp_ge (tgt := 123) hx hb dX0_play_72 (by decide) (fun c18 => ?_) (fun c18 => ?_)
              · skip
                have c18 := c18
                exact absurd c18 (by decide)
              · skip
                have c18 := c18
                refine lv_aload_n hx hb dX0_play_75 rfl (lv_at hl 5 rfl) ?_
                refine va_get (D := (dC, dI)) (ci := 0) (v := .ref a1) (C := RX0) (T := TX0) (N := 13) hx hb hts (by decide +kernel) hown hK hP 0 rfl rfl 1 (by decide) (hts (.fieldLink RX0 22 "MotionDesk" "values" "[I") (by decide +kernel)) (fun _ h9 => h9) rfl dX0_play_76 ?_
                refine lv_iload hx hb dX0_play_79 (lv_at hl 2 rfl) ?_
                refine lv_iload hx hb dX0_play_81 (lv_at hl 0 rfl) ?_
                refine lv_iadd hx hb dX0_play_83 ?_
                refine tp_i (y := nI ((n * 3 + v) * 3 + 2)) (nI_add _ _) ?_
                refine lv_iload hx hb dX0_play_84 (lv_at hl 1 rfl) ?_
                refine lv_if_eq (tgt := 103) hx hb dX0_play_86 (by decide) (fun c19 => ?_) (fun c19 => ?_)
                · skip
                  have c19 := c19
                  refine lv_aload_n hx hb dX0_play_103 rfl (lv_at hl 5 rfl) ?_
                  refine lv_aload_n hx hb dX0_play_104 rfl (lv_at hl 5 rfl) ?_
                  refine va_get (D := (dC, dI)) (ci := 0) (v := .ref a4) (C := RX0) (T := TX0) (N := 13) hx hb hts (by decide +kernel) hown hK hP 0 rfl rfl 5 (by decide) (hts (.fieldLink RX0 36 "MotionDesk" "trackHow" "[I") (by decide +kernel)) (fun _ h9 => h9) rfl dX0_play_105 ?_
                  refine lv_iload_n hx hb dX0_play_108 rfl (lv_at hl 6 rfl) ?_
                  refine va_iald hx hb hK hP 4 0 rfl rfl (vp_in_nI (by omega) (by omega)) dX0_play_109 ?_
                  refine tp_i (y := (th t)) (by rw [nI_clamp (by omega)]) ?_
                  refine lv_iload_n hx hb dX0_play_110 rfl (lv_at hl 3 rfl) ?_
                  refine lv_iload hx hb dX0_play_111 (lv_at hl 0 rfl) ?_
                  refine vp_callSi (W.runV (C := RX0) (As := [.int (th t), .int (nI kk), .int (nI 2)]) (rest := [.int (nI ((n * 3 + v) * 3 + 2)), .ref a1]) ⟨hx, hb, hml, hown, hts⟩ (cx_btw l dC dI cA h0 a1 a2 a3 a4 a5 a6 a7 a8 a9 N T X nw (upd (upd fv ((n * 3 + v) * 3 + 0) (btw kt kn nw (th t) kk 0)) ((n * 3 + v) * 3 + 1) (btw kt kn nw (th t) kk 1)) tn tw th tk kt kn xt xn (th t) kk 2 hb2 (by decide)) (cwV 3 hts gX0_play_X0_between rfl rfl rfl (by decide +kernel) ⟨Nat.le_of_ble_eq_true rfl, Nat.le_of_ble_eq_true rfl⟩) ⟨fun a U g mk q => ⟨q.1, q.2.1, va_K.moved (u := U) (U := U.calling g mk a) (Vm.Alike.refl U.vm) q.2.2⟩, va_recv hK hP (ci := 0) (q0 := 0) rfl rfl, fun U hU hW => ⟨rfl, by rw [hU]; exact hP, va_K.moved hW.alike hK⟩⟩ rfl rfl hl.1 rfl (lv_room (Nat.le_of_ble_eq_true rfl)) dX0_play_113 ⟨Nat.le_of_ble_eq_true rfl, Nat.le_of_ble_eq_true rfl⟩) (fun r20 h_r20 => ?_)
                  refine tp_i (y := btw kt kn nw (th t) kk 2) (h_r20) ?_
                  refine va_iast hx hb hK hP hD hS 1 0 rfl rfl (vp_in_nI (by omega) (by omega)) dX0_play_116 (fun H locs hP hD hS => ?_)
                  rw [nI_clamp (show (n * 3 + v) * 3 + 2 < 2 ^ 31 by omega)] at hP hD
                  replace hP : va_P (dC, dI) vwCl (wX cA h0 a1 a2 a3 a4 a5 a6 a7 a8 a9 N T X nw (upd (upd (upd fv ((n * 3 + v) * 3 + 0) (btw kt kn nw (th t) kk 0)) ((n * 3 + v) * 3 + 1) (btw kt kn nw (th t) kk 1)) ((n * 3 + v) * 3 + 2) (btw kt kn nw (th t) kk 2)) tn tw th tk kt kn xt xn) H := hP
                  replace hD : va_D A (wX cA h0 a1 a2 a3 a4 a5 a6 a7 a8 a9 N T X nw (upd (upd (upd fv ((n * 3 + v) * 3 + 0) (btw kt kn nw (th t) kk 0)) ((n * 3 + v) * 3 + 1) (btw kt kn nw (th t) kk 1)) ((n * 3 + v) * 3 + 2) (btw kt kn nw (th t) kk 2)) tn tw th tk kt kn xt xn) := hD
                  refine lv_iinc (v := nI 3) (lv' := [(6, .int (nI 3)), (5, .int (nI 0)), (4, .int (nI ((n * 3 + v) * 3))), (3, .int (nI kk)), (2, .int (nI (t * 32 + K - 1))), (0, .ref h0), (1, .int (nI t))]) hx hb dX0_play_117 hl (k := 0) rfl (by decide) (by decide) rfl (fun ls hl => ?_)
                  refine lv_goto (tgt := 69) hx hb dX0_play_120 (by decide) ?_
                  refine lv_iload hx hb dX0_play_69 (lv_at hl 0 rfl) ?_
                  refine lv_iconst (v := (nI 3)) hx hb dX0_play_71 (by decide) ?_
                  refine lv_icmp_ge (tgt := 123) hx hb dX0_play_72 (by decide) (fun c21 => ?_) (fun c21 => ?_)
                  · skip
                    have c21 := c21
                    exact W.vret hx hb hr (fun t9 ht9 hW9 => ⟨⟨(upd (upd (upd fv ((n * 3 + v) * 3 + 0) (btw kt kn nw (th t) kk 0)) ((n * 3 + v) * 3 + 1) (btw kt kn nw (th t) kk 1)) ((n * 3 + v) * 3 + 2) (btw kt kn nw (th t) kk 2)), rfl, by unfold pl1 put3; simp only [q1, q2, hv, Nat.add_zero], by rw [ht9]; exact hP, va_K.moved hW9.alike hK, hD⟩, hS.F ht9⟩) hS.2.2 dX0_play_123
                  · skip
                    have c21 := c21
                    exact absurd c21 (by decide)
                · skip
                  have c19 := c19
                  exact absurd c19 (by decide)
            · skip
              have c16 := c16
              exact absurd c16 (by decide)
        · skip
          have c13 := c13
          exact absurd c13 (by decide)
    · skip
      have c11 := znle c11
      refine lv_iconst (v := (nI 1)) hx hb dX0_play_59 (by decide) ?_
      refine lv_goto (tgt := 64) hx hb dX0_play_60 (by decide) ?_
      refine lv_istore (lv' := [(5, .int (nI 1)), (4, .int (nI ((n * 3 + v) * 3))), (3, .int (nI kk)), (2, .int (nI (t * 32 + K - 1))), (0, .ref h0), (1, .int (nI t))]) hx hb dX0_play_64 hl (by decide) rfl (fun ls hl => ?_)
      have hv : ∀ j, plv kt kn nw (th t) (t * 32) K j = kn (kk * 3 + j) := fun j => by unfold plv; rw [← hkk, if_pos (Or.inr c11)]
      refine lv_iconst (v := (nI 0)) hx hb dX0_play_66 (by decide) ?_
      refine lv_istore (lv' := [(6, .int (nI 0)), (5, .int (nI 1)), (4, .int (nI ((n * 3 + v) * 3))), (3, .int (nI kk)), (2, .int (nI (t * 32 + K - 1))), (0, .ref h0), (1, .int (nI t))]) hx hb dX0_play_67 hl (by decide) rfl (fun ls hl => ?_)
      refine lv_iload hx hb dX0_play_69 (lv_at hl 0 rfl) ?_
      refine lv_iconst (v := (nI 3)) hx hb dX0_play_71 (by decide) ?_
      refine lv_icmp_ge (tgt := 123) hx hb dX0_play_72 (by decide) (fun c22 => ?_) (fun c22 => ?_)
      · skip
        have c22 := c22
        exact absurd c22 (by decide)
      · skip
        have c22 := c22
        refine lv_aload_n hx hb dX0_play_75 rfl (lv_at hl 5 rfl) ?_
        refine va_get (D := (dC, dI)) (ci := 0) (v := .ref a1) (C := RX0) (T := TX0) (N := 13) hx hb hts (by decide +kernel) hown hK hP 0 rfl rfl 1 (by decide) (hts (.fieldLink RX0 22 "MotionDesk" "values" "[I") (by decide +kernel)) (fun _ h9 => h9) rfl dX0_play_76 ?_
        refine lv_iload hx hb dX0_play_79 (lv_at hl 2 rfl) ?_
        refine lv_iload hx hb dX0_play_81 (lv_at hl 0 rfl) ?_
        refine lv_iadd hx hb dX0_play_83 ?_
        refine tp_i (y := nI ((n * 3 + v) * 3 + 0)) (nI_add _ _) ?_
        refine lv_iload hx hb dX0_play_84 (lv_at hl 1 rfl) ?_
        refine lv_if_eq (tgt := 103) hx hb dX0_play_86 (by decide) (fun c23 => ?_) (fun c23 => ?_)
        · skip
          have c23 := c23
          exact absurd c23 (by decide)
        · skip
          have c23 := c23
          refine lv_aload_n hx hb dX0_play_89 rfl (lv_at hl 5 rfl) ?_
          refine va_get (D := (dC, dI)) (ci := 0) (v := .ref a7) (C := RX0) (T := TX0) (N := 13) hx hb hts (by decide +kernel) hown hK hP 0 rfl rfl 8 (by decide) (hts (.fieldLink RX0 45 "MotionDesk" "keyNumbers" "[I") (by decide +kernel)) (fun _ h9 => h9) rfl dX0_play_90 ?_
          refine lv_iload_n hx hb dX0_play_93 rfl (lv_at hl 3 rfl) ?_
          refine lv_iconst (v := (nI 3)) hx hb dX0_play_94 (by decide) ?_
          refine lv_imul hx hb dX0_play_95 ?_
          refine tp_i (y := nI (kk * 3)) (pk_mul kk 3) ?_
          refine lv_iload hx hb dX0_play_96 (lv_at hl 0 rfl) ?_
          refine lv_iadd hx hb dX0_play_98 ?_
          refine tp_i (y := nI (kk * 3 + 0)) (nI_add _ _) ?_
          refine va_iald hx hb hK hP 7 0 rfl rfl (vp_in_nI (by omega) (by omega)) dX0_play_99 ?_
          refine tp_i (y := (kn (kk * 3 + 0))) (by rw [nI_clamp (by omega)]) ?_
          refine lv_goto (tgt := 116) hx hb dX0_play_100 (by decide) ?_
          refine va_iast hx hb hK hP hD hS 1 0 rfl rfl (vp_in_nI (by omega) (by omega)) dX0_play_116 (fun H locs hP hD hS => ?_)
          rw [nI_clamp (show (n * 3 + v) * 3 + 0 < 2 ^ 31 by omega)] at hP hD
          replace hP : va_P (dC, dI) vwCl (wX cA h0 a1 a2 a3 a4 a5 a6 a7 a8 a9 N T X nw (upd fv ((n * 3 + v) * 3 + 0) (kn (kk * 3 + 0))) tn tw th tk kt kn xt xn) H := hP
          replace hD : va_D A (wX cA h0 a1 a2 a3 a4 a5 a6 a7 a8 a9 N T X nw (upd fv ((n * 3 + v) * 3 + 0) (kn (kk * 3 + 0))) tn tw th tk kt kn xt xn) := hD
          refine lv_iinc (v := nI 1) (lv' := [(6, .int (nI 1)), (5, .int (nI 1)), (4, .int (nI ((n * 3 + v) * 3))), (3, .int (nI kk)), (2, .int (nI (t * 32 + K - 1))), (0, .ref h0), (1, .int (nI t))]) hx hb dX0_play_117 hl (k := 0) rfl (by decide) (by decide) rfl (fun ls hl => ?_)
          refine lv_goto (tgt := 69) hx hb dX0_play_120 (by decide) ?_
          refine lv_iload hx hb dX0_play_69 (lv_at hl 0 rfl) ?_
          refine lv_iconst (v := (nI 3)) hx hb dX0_play_71 (by decide) ?_
          refine lv_icmp_ge (tgt := 123) hx hb dX0_play_72 (by decide) (fun c24 => ?_) (fun c24 => ?_)
          · skip
            have c24 := c24
            exact absurd c24 (by decide)
          · skip
            have c24 := c24
            refine lv_aload_n hx hb dX0_play_75 rfl (lv_at hl 5 rfl) ?_
            refine va_get (D := (dC, dI)) (ci := 0) (v := .ref a1) (C := RX0) (T := TX0) (N := 13) hx hb hts (by decide +kernel) hown hK hP 0 rfl rfl 1 (by decide) (hts (.fieldLink RX0 22 "MotionDesk" "values" "[I") (by decide +kernel)) (fun _ h9 => h9) rfl dX0_play_76 ?_
            refine lv_iload hx hb dX0_play_79 (lv_at hl 2 rfl) ?_
            refine lv_iload hx hb dX0_play_81 (lv_at hl 0 rfl) ?_
            refine lv_iadd hx hb dX0_play_83 ?_
            refine tp_i (y := nI ((n * 3 + v) * 3 + 1)) (nI_add _ _) ?_
            refine lv_iload hx hb dX0_play_84 (lv_at hl 1 rfl) ?_
            refine lv_if_eq (tgt := 103) hx hb dX0_play_86 (by decide) (fun c25 => ?_) (fun c25 => ?_)
            · skip
              have c25 := c25
              exact absurd c25 (by decide)
            · skip
              have c25 := c25
              refine lv_aload_n hx hb dX0_play_89 rfl (lv_at hl 5 rfl) ?_
              refine va_get (D := (dC, dI)) (ci := 0) (v := .ref a7) (C := RX0) (T := TX0) (N := 13) hx hb hts (by decide +kernel) hown hK hP 0 rfl rfl 8 (by decide) (hts (.fieldLink RX0 45 "MotionDesk" "keyNumbers" "[I") (by decide +kernel)) (fun _ h9 => h9) rfl dX0_play_90 ?_
              refine lv_iload_n hx hb dX0_play_93 rfl (lv_at hl 3 rfl) ?_
              refine lv_iconst (v := (nI 3)) hx hb dX0_play_94 (by decide) ?_
              refine lv_imul hx hb dX0_play_95 ?_
              refine tp_i (y := nI (kk * 3)) (pk_mul kk 3) ?_
              refine lv_iload hx hb dX0_play_96 (lv_at hl 0 rfl) ?_
              refine lv_iadd hx hb dX0_play_98 ?_
              refine tp_i (y := nI (kk * 3 + 1)) (nI_add _ _) ?_
              refine va_iald hx hb hK hP 7 0 rfl rfl (vp_in_nI (by omega) (by omega)) dX0_play_99 ?_
              refine tp_i (y := (kn (kk * 3 + 1))) (by rw [nI_clamp (by omega)]) ?_
              refine lv_goto (tgt := 116) hx hb dX0_play_100 (by decide) ?_
              refine va_iast hx hb hK hP hD hS 1 0 rfl rfl (vp_in_nI (by omega) (by omega)) dX0_play_116 (fun H locs hP hD hS => ?_)
              rw [nI_clamp (show (n * 3 + v) * 3 + 1 < 2 ^ 31 by omega)] at hP hD
              replace hP : va_P (dC, dI) vwCl (wX cA h0 a1 a2 a3 a4 a5 a6 a7 a8 a9 N T X nw (upd (upd fv ((n * 3 + v) * 3 + 0) (kn (kk * 3 + 0))) ((n * 3 + v) * 3 + 1) (kn (kk * 3 + 1))) tn tw th tk kt kn xt xn) H := hP
              replace hD : va_D A (wX cA h0 a1 a2 a3 a4 a5 a6 a7 a8 a9 N T X nw (upd (upd fv ((n * 3 + v) * 3 + 0) (kn (kk * 3 + 0))) ((n * 3 + v) * 3 + 1) (kn (kk * 3 + 1))) tn tw th tk kt kn xt xn) := hD
              refine lv_iinc (v := nI 2) (lv' := [(6, .int (nI 2)), (5, .int (nI 1)), (4, .int (nI ((n * 3 + v) * 3))), (3, .int (nI kk)), (2, .int (nI (t * 32 + K - 1))), (0, .ref h0), (1, .int (nI t))]) hx hb dX0_play_117 hl (k := 0) rfl (by decide) (by decide) rfl (fun ls hl => ?_)
              refine lv_goto (tgt := 69) hx hb dX0_play_120 (by decide) ?_
              refine lv_iload hx hb dX0_play_69 (lv_at hl 0 rfl) ?_
              refine lv_iconst (v := (nI 3)) hx hb dX0_play_71 (by decide) ?_
              refine lv_icmp_ge (tgt := 123) hx hb dX0_play_72 (by decide) (fun c26 => ?_) (fun c26 => ?_)
              · skip
                have c26 := c26
                exact absurd c26 (by decide)
              · skip
                have c26 := c26
                refine lv_aload_n hx hb dX0_play_75 rfl (lv_at hl 5 rfl) ?_
                refine va_get (D := (dC, dI)) (ci := 0) (v := .ref a1) (C := RX0) (T := TX0) (N := 13) hx hb hts (by decide +kernel) hown hK hP 0 rfl rfl 1 (by decide) (hts (.fieldLink RX0 22 "MotionDesk" "values" "[I") (by decide +kernel)) (fun _ h9 => h9) rfl dX0_play_76 ?_
                refine lv_iload hx hb dX0_play_79 (lv_at hl 2 rfl) ?_
                refine lv_iload hx hb dX0_play_81 (lv_at hl 0 rfl) ?_
                refine lv_iadd hx hb dX0_play_83 ?_
                refine tp_i (y := nI ((n * 3 + v) * 3 + 2)) (nI_add _ _) ?_
                refine lv_iload hx hb dX0_play_84 (lv_at hl 1 rfl) ?_
                refine lv_if_eq (tgt := 103) hx hb dX0_play_86 (by decide) (fun c27 => ?_) (fun c27 => ?_)
                · skip
                  have c27 := c27
                  exact absurd c27 (by decide)
                · skip
                  have c27 := c27
                  refine lv_aload_n hx hb dX0_play_89 rfl (lv_at hl 5 rfl) ?_
                  refine va_get (D := (dC, dI)) (ci := 0) (v := .ref a7) (C := RX0) (T := TX0) (N := 13) hx hb hts (by decide +kernel) hown hK hP 0 rfl rfl 8 (by decide) (hts (.fieldLink RX0 45 "MotionDesk" "keyNumbers" "[I") (by decide +kernel)) (fun _ h9 => h9) rfl dX0_play_90 ?_
                  refine lv_iload_n hx hb dX0_play_93 rfl (lv_at hl 3 rfl) ?_
                  refine lv_iconst (v := (nI 3)) hx hb dX0_play_94 (by decide) ?_
                  refine lv_imul hx hb dX0_play_95 ?_
                  refine tp_i (y := nI (kk * 3)) (pk_mul kk 3) ?_
                  refine lv_iload hx hb dX0_play_96 (lv_at hl 0 rfl) ?_
                  refine lv_iadd hx hb dX0_play_98 ?_
                  refine tp_i (y := nI (kk * 3 + 2)) (nI_add _ _) ?_
                  refine va_iald hx hb hK hP 7 0 rfl rfl (vp_in_nI (by omega) (by omega)) dX0_play_99 ?_
                  refine tp_i (y := (kn (kk * 3 + 2))) (by rw [nI_clamp (by omega)]) ?_
                  refine lv_goto (tgt := 116) hx hb dX0_play_100 (by decide) ?_
                  refine va_iast hx hb hK hP hD hS 1 0 rfl rfl (vp_in_nI (by omega) (by omega)) dX0_play_116 (fun H locs hP hD hS => ?_)
                  rw [nI_clamp (show (n * 3 + v) * 3 + 2 < 2 ^ 31 by omega)] at hP hD
                  replace hP : va_P (dC, dI) vwCl (wX cA h0 a1 a2 a3 a4 a5 a6 a7 a8 a9 N T X nw (upd (upd (upd fv ((n * 3 + v) * 3 + 0) (kn (kk * 3 + 0))) ((n * 3 + v) * 3 + 1) (kn (kk * 3 + 1))) ((n * 3 + v) * 3 + 2) (kn (kk * 3 + 2))) tn tw th tk kt kn xt xn) H := hP
                  replace hD : va_D A (wX cA h0 a1 a2 a3 a4 a5 a6 a7 a8 a9 N T X nw (upd (upd (upd fv ((n * 3 + v) * 3 + 0) (kn (kk * 3 + 0))) ((n * 3 + v) * 3 + 1) (kn (kk * 3 + 1))) ((n * 3 + v) * 3 + 2) (kn (kk * 3 + 2))) tn tw th tk kt kn xt xn) := hD
                  refine lv_iinc (v := nI 3) (lv' := [(6, .int (nI 3)), (5, .int (nI 1)), (4, .int (nI ((n * 3 + v) * 3))), (3, .int (nI kk)), (2, .int (nI (t * 32 + K - 1))), (0, .ref h0), (1, .int (nI t))]) hx hb dX0_play_117 hl (k := 0) rfl (by decide) (by decide) rfl (fun ls hl => ?_)
                  refine lv_goto (tgt := 69) hx hb dX0_play_120 (by decide) ?_
                  refine lv_iload hx hb dX0_play_69 (lv_at hl 0 rfl) ?_
                  refine lv_iconst (v := (nI 3)) hx hb dX0_play_71 (by decide) ?_
                  refine lv_icmp_ge (tgt := 123) hx hb dX0_play_72 (by decide) (fun c28 => ?_) (fun c28 => ?_)
                  · skip
                    have c28 := c28
                    exact W.vret hx hb hr (fun t9 ht9 hW9 => ⟨⟨(upd (upd (upd fv ((n * 3 + v) * 3 + 0) (kn (kk * 3 + 0))) ((n * 3 + v) * 3 + 1) (kn (kk * 3 + 1))) ((n * 3 + v) * 3 + 2) (kn (kk * 3 + 2))), rfl, by unfold pl1 put3; simp only [q1, q2, hv, Nat.add_zero], by rw [ht9]; exact hP, va_K.moved hW9.alike hK, hD⟩, hS.F ht9⟩) hS.2.2 dX0_play_123
                  · skip
                    have c28 := c28
                    exact absurd c28 (by decide)
set_option maxHeartbeats 4000000 in
set_option maxRecDepth 100000 in
/-- time(t) -/
theorem cx_time (l : Launch) (dC : Nat → ClassId) (dI : Nat → Nat → Nat) (cA : ClassId) (h0 a1 a2 a3 a4 a5 a6 a7 a8 a9 N T X : Nat) (nw : Int32) (fv tn tw th tk kt kn xt xn : Nat → Int32) (sz : Nat) (t : Int32) (hT : T ≤ 32) (hN : N ≤ 48) (htr : ∀ j, j < T → q_trk N tn tw tk j) : Met l yX0_time wsX0_time ({ frames := 6, cells := 0, slots := 0, locals := 149 }) (va_Pc [.ref h0, .int t] (eX sz dC dI cA h0 a1 a2 a3 a4 a5 a6 a7 a8 a9 N T X nw fv tn tw th tk kt kn xt xn)) (va_Qi (fun (r : Int32) (u : Int32 × (Nat → Int32)) => (q_time t → r = nI 1 ∧ u = (t, pls kt kn t tn tw th tk fv T)) ∧ (¬ q_time t → r = nI 0 ∧ u = (nw, fv))) (fun u => bX (va_A (wX cA h0 a1 a2 a3 a4 a5 a6 a7 a8 a9 N T X nw fv tn tw th tk kt kn xt xn) sz) dC dI cA h0 a1 a2 a3 a4 a5 a6 a7 a8 a9 N T X u.1 u.2 tn tw th tk kt kn xt xn) (va_A (wX cA h0 a1 a2 a3 a4 a5 a6 a7 a8 a9 N T X nw fv tn tw th tk kt kn xt xn) sz)) 0 0 (va_A (wX cA h0 a1 a2 a3 a4 a5 a6 a7 a8 a9 N T X nw fv tn tw th tk kt kn xt xn) sz) := by
  refine Met.ofW (cc := cX0_time) (maxL := 3) (ret := (some .boolean)) (by decide) rfl ?_
  intro p e s m args below meth c s₁ B hml hv
  obtain ⟨rfl, hsz, hP, hK, hD0⟩ := hv
  have hx := B.exec
  have hb := B.bytes
  have hr := B.returns
  have hts := atoms_spec (ws := wsX0_time) B.pre
  have hown : s.vm.findClass RX0 = some m.cls := findClass_of_methodNamed B.named
  have hlocks := B.notSynchronized
  subst hsz
  have hD := hD0.self (sz := s.heap.size)
  generalize hAe : va_A (wX cA h0 a1 a2 a3 a4 a5 a6 a7 a8 a9 N T X nw fv tn tw th tk kt kn xt xn) s.heap.size = A at hD ⊢
  have hA : ∀ q : Nat, s.heap.size ≤ q → A q := fun q h => by rw [← hAe]; exact Or.inr h
  have hS : va_S A s.heap s.heap [] := va_S.rf
  have hP : va_P (dC, dI) vwCl (wX cA h0 a1 a2 a3 a4 a5 a6 a7 a8 a9 N T X nw fv tn tw th tk kt kn xt xn) s.heap := hP
  have hl := lv_entry ([.ref h0, .int t]) (n := 3) (Nat.le_of_ble_eq_true rfl)
  rw [lg_entry_eq]
  generalize (lg_sl ([.ref h0, .int t]) ++ List.replicate (3 - (lg_sl ([.ref h0, .int t])).length) Slot.unset).toArray = ls at hl ⊢
  have hl : lv_has ls 3 [(0, .ref h0), (1, .int t)] := hl
  have t1 : (nI T).toInt = T := nI_toInt (by omega)
  refine lv_iload_n hx hb dX0_time_0 rfl (lv_at hl 1 rfl) ?_
  refine vp_callSi (W.runS (As := [.int t]) (rest := []) ⟨hx, hb, hml, hown, hts⟩ (cx_isTime l t) (va_cwS 1 hts gX0_time_X0_isTime rfl rfl rfl (by decide +kernel) ⟨Nat.le_of_ble_eq_true rfl, Nat.le_of_ble_eq_true rfl⟩) preEq rfl rfl hl.1 rfl (lv_room (Nat.le_of_ble_eq_true rfl)) dX0_time_1 ⟨Nat.le_of_ble_eq_true rfl, Nat.le_of_ble_eq_true rfl⟩) (fun bo1 h_bo1 => ?_)
  refine lv_if_ne (tgt := 9) hx hb dX0_time_4 (by decide) (fun c2 => ?_) (fun c2 => ?_)
  · skip
    have c2 := btT h_bo1 c2
    refine lv_aload_n hx hb dX0_time_9 rfl (lv_at hl 0 rfl) ?_
    refine lv_iload_n hx hb dX0_time_10 rfl (lv_at hl 1 rfl) ?_
    refine va_put (D := (dC, dI)) (ci := 0) (v := .int t) (ty := .int) (C := RX0) (T := TX0) (N := 13) hx hb hts (by decide +kernel) tyX0 tyX0_ok nmX0 hown hK hP hD hS 0 rfl rfl 12 (by decide) (hts (.fieldLink RX0 91 "MotionDesk" "now" "I") (by decide +kernel)) (fun _ h9 => h9) rfl (by decide +kernel) rfl rfl (Nat.le_of_ble_eq_true rfl) dX0_time_11 (fun H locs hP hD hS => ?_)
    replace hP : va_P (dC, dI) vwCl (wX cA h0 a1 a2 a3 a4 a5 a6 a7 a8 a9 N T X t fv tn tw th tk kt kn xt xn) H := hP
    replace hD : va_D A (wX cA h0 a1 a2 a3 a4 a5 a6 a7 a8 a9 N T X t fv tn tw th tk kt kn xt xn) := hD
    refine lv_iconst (v := (nI 0)) hx hb dX0_time_14 (by decide) ?_
    refine lv_istore_n (lv' := [(2, .int (nI 0)), (0, .ref h0), (1, .int t)]) hx hb dX0_time_15 rfl hl (by decide) rfl (fun ls hl => ?_)
    obtain ⟨n, k, hn, hP9, hD9, hl9⟩ : ∃ n k : Nat, k + n = T ∧ va_P (dC, dI) vwCl (wX cA h0 a1 a2 a3 a4 a5 a6 a7 a8 a9 N T X t (pls kt kn t tn tw th tk fv k) tn tw th tk kt kn xt xn) H ∧ va_D A (wX cA h0 a1 a2 a3 a4 a5 a6 a7 a8 a9 N T X t (pls kt kn t tn tw th tk fv k) tn tw th tk kt kn xt xn) ∧ lv_has ls 3 [(2, .int (nI k)), (0, .ref h0), (1, .int t)] := ⟨T, 0, by omega, hP, hD, hl⟩
    clear hl hP hD; have hl := hl9; have hP := hP9; have hD := hD9; clear hl9 hP9 hD9
    induction n generalizing k ls H locs with
    | zero =>
      have t2 : (nI k).toInt = k := nI_toInt (by omega)
      refine lv_iload_n hx hb dX0_time_16 rfl (lv_at hl 0 rfl) ?_
      refine lv_aload_n hx hb dX0_time_17 rfl (lv_at hl 1 rfl) ?_
      refine va_get (D := (dC, dI)) (ci := 0) (v := .int (nI T)) (C := RX0) (T := TX0) (N := 13) hx hb hts (by decide +kernel) hown hK hP 0 rfl rfl 2 (by decide) (hts (.fieldLink RX0 69 "MotionDesk" "trackCount" "I") (by decide +kernel)) (fun _ h9 => h9) rfl dX0_time_18 ?_
      refine lv_icmp_ge (tgt := 35) hx hb dX0_time_21 (by decide) (fun c3 => ?_) (fun c3 => ?_)
      · skip
        have c3 := zle c3
        refine lv_iconst (v := (nI 1)) hx hb dX0_time_35 (by decide) ?_
        exact W.zret (v := (nI 1)) (ty := .boolean) hx hb hr (by decide) (fun t9 ht9 hW9 => ⟨⟨(nI 1), (t, (pls kt kn t tn tw th tk fv k)), rfl, br_t c2 ⟨rfl, by rw [show k = T by omega]⟩, by rw [ht9]; exact hP, va_K.moved hW9.alike hK, hD⟩, hS.F ht9⟩) hS.2.2 dX0_time_36
      · skip
        have c3 := znle c3
        exfalso; omega
    | succ n ih =>
      have t2 : (nI k).toInt = k := nI_toInt (by omega)
      refine lv_iload_n hx hb dX0_time_16 rfl (lv_at hl 0 rfl) ?_
      refine lv_aload_n hx hb dX0_time_17 rfl (lv_at hl 1 rfl) ?_
      refine va_get (D := (dC, dI)) (ci := 0) (v := .int (nI T)) (C := RX0) (T := TX0) (N := 13) hx hb hts (by decide +kernel) hown hK hP 0 rfl rfl 2 (by decide) (hts (.fieldLink RX0 69 "MotionDesk" "trackCount" "I") (by decide +kernel)) (fun _ h9 => h9) rfl dX0_time_18 ?_
      refine lv_icmp_ge (tgt := 35) hx hb dX0_time_21 (by decide) (fun c4 => ?_) (fun c4 => ?_)
      · skip
        have c4 := zle c4
        exfalso; omega
      · skip
        have c4 := znle c4
        refine lv_aload_n hx hb dX0_time_24 rfl (lv_at hl 1 rfl) ?_
        refine lv_iload_n hx hb dX0_time_25 rfl (lv_at hl 0 rfl) ?_
        obtain ⟨g1, g2, g3, g4⟩ := htr k (by omega)
        obtain ⟨K, hK1, hK2, etk⟩ := z_in1 g3 g4
        obtain ⟨n1, hn1, etn⟩ := z_in g1.1 g1.2
        obtain ⟨v1, hv1, etw⟩ := z_in g2.1 g2.2
        have hFc := va_free (wc := (wX cA h0 a1 a2 a3 a4 a5 a6 a7 a8 a9 N T X t (pls kt kn t tn tw th tk fv k) tn tw th tk kt kn xt xn)) hD hS hA [0, 1, 2, 3, 4, 5, 6, 7, 8, 9] rfl
        refine va_callv (va_runV (C := RX0) (As := [.int (nI k)]) (rest := []) ⟨hx, hb, hml, hown, hts⟩ (cx_play l dC dI cA h0 a1 a2 a3 a4 a5 a6 a7 a8 a9 N T X t (pls kt kn t tn tw th tk fv k) tn tw th tk kt kn xt xn H.size k K n1 v1 hT (by omega) hN hK1 hK2 hn1 hv1 etk etn etw) (cwV 1 hts gX0_time_X0_play rfl rfl rfl (by decide +kernel) ⟨Nat.le_of_ble_eq_true rfl, Nat.le_of_ble_eq_true rfl⟩) ⟨fun a U g mk q => by obtain ⟨q0, q1, qP, qK, qD⟩ := q; exact ⟨q0, q1, qP, va_K.moved (u := U) (U := U.calling g mk a) (Vm.Alike.refl U.vm) qK, qD⟩, va_recv hK hP (ci := 0) (q0 := 0) rfl rfl, fun U hU hW => ⟨rfl, by rw [hU], by rw [hU]; exact hP, va_K.moved hW.alike hK, hD.weaken (fun _ _ _ _ => trivial)⟩⟩ rfl rfl hl.1 rfl (lv_room (Nat.le_of_ble_eq_true rfl)) dX0_time_26 ⟨Nat.zero_le _, Nat.zero_le _⟩) hS (fun q _ h => hFc q h) hFc (fun u t9 H1 locs ht9 hvm hw hB hz1 hk1 hS => ?_)
        obtain ⟨hP1, hK1, hD1⟩ := hB
        rw [ht9] at hP1
        obtain rfl : u = pls kt kn t tn tw th tk fv (k + 1) := hw
        have hP := hP1
        have hD := hD1.weaken (fun _ q _ h => hFc q.1 h)
        clear hP1 hD1 hFc hk1 hz1 ht9 hvm hK1
        generalize H1 = H at hP hS ⊢
        replace hP : va_P (dC, dI) vwCl (wX cA h0 a1 a2 a3 a4 a5 a6 a7 a8 a9 N T X t (pls kt kn t tn tw th tk fv (k + 1)) tn tw th tk kt kn xt xn) H := hP
        replace hD : va_D A (wX cA h0 a1 a2 a3 a4 a5 a6 a7 a8 a9 N T X t (pls kt kn t tn tw th tk fv (k + 1)) tn tw th tk kt kn xt xn) := hD
        refine lv_iinc (v := nI (k + 1)) (lv' := [(2, .int (nI (k + 1))), (0, .ref h0), (1, .int t)]) hx hb dX0_time_29 hl (k := 0) rfl (nI_1 k) (by decide) rfl (fun ls hl => ?_)
        refine lv_goto (tgt := 16) hx hb dX0_time_32 (by decide) ?_
        exact ih (ls := ls) (k := k + 1) (H := H) (locs := locs) hS (by omega) hl hP hD
  · skip
    have c2 := btF h_bo1 c2
    refine lv_iconst (v := (nI 0)) hx hb dX0_time_7 (by decide) ?_
    exact W.zret (v := (nI 0)) (ty := .boolean) hx hb hr (by decide) (fun t9 ht9 hW9 => ⟨⟨(nI 0), (nw, fv), rfl, br_f c2 ⟨rfl, rfl⟩, by rw [ht9]; exact hP, va_K.moved hW9.alike hK, hD⟩, hS.F ht9⟩) hS.2.2 dX0_time_8
end
section
set_option maxHeartbeats 4000000 in
set_option maxRecDepth 100000 in
/-- track(node, what, how) -/
theorem cx_track (l : Launch) (dC : Nat → ClassId) (dI : Nat → Nat → Nat) (cA : ClassId) (h0 a1 a2 a3 a4 a5 a6 a7 a8 a9 N T X : Nat) (nw : Int32) (fv tn tw th tk kt kn xt xn : Nat → Int32) (sz : Nat) (x y z : Int32) (hN : N ≤ 48) (hT : T ≤ 32) (hX : X ≤ 32) : Met l yX0_track wsX0_track ({ frames := 3, cells := 0, slots := 0, locals := 69 }) (va_Pc [.ref h0, .int x, .int y, .int z] (eX sz dC dI cA h0 a1 a2 a3 a4 a5 a6 a7 a8 a9 N T X nw fv tn tw th tk kt kn xt xn)) (va_Qi (fun (r : Int32) (u : Nat × (Nat → Int32) × (Nat → Int32) × (Nat → Int32) × (Nat → Int32) × (Nat → Int32) × (Nat → Int32)) => ((X ≠ 0 ∧ T < 32 ∧ q_node N x ∧ q_what y ∧ q_how z ∧ q_all y xn X) → r = nI T ∧ u = (T + 1, upd tn T x, upd tw T y, upd th T z, upd tk T (nI X), va_cpy xt kt 0 (T * 32) X, va_cpy xn kn 0 (T * 32 * 3) (X * 3))) ∧ (¬ (X ≠ 0 ∧ T < 32 ∧ q_node N x ∧ q_what y ∧ q_how z ∧ q_all y xn X) → r = -1 ∧ u = (T, tn, tw, th, tk, kt, kn))) (fun u => bX (va_A (wX cA h0 a1 a2 a3 a4 a5 a6 a7 a8 a9 N T X nw fv tn tw th tk kt kn xt xn) sz) dC dI cA h0 a1 a2 a3 a4 a5 a6 a7 a8 a9 N u.1 0 nw fv u.2.1 u.2.2.1 u.2.2.2.1 u.2.2.2.2.1 u.2.2.2.2.2.1 u.2.2.2.2.2.2 xt xn) (va_A (wX cA h0 a1 a2 a3 a4 a5 a6 a7 a8 a9 N T X nw fv tn tw th tk kt kn xt xn) sz)) 0 0 (va_A (wX cA h0 a1 a2 a3 a4 a5 a6 a7 a8 a9 N T X nw fv tn tw th tk kt kn xt xn) sz) := by
  refine Met.ofW (cc := cX0_track) (maxL := 7) (ret := (some .int)) (by decide) rfl ?_
  intro p e s m args below meth c s₁ B hml hv
  obtain ⟨rfl, hsz, hP, hK, hD0⟩ := hv
  have hx := B.exec
  have hb := B.bytes
  have hr := B.returns
  have hts := atoms_spec (ws := wsX0_track) B.pre
  have hown : s.vm.findClass RX0 = some m.cls := findClass_of_methodNamed B.named
  have hlocks := B.notSynchronized
  subst hsz
  have hD := hD0.self (sz := s.heap.size)
  generalize hAe : va_A (wX cA h0 a1 a2 a3 a4 a5 a6 a7 a8 a9 N T X nw fv tn tw th tk kt kn xt xn) s.heap.size = A at hD ⊢
  have hA : ∀ q : Nat, s.heap.size ≤ q → A q := fun q h => by rw [← hAe]; exact Or.inr h
  have hS : va_S A s.heap s.heap [] := va_S.rf
  have hP : va_P (dC, dI) vwCl (wX cA h0 a1 a2 a3 a4 a5 a6 a7 a8 a9 N T X nw fv tn tw th tk kt kn xt xn) s.heap := hP
  have hl := lv_entry ([.ref h0, .int x, .int y, .int z]) (n := 7) (Nat.le_of_ble_eq_true rfl)
  rw [lg_entry_eq]
  generalize (lg_sl ([.ref h0, .int x, .int y, .int z]) ++ List.replicate (7 - (lg_sl ([.ref h0, .int x, .int y, .int z])).length) Slot.unset).toArray = ls at hl ⊢
  have hl : lv_has ls 7 [(0, .ref h0), (1, .int x), (2, .int y), (3, .int z)] := hl
  have t0 := z_0
  have t1 : (nI T).toInt = T := nI_toInt (by omega)
  have t2 : (nI 32).toInt = 32 := by decide
  have t3 : (nI X).toInt = X := nI_toInt (by omega)
  refine lv_aload_n hx hb dX0_track_0 rfl (lv_at hl 0 rfl) ?_
  refine va_get (D := (dC, dI)) (ci := 0) (v := .int (nI X)) (C := RX0) (T := TX0) (N := 13) hx hb hts (by decide +kernel) hown hK hP 0 rfl rfl 9 (by decide) (hts (.fieldLink RX0 54 "MotionDesk" "textCount" "I") (by decide +kernel)) (fun _ h9 => h9) rfl dX0_track_1 ?_
  refine lv_istore (lv' := [(4, .int (nI X)), (0, .ref h0), (1, .int x), (2, .int y), (3, .int z)]) hx hb dX0_track_4 hl (by decide) rfl (fun ls hl => ?_)
  refine lv_aload_n hx hb dX0_track_6 rfl (lv_at hl 1 rfl) ?_
  refine lv_iconst (v := (nI 0)) hx hb dX0_track_7 (by decide) ?_
  refine va_put (D := (dC, dI)) (ci := 0) (v := .int (nI 0)) (ty := .int) (C := RX0) (T := TX0) (N := 13) hx hb hts (by decide +kernel) tyX0 tyX0_ok nmX0 hown hK hP hD hS 0 rfl rfl 9 (by decide) (hts (.fieldLink RX0 54 "MotionDesk" "textCount" "I") (by decide +kernel)) (fun _ h9 => h9) rfl (by decide +kernel) rfl rfl (Nat.le_of_ble_eq_true rfl) dX0_track_8 (fun H locs hP hD hS => ?_)
  replace hP : va_P (dC, dI) vwCl (wX cA h0 a1 a2 a3 a4 a5 a6 a7 a8 a9 N T 0 nw fv tn tw th tk kt kn xt xn) H := hP
  replace hD : va_D A (wX cA h0 a1 a2 a3 a4 a5 a6 a7 a8 a9 N T 0 nw fv tn tw th tk kt kn xt xn) := hD
  refine lv_iload hx hb dX0_track_11 (lv_at hl 0 rfl) ?_
  refine lv_if_eq (tgt := 25) hx hb dX0_track_13 (by decide) (fun c1 => ?_) (fun c1 => ?_)
  · skip
    have c1 := zeq c1
    refine lv_iconst (v := (-1)) hx hb dX0_track_25 (by decide) ?_
    exact W.iret (v := (-1)) hx hb hr (fun t9 ht9 hW9 => ⟨⟨(-1), (T, tn, tw, th, tk, kt, kn), rfl, br_f (fun h => h.1 (by omega)) ⟨rfl, rfl⟩, by rw [ht9]; exact hP, va_K.moved hW9.alike hK, hD⟩, hS.F ht9⟩) hS.2.2 dX0_track_26
  · skip
    have c1 := zne c1
    refine lv_aload_n hx hb dX0_track_16 rfl (lv_at hl 1 rfl) ?_
    refine va_get (D := (dC, dI)) (ci := 0) (v := .int (nI T)) (C := RX0) (T := TX0) (N := 13) hx hb hts (by decide +kernel) hown hK hP 0 rfl rfl 2 (by decide) (hts (.fieldLink RX0 69 "MotionDesk" "trackCount" "I") (by decide +kernel)) (fun _ h9 => h9) rfl dX0_track_17 ?_
    refine lv_bipush (v := (nI 32)) hx hb dX0_track_20 (by decide) ?_
    refine lv_icmp_lt (tgt := 27) hx hb dX0_track_22 (by decide) (fun c2 => ?_) (fun c2 => ?_)
    · skip
      have c2 := zlt c2
      refine lv_aload_n hx hb dX0_track_27 rfl (lv_at hl 1 rfl) ?_
      refine lv_iload_n hx hb dX0_track_28 rfl (lv_at hl 2 rfl) ?_
      refine vp_callSi (W.runV (C := RX0) (As := [.int x]) (rest := []) ⟨hx, hb, hml, hown, hts⟩ (cx_isNode l dC dI cA h0 a1 a2 a3 a4 a5 a6 a7 a8 a9 N T 0 nw fv tn tw th tk kt kn xt xn x (by omega)) (cwV 1 hts gX0_track_X0_isNode rfl rfl rfl (by decide +kernel) ⟨Nat.le_of_ble_eq_true rfl, Nat.le_of_ble_eq_true rfl⟩) ⟨fun a U g mk q => ⟨q.1, q.2.1, va_K.moved (u := U) (U := U.calling g mk a) (Vm.Alike.refl U.vm) q.2.2⟩, va_recv hK hP (ci := 0) (q0 := 0) rfl rfl, fun U hU hW => ⟨rfl, by rw [hU]; exact hP, va_K.moved hW.alike hK⟩⟩ rfl rfl hl.1 rfl (lv_room (Nat.le_of_ble_eq_true rfl)) dX0_track_29 ⟨Nat.le_of_ble_eq_true rfl, Nat.le_of_ble_eq_true rfl⟩) (fun bo3 h_bo3 => ?_)
      refine lv_if_eq (tgt := 59) hx hb dX0_track_32 (by decide) (fun c4 => ?_) (fun c4 => ?_)
      · skip
        have c4 := btF h_bo3 c4
        refine lv_iconst (v := (-1)) hx hb dX0_track_59 (by decide) ?_
        exact W.iret (v := (-1)) hx hb hr (fun t9 ht9 hW9 => ⟨⟨(-1), (T, tn, tw, th, tk, kt, kn), rfl, br_f (fun h => c4 h.2.2.1) ⟨rfl, rfl⟩, by rw [ht9]; exact hP, va_K.moved hW9.alike hK, hD⟩, hS.F ht9⟩) hS.2.2 dX0_track_60
      · skip
        have c4 := btT h_bo3 c4
        refine lv_iload_n hx hb dX0_track_35 rfl (lv_at hl 3 rfl) ?_
        refine vp_callSi (W.runS (As := [.int y]) (rest := []) ⟨hx, hb, hml, hown, hts⟩ (cx_isWhat l y) (va_cwS 1 hts gX0_track_X0_isWhat rfl rfl rfl (by decide +kernel) ⟨Nat.le_of_ble_eq_true rfl, Nat.le_of_ble_eq_true rfl⟩) preEq rfl rfl hl.1 rfl (lv_room (Nat.le_of_ble_eq_true rfl)) dX0_track_36 ⟨Nat.le_of_ble_eq_true rfl, Nat.le_of_ble_eq_true rfl⟩) (fun bo5 h_bo5 => ?_)
        refine lv_if_eq (tgt := 59) hx hb dX0_track_39 (by decide) (fun c6 => ?_) (fun c6 => ?_)
        · skip
          have c6 := btF h_bo5 c6
          refine lv_iconst (v := (-1)) hx hb dX0_track_59 (by decide) ?_
          exact W.iret (v := (-1)) hx hb hr (fun t9 ht9 hW9 => ⟨⟨(-1), (T, tn, tw, th, tk, kt, kn), rfl, br_f (fun h => c6 h.2.2.2.1) ⟨rfl, rfl⟩, by rw [ht9]; exact hP, va_K.moved hW9.alike hK, hD⟩, hS.F ht9⟩) hS.2.2 dX0_track_60
        · skip
          have c6 := btT h_bo5 c6
          refine lv_iload_n hx hb dX0_track_42 rfl (lv_at hl 4 rfl) ?_
          refine vp_callSi (W.runS (As := [.int z]) (rest := []) ⟨hx, hb, hml, hown, hts⟩ (cx_isHow l z) (va_cwS 1 hts gX0_track_X0_isHow rfl rfl rfl (by decide +kernel) ⟨Nat.le_of_ble_eq_true rfl, Nat.le_of_ble_eq_true rfl⟩) preEq rfl rfl hl.1 rfl (lv_room (Nat.le_of_ble_eq_true rfl)) dX0_track_43 ⟨Nat.le_of_ble_eq_true rfl, Nat.le_of_ble_eq_true rfl⟩) (fun bo7 h_bo7 => ?_)
          refine lv_if_eq (tgt := 59) hx hb dX0_track_46 (by decide) (fun c8 => ?_) (fun c8 => ?_)
          · skip
            have c8 := btF h_bo7 c8
            refine lv_iconst (v := (-1)) hx hb dX0_track_59 (by decide) ?_
            exact W.iret (v := (-1)) hx hb hr (fun t9 ht9 hW9 => ⟨⟨(-1), (T, tn, tw, th, tk, kt, kn), rfl, br_f (fun h => c8 h.2.2.2.2.1) ⟨rfl, rfl⟩, by rw [ht9]; exact hP, va_K.moved hW9.alike hK, hD⟩, hS.F ht9⟩) hS.2.2 dX0_track_60
          · skip
            have c8 := btT h_bo7 c8
            refine lv_aload_n hx hb dX0_track_49 rfl (lv_at hl 1 rfl) ?_
            refine lv_iload hx hb dX0_track_50 (lv_at hl 0 rfl) ?_
            refine lv_iload_n hx hb dX0_track_52 rfl (lv_at hl 3 rfl) ?_
            refine vp_callSi (W.runV (C := RX0) (As := [.int (nI X), .int y]) (rest := []) ⟨hx, hb, hml, hown, hts⟩ (cx_fits l dC dI cA h0 a1 a2 a3 a4 a5 a6 a7 a8 a9 N T 0 nw fv tn tw th tk kt kn xt xn X y hX) (cwV 2 hts gX0_track_X0_textFits rfl rfl rfl (by decide +kernel) ⟨Nat.le_of_ble_eq_true rfl, Nat.le_of_ble_eq_true rfl⟩) ⟨fun a U g mk q => ⟨q.1, q.2.1, va_K.moved (u := U) (U := U.calling g mk a) (Vm.Alike.refl U.vm) q.2.2⟩, va_recv hK hP (ci := 0) (q0 := 0) rfl rfl, fun U hU hW => ⟨rfl, by rw [hU]; exact hP, va_K.moved hW.alike hK⟩⟩ rfl rfl hl.1 rfl (lv_room (Nat.le_of_ble_eq_true rfl)) dX0_track_53 ⟨Nat.le_of_ble_eq_true rfl, Nat.le_of_ble_eq_true rfl⟩) (fun bo9 h_bo9 => ?_)
            refine lv_if_ne (tgt := 61) hx hb dX0_track_56 (by decide) (fun c10 => ?_) (fun c10 => ?_)
            · skip
              have c10 := btT h_bo9 c10
              have hok : (X ≠ 0 ∧ T < 32 ∧ q_node N x ∧ q_what y ∧ q_how z ∧ q_all y xn X) := ⟨by omega, by omega, c4, c6, c8, c10⟩
              have hT2 : T < 32 := hok.2.1
              refine lv_aload_n hx hb dX0_track_61 rfl (lv_at hl 1 rfl) ?_
              refine va_get (D := (dC, dI)) (ci := 0) (v := .int (nI T)) (C := RX0) (T := TX0) (N := 13) hx hb hts (by decide +kernel) hown hK hP 0 rfl rfl 2 (by decide) (hts (.fieldLink RX0 69 "MotionDesk" "trackCount" "I") (by decide +kernel)) (fun _ h9 => h9) rfl dX0_track_62 ?_
              refine lv_istore (lv' := [(5, .int (nI T)), (4, .int (nI X)), (0, .ref h0), (1, .int x), (2, .int y), (3, .int z)]) hx hb dX0_track_65 hl (by decide) rfl (fun ls hl => ?_)
              refine lv_aload_n hx hb dX0_track_67 rfl (lv_at hl 2 rfl) ?_
              refine va_get (D := (dC, dI)) (ci := 0) (v := .ref a2) (C := RX0) (T := TX0) (N := 13) hx hb hts (by decide +kernel) hown hK hP 0 rfl rfl 3 (by decide) (hts (.fieldLink RX0 30 "MotionDesk" "trackNode" "[I") (by decide +kernel)) (fun _ h9 => h9) rfl dX0_track_68 ?_
              refine lv_iload hx hb dX0_track_71 (lv_at hl 0 rfl) ?_
              refine lv_iload_n hx hb dX0_track_73 rfl (lv_at hl 3 rfl) ?_
              refine va_iast hx hb hK hP hD hS 2 0 rfl rfl (vp_in_nI (by omega) (by omega)) dX0_track_74 (fun H locs hP hD hS => ?_)
              rw [nI_clamp (show T < 2 ^ 31 by omega)] at hP hD
              replace hP : va_P (dC, dI) vwCl (wX cA h0 a1 a2 a3 a4 a5 a6 a7 a8 a9 N T 0 nw fv (upd tn T x) tw th tk kt kn xt xn) H := hP
              replace hD : va_D A (wX cA h0 a1 a2 a3 a4 a5 a6 a7 a8 a9 N T 0 nw fv (upd tn T x) tw th tk kt kn xt xn) := hD
              refine lv_aload_n hx hb dX0_track_75 rfl (lv_at hl 2 rfl) ?_
              refine va_get (D := (dC, dI)) (ci := 0) (v := .ref a3) (C := RX0) (T := TX0) (N := 13) hx hb hts (by decide +kernel) hown hK hP 0 rfl rfl 4 (by decide) (hts (.fieldLink RX0 33 "MotionDesk" "trackWhat" "[I") (by decide +kernel)) (fun _ h9 => h9) rfl dX0_track_76 ?_
              refine lv_iload hx hb dX0_track_79 (lv_at hl 0 rfl) ?_
              refine lv_iload_n hx hb dX0_track_81 rfl (lv_at hl 4 rfl) ?_
              refine va_iast hx hb hK hP hD hS 3 0 rfl rfl (vp_in_nI (by omega) (by omega)) dX0_track_82 (fun H locs hP hD hS => ?_)
              rw [nI_clamp (show T < 2 ^ 31 by omega)] at hP hD
              replace hP : va_P (dC, dI) vwCl (wX cA h0 a1 a2 a3 a4 a5 a6 a7 a8 a9 N T 0 nw fv (upd tn T x) (upd tw T y) th tk kt kn xt xn) H := hP
              replace hD : va_D A (wX cA h0 a1 a2 a3 a4 a5 a6 a7 a8 a9 N T 0 nw fv (upd tn T x) (upd tw T y) th tk kt kn xt xn) := hD
              refine lv_aload_n hx hb dX0_track_83 rfl (lv_at hl 2 rfl) ?_
              refine va_get (D := (dC, dI)) (ci := 0) (v := .ref a4) (C := RX0) (T := TX0) (N := 13) hx hb hts (by decide +kernel) hown hK hP 0 rfl rfl 5 (by decide) (hts (.fieldLink RX0 36 "MotionDesk" "trackHow" "[I") (by decide +kernel)) (fun _ h9 => h9) rfl dX0_track_84 ?_
              refine lv_iload hx hb dX0_track_87 (lv_at hl 0 rfl) ?_
              refine lv_iload_n hx hb dX0_track_89 rfl (lv_at hl 5 rfl) ?_
              refine va_iast hx hb hK hP hD hS 4 0 rfl rfl (vp_in_nI (by omega) (by omega)) dX0_track_90 (fun H locs hP hD hS => ?_)
              rw [nI_clamp (show T < 2 ^ 31 by omega)] at hP hD
              replace hP : va_P (dC, dI) vwCl (wX cA h0 a1 a2 a3 a4 a5 a6 a7 a8 a9 N T 0 nw fv (upd tn T x) (upd tw T y) (upd th T z) tk kt kn xt xn) H := hP
              replace hD : va_D A (wX cA h0 a1 a2 a3 a4 a5 a6 a7 a8 a9 N T 0 nw fv (upd tn T x) (upd tw T y) (upd th T z) tk kt kn xt xn) := hD
              refine lv_aload_n hx hb dX0_track_91 rfl (lv_at hl 2 rfl) ?_
              refine va_get (D := (dC, dI)) (ci := 0) (v := .ref a5) (C := RX0) (T := TX0) (N := 13) hx hb hts (by decide +kernel) hown hK hP 0 rfl rfl 6 (by decide) (hts (.fieldLink RX0 39 "MotionDesk" "trackKeys" "[I") (by decide +kernel)) (fun _ h9 => h9) rfl dX0_track_92 ?_
              refine lv_iload hx hb dX0_track_95 (lv_at hl 0 rfl) ?_
              refine lv_iload hx hb dX0_track_97 (lv_at hl 1 rfl) ?_
              refine va_iast hx hb hK hP hD hS 5 0 rfl rfl (vp_in_nI (by omega) (by omega)) dX0_track_99 (fun H locs hP hD hS => ?_)
              rw [nI_clamp (show T < 2 ^ 31 by omega)] at hP hD
              replace hP : va_P (dC, dI) vwCl (wX cA h0 a1 a2 a3 a4 a5 a6 a7 a8 a9 N T 0 nw fv (upd tn T x) (upd tw T y) (upd th T z) (upd tk T (nI X)) kt kn xt xn) H := hP
              replace hD : va_D A (wX cA h0 a1 a2 a3 a4 a5 a6 a7 a8 a9 N T 0 nw fv (upd tn T x) (upd tw T y) (upd th T z) (upd tk T (nI X)) kt kn xt xn) := hD
              refine lv_iload hx hb dX0_track_100 (lv_at hl 0 rfl) ?_
              refine lv_bipush (v := (nI 32)) hx hb dX0_track_102 (by decide) ?_
              refine lv_imul hx hb dX0_track_104 ?_
              refine tp_i (y := nI (T * 32)) (pk_mul T 32) ?_
              refine lv_istore (lv' := [(6, .int (nI (T * 32))), (5, .int (nI T)), (4, .int (nI X)), (0, .ref h0), (1, .int x), (2, .int y), (3, .int z)]) hx hb dX0_track_105 hl (by decide) rfl (fun ls hl => ?_)
              refine lv_aload_n hx hb dX0_track_107 rfl (lv_at hl 3 rfl) ?_
              refine va_get (D := (dC, dI)) (ci := 0) (v := .ref a8) (C := RX0) (T := TX0) (N := 13) hx hb hts (by decide +kernel) hown hK hP 0 rfl rfl 10 (by decide) (hts (.fieldLink RX0 48 "MotionDesk" "textTimes" "[I") (by decide +kernel)) (fun _ h9 => h9) rfl dX0_track_108 ?_
              refine lv_iconst (v := (nI 0)) hx hb dX0_track_111 (by decide) ?_
              refine lv_aload_n hx hb dX0_track_112 rfl (lv_at hl 3 rfl) ?_
              refine va_get (D := (dC, dI)) (ci := 0) (v := .ref a6) (C := RX0) (T := TX0) (N := 13) hx hb hts (by decide +kernel) hown hK hP 0 rfl rfl 7 (by decide) (hts (.fieldLink RX0 42 "MotionDesk" "keyTimes" "[I") (by decide +kernel)) (fun _ h9 => h9) rfl dX0_track_113 ?_
              refine lv_iload hx hb dX0_track_116 (lv_at hl 0 rfl) ?_
              refine lv_iload hx hb dX0_track_118 (lv_at hl 2 rfl) ?_
              have k1 := (nI_clamp (n := 0) (by omega))
              have k2 := (nI_clamp (n := (T * 32)) (by omega))
              have k3 := (nI_clamp (n := X) (by omega))
              refine va_copyi (ty := .int) hx hb (by rw [hml]; exact hl.1.symm) hown (hts (.methodLink RX0 85 arraycopyName) (by decide +kernel)) (hts (.native arraycopyName) (by decide +kernel)) (hts (.static arraycopyName) (by decide +kernel)) (hts (.initialized "java/lang/System") (by decide +kernel)) hK hP hD hS 8 6 0 0 rfl rfl rfl rfl rfl (nI_pos (by omega)) (nI_pos (by omega)) (nI_pos (by omega)) (by rw [k1, k3]; omega) (by rw [k2, k3]; omega) (fun _ _ => rfl) (Nat.le_of_ble_eq_true rfl) (Nat.le_of_ble_eq_true rfl) dX0_track_120 (fun H locs hP hD hS => ?_)
              rw [k1, k2, k3] at hP hD
              replace hP : va_P (dC, dI) vwCl (wX cA h0 a1 a2 a3 a4 a5 a6 a7 a8 a9 N T 0 nw fv (upd tn T x) (upd tw T y) (upd th T z) (upd tk T (nI X)) (va_cpy xt kt 0 (T * 32) X) kn xt xn) H := hP
              replace hD : va_D A (wX cA h0 a1 a2 a3 a4 a5 a6 a7 a8 a9 N T 0 nw fv (upd tn T x) (upd tw T y) (upd th T z) (upd tk T (nI X)) (va_cpy xt kt 0 (T * 32) X) kn xt xn) := hD
              refine lv_aload_n hx hb dX0_track_123 rfl (lv_at hl 3 rfl) ?_
              refine va_get (D := (dC, dI)) (ci := 0) (v := .ref a9) (C := RX0) (T := TX0) (N := 13) hx hb hts (by decide +kernel) hown hK hP 0 rfl rfl 11 (by decide) (hts (.fieldLink RX0 51 "MotionDesk" "textNumbers" "[I") (by decide +kernel)) (fun _ h9 => h9) rfl dX0_track_124 ?_
              refine lv_iconst (v := (nI 0)) hx hb dX0_track_127 (by decide) ?_
              refine lv_aload_n hx hb dX0_track_128 rfl (lv_at hl 3 rfl) ?_
              refine va_get (D := (dC, dI)) (ci := 0) (v := .ref a7) (C := RX0) (T := TX0) (N := 13) hx hb hts (by decide +kernel) hown hK hP 0 rfl rfl 8 (by decide) (hts (.fieldLink RX0 45 "MotionDesk" "keyNumbers" "[I") (by decide +kernel)) (fun _ h9 => h9) rfl dX0_track_129 ?_
              refine lv_iload hx hb dX0_track_132 (lv_at hl 0 rfl) ?_
              refine lv_iconst (v := (nI 3)) hx hb dX0_track_134 (by decide) ?_
              refine lv_imul hx hb dX0_track_135 ?_
              refine tp_i (y := nI (T * 32 * 3)) (pk_mul _ 3) ?_
              refine lv_iload hx hb dX0_track_136 (lv_at hl 2 rfl) ?_
              refine lv_iconst (v := (nI 3)) hx hb dX0_track_138 (by decide) ?_
              refine lv_imul hx hb dX0_track_139 ?_
              refine tp_i (y := nI (X * 3)) (pk_mul X 3) ?_
              have k1 := (nI_clamp (n := 0) (by omega))
              have k2 := (nI_clamp (n := (T * 32 * 3)) (by omega))
              have k3 := (nI_clamp (n := (X * 3)) (by omega))
              refine va_copyi (ty := .int) hx hb (by rw [hml]; exact hl.1.symm) hown (hts (.methodLink RX0 85 arraycopyName) (by decide +kernel)) (hts (.native arraycopyName) (by decide +kernel)) (hts (.static arraycopyName) (by decide +kernel)) (hts (.initialized "java/lang/System") (by decide +kernel)) hK hP hD hS 9 7 0 0 rfl rfl rfl rfl rfl (nI_pos (by omega)) (nI_pos (by omega)) (nI_pos (by omega)) (by rw [k1, k3]; omega) (by rw [k2, k3]; omega) (fun _ _ => rfl) (Nat.le_of_ble_eq_true rfl) (Nat.le_of_ble_eq_true rfl) dX0_track_140 (fun H locs hP hD hS => ?_)
              rw [k1, k2, k3] at hP hD
              replace hP : va_P (dC, dI) vwCl (wX cA h0 a1 a2 a3 a4 a5 a6 a7 a8 a9 N T 0 nw fv (upd tn T x) (upd tw T y) (upd th T z) (upd tk T (nI X)) (va_cpy xt kt 0 (T * 32) X) (va_cpy xn kn 0 (T * 32 * 3) (X * 3)) xt xn) H := hP
              replace hD : va_D A (wX cA h0 a1 a2 a3 a4 a5 a6 a7 a8 a9 N T 0 nw fv (upd tn T x) (upd tw T y) (upd th T z) (upd tk T (nI X)) (va_cpy xt kt 0 (T * 32) X) (va_cpy xn kn 0 (T * 32 * 3) (X * 3)) xt xn) := hD
              refine lv_aload_n hx hb dX0_track_143 rfl (lv_at hl 3 rfl) ?_
              refine lv_dup hx hb dX0_track_144 rfl ?_
              refine va_get (D := (dC, dI)) (ci := 0) (v := .int (nI T)) (C := RX0) (T := TX0) (N := 13) hx hb hts (by decide +kernel) hown hK hP 0 rfl rfl 2 (by decide) (hts (.fieldLink RX0 69 "MotionDesk" "trackCount" "I") (by decide +kernel)) (fun _ h9 => h9) rfl dX0_track_145 ?_
              refine lv_iconst (v := (nI 1)) hx hb dX0_track_148 (by decide) ?_
              refine lv_iadd hx hb dX0_track_149 ?_
              refine tp_i (y := nI (T + 1)) (nI_1 T) ?_
              refine va_put (D := (dC, dI)) (ci := 0) (v := .int (nI (T + 1))) (ty := .int) (C := RX0) (T := TX0) (N := 13) hx hb hts (by decide +kernel) tyX0 tyX0_ok nmX0 hown hK hP hD hS 0 rfl rfl 2 (by decide) (hts (.fieldLink RX0 69 "MotionDesk" "trackCount" "I") (by decide +kernel)) (fun _ h9 => h9) rfl (by decide +kernel) rfl rfl (Nat.le_of_ble_eq_true rfl) dX0_track_150 (fun H locs hP hD hS => ?_)
              replace hP : va_P (dC, dI) vwCl (wX cA h0 a1 a2 a3 a4 a5 a6 a7 a8 a9 N (T + 1) 0 nw fv (upd tn T x) (upd tw T y) (upd th T z) (upd tk T (nI X)) (va_cpy xt kt 0 (T * 32) X) (va_cpy xn kn 0 (T * 32 * 3) (X * 3)) xt xn) H := hP
              replace hD : va_D A (wX cA h0 a1 a2 a3 a4 a5 a6 a7 a8 a9 N (T + 1) 0 nw fv (upd tn T x) (upd tw T y) (upd th T z) (upd tk T (nI X)) (va_cpy xt kt 0 (T * 32) X) (va_cpy xn kn 0 (T * 32 * 3) (X * 3)) xt xn) := hD
              refine lv_iload hx hb dX0_track_153 (lv_at hl 1 rfl) ?_
              exact W.iret (v := nI T) hx hb hr (fun t9 ht9 hW9 => ⟨⟨nI T, ((T + 1), (upd tn T x), (upd tw T y), (upd th T z), (upd tk T (nI X)), (va_cpy xt kt 0 (T * 32) X), (va_cpy xn kn 0 (T * 32 * 3) (X * 3))), rfl, br_t hok ⟨rfl, rfl⟩, by rw [ht9]; exact hP, va_K.moved hW9.alike hK, hD⟩, hS.F ht9⟩) hS.2.2 dX0_track_155
            · skip
              have c10 := btF h_bo9 c10
              refine lv_iconst (v := (-1)) hx hb dX0_track_59 (by decide) ?_
              exact W.iret (v := (-1)) hx hb hr (fun t9 ht9 hW9 => ⟨⟨(-1), (T, tn, tw, th, tk, kt, kn), rfl, br_f (fun h => c10 h.2.2.2.2.2) ⟨rfl, rfl⟩, by rw [ht9]; exact hP, va_K.moved hW9.alike hK, hD⟩, hS.F ht9⟩) hS.2.2 dX0_track_60
    · skip
      have c2 := znlt c2
      refine lv_iconst (v := (-1)) hx hb dX0_track_25 (by decide) ?_
      exact W.iret (v := (-1)) hx hb hr (fun t9 ht9 hW9 => ⟨⟨(-1), (T, tn, tw, th, tk, kt, kn), rfl, br_f (fun h => absurd h.2.1 (by omega)) ⟨rfl, rfl⟩, by rw [ht9]; exact hP, va_K.moved hW9.alike hK, hD⟩, hS.F ht9⟩) hS.2.2 dX0_track_26
end
section
set_option maxHeartbeats 4000000 in
set_option maxRecDepth 100000 in
/-- MotionDesk(nodes) -/
theorem cx_init (l : Launch) (dC : Nat → ClassId) (dI : Nat → Nat → Nat) (cA : ClassId) (h0 N sz : Nat) (x : Int32) (eN : cl48 x = N) : Met l yX0_init wsX0_init ({ frames := 1, cells := 9, slots := 4784, locals := 21 }) (va_Pc [.ref h0, .int x] (fun U => U.heap.size = sz ∧ va_P (dC, dI) vwCl [(h0, .inr (0, [.int (nI 0), .null, .int (nI 0), .null, .null, .null, .null, .null, .null, .int (nI 0), .null, .null, .int (nI 0)]))] U.heap ∧ va_K (dC, dI) vwCl [(cA, .int)] U ∧ va_D (fun _ => True) [(h0, .inr (0, [.int (nI 0), .null, .int (nI 0), .null, .null, .null, .null, .null, .null, .int (nI 0), .null, .null, .int (nI 0)]))])) (va_Qv (fun (_ : Unit) => True) (fun (_ : Unit) t => ∃ a1 a2 a3 a4 a5 a6 a7 a8 a9 : Nat, bX (va_A [(h0, .inr (0, [.int (nI 0), .null, .int (nI 0), .null, .null, .null, .null, .null, .null, .int (nI 0), .null, .null, .int (nI 0)]))] sz) dC dI cA h0 a1 a2 a3 a4 a5 a6 a7 a8 a9 N 0 0 (nI 0) (ini N) (fun _ => 0) (fun _ => 0) (fun _ => 0) (fun _ => 0) (fun _ => 0) (fun _ => 0) (fun _ => 0) (fun _ => 0) t) (va_A [(h0, .inr (0, [.int (nI 0), .null, .int (nI 0), .null, .null, .null, .null, .null, .null, .int (nI 0), .null, .null, .int (nI 0)]))] sz)) 9 4784 (va_A [(h0, .inr (0, [.int (nI 0), .null, .int (nI 0), .null, .null, .null, .null, .null, .null, .int (nI 0), .null, .null, .int (nI 0)]))] sz) := by
  refine Met.ofW (cc := cX0_init) (maxL := 4) (ret := none) (by decide) rfl ?_
  intro p e s m args below meth c s₁ B hml hv
  obtain ⟨rfl, hsz, hP, hK, hD0⟩ := hv
  have hx := B.exec
  have hb := B.bytes
  have hr := B.returns
  have hts := atoms_spec (ws := wsX0_init) B.pre
  have hown : s.vm.findClass RX0 = some m.cls := findClass_of_methodNamed B.named
  have hlocks := B.notSynchronized
  have hin : meth.name = "<init>" := (name_of_methodNamed B.named B.method).1
  subst hsz
  have hD := hD0.self (sz := s.heap.size)
  generalize hAe : va_A [(h0, .inr (0, [.int (nI 0), .null, .int (nI 0), .null, .null, .null, .null, .null, .null, .int (nI 0), .null, .null, .int (nI 0)]))] s.heap.size = A at hD ⊢
  have hA : ∀ q : Nat, s.heap.size ≤ q → A q := fun q h => by rw [← hAe]; exact Or.inr h
  have hS : va_S A s.heap s.heap [] := va_S.rf
  have hP : va_P (dC, dI) vwCl [(h0, .inr (0, [.int (nI 0), .null, .int (nI 0), .null, .null, .null, .null, .null, .null, .int (nI 0), .null, .null, .int (nI 0)]))] s.heap := hP
  have hl := lv_entry ([.ref h0, .int x]) (n := 4) (Nat.le_of_ble_eq_true rfl)
  rw [lg_entry_eq]
  generalize (lg_sl ([.ref h0, .int x]) ++ List.replicate (4 - (lg_sl ([.ref h0, .int x])).length) Slot.unset).toArray = ls at hl ⊢
  have hl : lv_has ls 4 [(0, .ref h0), (1, .int x)] := hl
  have hN : 1 ≤ N ∧ N ≤ 48 := by rw [← eN]; exact cl48_le x
  have t1 : (nI N).toInt = N := nI_toInt (by omega)
  refine lv_aload_n hx hb dX0_init_0 rfl (lv_at hl 0 rfl) ?_
  refine W.objInit hx hb hown (hts (.methodLink RX0 1 objectInit) (by decide +kernel)) (hts (.instanceMethod objectInit) (by decide +kernel)) (hts _ (List.mem_cons_of_mem _ (List.mem_append_left _ (List.mem_append_left _ (List.mem_of_getElem? (i := 2) rfl))))) rfl (by rw [hml]; exact hl.1) rfl dX0_init_1 (Nat.le_of_ble_eq_true rfl) (Nat.le_of_ble_eq_true rfl) ?_
  refine W.eq (g2 := F0 m 4 ls []) rfl ?_
  refine lv_aload_n hx hb dX0_init_4 rfl (lv_at hl 0 rfl) ?_
  refine lv_iconst (v := (nI 1)) hx hb dX0_init_5 (by decide) ?_
  refine lv_bipush (v := (nI 48)) hx hb dX0_init_6 (by decide) ?_
  refine lv_iload_n hx hb dX0_init_8 rfl (lv_at hl 1 rfl) ?_
  refine va_mmin hx hb (by rw [hml]; exact hl.1.symm) hown (hts (.methodLink RX0 9 Lib.Math.min.name) (by decide +kernel)) (hts (.static Lib.Math.min.name) (by decide +kernel)) (hts (.initialized "java/lang/Math") (by decide +kernel)) (hts _ (List.mem_cons_of_mem _ (List.mem_append_left _ (List.mem_append_left _ (List.mem_of_getElem? (i := 6) rfl))))) (Nat.le_of_ble_eq_true rfl) (Nat.le_of_ble_eq_true rfl) (Nat.zero_le _) (Nat.zero_le _) dX0_init_9 ?_
  refine va_mmax hx hb (by rw [hml]; exact hl.1.symm) hown (hts (.methodLink RX0 15 Lib.Math.max.name) (by decide +kernel)) (hts (.static Lib.Math.max.name) (by decide +kernel)) (hts (.initialized "java/lang/Math") (by decide +kernel)) (hts _ (List.mem_cons_of_mem _ (List.mem_append_left _ (List.mem_append_left _ (List.mem_of_getElem? (i := 9) rfl))))) (Nat.le_of_ble_eq_true rfl) (Nat.le_of_ble_eq_true rfl) (Nat.zero_le _) (Nat.zero_le _) dX0_init_12 ?_
  refine tp_i (y := nI N) (by rw [← eN]; exact cl48_eq x) ?_
  refine va_putF (D := (dC, dI)) (ci := 0) (v := .int (nI N)) (ty := .int) (C := RX0) (T := TX0) (N := 13) hx hb hts (by decide +kernel) tyX0 tyX0_ok nmX0 hown hK hP hD hS 0 rfl rfl 0 (by decide) (hts (.fieldLink RX0 18 "MotionDesk" "nodeCount" "I") (by decide +kernel)) (fun _ h9 => h9) rfl hin rfl (by decide +kernel) rfl rfl (Nat.le_of_ble_eq_true rfl) dX0_init_15 (fun H locs hP hD hS => ?_)
  replace hP : va_P (dC, dI) vwCl [(h0, .inr (0, [.int (nI N), .null, .int (nI 0), .null, .null, .null, .null, .null, .null, .int (nI 0), .null, .null, .int (nI 0)]))] H := hP
  replace hD : va_D A [(h0, .inr (0, [.int (nI N), .null, .int (nI 0), .null, .null, .null, .null, .null, .null, .int (nI 0), .null, .null, .int (nI 0)]))] := hD
  refine lv_aload_n hx hb dX0_init_18 rfl (lv_at hl 0 rfl) ?_
  refine lv_aload_n hx hb dX0_init_19 rfl (lv_at hl 0 rfl) ?_
  refine va_get (D := (dC, dI)) (ci := 0) (v := .int (nI N)) (C := RX0) (T := TX0) (N := 13) hx hb hts (by decide +kernel) hown hK hP 0 rfl rfl 0 (by decide) (hts (.fieldLink RX0 18 "MotionDesk" "nodeCount" "I") (by decide +kernel)) (fun _ h9 => h9) rfl dX0_init_20 ?_
  refine lv_iconst (v := (nI 3)) hx hb dX0_init_23 (by decide) ?_
  refine lv_imul hx hb dX0_init_24 ?_
  refine tp_i (y := nI (N * 3)) (pk_mul N 3) ?_
  refine lv_iconst (v := (nI 3)) hx hb dX0_init_25 (by decide) ?_
  refine lv_imul hx hb dX0_init_26 ?_
  refine tp_i (y := nI (N * 9)) (by rw [pk_mul, Nat.mul_assoc]) ?_
  refine va_newa (atype := .int) (a0 := ((N * 9), .inl (ini 0))) (N' := (N * 9)) (ty := .int) hx hb (hts (.arrayClass .int) (by decide +kernel)) rfl hK hP hD hS hA (fun _ => by rw [ini_z]; rfl) (nI_pos (by omega)) (nI_clamp (by omega)) (by show (N * 9) * 4 ≤ 536870912; omega) (Nat.le_of_ble_eq_true rfl) (show 0 + (N * 9) ≤ 4784 by omega) dX0_init_27 (fun a1 cB H hK hP hD hS => ?_)
  have eB : cB = cA := arr_one hK
  rw [eB] at hP hD
  have hK := hK.sub (tys' := [(cA, .int)]) [0] rfl
  replace hP : va_P (dC, dI) vwCl [(h0, .inr (0, [.int (nI N), .null, .int (nI 0), .null, .null, .null, .null, .null, .null, .int (nI 0), .null, .null, .int (nI 0)])), (a1, .inl (cA, (N * 9), .inl (ini 0)))] H := hP
  replace hD : va_D A [(h0, .inr (0, [.int (nI N), .null, .int (nI 0), .null, .null, .null, .null, .null, .null, .int (nI 0), .null, .null, .int (nI 0)])), (a1, .inl (cA, (N * 9), .inl (ini 0)))] := hD
  refine W.widen (k := 1) (n := 432) (by omega) (by omega) ?_
  refine va_putF (D := (dC, dI)) (ci := 0) (v := .ref a1) (ty := .array .int) (C := RX0) (T := TX0) (N := 13) hx hb hts (by decide +kernel) tyX0 tyX0_ok nmX0 hown hK hP hD hS 0 rfl rfl 1 (by decide) (hts (.fieldLink RX0 22 "MotionDesk" "values" "[I") (by decide +kernel)) (fun _ h9 => h9) rfl hin rfl (by decide +kernel) rfl rfl (Nat.le_of_ble_eq_true rfl) dX0_init_29 (fun H locs hP hD hS => ?_)
  replace hP : va_P (dC, dI) vwCl [(h0, .inr (0, [.int (nI N), .ref a1, .int (nI 0), .null, .null, .null, .null, .null, .null, .int (nI 0), .null, .null, .int (nI 0)])), (a1, .inl (cA, (N * 9), .inl (ini 0)))] H := hP
  replace hD : va_D A [(h0, .inr (0, [.int (nI N), .ref a1, .int (nI 0), .null, .null, .null, .null, .null, .null, .int (nI 0), .null, .null, .int (nI 0)])), (a1, .inl (cA, (N * 9), .inl (ini 0)))] := hD
  refine lv_iconst (v := (nI 0)) hx hb dX0_init_32 (by decide) ?_
  refine lv_istore_n (lv' := [(2, .int (nI 0)), (0, .ref h0), (1, .int x)]) hx hb dX0_init_33 rfl hl (by decide) rfl (fun ls hl => ?_)
  obtain ⟨n, k, hn, hP9, hD9, hl9⟩ : ∃ (n k : Nat), k + n = N ∧ va_P (dC, dI) vwCl [(h0, .inr (0, [.int (nI N), .ref a1, .int (nI 0), .null, .null, .null, .null, .null, .null, .int (nI 0), .null, .null, .int (nI 0)])), (a1, .inl (cA, (N * 9), .inl (ini k)))] H ∧ va_D A [(h0, .inr (0, [.int (nI N), .ref a1, .int (nI 0), .null, .null, .null, .null, .null, .null, .int (nI 0), .null, .null, .int (nI 0)])), (a1, .inl (cA, (N * 9), .inl (ini k)))] ∧ lv_has ls 4 [(2, .int (nI k)), (0, .ref h0), (1, .int x)] := ⟨N, 0, by omega, hP, hD, hl⟩
  clear hl hP hD; have hl := hl9; have hP := hP9; have hD := hD9; clear hl9 hP9 hD9
  induction n generalizing k ls H locs with
  | zero =>
    have t2 : (nI k).toInt = k := nI_toInt (by omega)
    refine lv_iload_n hx hb dX0_init_34 rfl (lv_at hl 0 rfl) ?_
    refine lv_aload_n hx hb dX0_init_35 rfl (lv_at hl 1 rfl) ?_
    refine va_get (D := (dC, dI)) (ci := 0) (v := .int (nI N)) (C := RX0) (T := TX0) (N := 13) hx hb hts (by decide +kernel) hown hK hP 0 rfl rfl 0 (by decide) (hts (.fieldLink RX0 18 "MotionDesk" "nodeCount" "I") (by decide +kernel)) (fun _ h9 => h9) rfl dX0_init_36 ?_
    refine lv_icmp_ge (tgt := 75) hx hb dX0_init_39 (by decide) (fun c1 => ?_) (fun c1 => ?_)
    · skip
      have c1 := zle c1
      refine lv_aload_n hx hb dX0_init_75 rfl (lv_at hl 1 rfl) ?_
      refine lv_bipush (v := (nI 32)) hx hb dX0_init_76 (by decide) ?_
      refine va_newa (atype := .int) (a0 := (32, .inl (fun _ => 0))) (N' := 32) (ty := .int) hx hb (hts (.arrayClass .int) (by decide +kernel)) rfl hK hP hD hS hA (fun _ => rfl) (nI_pos (by omega)) (nI_clamp (by omega)) (by show 32 * 4 ≤ 536870912; omega) (Nat.le_of_ble_eq_true rfl) (Nat.le_of_ble_eq_true rfl) dX0_init_78 (fun a2 cB H hK hP hD hS => ?_)
      have eB : cB = cA := arr_one hK
      rw [eB] at hP hD
      have hK := hK.sub (tys' := [(cA, .int)]) [0] rfl
      replace hP : va_P (dC, dI) vwCl [(h0, .inr (0, [.int (nI N), .ref a1, .int (nI 0), .null, .null, .null, .null, .null, .null, .int (nI 0), .null, .null, .int (nI 0)])), (a1, .inl (cA, (N * 9), .inl (ini k))), (a2, .inl (cA, 32, .inl (fun _ => 0)))] H := hP
      replace hD : va_D A [(h0, .inr (0, [.int (nI N), .ref a1, .int (nI 0), .null, .null, .null, .null, .null, .null, .int (nI 0), .null, .null, .int (nI 0)])), (a1, .inl (cA, (N * 9), .inl (ini k))), (a2, .inl (cA, 32, .inl (fun _ => 0)))] := hD
      refine W.widen (k := 2) (n := 464) (by omega) (by omega) ?_
      refine va_putF (D := (dC, dI)) (ci := 0) (v := .ref a2) (ty := .array .int) (C := RX0) (T := TX0) (N := 13) hx hb hts (by decide +kernel) tyX0 tyX0_ok nmX0 hown hK hP hD hS 0 rfl rfl 3 (by decide) (hts (.fieldLink RX0 30 "MotionDesk" "trackNode" "[I") (by decide +kernel)) (fun _ h9 => h9) rfl hin rfl (by decide +kernel) rfl rfl (Nat.le_of_ble_eq_true rfl) dX0_init_80 (fun H locs hP hD hS => ?_)
      replace hP : va_P (dC, dI) vwCl [(h0, .inr (0, [.int (nI N), .ref a1, .int (nI 0), .ref a2, .null, .null, .null, .null, .null, .int (nI 0), .null, .null, .int (nI 0)])), (a1, .inl (cA, (N * 9), .inl (ini k))), (a2, .inl (cA, 32, .inl (fun _ => 0)))] H := hP
      replace hD : va_D A [(h0, .inr (0, [.int (nI N), .ref a1, .int (nI 0), .ref a2, .null, .null, .null, .null, .null, .int (nI 0), .null, .null, .int (nI 0)])), (a1, .inl (cA, (N * 9), .inl (ini k))), (a2, .inl (cA, 32, .inl (fun _ => 0)))] := hD
      refine lv_aload_n hx hb dX0_init_83 rfl (lv_at hl 1 rfl) ?_
      refine lv_bipush (v := (nI 32)) hx hb dX0_init_84 (by decide) ?_
      refine va_newa (atype := .int) (a0 := (32, .inl (fun _ => 0))) (N' := 32) (ty := .int) hx hb (hts (.arrayClass .int) (by decide +kernel)) rfl hK hP hD hS hA (fun _ => rfl) (nI_pos (by omega)) (nI_clamp (by omega)) (by show 32 * 4 ≤ 536870912; omega) (Nat.le_of_ble_eq_true rfl) (Nat.le_of_ble_eq_true rfl) dX0_init_86 (fun a3 cB H hK hP hD hS => ?_)
      have eB : cB = cA := arr_one hK
      rw [eB] at hP hD
      have hK := hK.sub (tys' := [(cA, .int)]) [0] rfl
      replace hP : va_P (dC, dI) vwCl [(h0, .inr (0, [.int (nI N), .ref a1, .int (nI 0), .ref a2, .null, .null, .null, .null, .null, .int (nI 0), .null, .null, .int (nI 0)])), (a1, .inl (cA, (N * 9), .inl (ini k))), (a2, .inl (cA, 32, .inl (fun _ => 0))), (a3, .inl (cA, 32, .inl (fun _ => 0)))] H := hP
      replace hD : va_D A [(h0, .inr (0, [.int (nI N), .ref a1, .int (nI 0), .ref a2, .null, .null, .null, .null, .null, .int (nI 0), .null, .null, .int (nI 0)])), (a1, .inl (cA, (N * 9), .inl (ini k))), (a2, .inl (cA, 32, .inl (fun _ => 0))), (a3, .inl (cA, 32, .inl (fun _ => 0)))] := hD
      refine W.widen (k := 3) (n := 496) (by omega) (by omega) ?_
      refine va_putF (D := (dC, dI)) (ci := 0) (v := .ref a3) (ty := .array .int) (C := RX0) (T := TX0) (N := 13) hx hb hts (by decide +kernel) tyX0 tyX0_ok nmX0 hown hK hP hD hS 0 rfl rfl 4 (by decide) (hts (.fieldLink RX0 33 "MotionDesk" "trackWhat" "[I") (by decide +kernel)) (fun _ h9 => h9) rfl hin rfl (by decide +kernel) rfl rfl (Nat.le_of_ble_eq_true rfl) dX0_init_88 (fun H locs hP hD hS => ?_)
      replace hP : va_P (dC, dI) vwCl [(h0, .inr (0, [.int (nI N), .ref a1, .int (nI 0), .ref a2, .ref a3, .null, .null, .null, .null, .int (nI 0), .null, .null, .int (nI 0)])), (a1, .inl (cA, (N * 9), .inl (ini k))), (a2, .inl (cA, 32, .inl (fun _ => 0))), (a3, .inl (cA, 32, .inl (fun _ => 0)))] H := hP
      replace hD : va_D A [(h0, .inr (0, [.int (nI N), .ref a1, .int (nI 0), .ref a2, .ref a3, .null, .null, .null, .null, .int (nI 0), .null, .null, .int (nI 0)])), (a1, .inl (cA, (N * 9), .inl (ini k))), (a2, .inl (cA, 32, .inl (fun _ => 0))), (a3, .inl (cA, 32, .inl (fun _ => 0)))] := hD
      refine lv_aload_n hx hb dX0_init_91 rfl (lv_at hl 1 rfl) ?_
      refine lv_bipush (v := (nI 32)) hx hb dX0_init_92 (by decide) ?_
      refine va_newa (atype := .int) (a0 := (32, .inl (fun _ => 0))) (N' := 32) (ty := .int) hx hb (hts (.arrayClass .int) (by decide +kernel)) rfl hK hP hD hS hA (fun _ => rfl) (nI_pos (by omega)) (nI_clamp (by omega)) (by show 32 * 4 ≤ 536870912; omega) (Nat.le_of_ble_eq_true rfl) (Nat.le_of_ble_eq_true rfl) dX0_init_94 (fun a4 cB H hK hP hD hS => ?_)
      have eB : cB = cA := arr_one hK
      rw [eB] at hP hD
      have hK := hK.sub (tys' := [(cA, .int)]) [0] rfl
      replace hP : va_P (dC, dI) vwCl [(h0, .inr (0, [.int (nI N), .ref a1, .int (nI 0), .ref a2, .ref a3, .null, .null, .null, .null, .int (nI 0), .null, .null, .int (nI 0)])), (a1, .inl (cA, (N * 9), .inl (ini k))), (a2, .inl (cA, 32, .inl (fun _ => 0))), (a3, .inl (cA, 32, .inl (fun _ => 0))), (a4, .inl (cA, 32, .inl (fun _ => 0)))] H := hP
      replace hD : va_D A [(h0, .inr (0, [.int (nI N), .ref a1, .int (nI 0), .ref a2, .ref a3, .null, .null, .null, .null, .int (nI 0), .null, .null, .int (nI 0)])), (a1, .inl (cA, (N * 9), .inl (ini k))), (a2, .inl (cA, 32, .inl (fun _ => 0))), (a3, .inl (cA, 32, .inl (fun _ => 0))), (a4, .inl (cA, 32, .inl (fun _ => 0)))] := hD
      refine W.widen (k := 4) (n := 528) (by omega) (by omega) ?_
      refine va_putF (D := (dC, dI)) (ci := 0) (v := .ref a4) (ty := .array .int) (C := RX0) (T := TX0) (N := 13) hx hb hts (by decide +kernel) tyX0 tyX0_ok nmX0 hown hK hP hD hS 0 rfl rfl 5 (by decide) (hts (.fieldLink RX0 36 "MotionDesk" "trackHow" "[I") (by decide +kernel)) (fun _ h9 => h9) rfl hin rfl (by decide +kernel) rfl rfl (Nat.le_of_ble_eq_true rfl) dX0_init_96 (fun H locs hP hD hS => ?_)
      replace hP : va_P (dC, dI) vwCl [(h0, .inr (0, [.int (nI N), .ref a1, .int (nI 0), .ref a2, .ref a3, .ref a4, .null, .null, .null, .int (nI 0), .null, .null, .int (nI 0)])), (a1, .inl (cA, (N * 9), .inl (ini k))), (a2, .inl (cA, 32, .inl (fun _ => 0))), (a3, .inl (cA, 32, .inl (fun _ => 0))), (a4, .inl (cA, 32, .inl (fun _ => 0)))] H := hP
      replace hD : va_D A [(h0, .inr (0, [.int (nI N), .ref a1, .int (nI 0), .ref a2, .ref a3, .ref a4, .null, .null, .null, .int (nI 0), .null, .null, .int (nI 0)])), (a1, .inl (cA, (N * 9), .inl (ini k))), (a2, .inl (cA, 32, .inl (fun _ => 0))), (a3, .inl (cA, 32, .inl (fun _ => 0))), (a4, .inl (cA, 32, .inl (fun _ => 0)))] := hD
      refine lv_aload_n hx hb dX0_init_99 rfl (lv_at hl 1 rfl) ?_
      refine lv_bipush (v := (nI 32)) hx hb dX0_init_100 (by decide) ?_
      refine va_newa (atype := .int) (a0 := (32, .inl (fun _ => 0))) (N' := 32) (ty := .int) hx hb (hts (.arrayClass .int) (by decide +kernel)) rfl hK hP hD hS hA (fun _ => rfl) (nI_pos (by omega)) (nI_clamp (by omega)) (by show 32 * 4 ≤ 536870912; omega) (Nat.le_of_ble_eq_true rfl) (Nat.le_of_ble_eq_true rfl) dX0_init_102 (fun a5 cB H hK hP hD hS => ?_)
      have eB : cB = cA := arr_one hK
      rw [eB] at hP hD
      have hK := hK.sub (tys' := [(cA, .int)]) [0] rfl
      replace hP : va_P (dC, dI) vwCl [(h0, .inr (0, [.int (nI N), .ref a1, .int (nI 0), .ref a2, .ref a3, .ref a4, .null, .null, .null, .int (nI 0), .null, .null, .int (nI 0)])), (a1, .inl (cA, (N * 9), .inl (ini k))), (a2, .inl (cA, 32, .inl (fun _ => 0))), (a3, .inl (cA, 32, .inl (fun _ => 0))), (a4, .inl (cA, 32, .inl (fun _ => 0))), (a5, .inl (cA, 32, .inl (fun _ => 0)))] H := hP
      replace hD : va_D A [(h0, .inr (0, [.int (nI N), .ref a1, .int (nI 0), .ref a2, .ref a3, .ref a4, .null, .null, .null, .int (nI 0), .null, .null, .int (nI 0)])), (a1, .inl (cA, (N * 9), .inl (ini k))), (a2, .inl (cA, 32, .inl (fun _ => 0))), (a3, .inl (cA, 32, .inl (fun _ => 0))), (a4, .inl (cA, 32, .inl (fun _ => 0))), (a5, .inl (cA, 32, .inl (fun _ => 0)))] := hD
      refine W.widen (k := 5) (n := 560) (by omega) (by omega) ?_
      refine va_putF (D := (dC, dI)) (ci := 0) (v := .ref a5) (ty := .array .int) (C := RX0) (T := TX0) (N := 13) hx hb hts (by decide +kernel) tyX0 tyX0_ok nmX0 hown hK hP hD hS 0 rfl rfl 6 (by decide) (hts (.fieldLink RX0 39 "MotionDesk" "trackKeys" "[I") (by decide +kernel)) (fun _ h9 => h9) rfl hin rfl (by decide +kernel) rfl rfl (Nat.le_of_ble_eq_true rfl) dX0_init_104 (fun H locs hP hD hS => ?_)
      replace hP : va_P (dC, dI) vwCl [(h0, .inr (0, [.int (nI N), .ref a1, .int (nI 0), .ref a2, .ref a3, .ref a4, .ref a5, .null, .null, .int (nI 0), .null, .null, .int (nI 0)])), (a1, .inl (cA, (N * 9), .inl (ini k))), (a2, .inl (cA, 32, .inl (fun _ => 0))), (a3, .inl (cA, 32, .inl (fun _ => 0))), (a4, .inl (cA, 32, .inl (fun _ => 0))), (a5, .inl (cA, 32, .inl (fun _ => 0)))] H := hP
      replace hD : va_D A [(h0, .inr (0, [.int (nI N), .ref a1, .int (nI 0), .ref a2, .ref a3, .ref a4, .ref a5, .null, .null, .int (nI 0), .null, .null, .int (nI 0)])), (a1, .inl (cA, (N * 9), .inl (ini k))), (a2, .inl (cA, 32, .inl (fun _ => 0))), (a3, .inl (cA, 32, .inl (fun _ => 0))), (a4, .inl (cA, 32, .inl (fun _ => 0))), (a5, .inl (cA, 32, .inl (fun _ => 0)))] := hD
      refine lv_aload_n hx hb dX0_init_107 rfl (lv_at hl 1 rfl) ?_
      refine lv_sipush (v := (nI 1024)) hx hb dX0_init_108 (by decide) ?_
      refine va_newa (atype := .int) (a0 := (1024, .inl (fun _ => 0))) (N' := 1024) (ty := .int) hx hb (hts (.arrayClass .int) (by decide +kernel)) rfl hK hP hD hS hA (fun _ => rfl) (nI_pos (by omega)) (nI_clamp (by omega)) (by show 1024 * 4 ≤ 536870912; omega) (Nat.le_of_ble_eq_true rfl) (Nat.le_of_ble_eq_true rfl) dX0_init_111 (fun a6 cB H hK hP hD hS => ?_)
      have eB : cB = cA := arr_one hK
      rw [eB] at hP hD
      have hK := hK.sub (tys' := [(cA, .int)]) [0] rfl
      replace hP : va_P (dC, dI) vwCl [(h0, .inr (0, [.int (nI N), .ref a1, .int (nI 0), .ref a2, .ref a3, .ref a4, .ref a5, .null, .null, .int (nI 0), .null, .null, .int (nI 0)])), (a1, .inl (cA, (N * 9), .inl (ini k))), (a2, .inl (cA, 32, .inl (fun _ => 0))), (a3, .inl (cA, 32, .inl (fun _ => 0))), (a4, .inl (cA, 32, .inl (fun _ => 0))), (a5, .inl (cA, 32, .inl (fun _ => 0))), (a6, .inl (cA, 1024, .inl (fun _ => 0)))] H := hP
      replace hD : va_D A [(h0, .inr (0, [.int (nI N), .ref a1, .int (nI 0), .ref a2, .ref a3, .ref a4, .ref a5, .null, .null, .int (nI 0), .null, .null, .int (nI 0)])), (a1, .inl (cA, (N * 9), .inl (ini k))), (a2, .inl (cA, 32, .inl (fun _ => 0))), (a3, .inl (cA, 32, .inl (fun _ => 0))), (a4, .inl (cA, 32, .inl (fun _ => 0))), (a5, .inl (cA, 32, .inl (fun _ => 0))), (a6, .inl (cA, 1024, .inl (fun _ => 0)))] := hD
      refine W.widen (k := 6) (n := 1584) (by omega) (by omega) ?_
      refine va_putF (D := (dC, dI)) (ci := 0) (v := .ref a6) (ty := .array .int) (C := RX0) (T := TX0) (N := 13) hx hb hts (by decide +kernel) tyX0 tyX0_ok nmX0 hown hK hP hD hS 0 rfl rfl 7 (by decide) (hts (.fieldLink RX0 42 "MotionDesk" "keyTimes" "[I") (by decide +kernel)) (fun _ h9 => h9) rfl hin rfl (by decide +kernel) rfl rfl (Nat.le_of_ble_eq_true rfl) dX0_init_113 (fun H locs hP hD hS => ?_)
      replace hP : va_P (dC, dI) vwCl [(h0, .inr (0, [.int (nI N), .ref a1, .int (nI 0), .ref a2, .ref a3, .ref a4, .ref a5, .ref a6, .null, .int (nI 0), .null, .null, .int (nI 0)])), (a1, .inl (cA, (N * 9), .inl (ini k))), (a2, .inl (cA, 32, .inl (fun _ => 0))), (a3, .inl (cA, 32, .inl (fun _ => 0))), (a4, .inl (cA, 32, .inl (fun _ => 0))), (a5, .inl (cA, 32, .inl (fun _ => 0))), (a6, .inl (cA, 1024, .inl (fun _ => 0)))] H := hP
      replace hD : va_D A [(h0, .inr (0, [.int (nI N), .ref a1, .int (nI 0), .ref a2, .ref a3, .ref a4, .ref a5, .ref a6, .null, .int (nI 0), .null, .null, .int (nI 0)])), (a1, .inl (cA, (N * 9), .inl (ini k))), (a2, .inl (cA, 32, .inl (fun _ => 0))), (a3, .inl (cA, 32, .inl (fun _ => 0))), (a4, .inl (cA, 32, .inl (fun _ => 0))), (a5, .inl (cA, 32, .inl (fun _ => 0))), (a6, .inl (cA, 1024, .inl (fun _ => 0)))] := hD
      refine lv_aload_n hx hb dX0_init_116 rfl (lv_at hl 1 rfl) ?_
      refine lv_sipush (v := (nI 3072)) hx hb dX0_init_117 (by decide) ?_
      refine va_newa (atype := .int) (a0 := (3072, .inl (fun _ => 0))) (N' := 3072) (ty := .int) hx hb (hts (.arrayClass .int) (by decide +kernel)) rfl hK hP hD hS hA (fun _ => rfl) (nI_pos (by omega)) (nI_clamp (by omega)) (by show 3072 * 4 ≤ 536870912; omega) (Nat.le_of_ble_eq_true rfl) (Nat.le_of_ble_eq_true rfl) dX0_init_120 (fun a7 cB H hK hP hD hS => ?_)
      have eB : cB = cA := arr_one hK
      rw [eB] at hP hD
      have hK := hK.sub (tys' := [(cA, .int)]) [0] rfl
      replace hP : va_P (dC, dI) vwCl [(h0, .inr (0, [.int (nI N), .ref a1, .int (nI 0), .ref a2, .ref a3, .ref a4, .ref a5, .ref a6, .null, .int (nI 0), .null, .null, .int (nI 0)])), (a1, .inl (cA, (N * 9), .inl (ini k))), (a2, .inl (cA, 32, .inl (fun _ => 0))), (a3, .inl (cA, 32, .inl (fun _ => 0))), (a4, .inl (cA, 32, .inl (fun _ => 0))), (a5, .inl (cA, 32, .inl (fun _ => 0))), (a6, .inl (cA, 1024, .inl (fun _ => 0))), (a7, .inl (cA, 3072, .inl (fun _ => 0)))] H := hP
      replace hD : va_D A [(h0, .inr (0, [.int (nI N), .ref a1, .int (nI 0), .ref a2, .ref a3, .ref a4, .ref a5, .ref a6, .null, .int (nI 0), .null, .null, .int (nI 0)])), (a1, .inl (cA, (N * 9), .inl (ini k))), (a2, .inl (cA, 32, .inl (fun _ => 0))), (a3, .inl (cA, 32, .inl (fun _ => 0))), (a4, .inl (cA, 32, .inl (fun _ => 0))), (a5, .inl (cA, 32, .inl (fun _ => 0))), (a6, .inl (cA, 1024, .inl (fun _ => 0))), (a7, .inl (cA, 3072, .inl (fun _ => 0)))] := hD
      refine W.widen (k := 7) (n := 4656) (by omega) (by omega) ?_
      refine va_putF (D := (dC, dI)) (ci := 0) (v := .ref a7) (ty := .array .int) (C := RX0) (T := TX0) (N := 13) hx hb hts (by decide +kernel) tyX0 tyX0_ok nmX0 hown hK hP hD hS 0 rfl rfl 8 (by decide) (hts (.fieldLink RX0 45 "MotionDesk" "keyNumbers" "[I") (by decide +kernel)) (fun _ h9 => h9) rfl hin rfl (by decide +kernel) rfl rfl (Nat.le_of_ble_eq_true rfl) dX0_init_122 (fun H locs hP hD hS => ?_)
      replace hP : va_P (dC, dI) vwCl [(h0, .inr (0, [.int (nI N), .ref a1, .int (nI 0), .ref a2, .ref a3, .ref a4, .ref a5, .ref a6, .ref a7, .int (nI 0), .null, .null, .int (nI 0)])), (a1, .inl (cA, (N * 9), .inl (ini k))), (a2, .inl (cA, 32, .inl (fun _ => 0))), (a3, .inl (cA, 32, .inl (fun _ => 0))), (a4, .inl (cA, 32, .inl (fun _ => 0))), (a5, .inl (cA, 32, .inl (fun _ => 0))), (a6, .inl (cA, 1024, .inl (fun _ => 0))), (a7, .inl (cA, 3072, .inl (fun _ => 0)))] H := hP
      replace hD : va_D A [(h0, .inr (0, [.int (nI N), .ref a1, .int (nI 0), .ref a2, .ref a3, .ref a4, .ref a5, .ref a6, .ref a7, .int (nI 0), .null, .null, .int (nI 0)])), (a1, .inl (cA, (N * 9), .inl (ini k))), (a2, .inl (cA, 32, .inl (fun _ => 0))), (a3, .inl (cA, 32, .inl (fun _ => 0))), (a4, .inl (cA, 32, .inl (fun _ => 0))), (a5, .inl (cA, 32, .inl (fun _ => 0))), (a6, .inl (cA, 1024, .inl (fun _ => 0))), (a7, .inl (cA, 3072, .inl (fun _ => 0)))] := hD
      refine lv_aload_n hx hb dX0_init_125 rfl (lv_at hl 1 rfl) ?_
      refine lv_bipush (v := (nI 32)) hx hb dX0_init_126 (by decide) ?_
      refine va_newa (atype := .int) (a0 := (32, .inl (fun _ => 0))) (N' := 32) (ty := .int) hx hb (hts (.arrayClass .int) (by decide +kernel)) rfl hK hP hD hS hA (fun _ => rfl) (nI_pos (by omega)) (nI_clamp (by omega)) (by show 32 * 4 ≤ 536870912; omega) (Nat.le_of_ble_eq_true rfl) (Nat.le_of_ble_eq_true rfl) dX0_init_128 (fun a8 cB H hK hP hD hS => ?_)
      have eB : cB = cA := arr_one hK
      rw [eB] at hP hD
      have hK := hK.sub (tys' := [(cA, .int)]) [0] rfl
      replace hP : va_P (dC, dI) vwCl [(h0, .inr (0, [.int (nI N), .ref a1, .int (nI 0), .ref a2, .ref a3, .ref a4, .ref a5, .ref a6, .ref a7, .int (nI 0), .null, .null, .int (nI 0)])), (a1, .inl (cA, (N * 9), .inl (ini k))), (a2, .inl (cA, 32, .inl (fun _ => 0))), (a3, .inl (cA, 32, .inl (fun _ => 0))), (a4, .inl (cA, 32, .inl (fun _ => 0))), (a5, .inl (cA, 32, .inl (fun _ => 0))), (a6, .inl (cA, 1024, .inl (fun _ => 0))), (a7, .inl (cA, 3072, .inl (fun _ => 0))), (a8, .inl (cA, 32, .inl (fun _ => 0)))] H := hP
      replace hD : va_D A [(h0, .inr (0, [.int (nI N), .ref a1, .int (nI 0), .ref a2, .ref a3, .ref a4, .ref a5, .ref a6, .ref a7, .int (nI 0), .null, .null, .int (nI 0)])), (a1, .inl (cA, (N * 9), .inl (ini k))), (a2, .inl (cA, 32, .inl (fun _ => 0))), (a3, .inl (cA, 32, .inl (fun _ => 0))), (a4, .inl (cA, 32, .inl (fun _ => 0))), (a5, .inl (cA, 32, .inl (fun _ => 0))), (a6, .inl (cA, 1024, .inl (fun _ => 0))), (a7, .inl (cA, 3072, .inl (fun _ => 0))), (a8, .inl (cA, 32, .inl (fun _ => 0)))] := hD
      refine W.widen (k := 8) (n := 4688) (by omega) (by omega) ?_
      refine va_putF (D := (dC, dI)) (ci := 0) (v := .ref a8) (ty := .array .int) (C := RX0) (T := TX0) (N := 13) hx hb hts (by decide +kernel) tyX0 tyX0_ok nmX0 hown hK hP hD hS 0 rfl rfl 10 (by decide) (hts (.fieldLink RX0 48 "MotionDesk" "textTimes" "[I") (by decide +kernel)) (fun _ h9 => h9) rfl hin rfl (by decide +kernel) rfl rfl (Nat.le_of_ble_eq_true rfl) dX0_init_130 (fun H locs hP hD hS => ?_)
      replace hP : va_P (dC, dI) vwCl [(h0, .inr (0, [.int (nI N), .ref a1, .int (nI 0), .ref a2, .ref a3, .ref a4, .ref a5, .ref a6, .ref a7, .int (nI 0), .ref a8, .null, .int (nI 0)])), (a1, .inl (cA, (N * 9), .inl (ini k))), (a2, .inl (cA, 32, .inl (fun _ => 0))), (a3, .inl (cA, 32, .inl (fun _ => 0))), (a4, .inl (cA, 32, .inl (fun _ => 0))), (a5, .inl (cA, 32, .inl (fun _ => 0))), (a6, .inl (cA, 1024, .inl (fun _ => 0))), (a7, .inl (cA, 3072, .inl (fun _ => 0))), (a8, .inl (cA, 32, .inl (fun _ => 0)))] H := hP
      replace hD : va_D A [(h0, .inr (0, [.int (nI N), .ref a1, .int (nI 0), .ref a2, .ref a3, .ref a4, .ref a5, .ref a6, .ref a7, .int (nI 0), .ref a8, .null, .int (nI 0)])), (a1, .inl (cA, (N * 9), .inl (ini k))), (a2, .inl (cA, 32, .inl (fun _ => 0))), (a3, .inl (cA, 32, .inl (fun _ => 0))), (a4, .inl (cA, 32, .inl (fun _ => 0))), (a5, .inl (cA, 32, .inl (fun _ => 0))), (a6, .inl (cA, 1024, .inl (fun _ => 0))), (a7, .inl (cA, 3072, .inl (fun _ => 0))), (a8, .inl (cA, 32, .inl (fun _ => 0)))] := hD
      refine lv_aload_n hx hb dX0_init_133 rfl (lv_at hl 1 rfl) ?_
      refine lv_bipush (v := (nI 96)) hx hb dX0_init_134 (by decide) ?_
      refine va_newa (atype := .int) (a0 := (96, .inl (fun _ => 0))) (N' := 96) (ty := .int) hx hb (hts (.arrayClass .int) (by decide +kernel)) rfl hK hP hD hS hA (fun _ => rfl) (nI_pos (by omega)) (nI_clamp (by omega)) (by show 96 * 4 ≤ 536870912; omega) (Nat.le_of_ble_eq_true rfl) (Nat.le_of_ble_eq_true rfl) dX0_init_136 (fun a9 cB H hK hP hD hS => ?_)
      have eB : cB = cA := arr_one hK
      rw [eB] at hP hD
      have hK := hK.sub (tys' := [(cA, .int)]) [0] rfl
      replace hP : va_P (dC, dI) vwCl [(h0, .inr (0, [.int (nI N), .ref a1, .int (nI 0), .ref a2, .ref a3, .ref a4, .ref a5, .ref a6, .ref a7, .int (nI 0), .ref a8, .null, .int (nI 0)])), (a1, .inl (cA, (N * 9), .inl (ini k))), (a2, .inl (cA, 32, .inl (fun _ => 0))), (a3, .inl (cA, 32, .inl (fun _ => 0))), (a4, .inl (cA, 32, .inl (fun _ => 0))), (a5, .inl (cA, 32, .inl (fun _ => 0))), (a6, .inl (cA, 1024, .inl (fun _ => 0))), (a7, .inl (cA, 3072, .inl (fun _ => 0))), (a8, .inl (cA, 32, .inl (fun _ => 0))), (a9, .inl (cA, 96, .inl (fun _ => 0)))] H := hP
      replace hD : va_D A [(h0, .inr (0, [.int (nI N), .ref a1, .int (nI 0), .ref a2, .ref a3, .ref a4, .ref a5, .ref a6, .ref a7, .int (nI 0), .ref a8, .null, .int (nI 0)])), (a1, .inl (cA, (N * 9), .inl (ini k))), (a2, .inl (cA, 32, .inl (fun _ => 0))), (a3, .inl (cA, 32, .inl (fun _ => 0))), (a4, .inl (cA, 32, .inl (fun _ => 0))), (a5, .inl (cA, 32, .inl (fun _ => 0))), (a6, .inl (cA, 1024, .inl (fun _ => 0))), (a7, .inl (cA, 3072, .inl (fun _ => 0))), (a8, .inl (cA, 32, .inl (fun _ => 0))), (a9, .inl (cA, 96, .inl (fun _ => 0)))] := hD
      refine W.widen (k := 9) (n := 4784) (by omega) (by omega) ?_
      refine va_putF (D := (dC, dI)) (ci := 0) (v := .ref a9) (ty := .array .int) (C := RX0) (T := TX0) (N := 13) hx hb hts (by decide +kernel) tyX0 tyX0_ok nmX0 hown hK hP hD hS 0 rfl rfl 11 (by decide) (hts (.fieldLink RX0 51 "MotionDesk" "textNumbers" "[I") (by decide +kernel)) (fun _ h9 => h9) rfl hin rfl (by decide +kernel) rfl rfl (Nat.le_of_ble_eq_true rfl) dX0_init_138 (fun H locs hP hD hS => ?_)
      replace hP : va_P (dC, dI) vwCl [(h0, .inr (0, [.int (nI N), .ref a1, .int (nI 0), .ref a2, .ref a3, .ref a4, .ref a5, .ref a6, .ref a7, .int (nI 0), .ref a8, .ref a9, .int (nI 0)])), (a1, .inl (cA, (N * 9), .inl (ini k))), (a2, .inl (cA, 32, .inl (fun _ => 0))), (a3, .inl (cA, 32, .inl (fun _ => 0))), (a4, .inl (cA, 32, .inl (fun _ => 0))), (a5, .inl (cA, 32, .inl (fun _ => 0))), (a6, .inl (cA, 1024, .inl (fun _ => 0))), (a7, .inl (cA, 3072, .inl (fun _ => 0))), (a8, .inl (cA, 32, .inl (fun _ => 0))), (a9, .inl (cA, 96, .inl (fun _ => 0)))] H := hP
      replace hD : va_D A [(h0, .inr (0, [.int (nI N), .ref a1, .int (nI 0), .ref a2, .ref a3, .ref a4, .ref a5, .ref a6, .ref a7, .int (nI 0), .ref a8, .ref a9, .int (nI 0)])), (a1, .inl (cA, (N * 9), .inl (ini k))), (a2, .inl (cA, 32, .inl (fun _ => 0))), (a3, .inl (cA, 32, .inl (fun _ => 0))), (a4, .inl (cA, 32, .inl (fun _ => 0))), (a5, .inl (cA, 32, .inl (fun _ => 0))), (a6, .inl (cA, 1024, .inl (fun _ => 0))), (a7, .inl (cA, 3072, .inl (fun _ => 0))), (a8, .inl (cA, 32, .inl (fun _ => 0))), (a9, .inl (cA, 96, .inl (fun _ => 0)))] := hD
      refine W.widen (k := 9) (n := 4784) (by omega) (by omega) ?_
      obtain rfl : k = N := by omega
      exact W.vret hx hb hr (fun t9 ht9 hW9 => ⟨⟨(), rfl, trivial, a1, a2, a3, a4, a5, a6, a7, a8, a9, by rw [ht9]; exact hP, va_K.moved hW9.alike hK, hD⟩, hS.F ht9⟩) hS.2.2 dX0_init_141
    · skip
      have c1 := znle c1
      exfalso; omega
  | succ n ih =>
    have t2 : (nI k).toInt = k := nI_toInt (by omega)
    refine lv_iload_n hx hb dX0_init_34 rfl (lv_at hl 0 rfl) ?_
    refine lv_aload_n hx hb dX0_init_35 rfl (lv_at hl 1 rfl) ?_
    refine va_get (D := (dC, dI)) (ci := 0) (v := .int (nI N)) (C := RX0) (T := TX0) (N := 13) hx hb hts (by decide +kernel) hown hK hP 0 rfl rfl 0 (by decide) (hts (.fieldLink RX0 18 "MotionDesk" "nodeCount" "I") (by decide +kernel)) (fun _ h9 => h9) rfl dX0_init_36 ?_
    refine lv_icmp_ge (tgt := 75) hx hb dX0_init_39 (by decide) (fun c2 => ?_) (fun c2 => ?_)
    · skip
      have c2 := zle c2
      exfalso; omega
    · skip
      have c2 := znle c2
      refine lv_iconst (v := (nI 0)) hx hb dX0_init_42 (by decide) ?_
      refine lv_istore_n (lv' := [(3, .int (nI 0)), (2, .int (nI k)), (0, .ref h0), (1, .int x)]) hx hb dX0_init_43 rfl hl (by decide) rfl (fun ls hl => ?_)
      refine lv_iload_n hx hb dX0_init_44 rfl (lv_at hl 0 rfl) ?_
      refine lv_iconst (v := (nI 3)) hx hb dX0_init_45 (by decide) ?_
      refine lv_icmp_ge (tgt := 69) hx hb dX0_init_46 (by decide) (fun c3 => ?_) (fun c3 => ?_)
      · skip
        have c3 := c3
        exact absurd c3 (by decide)
      · skip
        have c3 := c3
        refine lv_aload_n hx hb dX0_init_49 rfl (lv_at hl 2 rfl) ?_
        refine va_get (D := (dC, dI)) (ci := 0) (v := .ref a1) (C := RX0) (T := TX0) (N := 13) hx hb hts (by decide +kernel) hown hK hP 0 rfl rfl 1 (by decide) (hts (.fieldLink RX0 22 "MotionDesk" "values" "[I") (by decide +kernel)) (fun _ h9 => h9) rfl dX0_init_50 ?_
        refine lv_iload_n hx hb dX0_init_53 rfl (lv_at hl 1 rfl) ?_
        refine lv_iconst (v := (nI 2)) hx hb dX0_init_54 (by decide) ?_
        refine vp_callSi (W.runS (As := [.int (nI k), .int (nI 2)]) (rest := [.ref a1]) ⟨hx, hb, hml, hown, hts⟩ (cx_placeOf l k 2) (va_cwS 2 hts gX0_init_X0_placeOf rfl rfl rfl (by decide +kernel) ⟨Nat.le_of_ble_eq_true rfl, Nat.le_of_ble_eq_true rfl⟩) preEq rfl rfl hl.1 rfl (lv_room (Nat.le_of_ble_eq_true rfl)) dX0_init_55 ⟨Nat.le_of_ble_eq_true rfl, Nat.le_of_ble_eq_true rfl⟩) (fun r4 h_r4 => ?_)
        refine tp_i (y := nI ((k * 3 + 2) * 3)) (h_r4) ?_
        refine lv_iload_n hx hb dX0_init_58 rfl (lv_at hl 0 rfl) ?_
        refine lv_iadd hx hb dX0_init_59 ?_
        refine tp_i (y := nI ((k * 3 + 2) * 3 + 0)) (nI_add _ _) ?_
        refine lv_ldc (v := 65536) hx hb hown (hts (.constant RX0 29 65536) (by decide +kernel)) dX0_init_60 ?_
        refine va_iast hx hb hK hP hD hS 1 0 rfl rfl (vp_in_nI (by omega) (by omega)) dX0_init_62 (fun H locs hP hD hS => ?_)
        rw [nI_clamp (show (k * 3 + 2) * 3 + 0 < 2 ^ 31 by omega)] at hP hD
        replace hP : va_P (dC, dI) vwCl [(h0, .inr (0, [.int (nI N), .ref a1, .int (nI 0), .null, .null, .null, .null, .null, .null, .int (nI 0), .null, .null, .int (nI 0)])), (a1, .inl (cA, (N * 9), .inl (upd (ini k) ((k * 3 + 2) * 3 + 0) 65536)))] H := hP
        replace hD : va_D A [(h0, .inr (0, [.int (nI N), .ref a1, .int (nI 0), .null, .null, .null, .null, .null, .null, .int (nI 0), .null, .null, .int (nI 0)])), (a1, .inl (cA, (N * 9), .inl (upd (ini k) ((k * 3 + 2) * 3 + 0) 65536)))] := hD
        refine lv_iinc (v := nI 1) (lv' := [(3, .int (nI 1)), (2, .int (nI k)), (0, .ref h0), (1, .int x)]) hx hb dX0_init_63 hl (k := 0) rfl (by decide) (by decide) rfl (fun ls hl => ?_)
        refine lv_goto (tgt := 44) hx hb dX0_init_66 (by decide) ?_
        refine lv_iload_n hx hb dX0_init_44 rfl (lv_at hl 0 rfl) ?_
        refine lv_iconst (v := (nI 3)) hx hb dX0_init_45 (by decide) ?_
        refine lv_icmp_ge (tgt := 69) hx hb dX0_init_46 (by decide) (fun c5 => ?_) (fun c5 => ?_)
        · skip
          have c5 := c5
          exact absurd c5 (by decide)
        · skip
          have c5 := c5
          refine lv_aload_n hx hb dX0_init_49 rfl (lv_at hl 2 rfl) ?_
          refine va_get (D := (dC, dI)) (ci := 0) (v := .ref a1) (C := RX0) (T := TX0) (N := 13) hx hb hts (by decide +kernel) hown hK hP 0 rfl rfl 1 (by decide) (hts (.fieldLink RX0 22 "MotionDesk" "values" "[I") (by decide +kernel)) (fun _ h9 => h9) rfl dX0_init_50 ?_
          refine lv_iload_n hx hb dX0_init_53 rfl (lv_at hl 1 rfl) ?_
          refine lv_iconst (v := (nI 2)) hx hb dX0_init_54 (by decide) ?_
          refine vp_callSi (W.runS (As := [.int (nI k), .int (nI 2)]) (rest := [.ref a1]) ⟨hx, hb, hml, hown, hts⟩ (cx_placeOf l k 2) (va_cwS 2 hts gX0_init_X0_placeOf rfl rfl rfl (by decide +kernel) ⟨Nat.le_of_ble_eq_true rfl, Nat.le_of_ble_eq_true rfl⟩) preEq rfl rfl hl.1 rfl (lv_room (Nat.le_of_ble_eq_true rfl)) dX0_init_55 ⟨Nat.le_of_ble_eq_true rfl, Nat.le_of_ble_eq_true rfl⟩) (fun r6 h_r6 => ?_)
          refine tp_i (y := nI ((k * 3 + 2) * 3)) (h_r6) ?_
          refine lv_iload_n hx hb dX0_init_58 rfl (lv_at hl 0 rfl) ?_
          refine lv_iadd hx hb dX0_init_59 ?_
          refine tp_i (y := nI ((k * 3 + 2) * 3 + 1)) (nI_add _ _) ?_
          refine lv_ldc (v := 65536) hx hb hown (hts (.constant RX0 29 65536) (by decide +kernel)) dX0_init_60 ?_
          refine va_iast hx hb hK hP hD hS 1 0 rfl rfl (vp_in_nI (by omega) (by omega)) dX0_init_62 (fun H locs hP hD hS => ?_)
          rw [nI_clamp (show (k * 3 + 2) * 3 + 1 < 2 ^ 31 by omega)] at hP hD
          replace hP : va_P (dC, dI) vwCl [(h0, .inr (0, [.int (nI N), .ref a1, .int (nI 0), .null, .null, .null, .null, .null, .null, .int (nI 0), .null, .null, .int (nI 0)])), (a1, .inl (cA, (N * 9), .inl (upd (upd (ini k) ((k * 3 + 2) * 3 + 0) 65536) ((k * 3 + 2) * 3 + 1) 65536)))] H := hP
          replace hD : va_D A [(h0, .inr (0, [.int (nI N), .ref a1, .int (nI 0), .null, .null, .null, .null, .null, .null, .int (nI 0), .null, .null, .int (nI 0)])), (a1, .inl (cA, (N * 9), .inl (upd (upd (ini k) ((k * 3 + 2) * 3 + 0) 65536) ((k * 3 + 2) * 3 + 1) 65536)))] := hD
          refine lv_iinc (v := nI 2) (lv' := [(3, .int (nI 2)), (2, .int (nI k)), (0, .ref h0), (1, .int x)]) hx hb dX0_init_63 hl (k := 0) rfl (by decide) (by decide) rfl (fun ls hl => ?_)
          refine lv_goto (tgt := 44) hx hb dX0_init_66 (by decide) ?_
          refine lv_iload_n hx hb dX0_init_44 rfl (lv_at hl 0 rfl) ?_
          refine lv_iconst (v := (nI 3)) hx hb dX0_init_45 (by decide) ?_
          refine lv_icmp_ge (tgt := 69) hx hb dX0_init_46 (by decide) (fun c7 => ?_) (fun c7 => ?_)
          · skip
            have c7 := c7
            exact absurd c7 (by decide)
          · skip
            have c7 := c7
            refine lv_aload_n hx hb dX0_init_49 rfl (lv_at hl 2 rfl) ?_
            refine va_get (D := (dC, dI)) (ci := 0) (v := .ref a1) (C := RX0) (T := TX0) (N := 13) hx hb hts (by decide +kernel) hown hK hP 0 rfl rfl 1 (by decide) (hts (.fieldLink RX0 22 "MotionDesk" "values" "[I") (by decide +kernel)) (fun _ h9 => h9) rfl dX0_init_50 ?_
            refine lv_iload_n hx hb dX0_init_53 rfl (lv_at hl 1 rfl) ?_
            refine lv_iconst (v := (nI 2)) hx hb dX0_init_54 (by decide) ?_
            refine vp_callSi (W.runS (As := [.int (nI k), .int (nI 2)]) (rest := [.ref a1]) ⟨hx, hb, hml, hown, hts⟩ (cx_placeOf l k 2) (va_cwS 2 hts gX0_init_X0_placeOf rfl rfl rfl (by decide +kernel) ⟨Nat.le_of_ble_eq_true rfl, Nat.le_of_ble_eq_true rfl⟩) preEq rfl rfl hl.1 rfl (lv_room (Nat.le_of_ble_eq_true rfl)) dX0_init_55 ⟨Nat.le_of_ble_eq_true rfl, Nat.le_of_ble_eq_true rfl⟩) (fun r8 h_r8 => ?_)
            refine tp_i (y := nI ((k * 3 + 2) * 3)) (h_r8) ?_
            refine lv_iload_n hx hb dX0_init_58 rfl (lv_at hl 0 rfl) ?_
            refine lv_iadd hx hb dX0_init_59 ?_
            refine tp_i (y := nI ((k * 3 + 2) * 3 + 2)) (nI_add _ _) ?_
            refine lv_ldc (v := 65536) hx hb hown (hts (.constant RX0 29 65536) (by decide +kernel)) dX0_init_60 ?_
            refine va_iast hx hb hK hP hD hS 1 0 rfl rfl (vp_in_nI (by omega) (by omega)) dX0_init_62 (fun H locs hP hD hS => ?_)
            rw [nI_clamp (show (k * 3 + 2) * 3 + 2 < 2 ^ 31 by omega)] at hP hD
            replace hP : va_P (dC, dI) vwCl [(h0, .inr (0, [.int (nI N), .ref a1, .int (nI 0), .null, .null, .null, .null, .null, .null, .int (nI 0), .null, .null, .int (nI 0)])), (a1, .inl (cA, (N * 9), .inl (upd (upd (upd (ini k) ((k * 3 + 2) * 3 + 0) 65536) ((k * 3 + 2) * 3 + 1) 65536) ((k * 3 + 2) * 3 + 2) 65536)))] H := hP
            replace hD : va_D A [(h0, .inr (0, [.int (nI N), .ref a1, .int (nI 0), .null, .null, .null, .null, .null, .null, .int (nI 0), .null, .null, .int (nI 0)])), (a1, .inl (cA, (N * 9), .inl (upd (upd (upd (ini k) ((k * 3 + 2) * 3 + 0) 65536) ((k * 3 + 2) * 3 + 1) 65536) ((k * 3 + 2) * 3 + 2) 65536)))] := hD
            refine lv_iinc (v := nI 3) (lv' := [(3, .int (nI 3)), (2, .int (nI k)), (0, .ref h0), (1, .int x)]) hx hb dX0_init_63 hl (k := 0) rfl (by decide) (by decide) rfl (fun ls hl => ?_)
            refine lv_goto (tgt := 44) hx hb dX0_init_66 (by decide) ?_
            refine lv_iload_n hx hb dX0_init_44 rfl (lv_at hl 0 rfl) ?_
            refine lv_iconst (v := (nI 3)) hx hb dX0_init_45 (by decide) ?_
            refine lv_icmp_ge (tgt := 69) hx hb dX0_init_46 (by decide) (fun c9 => ?_) (fun c9 => ?_)
            · skip
              have c9 := c9
              refine lv_iinc (v := nI (k + 1)) (lv' := [(2, .int (nI (k + 1))), (3, .int (nI 3)), (0, .ref h0), (1, .int x)]) hx hb dX0_init_69 hl (k := 1) rfl (nI_1 k) (by decide) rfl (fun ls hl => ?_)
              refine lv_goto (tgt := 34) hx hb dX0_init_72 (by decide) ?_
              rw [ini_upd k] at hP hD
              exact ih (ls := ls) (k := k + 1) (H := H) (locs := locs) hS (by omega) (lv_sub hl [0, 2, 3] rfl) hP hD
            · skip
              have c9 := c9
              exact absurd c9 (by decide)
end
section
-- times that grow
def q_grow (kt : Nat → Int32) (f K : Nat) : Prop := (∀ k, k < K → q_time (kt (f + k))) ∧ ∀ k, k + 1 < K → (kt (f + k)).toInt < (kt (f + k + 1)).toInt
theorem grow_le {kt : Nat → Int32} {f K : Nat} (h : q_grow kt f K) : ∀ (d a : Nat), a + d < K → (kt (f + a)).toInt ≤ (kt (f + (a + d))).toInt := by
  intro d
  induction d with
  | zero => intro a _; exact Int.le_refl _
  | succ d ih =>
    intro a ha
    have h1 := ih a (by omega)
    have h2 := h.2 (a + d) (by omega)
    rw [show f + (a + d) + 1 = f + (a + (d + 1)) by omega] at h2
    omega
theorem kif_all {kt : Nat → Int32} {nw : Int32} : ∀ (n k : Nat), (∀ i, k < i → i ≤ k + n → (kt i).toInt ≤ nw.toInt) → kif kt nw k n = k + n := by
  intro n
  induction n with
  | zero => intro k _; rfl
  | succ n ih =>
    intro k h
    rw [kif_s, if_pos (h (k + 1) (by omega) (by omega)), ih (k + 1) (fun i h1 h2 => h i (by omega) (by omega))]
    omega
theorem kif_none {kt : Nat → Int32} {nw : Int32} (n k : Nat) (h : 0 < n → nw.toInt < (kt (k + 1)).toInt) : kif kt nw k n = k := by
  cases n with
  | zero => rfl
  | succ n => rw [kif_s, if_neg (by have := h (by omega); omega)]
-- ints as longs
theorem i64_t (a : Int32) : a.toInt64.toInt = a.toInt := Int32.toInt_toInt64 a
theorem sub64 {a b : Int32} (ha : q_time a) (hb : q_time b) : (a - b).toInt64 = a.toInt64 - b.toInt64 := by
  unfold q_time at ha hb
  apply Int64.toInt_inj.mp
  rw [Int64.toInt_sub, i64_t, i64_t, i64_t, Int32.toInt_sub, Int.bmod_eq_of_le (by omega) (by omega), Int.bmod_eq_of_le (by omega) (by omega)]
theorem pos64 {a b : Int32} (ha : q_time a) (hb : q_time b) (h : b.toInt < a.toInt) : 0 < (a.toInt64 - b.toInt64).toInt := by
  unfold q_time at ha hb
  rw [Int64.toInt_sub, i64_t, i64_t, Int.bmod_eq_of_le (by omega) (by omega)]
  omega
/-- the reference's way to the greatest whole number not above a / b -/
def mdv (a b : Int64) : Int64 := if a < a / b * b then a / b - 1 else a / b
theorem tq_pos {x y : Int} (hx : 0 ≤ x) (hy : 0 < y) : 0 ≤ x.tdiv y ∧ x.tdiv y ≤ x ∧ 0 ≤ x.tdiv y * y ∧ x.tdiv y * y ≤ x := by
  have h1 := Int.tdiv_nonneg hx (Int.le_of_lt hy)
  have h2 := Int.tdiv_le_self y hx
  have h3 := Int.tmod_add_tdiv_mul x y
  have h4 := Int.tmod_nonneg y hx
  have h5 := Int.mul_nonneg h1 (Int.le_of_lt hy)
  omega
theorem tq_neg {x y : Int} (hx : x < 0) (hy : 0 < y) : x.tdiv y ≤ 0 ∧ x ≤ x.tdiv y ∧ x ≤ x.tdiv y * y ∧ x.tdiv y * y ≤ 0 := by
  have h := tq_pos (x := -x) (y := y) (by omega) hy
  rw [Int.neg_tdiv, Int.neg_mul] at h
  omega
theorem neg_msb (z : Int64) : z.toInt < 0 ↔ z.toBitVec.msb = true := by
  rw [BitVec.msb_eq_toInt, decide_eq_true_eq]; exact Iff.rfl
theorem xor_neg (x y : Int64) (hy : 0 < y.toInt) : (x ^^^ y) < 0 ↔ x.toInt < 0 := by
  have h1 := neg_msb (x ^^^ y)
  have h2 := neg_msb x
  have h3 : y.toBitVec.msb = false := by
    cases hm : y.toBitVec.msb with
    | false => rfl
    | true => exact absurd ((neg_msb y).mpr hm) (by omega)
  have h0 : (0 : Int64).toInt = 0 := by decide
  rw [Int64.lt_iff_toInt_lt, h0, h1, h2, Int64.toBitVec_xor, BitVec.msb_xor, h3]
  simp
theorem mdv_eq (x y : Int64) (hy : 0 < y.toInt) : mdv x y = fdv x y := by
  have a1 := Int64.toInt_lt x
  have a2 := Int64.le_toInt x
  have hx := xor_neg x y hy
  have key : (x / y).toInt = x.toInt.tdiv y.toInt ∧ (x / y * y).toInt = x.toInt.tdiv y.toInt * y.toInt := by
    by_cases c : 0 ≤ x.toInt
    · have h := tq_pos c hy
      have e1 : (x / y).toInt = x.toInt.tdiv y.toInt := by
        rw [Int64.toInt_div, Int.bmod_eq_of_le (by omega) (by omega)]
      refine ⟨e1, ?_⟩
      rw [Int64.toInt_mul, e1, Int.bmod_eq_of_le (by omega) (by omega)]
    · have h := tq_neg (x := x.toInt) (by omega) hy
      have e1 : (x / y).toInt = x.toInt.tdiv y.toInt := by
        rw [Int64.toInt_div, Int.bmod_eq_of_le (by omega) (by omega)]
      refine ⟨e1, ?_⟩
      rw [Int64.toInt_mul, e1, Int.bmod_eq_of_le (by omega) (by omega)]
  unfold mdv fdv
  by_cases c : 0 ≤ x.toInt
  · have h := tq_pos c hy
    rw [if_neg, if_neg]
    · intro q
      have := hx.mp q.1
      omega
    · intro q
      have := Int64.lt_iff_toInt_lt.mp q
      omega
  · have h := tq_neg (x := x.toInt) (by omega) hy
    by_cases d : x / y * y = x
    · rw [if_neg, if_neg]
      · intro q; exact q.2 d
      · intro q
        have := Int64.lt_iff_toInt_lt.mp q
        rw [d] at this
        omega
    · rw [if_pos, if_pos]
      · exact ⟨hx.mpr (by omega), d⟩
      · rw [Int64.lt_iff_toInt_lt]
        have : (x / y * y).toInt ≠ x.toInt := fun q => d (Int64.toInt_inj.mp q)
        omega
end
section
abbrev wM (cA : ClassId) (g0 b1 b2 b3 b4 b5 b6 b7 b8 b9 N T X : Nat) (nw : Int32) (fv tn tw th tk kt kn xt xn : Nat → Int32) : va_W := [(g0, .inr (1, [.int (nI 0), .int (nI N), .ref b1, .int nw, .int (nI X), .ref b8, .ref b9, .int (nI T), .ref b2, .ref b3, .ref b4, .ref b5, .ref b6, .ref b7])), (b1, .inl (cA, 432, .inl fv)), (b2, .inl (cA, 32, .inl tn)), (b3, .inl (cA, 32, .inl tw)), (b4, .inl (cA, 32, .inl th)), (b5, .inl (cA, 32, .inl tk)), (b6, .inl (cA, 1024, .inl kt)), (b7, .inl (cA, 3072, .inl kn)), (b8, .inl (cA, 32, .inl xt)), (b9, .inl (cA, 96, .inl xn))]
abbrev rM (dC : Nat → ClassId) (dI : Nat → Nat → Nat) (cA : ClassId) (g0 b1 b2 b3 b4 b5 b6 b7 b8 b9 N T X : Nat) (nw : Int32) (fv tn tw th tk kt kn xt xn : Nat → Int32) (U : State) : Prop := va_P (dC, dI) vwCl (wM cA g0 b1 b2 b3 b4 b5 b6 b7 b8 b9 N T X nw fv tn tw th tk kt kn xt xn) U.heap ∧ va_K (dC, dI) vwCl [(cA, .int)] U
abbrev bM (A : Nat → Prop) (dC : Nat → ClassId) (dI : Nat → Nat → Nat) (cA : ClassId) (g0 b1 b2 b3 b4 b5 b6 b7 b8 b9 N T X : Nat) (nw : Int32) (fv tn tw th tk kt kn xt xn : Nat → Int32) (U : State) : Prop := va_P (dC, dI) vwCl (wM cA g0 b1 b2 b3 b4 b5 b6 b7 b8 b9 N T X nw fv tn tw th tk kt kn xt xn) U.heap ∧ va_K (dC, dI) vwCl [(cA, .int)] U ∧ va_D A (wM cA g0 b1 b2 b3 b4 b5 b6 b7 b8 b9 N T X nw fv tn tw th tk kt kn xt xn)
abbrev eM (sz : Nat) (dC : Nat → ClassId) (dI : Nat → Nat → Nat) (cA : ClassId) (g0 b1 b2 b3 b4 b5 b6 b7 b8 b9 N T X : Nat) (nw : Int32) (fv tn tw th tk kt kn xt xn : Nat → Int32) (U : State) : Prop := U.heap.size = sz ∧ va_P (dC, dI) vwCl (wM cA g0 b1 b2 b3 b4 b5 b6 b7 b8 b9 N T X nw fv tn tw th tk kt kn xt xn) U.heap ∧ va_K (dC, dI) vwCl [(cA, .int)] U ∧ va_D (fun _ => True) (wM cA g0 b1 b2 b3 b4 b5 b6 b7 b8 b9 N T X nw fv tn tw th tk kt kn xt xn)
set_option maxHeartbeats 4000000 in
set_option maxRecDepth 100000 in
/-- fits(what, v) -/
theorem cm_fits (l : Launch) (a x : Int32) : Met l yX1_fits wsX1_fits ({ frames := 0, cells := 0, slots := 0, locals := 0 }) (fun v _ => v = [Value.int a, Value.int x].toArray) (vp_Si (fun b => b = 0 ↔ ¬ q_in x (q_reach a))) 0 0 (fun _ => False) := by
  refine Met.ofW (cc := cX1_fits) (maxL := 3) (ret := (some .boolean)) (by decide) rfl ?_
  intro p e s m args below meth c s₁ B hml hv
  have hv : args = ([.int a, .int x]).toArray := hv
  subst hv
  have hx := B.exec
  have hb := B.bytes
  have hr := B.returns
  have hts := atoms_spec (ws := wsX1_fits) B.pre
  have hown : s.vm.findClass RX1 = some m.cls := findClass_of_methodNamed B.named
  have hlocks := B.notSynchronized
  have hl := lv_entry ([.int a, .int x]) (n := 3) (Nat.le_of_ble_eq_true rfl)
  rw [lg_entry_eq]
  generalize (lg_sl ([.int a, .int x]) ++ List.replicate (3 - (lg_sl ([.int a, .int x])).length) Slot.unset).toArray = ls at hl ⊢
  have hl : lv_has ls 3 [(0, .int a), (1, .int x)] := hl
  have t0 := z_0
  have t1 : (4194304 : Int32).toInt = 4194304 := by decide
  have t2 : (1048576 : Int32).toInt = 1048576 := by decide
  have t3 : (-4194304 : Int32).toInt = -4194304 := by decide
  have t4 : (-1048576 : Int32).toInt = -1048576 := by decide
  refine lv_iload_n hx hb dX1_fits_0 rfl (lv_at hl 0 rfl) ?_
  refine lv_if_ne (tgt := 9) hx hb dX1_fits_1 (by decide) (fun c1 => ?_) (fun c1 => ?_)
  · skip
    have c1 := zne c1
    have hrch : q_reach a = 1048576 := by unfold q_reach; rw [if_neg (by omega)]
    refine lv_ldc (v := 1048576) hx hb hown (hts (.constant RX1 46 1048576) (by decide +kernel)) dX1_fits_9 ?_
    refine lv_istore_n (lv' := [(2, .int 1048576), (0, .int a), (1, .int x)]) hx hb dX1_fits_11 rfl hl (by decide) rfl (fun ls hl => ?_)
    refine lv_iload_n hx hb dX1_fits_12 rfl (lv_at hl 2 rfl) ?_
    refine lv_iload_n hx hb dX1_fits_13 rfl (lv_at hl 0 rfl) ?_
    refine lv_ineg hx hb dX1_fits_14 ?_
    refine tp_i (y := (-1048576)) (rfl) ?_
    refine lv_icmp_lt (tgt := 27) hx hb dX1_fits_15 (by decide) (fun c2 => ?_) (fun c2 => ?_)
    · skip
      have c2 := zlt c2
      refine lv_iconst (v := (nI 0)) hx hb dX1_fits_27 (by decide) ?_
      exact W.zret (v := (nI 0)) (ty := .boolean) hx hb hr (by decide) (fun t9 ht9 hW9 => ⟨_, rfl, bt0 (by unfold q_in; rw [hrch]; omega), ht9⟩) (fun q h => by cases h) dX1_fits_28
    · skip
      have c2 := znlt c2
      refine lv_iload_n hx hb dX1_fits_18 rfl (lv_at hl 2 rfl) ?_
      refine lv_iload_n hx hb dX1_fits_19 rfl (lv_at hl 0 rfl) ?_
      refine lv_icmp_gt (tgt := 27) hx hb dX1_fits_20 (by decide) (fun c3 => ?_) (fun c3 => ?_)
      · skip
        have c3 := zlt c3
        refine lv_iconst (v := (nI 0)) hx hb dX1_fits_27 (by decide) ?_
        exact W.zret (v := (nI 0)) (ty := .boolean) hx hb hr (by decide) (fun t9 ht9 hW9 => ⟨_, rfl, bt0 (by unfold q_in; rw [hrch]; omega), ht9⟩) (fun q h => by cases h) dX1_fits_28
      · skip
        have c3 := znlt c3
        refine lv_iconst (v := (nI 1)) hx hb dX1_fits_23 (by decide) ?_
        refine lv_goto (tgt := 28) hx hb dX1_fits_24 (by decide) ?_
        exact W.zret (v := (nI 1)) (ty := .boolean) hx hb hr (by decide) (fun t9 ht9 hW9 => ⟨_, rfl, bt1 (by unfold q_in; rw [hrch]; omega), ht9⟩) (fun q h => by cases h) dX1_fits_28
  · skip
    have c1 := zeq c1
    have hrch : q_reach a = 4194304 := by unfold q_reach; rw [if_pos (by omega)]
    refine lv_ldc (v := 4194304) hx hb hown (hts (.constant RX1 45 4194304) (by decide +kernel)) dX1_fits_4 ?_
    refine lv_goto (tgt := 11) hx hb dX1_fits_6 (by decide) ?_
    refine lv_istore_n (lv' := [(2, .int 4194304), (0, .int a), (1, .int x)]) hx hb dX1_fits_11 rfl hl (by decide) rfl (fun ls hl => ?_)
    refine lv_iload_n hx hb dX1_fits_12 rfl (lv_at hl 2 rfl) ?_
    refine lv_iload_n hx hb dX1_fits_13 rfl (lv_at hl 0 rfl) ?_
    refine lv_ineg hx hb dX1_fits_14 ?_
    refine tp_i (y := (-4194304)) (rfl) ?_
    refine lv_icmp_lt (tgt := 27) hx hb dX1_fits_15 (by decide) (fun c4 => ?_) (fun c4 => ?_)
    · skip
      have c4 := zlt c4
      refine lv_iconst (v := (nI 0)) hx hb dX1_fits_27 (by decide) ?_
      exact W.zret (v := (nI 0)) (ty := .boolean) hx hb hr (by decide) (fun t9 ht9 hW9 => ⟨_, rfl, bt0 (by unfold q_in; rw [hrch]; omega), ht9⟩) (fun q h => by cases h) dX1_fits_28
    · skip
      have c4 := znlt c4
      refine lv_iload_n hx hb dX1_fits_18 rfl (lv_at hl 2 rfl) ?_
      refine lv_iload_n hx hb dX1_fits_19 rfl (lv_at hl 0 rfl) ?_
      refine lv_icmp_gt (tgt := 27) hx hb dX1_fits_20 (by decide) (fun c5 => ?_) (fun c5 => ?_)
      · skip
        have c5 := zlt c5
        refine lv_iconst (v := (nI 0)) hx hb dX1_fits_27 (by decide) ?_
        exact W.zret (v := (nI 0)) (ty := .boolean) hx hb hr (by decide) (fun t9 ht9 hW9 => ⟨_, rfl, bt0 (by unfold q_in; rw [hrch]; omega), ht9⟩) (fun q h => by cases h) dX1_fits_28
      · skip
        have c5 := znlt c5
        refine lv_iconst (v := (nI 1)) hx hb dX1_fits_23 (by decide) ?_
        refine lv_goto (tgt := 28) hx hb dX1_fits_24 (by decide) ?_
        exact W.zret (v := (nI 1)) (ty := .boolean) hx hb hr (by decide) (fun t9 ht9 hW9 => ⟨_, rfl, bt1 (by unfold q_in; rw [hrch]; omega), ht9⟩) (fun q h => by cases h) dX1_fits_28
set_option maxHeartbeats 4000000 in
set_option maxRecDepth 100000 in
/-- there(node, what) -/
theorem cm_there (l : Launch) (dC : Nat → ClassId) (dI : Nat → Nat → Nat) (cA : ClassId) (g0 b1 b2 b3 b4 b5 b6 b7 b8 b9 N T X : Nat) (nw : Int32) (fv tn tw th tk kt kn xt xn : Nat → Int32) (x y : Int32) (hN : N ≤ 48) : Met l yX1_there wsX1_there ({ frames := 0, cells := 0, slots := 0, locals := 0 }) (va_Pc [.ref g0, .int x, .int y] (rM dC dI cA g0 b1 b2 b3 b4 b5 b6 b7 b8 b9 N T X nw fv tn tw th tk kt kn xt xn)) (vp_Si (fun r => r = 0 ↔ ¬ (q_node N x ∧ q_what y))) 0 0 (fun _ => False) := by
  refine Met.ofW (cc := cX1_there) (maxL := 3) (ret := (some .boolean)) (by decide) rfl ?_
  intro p e s m args below meth c s₁ B hml hv
  obtain ⟨rfl, hP, hK⟩ := hv
  have hx := B.exec
  have hb := B.bytes
  have hr := B.returns
  have hts := atoms_spec (ws := wsX1_there) B.pre
  have hown : s.vm.findClass RX1 = some m.cls := findClass_of_methodNamed B.named
  have hlocks := B.notSynchronized
  have hl := lv_entry ([.ref g0, .int x, .int y]) (n := 3) (Nat.le_of_ble_eq_true rfl)
  rw [lg_entry_eq]
  generalize (lg_sl ([.ref g0, .int x, .int y]) ++ List.replicate (3 - (lg_sl ([.ref g0, .int x, .int y])).length) Slot.unset).toArray = ls at hl ⊢
  have hl : lv_has ls 3 [(0, .ref g0), (1, .int x), (2, .int y)] := hl
  have t0 := z_0
  have t1 : (nI N).toInt = N := nI_toInt (by omega)
  have t2 : (nI 3).toInt = 3 := by decide
  refine lv_iload_n hx hb dX1_there_0 rfl (lv_at hl 1 rfl) ?_
  refine lv_if_lt (tgt := 25) hx hb dX1_there_1 (by decide) (fun c1 => ?_) (fun c1 => ?_)
  · skip
    have c1 := zlt c1
    refine lv_iconst (v := (nI 0)) hx hb dX1_there_25 (by decide) ?_
    exact W.zret (v := (nI 0)) (ty := .boolean) hx hb hr (by decide) (fun t9 ht9 hW9 => ⟨_, rfl, bt0 (by unfold q_node q_what; omega), ht9⟩) (fun q h => by cases h) dX1_there_26
  · skip
    have c1 := znlt c1
    refine lv_iload_n hx hb dX1_there_4 rfl (lv_at hl 1 rfl) ?_
    refine lv_aload_n hx hb dX1_there_5 rfl (lv_at hl 0 rfl) ?_
    refine va_get (D := (dC, dI)) (ci := 1) (v := .int (nI N)) (C := RX1) (T := TX1) (N := 14) hx hb hts (by decide +kernel) hown hK hP 0 rfl rfl 1 (by decide) (hts (.fieldLink RX1 37 "MotionDeskModel" "nodes" "I") (by decide +kernel)) (fun _ h9 => h9) rfl dX1_there_6 ?_
    refine lv_icmp_ge (tgt := 25) hx hb dX1_there_9 (by decide) (fun c2 => ?_) (fun c2 => ?_)
    · skip
      have c2 := zle c2
      refine lv_iconst (v := (nI 0)) hx hb dX1_there_25 (by decide) ?_
      exact W.zret (v := (nI 0)) (ty := .boolean) hx hb hr (by decide) (fun t9 ht9 hW9 => ⟨_, rfl, bt0 (by unfold q_node q_what; omega), ht9⟩) (fun q h => by cases h) dX1_there_26
    · skip
      have c2 := znle c2
      refine lv_iload_n hx hb dX1_there_12 rfl (lv_at hl 2 rfl) ?_
      refine lv_if_lt (tgt := 25) hx hb dX1_there_13 (by decide) (fun c3 => ?_) (fun c3 => ?_)
      · skip
        have c3 := zlt c3
        refine lv_iconst (v := (nI 0)) hx hb dX1_there_25 (by decide) ?_
        exact W.zret (v := (nI 0)) (ty := .boolean) hx hb hr (by decide) (fun t9 ht9 hW9 => ⟨_, rfl, bt0 (by unfold q_node q_what; omega), ht9⟩) (fun q h => by cases h) dX1_there_26
      · skip
        have c3 := znlt c3
        refine lv_iload_n hx hb dX1_there_16 rfl (lv_at hl 2 rfl) ?_
        refine lv_iconst (v := (nI 3)) hx hb dX1_there_17 (by decide) ?_
        refine lv_icmp_ge (tgt := 25) hx hb dX1_there_18 (by decide) (fun c4 => ?_) (fun c4 => ?_)
        · skip
          have c4 := zle c4
          refine lv_iconst (v := (nI 0)) hx hb dX1_there_25 (by decide) ?_
          exact W.zret (v := (nI 0)) (ty := .boolean) hx hb hr (by decide) (fun t9 ht9 hW9 => ⟨_, rfl, bt0 (by unfold q_node q_what; omega), ht9⟩) (fun q h => by cases h) dX1_there_26
        · skip
          have c4 := znle c4
          refine lv_iconst (v := (nI 1)) hx hb dX1_there_21 (by decide) ?_
          refine lv_goto (tgt := 26) hx hb dX1_there_22 (by decide) ?_
          exact W.zret (v := (nI 1)) (ty := .boolean) hx hb hr (by decide) (fun t9 ht9 hW9 => ⟨_, rfl, bt1 (by unfold q_node q_what; omega), ht9⟩) (fun q h => by cases h) dX1_there_26
set_option maxHeartbeats 4000000 in
set_option maxRecDepth 100000 in
/-- div(a, b) -/
theorem cm_div (l : Launch) (x y : Int64) (hy : 0 < y.toInt) : Met l yX1_div wsX1_div ({ frames := 0, cells := 0, slots := 0, locals := 0 }) (fun v _ => v = [Value.long x, Value.long y].toArray) (vp_Sl (fun r => r = dvL x y)) 0 0 (fun _ => False) := by
  refine Met.ofW (cc := cX1_div) (maxL := 6) (ret := (some .long)) (by decide) rfl ?_
  intro p e s m args below meth c s₁ B hml hv
  have hv : args = ([.long x, .long y]).toArray := hv
  subst hv
  have hx := B.exec
  have hb := B.bytes
  have hr := B.returns
  have hts := atoms_spec (ws := wsX1_div) B.pre
  have hown : s.vm.findClass RX1 = some m.cls := findClass_of_methodNamed B.named
  have hlocks := B.notSynchronized
  have hl := lv_entry ([.long x, .long y]) (n := 6) (Nat.le_of_ble_eq_true rfl)
  rw [lg_entry_eq]
  generalize (lg_sl ([.long x, .long y]) ++ List.replicate (6 - (lg_sl ([.long x, .long y])).length) Slot.unset).toArray = ls at hl ⊢
  have hl : lv_has ls 6 [(0, .long x), (2, .long y)] := hl
  have hy0 : ¬ y = 0 := fun h => by rw [h] at hy; exact absurd hy (by decide)
  refine lv_lload_n hx hb dX1_div_0 rfl (lv_at hl 0 rfl) ?_
  refine lv_lload_n hx hb dX1_div_1 rfl (lv_at hl 1 rfl) ?_
  refine lv_ldiv hx hb dX1_div_2 hy0 ?_
  refine lv_lstore (lv' := [(4, .long (x / y)), (0, .long x), (2, .long y)]) hx hb dX1_div_3 hl (by decide) rfl (fun ls hl => ?_)
  refine lv_lload hx hb dX1_div_5 (lv_at hl 0 rfl) ?_
  refine lv_lload_n hx hb dX1_div_7 rfl (lv_at hl 2 rfl) ?_
  refine lv_lmul hx hb dX1_div_8 ?_
  refine lv_lload_n hx hb dX1_div_9 rfl (lv_at hl 1 rfl) ?_
  refine W.lcmp hx hb dX1_div_10 ?_
  refine lv_if_le (tgt := 21) hx hb dX1_div_11 (by decide) (fun c1 => ?_) (fun c1 => ?_)
  · skip
    have c1 := (lg_cmp_le _ _).mp c1
    refine lv_lload hx hb dX1_div_21 (lv_at hl 0 rfl) ?_
    exact W.lret (v := (x / y)) hx hb hr (fun t9 ht9 hW9 => ⟨_, rfl, by unfold dvL; rw [if_neg hy0, ← mdv_eq x y hy]; unfold mdv; rw [if_neg (Int64.not_lt.mpr c1)], ht9⟩) (fun q h => by cases h) dX1_div_23
  · skip
    have c1 := (fun q => c1 ((lg_cmp_le _ _).mpr q))
    refine lv_lload hx hb dX1_div_14 (lv_at hl 0 rfl) ?_
    refine lv_lconst (v := 1) hx hb dX1_div_16 (by decide) ?_
    refine lv_lsub hx hb dX1_div_17 ?_
    refine lv_goto (tgt := 23) hx hb dX1_div_18 (by decide) ?_
    exact W.lret (v := ((x / y) - 1)) hx hb hr (fun t9 ht9 hW9 => ⟨_, rfl, by unfold dvL; rw [if_neg hy0, ← mdv_eq x y hy]; unfold mdv; rw [if_pos (Int64.not_le.mp c1)], ht9⟩) (fun q h => by cases h) dX1_div_23
set_option maxHeartbeats 4000000 in
set_option maxRecDepth 100000 in
/-- mul(a, b) -/
theorem cm_mul (l : Launch) (x y : Int64) : Met l yX1_mul wsX1_mul ({ frames := 1, cells := 0, slots := 0, locals := 25 }) (fun v _ => v = [Value.long x, Value.long y].toArray) (vp_Sl (fun r => r = mlL x y)) 0 0 (fun _ => False) := by
  refine Met.ofW (cc := cX1_mul) (maxL := 4) (ret := (some .long)) (by decide) rfl ?_
  intro p e s m args below meth c s₁ B hml hv
  have hv : args = ([.long x, .long y]).toArray := hv
  subst hv
  have hx := B.exec
  have hb := B.bytes
  have hr := B.returns
  have hts := atoms_spec (ws := wsX1_mul) B.pre
  have hown : s.vm.findClass RX1 = some m.cls := findClass_of_methodNamed B.named
  have hlocks := B.notSynchronized
  have hl := lv_entry ([.long x, .long y]) (n := 4) (Nat.le_of_ble_eq_true rfl)
  rw [lg_entry_eq]
  generalize (lg_sl ([.long x, .long y]) ++ List.replicate (4 - (lg_sl ([.long x, .long y])).length) Slot.unset).toArray = ls at hl ⊢
  have hl : lv_has ls 4 [(0, .long x), (2, .long y)] := hl
  refine lv_lload_n hx hb dX1_mul_0 rfl (lv_at hl 0 rfl) ?_
  refine lv_lload_n hx hb dX1_mul_1 rfl (lv_at hl 1 rfl) ?_
  refine lv_lmul hx hb dX1_mul_2 ?_
  refine lv_ldc2 (v := 65536) hx hb hown (hts (.constantLong RX1 61 65536) (by decide +kernel)) dX1_mul_3 ?_
  refine vp_callSl (W.runS (As := [.long (x * y), .long 65536]) (rest := []) ⟨hx, hb, hml, hown, hts⟩ (cm_div l (x * y) 65536 (by decide)) (va_cwS 2 hts gX1_mul_X1_div rfl rfl rfl (by decide +kernel) ⟨Nat.le_of_ble_eq_true rfl, Nat.le_of_ble_eq_true rfl⟩) preEq rfl rfl hl.1 rfl (lv_room (Nat.le_of_ble_eq_true rfl)) dX1_mul_6 ⟨Nat.le_of_ble_eq_true rfl, Nat.le_of_ble_eq_true rfl⟩) (fun r1 h_r1 => ?_)
  exact W.lret (v := r1) hx hb hr (fun t9 ht9 hW9 => ⟨_, rfl, h_r1, ht9⟩) (fun q h => by cases h) dX1_mul_9
set_option maxHeartbeats 4000000 in
set_option maxRecDepth 100000 in
/-- clear() -/
theorem cm_clear (l : Launch) (dC : Nat → ClassId) (dI : Nat → Nat → Nat) (cA : ClassId) (g0 b1 b2 b3 b4 b5 b6 b7 b8 b9 N T X : Nat) (nw : Int32) (fv tn tw th tk kt kn xt xn : Nat → Int32) (sz : Nat)  : Met l yX1_clear wsX1_clear ({ frames := 0, cells := 0, slots := 0, locals := 0 }) (va_Pc [.ref g0] (eM sz dC dI cA g0 b1 b2 b3 b4 b5 b6 b7 b8 b9 N T X nw fv tn tw th tk kt kn xt xn)) (va_Qv (fun (u : Unit) => True) (fun u => bM (va_A (wM cA g0 b1 b2 b3 b4 b5 b6 b7 b8 b9 N T X nw fv tn tw th tk kt kn xt xn) sz) dC dI cA g0 b1 b2 b3 b4 b5 b6 b7 b8 b9 N 0 X nw fv tn tw th tk kt kn xt xn) (va_A (wM cA g0 b1 b2 b3 b4 b5 b6 b7 b8 b9 N T X nw fv tn tw th tk kt kn xt xn) sz)) 0 0 (va_A (wM cA g0 b1 b2 b3 b4 b5 b6 b7 b8 b9 N T X nw fv tn tw th tk kt kn xt xn) sz) := by
  refine Met.ofW (cc := cX1_clear) (maxL := 1) (ret := none) (by decide) rfl ?_
  intro p e s m args below meth c s₁ B hml hv
  obtain ⟨rfl, hsz, hP, hK, hD0⟩ := hv
  have hx := B.exec
  have hb := B.bytes
  have hr := B.returns
  have hts := atoms_spec (ws := wsX1_clear) B.pre
  have hown : s.vm.findClass RX1 = some m.cls := findClass_of_methodNamed B.named
  have hlocks := B.notSynchronized
  subst hsz
  have hD := hD0.self (sz := s.heap.size)
  generalize hAe : va_A (wM cA g0 b1 b2 b3 b4 b5 b6 b7 b8 b9 N T X nw fv tn tw th tk kt kn xt xn) s.heap.size = A at hD ⊢
  have hA : ∀ q : Nat, s.heap.size ≤ q → A q := fun q h => by rw [← hAe]; exact Or.inr h
  have hS : va_S A s.heap s.heap [] := va_S.rf
  have hP : va_P (dC, dI) vwCl (wM cA g0 b1 b2 b3 b4 b5 b6 b7 b8 b9 N T X nw fv tn tw th tk kt kn xt xn) s.heap := hP
  have hl := lv_entry ([.ref g0]) (n := 1) (Nat.le_of_ble_eq_true rfl)
  rw [lg_entry_eq]
  generalize (lg_sl ([.ref g0]) ++ List.replicate (1 - (lg_sl ([.ref g0])).length) Slot.unset).toArray = ls at hl ⊢
  have hl : lv_has ls 1 [(0, .ref g0)] := hl
  refine lv_aload_n hx hb dX1_clear_0 rfl (lv_at hl 0 rfl) ?_
  refine lv_iconst (v := (nI 0)) hx hb dX1_clear_1 (by decide) ?_
  refine va_put (D := (dC, dI)) (ci := 1) (v := .int (nI 0)) (ty := .int) (C := RX1) (T := TX1) (N := 14) hx hb hts (by decide +kernel) tyX1 tyX1_ok nmX1 hown hK hP hD hS 0 rfl rfl 0 (by decide) (hts (.fieldLink RX1 42 "MotionDeskModel" "thrown" "I") (by decide +kernel)) (fun _ h9 => h9) rfl (by decide +kernel) rfl rfl (Nat.le_of_ble_eq_true rfl) dX1_clear_2 (fun H locs hP hD hS => ?_)
  replace hP : va_P (dC, dI) vwCl (wM cA g0 b1 b2 b3 b4 b5 b6 b7 b8 b9 N T X nw fv tn tw th tk kt kn xt xn) H := hP
  replace hD : va_D A (wM cA g0 b1 b2 b3 b4 b5 b6 b7 b8 b9 N T X nw fv tn tw th tk kt kn xt xn) := hD
  refine lv_aload_n hx hb dX1_clear_5 rfl (lv_at hl 0 rfl) ?_
  refine lv_iconst (v := (nI 0)) hx hb dX1_clear_6 (by decide) ?_
  refine va_put (D := (dC, dI)) (ci := 1) (v := .int (nI 0)) (ty := .int) (C := RX1) (T := TX1) (N := 14) hx hb hts (by decide +kernel) tyX1 tyX1_ok nmX1 hown hK hP hD hS 0 rfl rfl 7 (by decide) (hts (.fieldLink RX1 58 "MotionDeskModel" "tracks" "I") (by decide +kernel)) (fun _ h9 => h9) rfl (by decide +kernel) rfl rfl (Nat.le_of_ble_eq_true rfl) dX1_clear_7 (fun H locs hP hD hS => ?_)
  replace hP : va_P (dC, dI) vwCl (wM cA g0 b1 b2 b3 b4 b5 b6 b7 b8 b9 N 0 X nw fv tn tw th tk kt kn xt xn) H := hP
  replace hD : va_D A (wM cA g0 b1 b2 b3 b4 b5 b6 b7 b8 b9 N 0 X nw fv tn tw th tk kt kn xt xn) := hD
  exact W.vret hx hb hr (fun t9 ht9 hW9 => ⟨⟨(), rfl, trivial, by rw [ht9]; exact hP, va_K.moved hW9.alike hK, hD⟩, hS.F ht9⟩) hS.2.2 dX1_clear_10
set_option maxHeartbeats 4000000 in
set_option maxRecDepth 100000 in
/-- value(node, what, i) -/
theorem cm_value (l : Launch) (dC : Nat → ClassId) (dI : Nat → Nat → Nat) (cA : ClassId) (g0 b1 b2 b3 b4 b5 b6 b7 b8 b9 N T X : Nat) (nw : Int32) (fv tn tw th tk kt kn xt xn : Nat → Int32) (sz : Nat) (x y i : Int32) (hN : N ≤ 48) : Met l yX1_value wsX1_value ({ frames := 1, cells := 0, slots := 0, locals := 22 }) (va_Pc [.ref g0, .int x, .int y, .int i] (eM sz dC dI cA g0 b1 b2 b3 b4 b5 b6 b7 b8 b9 N T X nw fv tn tw th tk kt kn xt xn)) (va_Qi (fun (r : Int32) (u : Unit) => ((q_node N x ∧ q_what y ∧ q_what i) → r = fv (pl_of x y + i.toInt.toNat)) ∧ (¬ (q_node N x ∧ q_what y ∧ q_what i) → r = nI 0)) (fun u => bM (va_A (wM cA g0 b1 b2 b3 b4 b5 b6 b7 b8 b9 N T X nw fv tn tw th tk kt kn xt xn) sz) dC dI cA g0 b1 b2 b3 b4 b5 b6 b7 b8 b9 N T X nw fv tn tw th tk kt kn xt xn) (va_A (wM cA g0 b1 b2 b3 b4 b5 b6 b7 b8 b9 N T X nw fv tn tw th tk kt kn xt xn) sz)) 0 0 (va_A (wM cA g0 b1 b2 b3 b4 b5 b6 b7 b8 b9 N T X nw fv tn tw th tk kt kn xt xn) sz) := by
  refine Met.ofW (cc := cX1_value) (maxL := 4) (ret := (some .int)) (by decide) rfl ?_
  intro p e s m args below meth c s₁ B hml hv
  obtain ⟨rfl, hsz, hP, hK, hD0⟩ := hv
  have hx := B.exec
  have hb := B.bytes
  have hr := B.returns
  have hts := atoms_spec (ws := wsX1_value) B.pre
  have hown : s.vm.findClass RX1 = some m.cls := findClass_of_methodNamed B.named
  have hlocks := B.notSynchronized
  subst hsz
  have hD := hD0.self (sz := s.heap.size)
  generalize hAe : va_A (wM cA g0 b1 b2 b3 b4 b5 b6 b7 b8 b9 N T X nw fv tn tw th tk kt kn xt xn) s.heap.size = A at hD ⊢
  have hA : ∀ q : Nat, s.heap.size ≤ q → A q := fun q h => by rw [← hAe]; exact Or.inr h
  have hS : va_S A s.heap s.heap [] := va_S.rf
  have hP : va_P (dC, dI) vwCl (wM cA g0 b1 b2 b3 b4 b5 b6 b7 b8 b9 N T X nw fv tn tw th tk kt kn xt xn) s.heap := hP
  have hl := lv_entry ([.ref g0, .int x, .int y, .int i]) (n := 4) (Nat.le_of_ble_eq_true rfl)
  rw [lg_entry_eq]
  generalize (lg_sl ([.ref g0, .int x, .int y, .int i]) ++ List.replicate (4 - (lg_sl ([.ref g0, .int x, .int y, .int i])).length) Slot.unset).toArray = ls at hl ⊢
  have hl : lv_has ls 4 [(0, .ref g0), (1, .int x), (2, .int y), (3, .int i)] := hl
  have t0 := z_0
  have t3 : (nI 3).toInt = 3 := by decide
  refine lv_aload_n hx hb dX1_value_0 rfl (lv_at hl 0 rfl) ?_
  refine lv_iconst (v := (nI 0)) hx hb dX1_value_1 (by decide) ?_
  refine va_put (D := (dC, dI)) (ci := 1) (v := .int (nI 0)) (ty := .int) (C := RX1) (T := TX1) (N := 14) hx hb hts (by decide +kernel) tyX1 tyX1_ok nmX1 hown hK hP hD hS 0 rfl rfl 0 (by decide) (hts (.fieldLink RX1 42 "MotionDeskModel" "thrown" "I") (by decide +kernel)) (fun _ h9 => h9) rfl (by decide +kernel) rfl rfl (Nat.le_of_ble_eq_true rfl) dX1_value_2 (fun H locs hP hD hS => ?_)
  replace hP : va_P (dC, dI) vwCl (wM cA g0 b1 b2 b3 b4 b5 b6 b7 b8 b9 N T X nw fv tn tw th tk kt kn xt xn) H := hP
  replace hD : va_D A (wM cA g0 b1 b2 b3 b4 b5 b6 b7 b8 b9 N T X nw fv tn tw th tk kt kn xt xn) := hD
  refine lv_aload_n hx hb dX1_value_5 rfl (lv_at hl 0 rfl) ?_
  refine lv_iload_n hx hb dX1_value_6 rfl (lv_at hl 1 rfl) ?_
  refine lv_iload_n hx hb dX1_value_7 rfl (lv_at hl 2 rfl) ?_
  refine vp_callSi (W.runV (C := RX1) (As := [.int x, .int y]) (rest := []) ⟨hx, hb, hml, hown, hts⟩ (cm_there l dC dI cA g0 b1 b2 b3 b4 b5 b6 b7 b8 b9 N T X nw fv tn tw th tk kt kn xt xn x y (by omega)) (cwV 2 hts gX1_value_X1_there rfl rfl rfl (by decide +kernel) ⟨Nat.le_of_ble_eq_true rfl, Nat.le_of_ble_eq_true rfl⟩) ⟨fun a U g mk q => ⟨q.1, q.2.1, va_K.moved (u := U) (U := U.calling g mk a) (Vm.Alike.refl U.vm) q.2.2⟩, va_recv hK hP (ci := 1) (q0 := 0) rfl rfl, fun U hU hW => ⟨rfl, by rw [hU]; exact hP, va_K.moved hW.alike hK⟩⟩ rfl rfl hl.1 rfl (lv_room (Nat.le_of_ble_eq_true rfl)) dX1_value_8 ⟨Nat.le_of_ble_eq_true rfl, Nat.le_of_ble_eq_true rfl⟩) (fun bo1 h_bo1 => ?_)
  refine lv_if_eq (tgt := 41) hx hb dX1_value_11 (by decide) (fun c2 => ?_) (fun c2 => ?_)
  · skip
    have c2 := btF h_bo1 c2
    refine lv_iconst (v := (nI 0)) hx hb dX1_value_41 (by decide) ?_
    exact W.iret (v := (nI 0)) hx hb hr (fun t9 ht9 hW9 => ⟨⟨(nI 0), (), rfl, br_f (fun h => c2 ⟨h.1, h.2.1⟩) rfl, by rw [ht9]; exact hP, va_K.moved hW9.alike hK, hD⟩, hS.F ht9⟩) hS.2.2 dX1_value_42
  · skip
    have c2 := btT h_bo1 c2
    refine lv_iload_n hx hb dX1_value_14 rfl (lv_at hl 3 rfl) ?_
    refine lv_if_lt (tgt := 41) hx hb dX1_value_15 (by decide) (fun c3 => ?_) (fun c3 => ?_)
    · skip
      have c3 := zlt c3
      refine lv_iconst (v := (nI 0)) hx hb dX1_value_41 (by decide) ?_
      exact W.iret (v := (nI 0)) hx hb hr (fun t9 ht9 hW9 => ⟨⟨(nI 0), (), rfl, br_f (fun h => by have := h.2.2; unfold q_what at this; omega) rfl, by rw [ht9]; exact hP, va_K.moved hW9.alike hK, hD⟩, hS.F ht9⟩) hS.2.2 dX1_value_42
    · skip
      have c3 := znlt c3
      refine lv_iload_n hx hb dX1_value_18 rfl (lv_at hl 3 rfl) ?_
      refine lv_iconst (v := (nI 3)) hx hb dX1_value_19 (by decide) ?_
      refine lv_icmp_ge (tgt := 41) hx hb dX1_value_20 (by decide) (fun c4 => ?_) (fun c4 => ?_)
      · skip
        have c4 := zle c4
        refine lv_iconst (v := (nI 0)) hx hb dX1_value_41 (by decide) ?_
        exact W.iret (v := (nI 0)) hx hb hr (fun t9 ht9 hW9 => ⟨⟨(nI 0), (), rfl, br_f (fun h => by have := h.2.2; unfold q_what at this; omega) rfl, by rw [ht9]; exact hP, va_K.moved hW9.alike hK, hD⟩, hS.F ht9⟩) hS.2.2 dX1_value_42
      · skip
        have c4 := znle c4
        have hi : q_what i := by unfold q_what; omega
        have hok : (q_node N x ∧ q_what y ∧ q_what i) := ⟨c2.1, c2.2, hi⟩
        have e1 : x = nI x.toInt.toNat := z_nat hok.1.1
        have e2 : y = nI y.toInt.toNat := z_nat hok.2.1.1
        have pb1 : x.toInt < N := hok.1.2
        have pb2 : y.toInt < 3 := hok.2.1.2
        have pb0 : 0 ≤ x.toInt ∧ 0 ≤ y.toInt := ⟨hok.1.1, hok.2.1.1⟩
        have hpl : pl_of x y + 3 ≤ N * 9 := by unfold pl_of; omega
        have e3 : i = nI i.toInt.toNat := z_nat hi.1
        have pb3 : i.toInt < 3 := hi.2
        refine lv_aload_n hx hb dX1_value_23 rfl (lv_at hl 0 rfl) ?_
        refine va_get (D := (dC, dI)) (ci := 1) (v := .ref b1) (C := RX1) (T := TX1) (N := 14) hx hb hts (by decide +kernel) hown hK hP 0 rfl rfl 2 (by decide) (hts (.fieldLink RX1 7 "MotionDeskModel" "poses" "[I") (by decide +kernel)) (fun _ h9 => h9) rfl dX1_value_24 ?_
        refine lv_bipush (v := (nI 9)) hx hb dX1_value_27 (by decide) ?_
        refine lv_iload_n hx hb dX1_value_29 rfl (lv_at hl 1 rfl) ?_
        refine lv_imul hx hb dX1_value_30 ?_
        refine tp_i (y := nI (x.toInt.toNat * 9)) (by rw [e1, pk_mul, nI_toInt (by omega)]; congr 1; omega) ?_
        refine lv_iconst (v := (nI 3)) hx hb dX1_value_31 (by decide) ?_
        refine lv_iload_n hx hb dX1_value_32 rfl (lv_at hl 2 rfl) ?_
        refine lv_imul hx hb dX1_value_33 ?_
        refine tp_i (y := nI (y.toInt.toNat * 3)) (by rw [e2, pk_mul, nI_toInt (by omega)]; congr 1; omega) ?_
        refine lv_iadd hx hb dX1_value_34 ?_
        refine tp_i (y := nI (pl_of x y)) (by rw [nI_add]; congr 1; unfold pl_of; omega) ?_
        refine lv_iload_n hx hb dX1_value_35 rfl (lv_at hl 3 rfl) ?_
        refine lv_iadd hx hb dX1_value_36 ?_
        refine tp_i (y := nI (pl_of x y + i.toInt.toNat)) (by rw [← nI_add, ← e3]) ?_
        refine va_iald hx hb hK hP 1 0 rfl rfl (vp_in_nI (by omega) (by omega)) dX1_value_37 ?_
        refine tp_i (y := (fv (pl_of x y + i.toInt.toNat))) (by rw [nI_clamp (by omega)]) ?_
        refine lv_goto (tgt := 42) hx hb dX1_value_38 (by decide) ?_
        exact W.iret (v := (fv (pl_of x y + i.toInt.toNat))) hx hb hr (fun t9 ht9 hW9 => ⟨⟨(fv (pl_of x y + i.toInt.toNat)), (), rfl, br_t hok rfl, by rw [ht9]; exact hP, va_K.moved hW9.alike hK, hD⟩, hS.F ht9⟩) hS.2.2 dX1_value_42
set_option maxHeartbeats 4000000 in
set_option maxRecDepth 100000 in
/-- about(track, what) -/
theorem cm_about (l : Launch) (dC : Nat → ClassId) (dI : Nat → Nat → Nat) (cA : ClassId) (g0 b1 b2 b3 b4 b5 b6 b7 b8 b9 N T X : Nat) (nw : Int32) (fv tn tw th tk kt kn xt xn : Nat → Int32) (sz : Nat) (x a : Int32) (hT : T ≤ 32) : Met l yX1_about wsX1_about ({ frames := 0, cells := 0, slots := 0, locals := 0 }) (va_Pc [.ref g0, .int x, .int a] (eM sz dC dI cA g0 b1 b2 b3 b4 b5 b6 b7 b8 b9 N T X nw fv tn tw th tk kt kn xt xn)) (va_Qi (fun (r : Int32) (u : Unit) => (q_node T x → r = if a.toInt = 0 then tn x.toInt.toNat else if a.toInt = 1 then tw x.toInt.toNat else if a.toInt = 2 then th x.toInt.toNat else if a.toInt = 3 then tk x.toInt.toNat else -1) ∧ (¬ q_node T x → r = -1)) (fun u => bM (va_A (wM cA g0 b1 b2 b3 b4 b5 b6 b7 b8 b9 N T X nw fv tn tw th tk kt kn xt xn) sz) dC dI cA g0 b1 b2 b3 b4 b5 b6 b7 b8 b9 N T X nw fv tn tw th tk kt kn xt xn) (va_A (wM cA g0 b1 b2 b3 b4 b5 b6 b7 b8 b9 N T X nw fv tn tw th tk kt kn xt xn) sz)) 0 0 (va_A (wM cA g0 b1 b2 b3 b4 b5 b6 b7 b8 b9 N T X nw fv tn tw th tk kt kn xt xn) sz) := by
  refine Met.ofW (cc := cX1_about) (maxL := 3) (ret := (some .int)) (by decide) rfl ?_
  intro p e s m args below meth c s₁ B hml hv
  obtain ⟨rfl, hsz, hP, hK, hD0⟩ := hv
  have hx := B.exec
  have hb := B.bytes
  have hr := B.returns
  have hts := atoms_spec (ws := wsX1_about) B.pre
  have hown : s.vm.findClass RX1 = some m.cls := findClass_of_methodNamed B.named
  have hlocks := B.notSynchronized
  subst hsz
  have hD := hD0.self (sz := s.heap.size)
  generalize hAe : va_A (wM cA g0 b1 b2 b3 b4 b5 b6 b7 b8 b9 N T X nw fv tn tw th tk kt kn xt xn) s.heap.size = A at hD ⊢
  have hA : ∀ q : Nat, s.heap.size ≤ q → A q := fun q h => by rw [← hAe]; exact Or.inr h
  have hS : va_S A s.heap s.heap [] := va_S.rf
  have hP : va_P (dC, dI) vwCl (wM cA g0 b1 b2 b3 b4 b5 b6 b7 b8 b9 N T X nw fv tn tw th tk kt kn xt xn) s.heap := hP
  have hl := lv_entry ([.ref g0, .int x, .int a]) (n := 3) (Nat.le_of_ble_eq_true rfl)
  rw [lg_entry_eq]
  generalize (lg_sl ([.ref g0, .int x, .int a]) ++ List.replicate (3 - (lg_sl ([.ref g0, .int x, .int a])).length) Slot.unset).toArray = ls at hl ⊢
  have hl : lv_has ls 3 [(0, .ref g0), (1, .int x), (2, .int a)] := hl
  have t0 := z_0
  have t1 : (nI T).toInt = T := nI_toInt (by omega)
  have k1 : (nI 1).toInt = 1 := by decide
  have k2 : (nI 2).toInt = 2 := by decide
  have k3 : (nI 3).toInt = 3 := by decide
  refine lv_aload_n hx hb dX1_about_0 rfl (lv_at hl 0 rfl) ?_
  refine lv_iconst (v := (nI 0)) hx hb dX1_about_1 (by decide) ?_
  refine va_put (D := (dC, dI)) (ci := 1) (v := .int (nI 0)) (ty := .int) (C := RX1) (T := TX1) (N := 14) hx hb hts (by decide +kernel) tyX1 tyX1_ok nmX1 hown hK hP hD hS 0 rfl rfl 0 (by decide) (hts (.fieldLink RX1 42 "MotionDeskModel" "thrown" "I") (by decide +kernel)) (fun _ h9 => h9) rfl (by decide +kernel) rfl rfl (Nat.le_of_ble_eq_true rfl) dX1_about_2 (fun H locs hP hD hS => ?_)
  replace hP : va_P (dC, dI) vwCl (wM cA g0 b1 b2 b3 b4 b5 b6 b7 b8 b9 N T X nw fv tn tw th tk kt kn xt xn) H := hP
  replace hD : va_D A (wM cA g0 b1 b2 b3 b4 b5 b6 b7 b8 b9 N T X nw fv tn tw th tk kt kn xt xn) := hD
  refine lv_iload_n hx hb dX1_about_5 rfl (lv_at hl 1 rfl) ?_
  refine lv_if_lt (tgt := 17) hx hb dX1_about_6 (by decide) (fun c1 => ?_) (fun c1 => ?_)
  · skip
    have c1 := zlt c1
    refine lv_iconst (v := (-1)) hx hb dX1_about_17 (by decide) ?_
    exact W.iret (v := (-1)) hx hb hr (fun t9 ht9 hW9 => ⟨⟨(-1), (), rfl, br_f (by unfold q_node; omega) rfl, by rw [ht9]; exact hP, va_K.moved hW9.alike hK, hD⟩, hS.F ht9⟩) hS.2.2 dX1_about_18
  · skip
    have c1 := znlt c1
    refine lv_iload_n hx hb dX1_about_9 rfl (lv_at hl 1 rfl) ?_
    refine lv_aload_n hx hb dX1_about_10 rfl (lv_at hl 0 rfl) ?_
    refine va_get (D := (dC, dI)) (ci := 1) (v := .int (nI T)) (C := RX1) (T := TX1) (N := 14) hx hb hts (by decide +kernel) hown hK hP 0 rfl rfl 7 (by decide) (hts (.fieldLink RX1 58 "MotionDeskModel" "tracks" "I") (by decide +kernel)) (fun _ h9 => h9) rfl dX1_about_11 ?_
    refine lv_icmp_lt (tgt := 19) hx hb dX1_about_14 (by decide) (fun c2 => ?_) (fun c2 => ?_)
    · skip
      have c2 := zlt c2
      have hok : q_node T x := by unfold q_node; omega
      have e1 : x = nI x.toInt.toNat := z_nat hok.1
      have pb1 : x.toInt < T := hok.2
      refine lv_iload_n hx hb dX1_about_19 rfl (lv_at hl 2 rfl) ?_
      refine lv_if_ne (tgt := 32) hx hb dX1_about_20 (by decide) (fun c3 => ?_) (fun c3 => ?_)
      · skip
        have c3 := zne c3
        refine lv_iload_n hx hb dX1_about_32 rfl (lv_at hl 2 rfl) ?_
        refine lv_iconst (v := (nI 1)) hx hb dX1_about_33 (by decide) ?_
        refine lv_icmp_ne (tgt := 46) hx hb dX1_about_34 (by decide) (fun c4 => ?_) (fun c4 => ?_)
        · skip
          have c4 := zne c4
          refine lv_iload_n hx hb dX1_about_46 rfl (lv_at hl 2 rfl) ?_
          refine lv_iconst (v := (nI 2)) hx hb dX1_about_47 (by decide) ?_
          refine lv_icmp_ne (tgt := 60) hx hb dX1_about_48 (by decide) (fun c5 => ?_) (fun c5 => ?_)
          · skip
            have c5 := zne c5
            refine lv_iload_n hx hb dX1_about_60 rfl (lv_at hl 2 rfl) ?_
            refine lv_iconst (v := (nI 3)) hx hb dX1_about_61 (by decide) ?_
            refine lv_icmp_ne (tgt := 74) hx hb dX1_about_62 (by decide) (fun c6 => ?_) (fun c6 => ?_)
            · skip
              have c6 := zne c6
              refine lv_iconst (v := (-1)) hx hb dX1_about_74 (by decide) ?_
              exact W.iret (v := (-1)) hx hb hr (fun t9 ht9 hW9 => ⟨⟨(-1), (), rfl, br_t hok (by rw [if_neg (by omega), if_neg (by omega), if_neg (by omega), if_neg (by omega)]), by rw [ht9]; exact hP, va_K.moved hW9.alike hK, hD⟩, hS.F ht9⟩) hS.2.2 dX1_about_75
            · skip
              have c6 := zeq c6
              refine lv_aload_n hx hb dX1_about_65 rfl (lv_at hl 0 rfl) ?_
              refine va_get (D := (dC, dI)) (ci := 1) (v := .ref b5) (C := RX1) (T := TX1) (N := 14) hx hb hts (by decide +kernel) hown hK hP 0 rfl rfl 11 (by decide) (hts (.fieldLink RX1 28 "MotionDeskModel" "keysOf" "[I") (by decide +kernel)) (fun _ h9 => h9) rfl dX1_about_66 ?_
              refine lv_iload_n hx hb dX1_about_69 rfl (lv_at hl 1 rfl) ?_
              refine tp_i (y := nI x.toInt.toNat) (e1) ?_
              refine va_iald hx hb hK hP 5 0 rfl rfl (vp_in_nI (by omega) (by omega)) dX1_about_70 ?_
              refine tp_i (y := (tk x.toInt.toNat)) (by rw [nI_clamp (by omega)]) ?_
              refine lv_goto (tgt := 75) hx hb dX1_about_71 (by decide) ?_
              exact W.iret (v := (tk x.toInt.toNat)) hx hb hr (fun t9 ht9 hW9 => ⟨⟨(tk x.toInt.toNat), (), rfl, br_t hok (by rw [if_neg (by omega), if_neg (by omega), if_neg (by omega), if_pos (by omega)]), by rw [ht9]; exact hP, va_K.moved hW9.alike hK, hD⟩, hS.F ht9⟩) hS.2.2 dX1_about_75
          · skip
            have c5 := zeq c5
            refine lv_aload_n hx hb dX1_about_51 rfl (lv_at hl 0 rfl) ?_
            refine va_get (D := (dC, dI)) (ci := 1) (v := .ref b4) (C := RX1) (T := TX1) (N := 14) hx hb hts (by decide +kernel) hown hK hP 0 rfl rfl 10 (by decide) (hts (.fieldLink RX1 25 "MotionDeskModel" "howOf" "[I") (by decide +kernel)) (fun _ h9 => h9) rfl dX1_about_52 ?_
            refine lv_iload_n hx hb dX1_about_55 rfl (lv_at hl 1 rfl) ?_
            refine tp_i (y := nI x.toInt.toNat) (e1) ?_
            refine va_iald hx hb hK hP 4 0 rfl rfl (vp_in_nI (by omega) (by omega)) dX1_about_56 ?_
            refine tp_i (y := (th x.toInt.toNat)) (by rw [nI_clamp (by omega)]) ?_
            refine lv_goto (tgt := 75) hx hb dX1_about_57 (by decide) ?_
            exact W.iret (v := (th x.toInt.toNat)) hx hb hr (fun t9 ht9 hW9 => ⟨⟨(th x.toInt.toNat), (), rfl, br_t hok (by rw [if_neg (by omega), if_neg (by omega), if_pos (by omega)]), by rw [ht9]; exact hP, va_K.moved hW9.alike hK, hD⟩, hS.F ht9⟩) hS.2.2 dX1_about_75
        · skip
          have c4 := zeq c4
          refine lv_aload_n hx hb dX1_about_37 rfl (lv_at hl 0 rfl) ?_
          refine va_get (D := (dC, dI)) (ci := 1) (v := .ref b3) (C := RX1) (T := TX1) (N := 14) hx hb hts (by decide +kernel) hown hK hP 0 rfl rfl 9 (by decide) (hts (.fieldLink RX1 22 "MotionDeskModel" "whatOf" "[I") (by decide +kernel)) (fun _ h9 => h9) rfl dX1_about_38 ?_
          refine lv_iload_n hx hb dX1_about_41 rfl (lv_at hl 1 rfl) ?_
          refine tp_i (y := nI x.toInt.toNat) (e1) ?_
          refine va_iald hx hb hK hP 3 0 rfl rfl (vp_in_nI (by omega) (by omega)) dX1_about_42 ?_
          refine tp_i (y := (tw x.toInt.toNat)) (by rw [nI_clamp (by omega)]) ?_
          refine lv_goto (tgt := 75) hx hb dX1_about_43 (by decide) ?_
          exact W.iret (v := (tw x.toInt.toNat)) hx hb hr (fun t9 ht9 hW9 => ⟨⟨(tw x.toInt.toNat), (), rfl, br_t hok (by rw [if_neg (by omega), if_pos (by omega)]), by rw [ht9]; exact hP, va_K.moved hW9.alike hK, hD⟩, hS.F ht9⟩) hS.2.2 dX1_about_75
      · skip
        have c3 := zeq c3
        refine lv_aload_n hx hb dX1_about_23 rfl (lv_at hl 0 rfl) ?_
        refine va_get (D := (dC, dI)) (ci := 1) (v := .ref b2) (C := RX1) (T := TX1) (N := 14) hx hb hts (by decide +kernel) hown hK hP 0 rfl rfl 8 (by decide) (hts (.fieldLink RX1 19 "MotionDeskModel" "nodeOf" "[I") (by decide +kernel)) (fun _ h9 => h9) rfl dX1_about_24 ?_
        refine lv_iload_n hx hb dX1_about_27 rfl (lv_at hl 1 rfl) ?_
        refine tp_i (y := nI x.toInt.toNat) (e1) ?_
        refine va_iald hx hb hK hP 2 0 rfl rfl (vp_in_nI (by omega) (by omega)) dX1_about_28 ?_
        refine tp_i (y := (tn x.toInt.toNat)) (by rw [nI_clamp (by omega)]) ?_
        refine lv_goto (tgt := 75) hx hb dX1_about_29 (by decide) ?_
        exact W.iret (v := (tn x.toInt.toNat)) hx hb hr (fun t9 ht9 hW9 => ⟨⟨(tn x.toInt.toNat), (), rfl, br_t hok (by rw [if_pos (by omega)]), by rw [ht9]; exact hP, va_K.moved hW9.alike hK, hD⟩, hS.F ht9⟩) hS.2.2 dX1_about_75
    · skip
      have c2 := znlt c2
      refine lv_iconst (v := (-1)) hx hb dX1_about_17 (by decide) ?_
      exact W.iret (v := (-1)) hx hb hr (fun t9 ht9 hW9 => ⟨⟨(-1), (), rfl, br_f (by unfold q_node; omega) rfl, by rw [ht9]; exact hP, va_K.moved hW9.alike hK, hD⟩, hS.F ht9⟩) hS.2.2 dX1_about_18
end
section
set_option maxHeartbeats 4000000 in
set_option maxRecDepth 100000 in
/-- at(track, i, t) -/
theorem cm_at (l : Launch) (dC : Nat → ClassId) (dI : Nat → Nat → Nat) (cA : ClassId) (g0 b1 b2 b3 b4 b5 b6 b7 b8 b9 N T X : Nat) (nw : Int32) (fv tn tw th tk kt kn xt xn : Nat → Int32) (t j K : Nat) (v : Int32) (hT : T ≤ 32) (ht : t < T) (hj : j < 3) (hK1 : 1 ≤ K) (hK2 : K ≤ 32) (etk : tk t = nI K) (hw : q_how (th t)) (hg : q_grow kt (t * 32) K) (hv : q_time v) : Met l yX1_at wsX1_at ({ frames := 2, cells := 0, slots := 0, locals := 48 }) (va_Pc [.ref g0, .int (nI t), .int (nI j), .int v] (rM dC dI cA g0 b1 b2 b3 b4 b5 b6 b7 b8 b9 N T X nw fv tn tw th tk kt kn xt xn)) (vp_Si (fun r => r = plv kt kn v (th t) (t * 32) K j)) 0 0 (fun _ => False) := by
  refine Met.ofW (cc := cX1_at) (maxL := 19) (ret := (some .int)) (by decide) rfl ?_
  intro p e s m args below meth c s₁ B hml hv
  obtain ⟨rfl, hP, hK⟩ := hv
  have hx := B.exec
  have hb := B.bytes
  have hr := B.returns
  have hts := atoms_spec (ws := wsX1_at) B.pre
  have hown : s.vm.findClass RX1 = some m.cls := findClass_of_methodNamed B.named
  have hlocks := B.notSynchronized
  have hl := lv_entry ([.ref g0, .int (nI t), .int (nI j), .int v]) (n := 19) (Nat.le_of_ble_eq_true rfl)
  rw [lg_entry_eq]
  generalize (lg_sl ([.ref g0, .int (nI t), .int (nI j), .int v]) ++ List.replicate (19 - (lg_sl ([.ref g0, .int (nI t), .int (nI j), .int v])).length) Slot.unset).toArray = ls at hl ⊢
  have hl : lv_has ls 19 [(0, .ref g0), (1, .int (nI t)), (2, .int (nI j)), (3, .int v)] := hl
  have t0 := z_0
  have t1 : (nI 1).toInt = 1 := by decide
  refine lv_bipush (v := (nI 32)) hx hb dX1_at_0 (by decide) ?_
  refine lv_iload_n hx hb dX1_at_2 rfl (lv_at hl 1 rfl) ?_
  refine lv_imul hx hb dX1_at_3 ?_
  refine tp_i (y := nI (t * 32)) (by rw [pk_mul, Nat.mul_comm]) ?_
  refine lv_istore (lv' := [(4, .int (nI (t * 32))), (0, .ref g0), (1, .int (nI t)), (2, .int (nI j)), (3, .int v)]) hx hb dX1_at_4 hl (by decide) rfl (fun ls hl => ?_)
  refine lv_aload_n hx hb dX1_at_6 rfl (lv_at hl 1 rfl) ?_
  refine va_get (D := (dC, dI)) (ci := 1) (v := .ref b5) (C := RX1) (T := TX1) (N := 14) hx hb hts (by decide +kernel) hown hK hP 0 rfl rfl 11 (by decide) (hts (.fieldLink RX1 28 "MotionDeskModel" "keysOf" "[I") (by decide +kernel)) (fun _ h9 => h9) rfl dX1_at_7 ?_
  refine lv_iload_n hx hb dX1_at_10 rfl (lv_at hl 2 rfl) ?_
  refine va_iald hx hb hK hP 5 0 rfl rfl (vp_in_nI (by omega) (by omega)) dX1_at_11 ?_
  refine tp_i (y := (tk t)) (by rw [nI_clamp (by omega)]) ?_
  refine tp_i (y := nI K) (etk) ?_
  refine lv_iconst (v := (nI 1)) hx hb dX1_at_12 (by decide) ?_
  refine lv_isub hx hb dX1_at_13 ?_
  refine tp_i (y := nI (K - 1)) (pk_sub hK1) ?_
  refine lv_istore (lv' := [(5, .int (nI (K - 1))), (4, .int (nI (t * 32))), (0, .ref g0), (1, .int (nI t)), (2, .int (nI j)), (3, .int v)]) hx hb dX1_at_14 hl (by decide) rfl (fun ls hl => ?_)
  refine lv_iload_n hx hb dX1_at_16 rfl (lv_at hl 5 rfl) ?_
  refine lv_aload_n hx hb dX1_at_17 rfl (lv_at hl 2 rfl) ?_
  refine va_get (D := (dC, dI)) (ci := 1) (v := .ref b6) (C := RX1) (T := TX1) (N := 14) hx hb hts (by decide +kernel) hown hK hP 0 rfl rfl 12 (by decide) (hts (.fieldLink RX1 31 "MotionDeskModel" "times" "[I") (by decide +kernel)) (fun _ h9 => h9) rfl dX1_at_18 ?_
  refine lv_iload hx hb dX1_at_21 (lv_at hl 1 rfl) ?_
  refine va_iald hx hb hK hP 6 0 rfl rfl (vp_in_nI (by omega) (by omega)) dX1_at_23 ?_
  refine tp_i (y := (kt (t * 32))) (by rw [nI_clamp (by omega)]) ?_
  refine lv_icmp_ge (tgt := 39) hx hb dX1_at_24 (by decide) (fun c1 => ?_) (fun c1 => ?_)
  · skip
    have c1 := zle c1
    refine lv_iload_n hx hb dX1_at_39 rfl (lv_at hl 5 rfl) ?_
    refine lv_aload_n hx hb dX1_at_40 rfl (lv_at hl 2 rfl) ?_
    refine va_get (D := (dC, dI)) (ci := 1) (v := .ref b6) (C := RX1) (T := TX1) (N := 14) hx hb hts (by decide +kernel) hown hK hP 0 rfl rfl 12 (by decide) (hts (.fieldLink RX1 31 "MotionDeskModel" "times" "[I") (by decide +kernel)) (fun _ h9 => h9) rfl dX1_at_41 ?_
    refine lv_iload hx hb dX1_at_44 (lv_at hl 1 rfl) ?_
    refine lv_iload hx hb dX1_at_46 (lv_at hl 0 rfl) ?_
    refine lv_iadd hx hb dX1_at_48 ?_
    refine tp_i (y := nI (t * 32 + (K - 1))) (nI_add _ _) ?_
    refine va_iald hx hb hK hP 6 0 rfl rfl (vp_in_nI (by omega) (by omega)) dX1_at_49 ?_
    refine tp_i (y := (kt (t * 32 + (K - 1)))) (by rw [nI_clamp (by omega)]) ?_
    refine lv_icmp_lt (tgt := 70) hx hb dX1_at_50 (by decide) (fun c2 => ?_) (fun c2 => ?_)
    · skip
      have c2 := zlt c2
      refine lv_iconst (v := (nI 0)) hx hb dX1_at_70 (by decide) ?_
      refine lv_istore (lv' := [(6, .int (nI 0)), (5, .int (nI (K - 1))), (4, .int (nI (t * 32))), (0, .ref g0), (1, .int (nI t)), (2, .int (nI j)), (3, .int v)]) hx hb dX1_at_71 hl (by decide) rfl (fun ls hl => ?_)
      obtain ⟨n, k, hn, hn1, hk, hle, hl9⟩ : ∃ n k : Nat, k + n = K - 1 ∧ 1 ≤ n ∧ kif kt v (t * 32 + k) n = kif kt v (t * 32) (K - 1) ∧ (kt (t * 32 + k)).toInt ≤ v.toInt ∧ lv_has ls 19 [(6, .int (nI k)), (5, .int (nI (K - 1))), (4, .int (nI (t * 32))), (0, .ref g0), (1, .int (nI t)), (2, .int (nI j)), (3, .int v)] := by
        refine ⟨K - 1, 0, by omega, ?_, rfl, c1, hl⟩
        rcases Nat.eq_zero_or_pos (K - 1) with q | q
        · exfalso
          rw [q] at c2
          have : (kt (t * 32 + 0)).toInt = (kt (t * 32)).toInt := rfl
          omega
        · exact q
      clear hl; have hl := hl9; clear hl9
      induction n generalizing k ls with
      | zero => omega
      | succ n ih =>
        refine lv_iload_n hx hb dX1_at_73 rfl (lv_at hl 6 rfl) ?_
        refine lv_aload_n hx hb dX1_at_74 rfl (lv_at hl 3 rfl) ?_
        refine va_get (D := (dC, dI)) (ci := 1) (v := .ref b6) (C := RX1) (T := TX1) (N := 14) hx hb hts (by decide +kernel) hown hK hP 0 rfl rfl 12 (by decide) (hts (.fieldLink RX1 31 "MotionDeskModel" "times" "[I") (by decide +kernel)) (fun _ h9 => h9) rfl dX1_at_75 ?_
        refine lv_iload hx hb dX1_at_78 (lv_at hl 2 rfl) ?_
        refine lv_iload hx hb dX1_at_80 (lv_at hl 0 rfl) ?_
        refine lv_iadd hx hb dX1_at_82 ?_
        refine tp_i (y := nI (t * 32 + k)) (nI_add _ _) ?_
        refine lv_iconst (v := (nI 1)) hx hb dX1_at_83 (by decide) ?_
        refine lv_iadd hx hb dX1_at_84 ?_
        refine tp_i (y := nI (t * 32 + k + 1)) (nI_1 _) ?_
        refine va_iald hx hb hK hP 6 0 rfl rfl (vp_in_nI (by omega) (by omega)) dX1_at_85 ?_
        refine tp_i (y := (kt (t * 32 + k + 1))) (by rw [nI_clamp (by omega)]) ?_
        refine lv_icmp_lt (tgt := 95) hx hb dX1_at_86 (by decide) (fun c3 => ?_) (fun c3 => ?_)
        · skip
          have c3 := zlt c3
          have ek : kif kt v (t * 32) (K - 1) = t * 32 + k := by rw [← hk, kif_s, if_neg (by omega)]
          have gv0 : q_time (kt (t * 32 + k)) := hg.1 k (by omega)
          have gv1 : q_time (kt (t * 32 + k + 1)) := by have := hg.1 (k + 1) (by omega); rwa [← Nat.add_assoc] at this
          have gl : (kt (t * 32 + k)).toInt < (kt (t * 32 + k + 1)).toInt := hg.2 k (by omega)
          have hp : plv kt kn v (th t) (t * 32) K j = btw kt kn v (th t) (t * 32 + k) j := by unfold plv; rw [ek, if_neg (by omega)]
          have s1 := sub64 hv gv0
          have s2 := sub64 gv1 gv0
          have p2 := pos64 gv1 gv0 gl
          refine lv_aload_n hx hb dX1_at_95 rfl (lv_at hl 3 rfl) ?_
          refine va_get (D := (dC, dI)) (ci := 1) (v := .ref b6) (C := RX1) (T := TX1) (N := 14) hx hb hts (by decide +kernel) hown hK hP 0 rfl rfl 12 (by decide) (hts (.fieldLink RX1 31 "MotionDeskModel" "times" "[I") (by decide +kernel)) (fun _ h9 => h9) rfl dX1_at_96 ?_
          refine lv_iload hx hb dX1_at_99 (lv_at hl 2 rfl) ?_
          refine lv_iload hx hb dX1_at_101 (lv_at hl 0 rfl) ?_
          refine lv_iadd hx hb dX1_at_103 ?_
          refine tp_i (y := nI (t * 32 + k)) (nI_add _ _) ?_
          refine va_iald hx hb hK hP 6 0 rfl rfl (vp_in_nI (by omega) (by omega)) dX1_at_104 ?_
          refine tp_i (y := (kt (t * 32 + k))) (by rw [nI_clamp (by omega)]) ?_
          refine lv_i2l (v := (kt (t * 32 + k)).toInt64) hx hb dX1_at_105 rfl ?_
          refine lv_lstore (lv' := [(7, .long ((kt (t * 32 + k)).toInt64)), (6, .int (nI k)), (5, .int (nI (K - 1))), (4, .int (nI (t * 32))), (0, .ref g0), (1, .int (nI t)), (2, .int (nI j)), (3, .int v)]) hx hb dX1_at_106 hl (by decide) rfl (fun ls hl => ?_)
          refine lv_aload_n hx hb dX1_at_108 rfl (lv_at hl 4 rfl) ?_
          refine va_get (D := (dC, dI)) (ci := 1) (v := .ref b6) (C := RX1) (T := TX1) (N := 14) hx hb hts (by decide +kernel) hown hK hP 0 rfl rfl 12 (by decide) (hts (.fieldLink RX1 31 "MotionDeskModel" "times" "[I") (by decide +kernel)) (fun _ h9 => h9) rfl dX1_at_109 ?_
          refine lv_iload hx hb dX1_at_112 (lv_at hl 3 rfl) ?_
          refine lv_iload hx hb dX1_at_114 (lv_at hl 1 rfl) ?_
          refine lv_iadd hx hb dX1_at_116 ?_
          refine tp_i (y := nI (t * 32 + k)) (nI_add _ _) ?_
          refine lv_iconst (v := (nI 1)) hx hb dX1_at_117 (by decide) ?_
          refine lv_iadd hx hb dX1_at_118 ?_
          refine tp_i (y := nI (t * 32 + k + 1)) (nI_1 _) ?_
          refine va_iald hx hb hK hP 6 0 rfl rfl (vp_in_nI (by omega) (by omega)) dX1_at_119 ?_
          refine tp_i (y := (kt (t * 32 + k + 1))) (by rw [nI_clamp (by omega)]) ?_
          refine lv_i2l (v := (kt (t * 32 + k + 1)).toInt64) hx hb dX1_at_120 rfl ?_
          refine lv_lstore (lv' := [(9, .long ((kt (t * 32 + k + 1)).toInt64)), (7, .long ((kt (t * 32 + k)).toInt64)), (6, .int (nI k)), (5, .int (nI (K - 1))), (4, .int (nI (t * 32))), (0, .ref g0), (1, .int (nI t)), (2, .int (nI j)), (3, .int v)]) hx hb dX1_at_121 hl (by decide) rfl (fun ls hl => ?_)
          refine lv_aload_n hx hb dX1_at_123 rfl (lv_at hl 5 rfl) ?_
          refine va_get (D := (dC, dI)) (ci := 1) (v := .ref b7) (C := RX1) (T := TX1) (N := 14) hx hb hts (by decide +kernel) hown hK hP 0 rfl rfl 13 (by decide) (hts (.fieldLink RX1 34 "MotionDeskModel" "values" "[I") (by decide +kernel)) (fun _ h9 => h9) rfl dX1_at_124 ?_
          refine lv_bipush (v := (nI 96)) hx hb dX1_at_127 (by decide) ?_
          refine lv_iload_n hx hb dX1_at_129 rfl (lv_at hl 6 rfl) ?_
          refine lv_imul hx hb dX1_at_130 ?_
          refine tp_i (y := nI (t * 96)) (by rw [pk_mul, Nat.mul_comm]) ?_
          refine lv_iconst (v := (nI 3)) hx hb dX1_at_131 (by decide) ?_
          refine lv_iload hx hb dX1_at_132 (lv_at hl 2 rfl) ?_
          refine lv_imul hx hb dX1_at_134 ?_
          refine tp_i (y := nI (k * 3)) (by rw [pk_mul, Nat.mul_comm]) ?_
          refine lv_iadd hx hb dX1_at_135 ?_
          refine tp_i (y := nI ((t * 32 + k) * 3)) (by rw [nI_add, show t * 96 + k * 3 = (t * 32 + k) * 3 by omega]) ?_
          refine lv_iload_n hx hb dX1_at_136 rfl (lv_at hl 7 rfl) ?_
          refine lv_iadd hx hb dX1_at_137 ?_
          refine tp_i (y := nI ((t * 32 + k) * 3 + j)) (nI_add _ _) ?_
          refine va_iald hx hb hK hP 7 0 rfl rfl (vp_in_nI (by omega) (by omega)) dX1_at_138 ?_
          refine tp_i (y := (kn ((t * 32 + k) * 3 + j))) (by rw [nI_clamp (by omega)]) ?_
          refine lv_i2l (v := (kn ((t * 32 + k) * 3 + j)).toInt64) hx hb dX1_at_139 rfl ?_
          refine lv_lstore (lv' := [(11, .long ((kn ((t * 32 + k) * 3 + j)).toInt64)), (9, .long ((kt (t * 32 + k + 1)).toInt64)), (7, .long ((kt (t * 32 + k)).toInt64)), (6, .int (nI k)), (5, .int (nI (K - 1))), (4, .int (nI (t * 32))), (0, .ref g0), (1, .int (nI t)), (2, .int (nI j)), (3, .int v)]) hx hb dX1_at_140 hl (by decide) rfl (fun ls hl => ?_)
          refine lv_aload_n hx hb dX1_at_142 rfl (lv_at hl 6 rfl) ?_
          refine va_get (D := (dC, dI)) (ci := 1) (v := .ref b7) (C := RX1) (T := TX1) (N := 14) hx hb hts (by decide +kernel) hown hK hP 0 rfl rfl 13 (by decide) (hts (.fieldLink RX1 34 "MotionDeskModel" "values" "[I") (by decide +kernel)) (fun _ h9 => h9) rfl dX1_at_143 ?_
          refine lv_bipush (v := (nI 96)) hx hb dX1_at_146 (by decide) ?_
          refine lv_iload_n hx hb dX1_at_148 rfl (lv_at hl 7 rfl) ?_
          refine lv_imul hx hb dX1_at_149 ?_
          refine tp_i (y := nI (t * 96)) (by rw [pk_mul, Nat.mul_comm]) ?_
          refine lv_iconst (v := (nI 3)) hx hb dX1_at_150 (by decide) ?_
          refine lv_iload hx hb dX1_at_151 (lv_at hl 3 rfl) ?_
          refine lv_imul hx hb dX1_at_153 ?_
          refine tp_i (y := nI (k * 3)) (by rw [pk_mul, Nat.mul_comm]) ?_
          refine lv_iadd hx hb dX1_at_154 ?_
          refine tp_i (y := nI ((t * 32 + k) * 3)) (by rw [nI_add, show t * 96 + k * 3 = (t * 32 + k) * 3 by omega]) ?_
          refine lv_iconst (v := (nI 3)) hx hb dX1_at_155 (by decide) ?_
          refine lv_iadd hx hb dX1_at_156 ?_
          refine tp_i (y := nI ((t * 32 + k + 1) * 3)) (by rw [nI_add, show (t * 32 + k) * 3 + 3 = (t * 32 + k + 1) * 3 by omega]) ?_
          refine lv_iload_n hx hb dX1_at_157 rfl (lv_at hl 8 rfl) ?_
          refine lv_iadd hx hb dX1_at_158 ?_
          refine tp_i (y := nI ((t * 32 + k + 1) * 3 + j)) (nI_add _ _) ?_
          refine va_iald hx hb hK hP 7 0 rfl rfl (vp_in_nI (by omega) (by omega)) dX1_at_159 ?_
          refine tp_i (y := (kn ((t * 32 + k + 1) * 3 + j))) (by rw [nI_clamp (by omega)]) ?_
          refine lv_i2l (v := (kn ((t * 32 + k + 1) * 3 + j)).toInt64) hx hb dX1_at_160 rfl ?_
          refine lv_lstore (lv' := [(13, .long ((kn ((t * 32 + k + 1) * 3 + j)).toInt64)), (11, .long ((kn ((t * 32 + k) * 3 + j)).toInt64)), (9, .long ((kt (t * 32 + k + 1)).toInt64)), (7, .long ((kt (t * 32 + k)).toInt64)), (6, .int (nI k)), (5, .int (nI (K - 1))), (4, .int (nI (t * 32))), (0, .ref g0), (1, .int (nI t)), (2, .int (nI j)), (3, .int v)]) hx hb dX1_at_161 hl (by decide) rfl (fun ls hl => ?_)
          refine lv_aload_n hx hb dX1_at_163 rfl (lv_at hl 7 rfl) ?_
          refine va_get (D := (dC, dI)) (ci := 1) (v := .ref b4) (C := RX1) (T := TX1) (N := 14) hx hb hts (by decide +kernel) hown hK hP 0 rfl rfl 10 (by decide) (hts (.fieldLink RX1 25 "MotionDeskModel" "howOf" "[I") (by decide +kernel)) (fun _ h9 => h9) rfl dX1_at_164 ?_
          refine lv_iload_n hx hb dX1_at_167 rfl (lv_at hl 8 rfl) ?_
          refine va_iald hx hb hK hP 4 0 rfl rfl (vp_in_nI (by omega) (by omega)) dX1_at_168 ?_
          refine tp_i (y := (th t)) (by rw [nI_clamp (by omega)]) ?_
          refine lv_if_ne (tgt := 176) hx hb dX1_at_169 (by decide) (fun c4 => ?_) (fun c4 => ?_)
          · skip
            have c4 := zne c4
            refine lv_aload_n hx hb dX1_at_176 rfl (lv_at hl 7 rfl) ?_
            refine va_get (D := (dC, dI)) (ci := 1) (v := .ref b4) (C := RX1) (T := TX1) (N := 14) hx hb hts (by decide +kernel) hown hK hP 0 rfl rfl 10 (by decide) (hts (.fieldLink RX1 25 "MotionDeskModel" "howOf" "[I") (by decide +kernel)) (fun _ h9 => h9) rfl dX1_at_177 ?_
            refine lv_iload_n hx hb dX1_at_180 rfl (lv_at hl 8 rfl) ?_
            refine va_iald hx hb hK hP 4 0 rfl rfl (vp_in_nI (by omega) (by omega)) dX1_at_181 ?_
            refine tp_i (y := (th t)) (by rw [nI_clamp (by omega)]) ?_
            refine lv_iconst (v := (nI 1)) hx hb dX1_at_182 (by decide) ?_
            refine lv_icmp_ne (tgt := 210) hx hb dX1_at_183 (by decide) (fun c5 => ?_) (fun c5 => ?_)
            · skip
              have c5 := zne c5
              refine lv_iload_n hx hb dX1_at_210 rfl (lv_at hl 10 rfl) ?_
              refine lv_i2l (v := v.toInt64) hx hb dX1_at_211 rfl ?_
              refine lv_lload hx hb dX1_at_212 (lv_at hl 3 rfl) ?_
              refine lv_lsub hx hb dX1_at_214 ?_
              refine lv_ldc2 (v := 65536) hx hb hown (hts (.constantLong RX1 61 65536) (by decide +kernel)) dX1_at_215 ?_
              refine lv_lmul hx hb dX1_at_218 ?_
              refine lv_lload hx hb dX1_at_219 (lv_at hl 2 rfl) ?_
              refine lv_lload hx hb dX1_at_221 (lv_at hl 3 rfl) ?_
              refine lv_lsub hx hb dX1_at_223 ?_
              refine vp_callSl (W.runS (As := [.long ((v.toInt64 - ((kt (t * 32 + k)).toInt64)) * 65536), .long (((kt (t * 32 + k + 1)).toInt64) - ((kt (t * 32 + k)).toInt64))]) (rest := []) ⟨hx, hb, hml, hown, hts⟩ (cm_div l ((v.toInt64 - ((kt (t * 32 + k)).toInt64)) * 65536) (((kt (t * 32 + k + 1)).toInt64) - ((kt (t * 32 + k)).toInt64)) p2) (va_cwS 2 hts gX1_at_X1_div rfl rfl rfl (by decide +kernel) ⟨Nat.le_of_ble_eq_true rfl, Nat.le_of_ble_eq_true rfl⟩) preEq rfl rfl hl.1 rfl (lv_room (Nat.le_of_ble_eq_true rfl)) dX1_at_224 ⟨Nat.le_of_ble_eq_true rfl, Nat.le_of_ble_eq_true rfl⟩) (fun r6 h_r6 => ?_)
              refine lv_lstore (lv' := [(15, .long r6), (13, .long ((kn ((t * 32 + k + 1) * 3 + j)).toInt64)), (11, .long ((kn ((t * 32 + k) * 3 + j)).toInt64)), (9, .long ((kt (t * 32 + k + 1)).toInt64)), (7, .long ((kt (t * 32 + k)).toInt64)), (6, .int (nI k)), (5, .int (nI (K - 1))), (4, .int (nI (t * 32))), (0, .ref g0), (1, .int (nI t)), (2, .int (nI j)), (3, .int v)]) hx hb dX1_at_227 hl (by decide) rfl (fun ls hl => ?_)
              refine lv_lload hx hb dX1_at_229 (lv_at hl 0 rfl) ?_
              refine lv_lload hx hb dX1_at_231 (lv_at hl 0 rfl) ?_
              refine vp_callSl (W.runS (As := [.long r6, .long r6]) (rest := []) ⟨hx, hb, hml, hown, hts⟩ (cm_mul l r6 r6) (va_cwS 2 hts gX1_at_X1_mul rfl rfl rfl (by decide +kernel) ⟨Nat.le_of_ble_eq_true rfl, Nat.le_of_ble_eq_true rfl⟩) preEq rfl rfl hl.1 rfl (lv_room (Nat.le_of_ble_eq_true rfl)) dX1_at_233 ⟨Nat.le_of_ble_eq_true rfl, Nat.le_of_ble_eq_true rfl⟩) (fun r7 h_r7 => ?_)
              refine lv_ldc2 (v := 196608) hx hb hown (hts (.constantLong RX1 70 196608) (by decide +kernel)) dX1_at_236 ?_
              refine lv_ldc2 (v := 2) hx hb hown (hts (.constantLong RX1 72 2) (by decide +kernel)) dX1_at_239 ?_
              refine lv_lload hx hb dX1_at_242 (lv_at hl 0 rfl) ?_
              refine lv_lmul hx hb dX1_at_244 ?_
              refine lv_lsub hx hb dX1_at_245 ?_
              refine vp_callSl (W.runS (As := [.long r7, .long (196608 - (2 * r6))]) (rest := []) ⟨hx, hb, hml, hown, hts⟩ (cm_mul l r7 (196608 - (2 * r6))) (va_cwS 2 hts gX1_at_X1_mul rfl rfl rfl (by decide +kernel) ⟨Nat.le_of_ble_eq_true rfl, Nat.le_of_ble_eq_true rfl⟩) preEq rfl rfl hl.1 rfl (lv_room (Nat.le_of_ble_eq_true rfl)) dX1_at_246 ⟨Nat.le_of_ble_eq_true rfl, Nat.le_of_ble_eq_true rfl⟩) (fun r8 h_r8 => ?_)
              refine lv_lstore (lv' := [(17, .long r8), (15, .long r6), (13, .long ((kn ((t * 32 + k + 1) * 3 + j)).toInt64)), (11, .long ((kn ((t * 32 + k) * 3 + j)).toInt64)), (9, .long ((kt (t * 32 + k + 1)).toInt64)), (7, .long ((kt (t * 32 + k)).toInt64)), (6, .int (nI k)), (5, .int (nI (K - 1))), (4, .int (nI (t * 32))), (0, .ref g0), (1, .int (nI t)), (2, .int (nI j)), (3, .int v)]) hx hb dX1_at_249 hl (by decide) rfl (fun ls hl => ?_)
              refine lv_lload hx hb dX1_at_251 (lv_at hl 3 rfl) ?_
              refine lv_lload hx hb dX1_at_253 (lv_at hl 2 rfl) ?_
              refine lv_lload hx hb dX1_at_255 (lv_at hl 3 rfl) ?_
              refine lv_lsub hx hb dX1_at_257 ?_
              refine lv_lload hx hb dX1_at_258 (lv_at hl 0 rfl) ?_
              refine vp_callSl (W.runS (As := [.long (((kn ((t * 32 + k + 1) * 3 + j)).toInt64) - ((kn ((t * 32 + k) * 3 + j)).toInt64)), .long r8]) (rest := [.long ((kn ((t * 32 + k) * 3 + j)).toInt64)]) ⟨hx, hb, hml, hown, hts⟩ (cm_mul l (((kn ((t * 32 + k + 1) * 3 + j)).toInt64) - ((kn ((t * 32 + k) * 3 + j)).toInt64)) r8) (va_cwS 2 hts gX1_at_X1_mul rfl rfl rfl (by decide +kernel) ⟨Nat.le_of_ble_eq_true rfl, Nat.le_of_ble_eq_true rfl⟩) preEq rfl rfl hl.1 rfl (lv_room (Nat.le_of_ble_eq_true rfl)) dX1_at_260 ⟨Nat.le_of_ble_eq_true rfl, Nat.le_of_ble_eq_true rfl⟩) (fun r9 h_r9 => ?_)
              refine lv_ladd hx hb dX1_at_263 ?_
              refine lv_l2i (v := (((kn ((t * 32 + k) * 3 + j)).toInt64) + r9).toInt32) hx hb dX1_at_264 rfl ?_
              exact W.iret (v := (((kn ((t * 32 + k) * 3 + j)).toInt64) + r9).toInt32) hx hb hr (fun t9 ht9 hW9 => ⟨_, rfl, by rw [hp]; unfold btw; unfold q_how at hw; rw [if_neg (by omega), if_pos (by omega), s1, s2, h_r9, h_r8, h_r7, h_r6]; rfl, ht9⟩) (fun q h => by cases h) dX1_at_265
            · skip
              have c5 := zeq c5
              refine lv_lload hx hb dX1_at_186 (lv_at hl 1 rfl) ?_
              refine lv_lload hx hb dX1_at_188 (lv_at hl 0 rfl) ?_
              refine lv_lload hx hb dX1_at_190 (lv_at hl 1 rfl) ?_
              refine lv_lsub hx hb dX1_at_192 ?_
              refine lv_iload_n hx hb dX1_at_193 rfl (lv_at hl 10 rfl) ?_
              refine lv_i2l (v := v.toInt64) hx hb dX1_at_194 rfl ?_
              refine lv_lload hx hb dX1_at_195 (lv_at hl 3 rfl) ?_
              refine lv_lsub hx hb dX1_at_197 ?_
              refine lv_lmul hx hb dX1_at_198 ?_
              refine lv_lload hx hb dX1_at_199 (lv_at hl 2 rfl) ?_
              refine lv_lload hx hb dX1_at_201 (lv_at hl 3 rfl) ?_
              refine lv_lsub hx hb dX1_at_203 ?_
              refine vp_callSl (W.runS (As := [.long ((((kn ((t * 32 + k + 1) * 3 + j)).toInt64) - ((kn ((t * 32 + k) * 3 + j)).toInt64)) * (v.toInt64 - ((kt (t * 32 + k)).toInt64))), .long (((kt (t * 32 + k + 1)).toInt64) - ((kt (t * 32 + k)).toInt64))]) (rest := [.long ((kn ((t * 32 + k) * 3 + j)).toInt64)]) ⟨hx, hb, hml, hown, hts⟩ (cm_div l ((((kn ((t * 32 + k + 1) * 3 + j)).toInt64) - ((kn ((t * 32 + k) * 3 + j)).toInt64)) * (v.toInt64 - ((kt (t * 32 + k)).toInt64))) (((kt (t * 32 + k + 1)).toInt64) - ((kt (t * 32 + k)).toInt64)) p2) (va_cwS 2 hts gX1_at_X1_div rfl rfl rfl (by decide +kernel) ⟨Nat.le_of_ble_eq_true rfl, Nat.le_of_ble_eq_true rfl⟩) preEq rfl rfl hl.1 rfl (lv_room (Nat.le_of_ble_eq_true rfl)) dX1_at_204 ⟨Nat.le_of_ble_eq_true rfl, Nat.le_of_ble_eq_true rfl⟩) (fun r10 h_r10 => ?_)
              refine lv_ladd hx hb dX1_at_207 ?_
              refine lv_l2i (v := (((kn ((t * 32 + k) * 3 + j)).toInt64) + r10).toInt32) hx hb dX1_at_208 rfl ?_
              exact W.iret (v := (((kn ((t * 32 + k) * 3 + j)).toInt64) + r10).toInt32) hx hb hr (fun t9 ht9 hW9 => ⟨_, rfl, by rw [hp]; unfold btw; rw [if_pos (by omega), s1, s2, h_r10], ht9⟩) (fun q h => by cases h) dX1_at_209
          · skip
            have c4 := zeq c4
            refine lv_lload hx hb dX1_at_172 (lv_at hl 1 rfl) ?_
            refine lv_l2i (v := ((kn ((t * 32 + k) * 3 + j)).toInt64).toInt32) hx hb dX1_at_174 rfl ?_
            exact W.iret (v := ((kn ((t * 32 + k) * 3 + j)).toInt64).toInt32) hx hb hr (fun t9 ht9 hW9 => ⟨_, rfl, by rw [hp]; unfold btw; unfold q_how at hw; rw [if_neg (by omega), if_neg (by omega)], ht9⟩) (fun q h => by cases h) dX1_at_175
        · skip
          have c3 := znlt c3
          refine lv_iinc (v := nI (k + 1)) (lv' := [(6, .int (nI (k + 1))), (5, .int (nI (K - 1))), (4, .int (nI (t * 32))), (0, .ref g0), (1, .int (nI t)), (2, .int (nI j)), (3, .int v)]) hx hb dX1_at_89 hl (k := 0) rfl (nI_1 k) (by decide) rfl (fun ls hl => ?_)
          refine lv_goto (tgt := 73) hx hb dX1_at_92 (by decide) ?_
          have hn2 : 1 ≤ n := by
            rcases Nat.eq_zero_or_pos n with q | q
            · exfalso
              rw [show t * 32 + k + 1 = t * 32 + (K - 1) by omega] at c3
              omega
            · exact q
          exact ih (ls := ls) (k := k + 1) (by omega) hn2 (by rw [← hk, kif_s, if_pos c3, Nat.add_assoc]) (by rw [← Nat.add_assoc]; exact c3) (lv_sub hl [0, 1, 2, 3, 4, 5, 6] rfl)
    · skip
      have c2 := znlt c2
      refine lv_aload_n hx hb dX1_at_53 rfl (lv_at hl 2 rfl) ?_
      refine va_get (D := (dC, dI)) (ci := 1) (v := .ref b7) (C := RX1) (T := TX1) (N := 14) hx hb hts (by decide +kernel) hown hK hP 0 rfl rfl 13 (by decide) (hts (.fieldLink RX1 34 "MotionDeskModel" "values" "[I") (by decide +kernel)) (fun _ h9 => h9) rfl dX1_at_54 ?_
      refine lv_bipush (v := (nI 96)) hx hb dX1_at_57 (by decide) ?_
      refine lv_iload_n hx hb dX1_at_59 rfl (lv_at hl 3 rfl) ?_
      refine lv_imul hx hb dX1_at_60 ?_
      refine tp_i (y := nI (t * 96)) (by rw [pk_mul, Nat.mul_comm]) ?_
      refine lv_iconst (v := (nI 3)) hx hb dX1_at_61 (by decide) ?_
      refine lv_iload hx hb dX1_at_62 (lv_at hl 0 rfl) ?_
      refine lv_imul hx hb dX1_at_64 ?_
      refine tp_i (y := nI ((K - 1) * 3)) (by rw [pk_mul, Nat.mul_comm]) ?_
      refine lv_iadd hx hb dX1_at_65 ?_
      refine tp_i (y := nI ((t * 32 + (K - 1)) * 3)) (by rw [nI_add, show t * 96 + (K - 1) * 3 = (t * 32 + (K - 1)) * 3 by omega]) ?_
      refine lv_iload_n hx hb dX1_at_66 rfl (lv_at hl 4 rfl) ?_
      refine lv_iadd hx hb dX1_at_67 ?_
      refine tp_i (y := nI ((t * 32 + (K - 1)) * 3 + j)) (nI_add _ _) ?_
      refine va_iald hx hb hK hP 7 0 rfl rfl (vp_in_nI (by omega) (by omega)) dX1_at_68 ?_
      refine tp_i (y := (kn ((t * 32 + (K - 1)) * 3 + j))) (by rw [nI_clamp (by omega)]) ?_
      exact W.iret (v := (kn ((t * 32 + (K - 1)) * 3 + j))) hx hb hr (fun t9 ht9 hW9 => ⟨_, rfl, by unfold plv; rw [kif_all (K - 1) (t * 32) (fun i h1 h2 => by have := grow_le hg (t * 32 + (K - 1) - i) (i - t * 32) (by omega); rw [show t * 32 + (i - t * 32) = i by omega, show t * 32 + (i - t * 32 + (t * 32 + (K - 1) - i)) = t * 32 + (K - 1) by omega] at this; omega), if_pos (Or.inl (by omega))], ht9⟩) (fun q h => by cases h) dX1_at_69
  · skip
    have c1 := znle c1
    refine lv_aload_n hx hb dX1_at_27 rfl (lv_at hl 2 rfl) ?_
    refine va_get (D := (dC, dI)) (ci := 1) (v := .ref b7) (C := RX1) (T := TX1) (N := 14) hx hb hts (by decide +kernel) hown hK hP 0 rfl rfl 13 (by decide) (hts (.fieldLink RX1 34 "MotionDeskModel" "values" "[I") (by decide +kernel)) (fun _ h9 => h9) rfl dX1_at_28 ?_
    refine lv_bipush (v := (nI 96)) hx hb dX1_at_31 (by decide) ?_
    refine lv_iload_n hx hb dX1_at_33 rfl (lv_at hl 3 rfl) ?_
    refine lv_imul hx hb dX1_at_34 ?_
    refine tp_i (y := nI (t * 96)) (by rw [pk_mul, Nat.mul_comm]) ?_
    refine lv_iload_n hx hb dX1_at_35 rfl (lv_at hl 4 rfl) ?_
    refine lv_iadd hx hb dX1_at_36 ?_
    refine tp_i (y := nI (t * 32 * 3 + j)) (by rw [nI_add, show t * 96 = t * 32 * 3 by omega]) ?_
    refine va_iald hx hb hK hP 7 0 rfl rfl (vp_in_nI (by omega) (by omega)) dX1_at_37 ?_
    refine tp_i (y := (kn (t * 32 * 3 + j))) (by rw [nI_clamp (by omega)]) ?_
    exact W.iret (v := (kn (t * 32 * 3 + j))) hx hb hr (fun t9 ht9 hW9 => ⟨_, rfl, by unfold plv; rw [kif_none (K - 1) (t * 32) (fun h => by have := hg.2 0 (by omega); rw [Nat.add_zero] at this; omega), if_pos (Or.inr c1)], ht9⟩) (fun q h => by cases h) dX1_at_38
end
section
set_option maxHeartbeats 4000000 in
set_option maxRecDepth 100000 in
/-- set(node, what, ..) -/
theorem cm_set (l : Launch) (dC : Nat → ClassId) (dI : Nat → Nat → Nat) (cA : ClassId) (g0 b1 b2 b3 b4 b5 b6 b7 b8 b9 N T X : Nat) (nw : Int32) (fv tn tw th tk kt kn xt xn : Nat → Int32) (sz : Nat) (x y x1 x2 x3 : Int32) (hN : N ≤ 48) : Met l yX1_set wsX1_set ({ frames := 1, cells := 0, slots := 0, locals := 22 }) (va_Pc [.ref g0, .int x, .int y, .int x1, .int x2, .int x3] (eM sz dC dI cA g0 b1 b2 b3 b4 b5 b6 b7 b8 b9 N T X nw fv tn tw th tk kt kn xt xn)) (va_Qi (fun (r : Int32) (u : Nat → Int32) => ((q_node N x ∧ q_what y ∧ q_can y x1 x2 x3) → r = nI 1 ∧ u = put3 fv (pl_of x y) x1 x2 x3) ∧ (¬ (q_node N x ∧ q_what y ∧ q_can y x1 x2 x3) → r = nI 0 ∧ u = fv)) (fun u => bM (va_A (wM cA g0 b1 b2 b3 b4 b5 b6 b7 b8 b9 N T X nw fv tn tw th tk kt kn xt xn) sz) dC dI cA g0 b1 b2 b3 b4 b5 b6 b7 b8 b9 N T X nw u tn tw th tk kt kn xt xn) (va_A (wM cA g0 b1 b2 b3 b4 b5 b6 b7 b8 b9 N T X nw fv tn tw th tk kt kn xt xn) sz)) 0 0 (va_A (wM cA g0 b1 b2 b3 b4 b5 b6 b7 b8 b9 N T X nw fv tn tw th tk kt kn xt xn) sz) := by
  refine Met.ofW (cc := cX1_set) (maxL := 6) (ret := (some .boolean)) (by decide) rfl ?_
  intro p e s m args below meth c s₁ B hml hv
  obtain ⟨rfl, hsz, hP, hK, hD0⟩ := hv
  have hx := B.exec
  have hb := B.bytes
  have hr := B.returns
  have hts := atoms_spec (ws := wsX1_set) B.pre
  have hown : s.vm.findClass RX1 = some m.cls := findClass_of_methodNamed B.named
  have hlocks := B.notSynchronized
  subst hsz
  have hD := hD0.self (sz := s.heap.size)
  generalize hAe : va_A (wM cA g0 b1 b2 b3 b4 b5 b6 b7 b8 b9 N T X nw fv tn tw th tk kt kn xt xn) s.heap.size = A at hD ⊢
  have hA : ∀ q : Nat, s.heap.size ≤ q → A q := fun q h => by rw [← hAe]; exact Or.inr h
  have hS : va_S A s.heap s.heap [] := va_S.rf
  have hP : va_P (dC, dI) vwCl (wM cA g0 b1 b2 b3 b4 b5 b6 b7 b8 b9 N T X nw fv tn tw th tk kt kn xt xn) s.heap := hP
  have hl := lv_entry ([.ref g0, .int x, .int y, .int x1, .int x2, .int x3]) (n := 6) (Nat.le_of_ble_eq_true rfl)
  rw [lg_entry_eq]
  generalize (lg_sl ([.ref g0, .int x, .int y, .int x1, .int x2, .int x3]) ++ List.replicate (6 - (lg_sl ([.ref g0, .int x, .int y, .int x1, .int x2, .int x3])).length) Slot.unset).toArray = ls at hl ⊢
  have hl : lv_has ls 6 [(0, .ref g0), (1, .int x), (2, .int y), (3, .int x1), (4, .int x2), (5, .int x3)] := hl
  refine lv_aload_n hx hb dX1_set_0 rfl (lv_at hl 0 rfl) ?_
  refine lv_iconst (v := (nI 0)) hx hb dX1_set_1 (by decide) ?_
  refine va_put (D := (dC, dI)) (ci := 1) (v := .int (nI 0)) (ty := .int) (C := RX1) (T := TX1) (N := 14) hx hb hts (by decide +kernel) tyX1 tyX1_ok nmX1 hown hK hP hD hS 0 rfl rfl 0 (by decide) (hts (.fieldLink RX1 42 "MotionDeskModel" "thrown" "I") (by decide +kernel)) (fun _ h9 => h9) rfl (by decide +kernel) rfl rfl (Nat.le_of_ble_eq_true rfl) dX1_set_2 (fun H locs hP hD hS => ?_)
  replace hP : va_P (dC, dI) vwCl (wM cA g0 b1 b2 b3 b4 b5 b6 b7 b8 b9 N T X nw fv tn tw th tk kt kn xt xn) H := hP
  replace hD : va_D A (wM cA g0 b1 b2 b3 b4 b5 b6 b7 b8 b9 N T X nw fv tn tw th tk kt kn xt xn) := hD
  refine lv_aload_n hx hb dX1_set_5 rfl (lv_at hl 0 rfl) ?_
  refine lv_iload_n hx hb dX1_set_6 rfl (lv_at hl 1 rfl) ?_
  refine lv_iload_n hx hb dX1_set_7 rfl (lv_at hl 2 rfl) ?_
  refine vp_callSi (W.runV (C := RX1) (As := [.int x, .int y]) (rest := []) ⟨hx, hb, hml, hown, hts⟩ (cm_there l dC dI cA g0 b1 b2 b3 b4 b5 b6 b7 b8 b9 N T X nw fv tn tw th tk kt kn xt xn x y (by omega)) (cwV 2 hts gX1_set_X1_there rfl rfl rfl (by decide +kernel) ⟨Nat.le_of_ble_eq_true rfl, Nat.le_of_ble_eq_true rfl⟩) ⟨fun a U g mk q => ⟨q.1, q.2.1, va_K.moved (u := U) (U := U.calling g mk a) (Vm.Alike.refl U.vm) q.2.2⟩, va_recv hK hP (ci := 1) (q0 := 0) rfl rfl, fun U hU hW => ⟨rfl, by rw [hU]; exact hP, va_K.moved hW.alike hK⟩⟩ rfl rfl hl.1 rfl (lv_room (Nat.le_of_ble_eq_true rfl)) dX1_set_8 ⟨Nat.le_of_ble_eq_true rfl, Nat.le_of_ble_eq_true rfl⟩) (fun bo1 h_bo1 => ?_)
  refine lv_if_eq (tgt := 40) hx hb dX1_set_11 (by decide) (fun c2 => ?_) (fun c2 => ?_)
  · skip
    have c2 := btF h_bo1 c2
    refine lv_iconst (v := (nI 0)) hx hb dX1_set_40 (by decide) ?_
    exact W.zret (v := (nI 0)) (ty := .boolean) hx hb hr (by decide) (fun t9 ht9 hW9 => ⟨⟨(nI 0), fv, rfl, br_f (fun h => c2 ⟨h.1, h.2.1⟩) ⟨rfl, rfl⟩, by rw [ht9]; exact hP, va_K.moved hW9.alike hK, hD⟩, hS.F ht9⟩) hS.2.2 dX1_set_41
  · skip
    have c2 := btT h_bo1 c2
    refine lv_iload_n hx hb dX1_set_14 rfl (lv_at hl 2 rfl) ?_
    refine lv_iload_n hx hb dX1_set_15 rfl (lv_at hl 3 rfl) ?_
    refine vp_callSi (W.runS (As := [.int y, .int x1]) (rest := []) ⟨hx, hb, hml, hown, hts⟩ (cm_fits l y x1) (va_cwS 2 hts gX1_set_X1_fits rfl rfl rfl (by decide +kernel) ⟨Nat.le_of_ble_eq_true rfl, Nat.le_of_ble_eq_true rfl⟩) preEq rfl rfl hl.1 rfl (lv_room (Nat.le_of_ble_eq_true rfl)) dX1_set_16 ⟨Nat.le_of_ble_eq_true rfl, Nat.le_of_ble_eq_true rfl⟩) (fun bo3 h_bo3 => ?_)
    refine lv_if_eq (tgt := 40) hx hb dX1_set_19 (by decide) (fun c4 => ?_) (fun c4 => ?_)
    · skip
      have c4 := btF h_bo3 c4
      refine lv_iconst (v := (nI 0)) hx hb dX1_set_40 (by decide) ?_
      exact W.zret (v := (nI 0)) (ty := .boolean) hx hb hr (by decide) (fun t9 ht9 hW9 => ⟨⟨(nI 0), fv, rfl, br_f (fun h => c4 h.2.2.1) ⟨rfl, rfl⟩, by rw [ht9]; exact hP, va_K.moved hW9.alike hK, hD⟩, hS.F ht9⟩) hS.2.2 dX1_set_41
    · skip
      have c4 := btT h_bo3 c4
      refine lv_iload_n hx hb dX1_set_22 rfl (lv_at hl 2 rfl) ?_
      refine lv_iload hx hb dX1_set_23 (lv_at hl 4 rfl) ?_
      refine vp_callSi (W.runS (As := [.int y, .int x2]) (rest := []) ⟨hx, hb, hml, hown, hts⟩ (cm_fits l y x2) (va_cwS 2 hts gX1_set_X1_fits rfl rfl rfl (by decide +kernel) ⟨Nat.le_of_ble_eq_true rfl, Nat.le_of_ble_eq_true rfl⟩) preEq rfl rfl hl.1 rfl (lv_room (Nat.le_of_ble_eq_true rfl)) dX1_set_25 ⟨Nat.le_of_ble_eq_true rfl, Nat.le_of_ble_eq_true rfl⟩) (fun bo5 h_bo5 => ?_)
      refine lv_if_eq (tgt := 40) hx hb dX1_set_28 (by decide) (fun c6 => ?_) (fun c6 => ?_)
      · skip
        have c6 := btF h_bo5 c6
        refine lv_iconst (v := (nI 0)) hx hb dX1_set_40 (by decide) ?_
        exact W.zret (v := (nI 0)) (ty := .boolean) hx hb hr (by decide) (fun t9 ht9 hW9 => ⟨⟨(nI 0), fv, rfl, br_f (fun h => c6 h.2.2.2.1) ⟨rfl, rfl⟩, by rw [ht9]; exact hP, va_K.moved hW9.alike hK, hD⟩, hS.F ht9⟩) hS.2.2 dX1_set_41
      · skip
        have c6 := btT h_bo5 c6
        refine lv_iload_n hx hb dX1_set_31 rfl (lv_at hl 2 rfl) ?_
        refine lv_iload hx hb dX1_set_32 (lv_at hl 5 rfl) ?_
        refine vp_callSi (W.runS (As := [.int y, .int x3]) (rest := []) ⟨hx, hb, hml, hown, hts⟩ (cm_fits l y x3) (va_cwS 2 hts gX1_set_X1_fits rfl rfl rfl (by decide +kernel) ⟨Nat.le_of_ble_eq_true rfl, Nat.le_of_ble_eq_true rfl⟩) preEq rfl rfl hl.1 rfl (lv_room (Nat.le_of_ble_eq_true rfl)) dX1_set_34 ⟨Nat.le_of_ble_eq_true rfl, Nat.le_of_ble_eq_true rfl⟩) (fun bo7 h_bo7 => ?_)
        refine lv_if_ne (tgt := 42) hx hb dX1_set_37 (by decide) (fun c8 => ?_) (fun c8 => ?_)
        · skip
          have c8 := btT h_bo7 c8
          have hok : (q_node N x ∧ q_what y ∧ q_can y x1 x2 x3) := ⟨c2.1, c2.2, c4, c6, c8⟩
          have e1 : x = nI x.toInt.toNat := z_nat hok.1.1
          have e2 : y = nI y.toInt.toNat := z_nat hok.2.1.1
          have pb1 : x.toInt < N := hok.1.2
          have pb2 : y.toInt < 3 := hok.2.1.2
          have pb0 : 0 ≤ x.toInt ∧ 0 ≤ y.toInt := ⟨hok.1.1, hok.2.1.1⟩
          have hpl : pl_of x y + 3 ≤ N * 9 := by unfold pl_of; omega
          refine lv_aload_n hx hb dX1_set_42 rfl (lv_at hl 0 rfl) ?_
          refine va_get (D := (dC, dI)) (ci := 1) (v := .ref b1) (C := RX1) (T := TX1) (N := 14) hx hb hts (by decide +kernel) hown hK hP 0 rfl rfl 2 (by decide) (hts (.fieldLink RX1 7 "MotionDeskModel" "poses" "[I") (by decide +kernel)) (fun _ h9 => h9) rfl dX1_set_43 ?_
          refine lv_bipush (v := (nI 9)) hx hb dX1_set_46 (by decide) ?_
          refine lv_iload_n hx hb dX1_set_48 rfl (lv_at hl 1 rfl) ?_
          refine lv_imul hx hb dX1_set_49 ?_
          refine tp_i (y := nI (x.toInt.toNat * 9)) (by rw [e1, pk_mul, nI_toInt (by omega)]; congr 1; omega) ?_
          refine lv_iconst (v := (nI 3)) hx hb dX1_set_50 (by decide) ?_
          refine lv_iload_n hx hb dX1_set_51 rfl (lv_at hl 2 rfl) ?_
          refine lv_imul hx hb dX1_set_52 ?_
          refine tp_i (y := nI (y.toInt.toNat * 3)) (by rw [e2, pk_mul, nI_toInt (by omega)]; congr 1; omega) ?_
          refine lv_iadd hx hb dX1_set_53 ?_
          refine tp_i (y := nI (pl_of x y)) (by rw [nI_add]; congr 1; unfold pl_of; omega) ?_
          refine lv_iload_n hx hb dX1_set_54 rfl (lv_at hl 3 rfl) ?_
          refine va_iast hx hb hK hP hD hS 1 0 rfl rfl (vp_in_nI (by omega) (by omega)) dX1_set_55 (fun H locs hP hD hS => ?_)
          rw [nI_clamp (show pl_of x y < 2 ^ 31 by omega)] at hP hD
          replace hP : va_P (dC, dI) vwCl (wM cA g0 b1 b2 b3 b4 b5 b6 b7 b8 b9 N T X nw (upd fv (pl_of x y) x1) tn tw th tk kt kn xt xn) H := hP
          replace hD : va_D A (wM cA g0 b1 b2 b3 b4 b5 b6 b7 b8 b9 N T X nw (upd fv (pl_of x y) x1) tn tw th tk kt kn xt xn) := hD
          refine lv_aload_n hx hb dX1_set_56 rfl (lv_at hl 0 rfl) ?_
          refine va_get (D := (dC, dI)) (ci := 1) (v := .ref b1) (C := RX1) (T := TX1) (N := 14) hx hb hts (by decide +kernel) hown hK hP 0 rfl rfl 2 (by decide) (hts (.fieldLink RX1 7 "MotionDeskModel" "poses" "[I") (by decide +kernel)) (fun _ h9 => h9) rfl dX1_set_57 ?_
          refine lv_bipush (v := (nI 9)) hx hb dX1_set_60 (by decide) ?_
          refine lv_iload_n hx hb dX1_set_62 rfl (lv_at hl 1 rfl) ?_
          refine lv_imul hx hb dX1_set_63 ?_
          refine tp_i (y := nI (x.toInt.toNat * 9)) (by rw [e1, pk_mul, nI_toInt (by omega)]; congr 1; omega) ?_
          refine lv_iconst (v := (nI 3)) hx hb dX1_set_64 (by decide) ?_
          refine lv_iload_n hx hb dX1_set_65 rfl (lv_at hl 2 rfl) ?_
          refine lv_imul hx hb dX1_set_66 ?_
          refine tp_i (y := nI (y.toInt.toNat * 3)) (by rw [e2, pk_mul, nI_toInt (by omega)]; congr 1; omega) ?_
          refine lv_iadd hx hb dX1_set_67 ?_
          refine tp_i (y := nI (pl_of x y)) (by rw [nI_add]; congr 1; unfold pl_of; omega) ?_
          refine lv_iconst (v := (nI 1)) hx hb dX1_set_68 (by decide) ?_
          refine lv_iadd hx hb dX1_set_69 ?_
          refine tp_i (y := nI (pl_of x y + 1)) (nI_add _ 1) ?_
          refine lv_iload hx hb dX1_set_70 (lv_at hl 4 rfl) ?_
          refine va_iast hx hb hK hP hD hS 1 0 rfl rfl (vp_in_nI (by omega) (by omega)) dX1_set_72 (fun H locs hP hD hS => ?_)
          rw [nI_clamp (show pl_of x y + 1 < 2 ^ 31 by omega)] at hP hD
          replace hP : va_P (dC, dI) vwCl (wM cA g0 b1 b2 b3 b4 b5 b6 b7 b8 b9 N T X nw (upd (upd fv (pl_of x y) x1) (pl_of x y + 1) x2) tn tw th tk kt kn xt xn) H := hP
          replace hD : va_D A (wM cA g0 b1 b2 b3 b4 b5 b6 b7 b8 b9 N T X nw (upd (upd fv (pl_of x y) x1) (pl_of x y + 1) x2) tn tw th tk kt kn xt xn) := hD
          refine lv_aload_n hx hb dX1_set_73 rfl (lv_at hl 0 rfl) ?_
          refine va_get (D := (dC, dI)) (ci := 1) (v := .ref b1) (C := RX1) (T := TX1) (N := 14) hx hb hts (by decide +kernel) hown hK hP 0 rfl rfl 2 (by decide) (hts (.fieldLink RX1 7 "MotionDeskModel" "poses" "[I") (by decide +kernel)) (fun _ h9 => h9) rfl dX1_set_74 ?_
          refine lv_bipush (v := (nI 9)) hx hb dX1_set_77 (by decide) ?_
          refine lv_iload_n hx hb dX1_set_79 rfl (lv_at hl 1 rfl) ?_
          refine lv_imul hx hb dX1_set_80 ?_
          refine tp_i (y := nI (x.toInt.toNat * 9)) (by rw [e1, pk_mul, nI_toInt (by omega)]; congr 1; omega) ?_
          refine lv_iconst (v := (nI 3)) hx hb dX1_set_81 (by decide) ?_
          refine lv_iload_n hx hb dX1_set_82 rfl (lv_at hl 2 rfl) ?_
          refine lv_imul hx hb dX1_set_83 ?_
          refine tp_i (y := nI (y.toInt.toNat * 3)) (by rw [e2, pk_mul, nI_toInt (by omega)]; congr 1; omega) ?_
          refine lv_iadd hx hb dX1_set_84 ?_
          refine tp_i (y := nI (pl_of x y)) (by rw [nI_add]; congr 1; unfold pl_of; omega) ?_
          refine lv_iconst (v := (nI 2)) hx hb dX1_set_85 (by decide) ?_
          refine lv_iadd hx hb dX1_set_86 ?_
          refine tp_i (y := nI (pl_of x y + 2)) (nI_add _ 2) ?_
          refine lv_iload hx hb dX1_set_87 (lv_at hl 5 rfl) ?_
          refine va_iast hx hb hK hP hD hS 1 0 rfl rfl (vp_in_nI (by omega) (by omega)) dX1_set_89 (fun H locs hP hD hS => ?_)
          rw [nI_clamp (show pl_of x y + 2 < 2 ^ 31 by omega)] at hP hD
          replace hP : va_P (dC, dI) vwCl (wM cA g0 b1 b2 b3 b4 b5 b6 b7 b8 b9 N T X nw (upd (upd (upd fv (pl_of x y) x1) (pl_of x y + 1) x2) (pl_of x y + 2) x3) tn tw th tk kt kn xt xn) H := hP
          replace hD : va_D A (wM cA g0 b1 b2 b3 b4 b5 b6 b7 b8 b9 N T X nw (upd (upd (upd fv (pl_of x y) x1) (pl_of x y + 1) x2) (pl_of x y + 2) x3) tn tw th tk kt kn xt xn) := hD
          refine lv_iconst (v := (nI 1)) hx hb dX1_set_90 (by decide) ?_
          exact W.zret (v := (nI 1)) (ty := .boolean) hx hb hr (by decide) (fun t9 ht9 hW9 => ⟨⟨(nI 1), (upd (upd (upd fv (pl_of x y) x1) (pl_of x y + 1) x2) (pl_of x y + 2) x3), rfl, br_t hok ⟨rfl, rfl⟩, by rw [ht9]; exact hP, va_K.moved hW9.alike hK, hD⟩, hS.F ht9⟩) hS.2.2 dX1_set_91
        · skip
          have c8 := btF h_bo7 c8
          refine lv_iconst (v := (nI 0)) hx hb dX1_set_40 (by decide) ?_
          exact W.zret (v := (nI 0)) (ty := .boolean) hx hb hr (by decide) (fun t9 ht9 hW9 => ⟨⟨(nI 0), fv, rfl, br_f (fun h => c8 h.2.2.2.2) ⟨rfl, rfl⟩, by rw [ht9]; exact hP, va_K.moved hW9.alike hK, hD⟩, hS.F ht9⟩) hS.2.2 dX1_set_41
set_option maxHeartbeats 4000000 in
set_option maxRecDepth 100000 in
/-- key(t, x, y, z) -/
theorem cm_key (l : Launch) (dC : Nat → ClassId) (dI : Nat → Nat → Nat) (cA : ClassId) (g0 b1 b2 b3 b4 b5 b6 b7 b8 b9 N T X : Nat) (nw : Int32) (fv tn tw th tk kt kn xt xn : Nat → Int32) (sz : Nat) (t x1 x2 x3 : Int32) (hX : X ≤ 32) : Met l yX1_key wsX1_key ({ frames := 1, cells := 0, slots := 0, locals := 22 }) (va_Pc [.ref g0, .int t, .int x1, .int x2, .int x3] (eM sz dC dI cA g0 b1 b2 b3 b4 b5 b6 b7 b8 b9 N T X nw fv tn tw th tk kt kn xt xn)) (va_Qi (fun (r : Int32) (u : Nat × (Nat → Int32) × (Nat → Int32)) => ((X < 32 ∧ q_time t ∧ q_can (nI 0) x1 x2 x3 ∧ (0 < X → (xt (X - 1)).toInt < t.toInt)) → r = nI (X + 1) ∧ u = (X + 1, upd xt X t, put3 xn (X * 3) x1 x2 x3)) ∧ (¬ (X < 32 ∧ q_time t ∧ q_can (nI 0) x1 x2 x3 ∧ (0 < X → (xt (X - 1)).toInt < t.toInt)) → r = -1 ∧ u = (X, xt, xn))) (fun u => bM (va_A (wM cA g0 b1 b2 b3 b4 b5 b6 b7 b8 b9 N T X nw fv tn tw th tk kt kn xt xn) sz) dC dI cA g0 b1 b2 b3 b4 b5 b6 b7 b8 b9 N T u.1 nw fv tn tw th tk kt kn u.2.1 u.2.2) (va_A (wM cA g0 b1 b2 b3 b4 b5 b6 b7 b8 b9 N T X nw fv tn tw th tk kt kn xt xn) sz)) 0 0 (va_A (wM cA g0 b1 b2 b3 b4 b5 b6 b7 b8 b9 N T X nw fv tn tw th tk kt kn xt xn) sz) := by
  refine Met.ofW (cc := cX1_key) (maxL := 6) (ret := (some .int)) (by decide) rfl ?_
  intro p e s m args below meth c s₁ B hml hv
  obtain ⟨rfl, hsz, hP, hK, hD0⟩ := hv
  have hx := B.exec
  have hb := B.bytes
  have hr := B.returns
  have hts := atoms_spec (ws := wsX1_key) B.pre
  have hown : s.vm.findClass RX1 = some m.cls := findClass_of_methodNamed B.named
  have hlocks := B.notSynchronized
  subst hsz
  have hD := hD0.self (sz := s.heap.size)
  generalize hAe : va_A (wM cA g0 b1 b2 b3 b4 b5 b6 b7 b8 b9 N T X nw fv tn tw th tk kt kn xt xn) s.heap.size = A at hD ⊢
  have hA : ∀ q : Nat, s.heap.size ≤ q → A q := fun q h => by rw [← hAe]; exact Or.inr h
  have hS : va_S A s.heap s.heap [] := va_S.rf
  have hP : va_P (dC, dI) vwCl (wM cA g0 b1 b2 b3 b4 b5 b6 b7 b8 b9 N T X nw fv tn tw th tk kt kn xt xn) s.heap := hP
  have hl := lv_entry ([.ref g0, .int t, .int x1, .int x2, .int x3]) (n := 6) (Nat.le_of_ble_eq_true rfl)
  rw [lg_entry_eq]
  generalize (lg_sl ([.ref g0, .int t, .int x1, .int x2, .int x3]) ++ List.replicate (6 - (lg_sl ([.ref g0, .int t, .int x1, .int x2, .int x3])).length) Slot.unset).toArray = ls at hl ⊢
  have hl : lv_has ls 6 [(0, .ref g0), (1, .int t), (2, .int x1), (3, .int x2), (4, .int x3)] := hl
  have t0 := z_0
  have t1 : (nI X).toInt = X := nI_toInt (by omega)
  have t2 : (nI 32).toInt = 32 := by decide
  have t3 : (1000000 : Int32).toInt = 1000000 := by decide
  refine lv_aload_n hx hb dX1_key_0 rfl (lv_at hl 0 rfl) ?_
  refine lv_iconst (v := (nI 0)) hx hb dX1_key_1 (by decide) ?_
  refine va_put (D := (dC, dI)) (ci := 1) (v := .int (nI 0)) (ty := .int) (C := RX1) (T := TX1) (N := 14) hx hb hts (by decide +kernel) tyX1 tyX1_ok nmX1 hown hK hP hD hS 0 rfl rfl 0 (by decide) (hts (.fieldLink RX1 42 "MotionDeskModel" "thrown" "I") (by decide +kernel)) (fun _ h9 => h9) rfl (by decide +kernel) rfl rfl (Nat.le_of_ble_eq_true rfl) dX1_key_2 (fun H locs hP hD hS => ?_)
  replace hP : va_P (dC, dI) vwCl (wM cA g0 b1 b2 b3 b4 b5 b6 b7 b8 b9 N T X nw fv tn tw th tk kt kn xt xn) H := hP
  replace hD : va_D A (wM cA g0 b1 b2 b3 b4 b5 b6 b7 b8 b9 N T X nw fv tn tw th tk kt kn xt xn) := hD
  refine lv_iload_n hx hb dX1_key_5 rfl (lv_at hl 1 rfl) ?_
  refine lv_if_lt (tgt := 41) hx hb dX1_key_6 (by decide) (fun c1 => ?_) (fun c1 => ?_)
  · skip
    have c1 := zlt c1
    refine lv_iconst (v := (nI 0)) hx hb dX1_key_41 (by decide) ?_
    refine lv_istore (lv' := [(5, .int (nI 0)), (0, .ref g0), (1, .int t), (2, .int x1), (3, .int x2), (4, .int x3)]) hx hb dX1_key_42 hl (by decide) rfl (fun ls hl => ?_)
    refine lv_aload_n hx hb dX1_key_44 rfl (lv_at hl 1 rfl) ?_
    refine va_get (D := (dC, dI)) (ci := 1) (v := .int (nI X)) (C := RX1) (T := TX1) (N := 14) hx hb hts (by decide +kernel) hown hK hP 0 rfl rfl 4 (by decide) (hts (.fieldLink RX1 48 "MotionDeskModel" "textKeys" "I") (by decide +kernel)) (fun _ h9 => h9) rfl dX1_key_45 ?_
    refine lv_bipush (v := (nI 32)) hx hb dX1_key_48 (by decide) ?_
    refine lv_icmp_eq (tgt := 83) hx hb dX1_key_50 (by decide) (fun c2 => ?_) (fun c2 => ?_)
    · skip
      have c2 := zeq c2
      refine lv_iconst (v := (-1)) hx hb dX1_key_83 (by decide) ?_
      exact W.iret (v := (-1)) hx hb hr (fun t9 ht9 hW9 => ⟨⟨(-1), (X, xt, xn), rfl, br_f (fun h => by obtain ⟨g1, g2, -, g4⟩ := h; unfold q_time at g2; omega) ⟨rfl, rfl⟩, by rw [ht9]; exact hP, va_K.moved hW9.alike hK, hD⟩, hS.F ht9⟩) hS.2.2 dX1_key_84
    · skip
      have c2 := zne c2
      refine lv_iload hx hb dX1_key_53 (lv_at hl 0 rfl) ?_
      refine lv_if_eq (tgt := 83) hx hb dX1_key_55 (by decide) (fun c3 => ?_) (fun c3 => ?_)
      · skip
        have c3 := c3
        refine lv_iconst (v := (-1)) hx hb dX1_key_83 (by decide) ?_
        exact W.iret (v := (-1)) hx hb hr (fun t9 ht9 hW9 => ⟨⟨(-1), (X, xt, xn), rfl, br_f (fun h => by obtain ⟨g1, g2, -, g4⟩ := h; unfold q_time at g2; omega) ⟨rfl, rfl⟩, by rw [ht9]; exact hP, va_K.moved hW9.alike hK, hD⟩, hS.F ht9⟩) hS.2.2 dX1_key_84
      · skip
        have c3 := c3
        exact absurd c3 (by decide)
  · skip
    have c1 := znlt c1
    refine lv_iload_n hx hb dX1_key_9 rfl (lv_at hl 1 rfl) ?_
    refine lv_ldc (v := 1000000) hx hb hown (hts (.constant RX1 47 1000000) (by decide +kernel)) dX1_key_10 ?_
    refine lv_icmp_gt (tgt := 41) hx hb dX1_key_12 (by decide) (fun c4 => ?_) (fun c4 => ?_)
    · skip
      have c4 := zlt c4
      refine lv_iconst (v := (nI 0)) hx hb dX1_key_41 (by decide) ?_
      refine lv_istore (lv' := [(5, .int (nI 0)), (0, .ref g0), (1, .int t), (2, .int x1), (3, .int x2), (4, .int x3)]) hx hb dX1_key_42 hl (by decide) rfl (fun ls hl => ?_)
      refine lv_aload_n hx hb dX1_key_44 rfl (lv_at hl 1 rfl) ?_
      refine va_get (D := (dC, dI)) (ci := 1) (v := .int (nI X)) (C := RX1) (T := TX1) (N := 14) hx hb hts (by decide +kernel) hown hK hP 0 rfl rfl 4 (by decide) (hts (.fieldLink RX1 48 "MotionDeskModel" "textKeys" "I") (by decide +kernel)) (fun _ h9 => h9) rfl dX1_key_45 ?_
      refine lv_bipush (v := (nI 32)) hx hb dX1_key_48 (by decide) ?_
      refine lv_icmp_eq (tgt := 83) hx hb dX1_key_50 (by decide) (fun c5 => ?_) (fun c5 => ?_)
      · skip
        have c5 := zeq c5
        refine lv_iconst (v := (-1)) hx hb dX1_key_83 (by decide) ?_
        exact W.iret (v := (-1)) hx hb hr (fun t9 ht9 hW9 => ⟨⟨(-1), (X, xt, xn), rfl, br_f (fun h => by obtain ⟨g1, g2, -, g4⟩ := h; unfold q_time at g2; omega) ⟨rfl, rfl⟩, by rw [ht9]; exact hP, va_K.moved hW9.alike hK, hD⟩, hS.F ht9⟩) hS.2.2 dX1_key_84
      · skip
        have c5 := zne c5
        refine lv_iload hx hb dX1_key_53 (lv_at hl 0 rfl) ?_
        refine lv_if_eq (tgt := 83) hx hb dX1_key_55 (by decide) (fun c6 => ?_) (fun c6 => ?_)
        · skip
          have c6 := c6
          refine lv_iconst (v := (-1)) hx hb dX1_key_83 (by decide) ?_
          exact W.iret (v := (-1)) hx hb hr (fun t9 ht9 hW9 => ⟨⟨(-1), (X, xt, xn), rfl, br_f (fun h => by obtain ⟨g1, g2, -, g4⟩ := h; unfold q_time at g2; omega) ⟨rfl, rfl⟩, by rw [ht9]; exact hP, va_K.moved hW9.alike hK, hD⟩, hS.F ht9⟩) hS.2.2 dX1_key_84
        · skip
          have c6 := c6
          exact absurd c6 (by decide)
    · skip
      have c4 := znlt c4
      refine lv_aload_n hx hb dX1_key_15 rfl (lv_at hl 0 rfl) ?_
      refine va_get (D := (dC, dI)) (ci := 1) (v := .int (nI X)) (C := RX1) (T := TX1) (N := 14) hx hb hts (by decide +kernel) hown hK hP 0 rfl rfl 4 (by decide) (hts (.fieldLink RX1 48 "MotionDeskModel" "textKeys" "I") (by decide +kernel)) (fun _ h9 => h9) rfl dX1_key_16 ?_
      refine lv_if_eq (tgt := 37) hx hb dX1_key_19 (by decide) (fun c7 => ?_) (fun c7 => ?_)
      · skip
        have c7 := zeq c7
        refine lv_iconst (v := (nI 1)) hx hb dX1_key_37 (by decide) ?_
        refine lv_goto (tgt := 42) hx hb dX1_key_38 (by decide) ?_
        refine lv_istore (lv' := [(5, .int (nI 1)), (0, .ref g0), (1, .int t), (2, .int x1), (3, .int x2), (4, .int x3)]) hx hb dX1_key_42 hl (by decide) rfl (fun ls hl => ?_)
        refine lv_aload_n hx hb dX1_key_44 rfl (lv_at hl 1 rfl) ?_
        refine va_get (D := (dC, dI)) (ci := 1) (v := .int (nI X)) (C := RX1) (T := TX1) (N := 14) hx hb hts (by decide +kernel) hown hK hP 0 rfl rfl 4 (by decide) (hts (.fieldLink RX1 48 "MotionDeskModel" "textKeys" "I") (by decide +kernel)) (fun _ h9 => h9) rfl dX1_key_45 ?_
        refine lv_bipush (v := (nI 32)) hx hb dX1_key_48 (by decide) ?_
        refine lv_icmp_eq (tgt := 83) hx hb dX1_key_50 (by decide) (fun c8 => ?_) (fun c8 => ?_)
        · skip
          have c8 := zeq c8
          refine lv_iconst (v := (-1)) hx hb dX1_key_83 (by decide) ?_
          exact W.iret (v := (-1)) hx hb hr (fun t9 ht9 hW9 => ⟨⟨(-1), (X, xt, xn), rfl, br_f (fun h => by obtain ⟨g1, g2, -, g4⟩ := h; unfold q_time at g2; omega) ⟨rfl, rfl⟩, by rw [ht9]; exact hP, va_K.moved hW9.alike hK, hD⟩, hS.F ht9⟩) hS.2.2 dX1_key_84
        · skip
          have c8 := zne c8
          refine lv_iload hx hb dX1_key_53 (lv_at hl 0 rfl) ?_
          refine lv_if_eq (tgt := 83) hx hb dX1_key_55 (by decide) (fun c9 => ?_) (fun c9 => ?_)
          · skip
            have c9 := c9
            exact absurd c9 (by decide)
          · skip
            have c9 := c9
            refine lv_iconst (v := (nI 0)) hx hb dX1_key_58 (by decide) ?_
            refine lv_iload_n hx hb dX1_key_59 rfl (lv_at hl 3 rfl) ?_
            refine vp_callSi (W.runS (As := [.int (nI 0), .int x1]) (rest := []) ⟨hx, hb, hml, hown, hts⟩ (cm_fits l (nI 0) x1) (va_cwS 2 hts gX1_key_X1_fits rfl rfl rfl (by decide +kernel) ⟨Nat.le_of_ble_eq_true rfl, Nat.le_of_ble_eq_true rfl⟩) preEq rfl rfl hl.1 rfl (lv_room (Nat.le_of_ble_eq_true rfl)) dX1_key_60 ⟨Nat.le_of_ble_eq_true rfl, Nat.le_of_ble_eq_true rfl⟩) (fun bo10 h_bo10 => ?_)
            refine lv_if_eq (tgt := 83) hx hb dX1_key_63 (by decide) (fun c11 => ?_) (fun c11 => ?_)
            · skip
              have c11 := btF h_bo10 c11
              refine lv_iconst (v := (-1)) hx hb dX1_key_83 (by decide) ?_
              exact W.iret (v := (-1)) hx hb hr (fun t9 ht9 hW9 => ⟨⟨(-1), (X, xt, xn), rfl, br_f (fun h => c11 h.2.2.1.1) ⟨rfl, rfl⟩, by rw [ht9]; exact hP, va_K.moved hW9.alike hK, hD⟩, hS.F ht9⟩) hS.2.2 dX1_key_84
            · skip
              have c11 := btT h_bo10 c11
              refine lv_iconst (v := (nI 0)) hx hb dX1_key_66 (by decide) ?_
              refine lv_iload_n hx hb dX1_key_67 rfl (lv_at hl 4 rfl) ?_
              refine vp_callSi (W.runS (As := [.int (nI 0), .int x2]) (rest := []) ⟨hx, hb, hml, hown, hts⟩ (cm_fits l (nI 0) x2) (va_cwS 2 hts gX1_key_X1_fits rfl rfl rfl (by decide +kernel) ⟨Nat.le_of_ble_eq_true rfl, Nat.le_of_ble_eq_true rfl⟩) preEq rfl rfl hl.1 rfl (lv_room (Nat.le_of_ble_eq_true rfl)) dX1_key_68 ⟨Nat.le_of_ble_eq_true rfl, Nat.le_of_ble_eq_true rfl⟩) (fun bo12 h_bo12 => ?_)
              refine lv_if_eq (tgt := 83) hx hb dX1_key_71 (by decide) (fun c13 => ?_) (fun c13 => ?_)
              · skip
                have c13 := btF h_bo12 c13
                refine lv_iconst (v := (-1)) hx hb dX1_key_83 (by decide) ?_
                exact W.iret (v := (-1)) hx hb hr (fun t9 ht9 hW9 => ⟨⟨(-1), (X, xt, xn), rfl, br_f (fun h => c13 h.2.2.1.2.1) ⟨rfl, rfl⟩, by rw [ht9]; exact hP, va_K.moved hW9.alike hK, hD⟩, hS.F ht9⟩) hS.2.2 dX1_key_84
              · skip
                have c13 := btT h_bo12 c13
                refine lv_iconst (v := (nI 0)) hx hb dX1_key_74 (by decide) ?_
                refine lv_iload hx hb dX1_key_75 (lv_at hl 5 rfl) ?_
                refine vp_callSi (W.runS (As := [.int (nI 0), .int x3]) (rest := []) ⟨hx, hb, hml, hown, hts⟩ (cm_fits l (nI 0) x3) (va_cwS 2 hts gX1_key_X1_fits rfl rfl rfl (by decide +kernel) ⟨Nat.le_of_ble_eq_true rfl, Nat.le_of_ble_eq_true rfl⟩) preEq rfl rfl hl.1 rfl (lv_room (Nat.le_of_ble_eq_true rfl)) dX1_key_77 ⟨Nat.le_of_ble_eq_true rfl, Nat.le_of_ble_eq_true rfl⟩) (fun bo14 h_bo14 => ?_)
                refine lv_if_ne (tgt := 85) hx hb dX1_key_80 (by decide) (fun c15 => ?_) (fun c15 => ?_)
                · skip
                  have c15 := btT h_bo14 c15
                  have hok : (X < 32 ∧ q_time t ∧ q_can (nI 0) x1 x2 x3 ∧ (0 < X → (xt (X - 1)).toInt < t.toInt)) := ⟨by omega, by unfold q_time; omega, ⟨c11, c13, c15⟩, fun h => by omega⟩
                  refine lv_aload_n hx hb dX1_key_85 rfl (lv_at hl 1 rfl) ?_
                  refine va_get (D := (dC, dI)) (ci := 1) (v := .ref b8) (C := RX1) (T := TX1) (N := 14) hx hb hts (by decide +kernel) hown hK hP 0 rfl rfl 5 (by decide) (hts (.fieldLink RX1 13 "MotionDeskModel" "textTimes" "[I") (by decide +kernel)) (fun _ h9 => h9) rfl dX1_key_86 ?_
                  refine lv_aload_n hx hb dX1_key_89 rfl (lv_at hl 1 rfl) ?_
                  refine va_get (D := (dC, dI)) (ci := 1) (v := .int (nI X)) (C := RX1) (T := TX1) (N := 14) hx hb hts (by decide +kernel) hown hK hP 0 rfl rfl 4 (by decide) (hts (.fieldLink RX1 48 "MotionDeskModel" "textKeys" "I") (by decide +kernel)) (fun _ h9 => h9) rfl dX1_key_90 ?_
                  refine lv_iload_n hx hb dX1_key_93 rfl (lv_at hl 2 rfl) ?_
                  refine va_iast hx hb hK hP hD hS 8 0 rfl rfl (vp_in_nI (by omega) (by omega)) dX1_key_94 (fun H locs hP hD hS => ?_)
                  rw [nI_clamp (show X < 2 ^ 31 by omega)] at hP hD
                  replace hP : va_P (dC, dI) vwCl (wM cA g0 b1 b2 b3 b4 b5 b6 b7 b8 b9 N T X nw fv tn tw th tk kt kn (upd xt X t) xn) H := hP
                  replace hD : va_D A (wM cA g0 b1 b2 b3 b4 b5 b6 b7 b8 b9 N T X nw fv tn tw th tk kt kn (upd xt X t) xn) := hD
                  refine lv_aload_n hx hb dX1_key_95 rfl (lv_at hl 1 rfl) ?_
                  refine va_get (D := (dC, dI)) (ci := 1) (v := .ref b9) (C := RX1) (T := TX1) (N := 14) hx hb hts (by decide +kernel) hown hK hP 0 rfl rfl 6 (by decide) (hts (.fieldLink RX1 16 "MotionDeskModel" "textValues" "[I") (by decide +kernel)) (fun _ h9 => h9) rfl dX1_key_96 ?_
                  refine lv_iconst (v := (nI 3)) hx hb dX1_key_99 (by decide) ?_
                  refine lv_aload_n hx hb dX1_key_100 rfl (lv_at hl 1 rfl) ?_
                  refine va_get (D := (dC, dI)) (ci := 1) (v := .int (nI X)) (C := RX1) (T := TX1) (N := 14) hx hb hts (by decide +kernel) hown hK hP 0 rfl rfl 4 (by decide) (hts (.fieldLink RX1 48 "MotionDeskModel" "textKeys" "I") (by decide +kernel)) (fun _ h9 => h9) rfl dX1_key_101 ?_
                  refine lv_imul hx hb dX1_key_104 ?_
                  refine tp_i (y := nI (X * 3)) (by rw [pk_mul, Nat.mul_comm]) ?_
                  refine lv_iload_n hx hb dX1_key_105 rfl (lv_at hl 3 rfl) ?_
                  refine va_iast hx hb hK hP hD hS 9 0 rfl rfl (vp_in_nI (by omega) (by omega)) dX1_key_106 (fun H locs hP hD hS => ?_)
                  rw [nI_clamp (show X * 3 < 2 ^ 31 by omega)] at hP hD
                  replace hP : va_P (dC, dI) vwCl (wM cA g0 b1 b2 b3 b4 b5 b6 b7 b8 b9 N T X nw fv tn tw th tk kt kn (upd xt X t) (upd xn (X * 3) x1)) H := hP
                  replace hD : va_D A (wM cA g0 b1 b2 b3 b4 b5 b6 b7 b8 b9 N T X nw fv tn tw th tk kt kn (upd xt X t) (upd xn (X * 3) x1)) := hD
                  refine lv_aload_n hx hb dX1_key_107 rfl (lv_at hl 1 rfl) ?_
                  refine va_get (D := (dC, dI)) (ci := 1) (v := .ref b9) (C := RX1) (T := TX1) (N := 14) hx hb hts (by decide +kernel) hown hK hP 0 rfl rfl 6 (by decide) (hts (.fieldLink RX1 16 "MotionDeskModel" "textValues" "[I") (by decide +kernel)) (fun _ h9 => h9) rfl dX1_key_108 ?_
                  refine lv_iconst (v := (nI 3)) hx hb dX1_key_111 (by decide) ?_
                  refine lv_aload_n hx hb dX1_key_112 rfl (lv_at hl 1 rfl) ?_
                  refine va_get (D := (dC, dI)) (ci := 1) (v := .int (nI X)) (C := RX1) (T := TX1) (N := 14) hx hb hts (by decide +kernel) hown hK hP 0 rfl rfl 4 (by decide) (hts (.fieldLink RX1 48 "MotionDeskModel" "textKeys" "I") (by decide +kernel)) (fun _ h9 => h9) rfl dX1_key_113 ?_
                  refine lv_imul hx hb dX1_key_116 ?_
                  refine tp_i (y := nI (X * 3)) (by rw [pk_mul, Nat.mul_comm]) ?_
                  refine lv_iconst (v := (nI 1)) hx hb dX1_key_117 (by decide) ?_
                  refine lv_iadd hx hb dX1_key_118 ?_
                  refine tp_i (y := nI (X * 3 + 1)) (nI_add _ 1) ?_
                  refine lv_iload_n hx hb dX1_key_119 rfl (lv_at hl 4 rfl) ?_
                  refine va_iast hx hb hK hP hD hS 9 0 rfl rfl (vp_in_nI (by omega) (by omega)) dX1_key_120 (fun H locs hP hD hS => ?_)
                  rw [nI_clamp (show X * 3 + 1 < 2 ^ 31 by omega)] at hP hD
                  replace hP : va_P (dC, dI) vwCl (wM cA g0 b1 b2 b3 b4 b5 b6 b7 b8 b9 N T X nw fv tn tw th tk kt kn (upd xt X t) (upd (upd xn (X * 3) x1) (X * 3 + 1) x2)) H := hP
                  replace hD : va_D A (wM cA g0 b1 b2 b3 b4 b5 b6 b7 b8 b9 N T X nw fv tn tw th tk kt kn (upd xt X t) (upd (upd xn (X * 3) x1) (X * 3 + 1) x2)) := hD
                  refine lv_aload_n hx hb dX1_key_121 rfl (lv_at hl 1 rfl) ?_
                  refine va_get (D := (dC, dI)) (ci := 1) (v := .ref b9) (C := RX1) (T := TX1) (N := 14) hx hb hts (by decide +kernel) hown hK hP 0 rfl rfl 6 (by decide) (hts (.fieldLink RX1 16 "MotionDeskModel" "textValues" "[I") (by decide +kernel)) (fun _ h9 => h9) rfl dX1_key_122 ?_
                  refine lv_iconst (v := (nI 3)) hx hb dX1_key_125 (by decide) ?_
                  refine lv_aload_n hx hb dX1_key_126 rfl (lv_at hl 1 rfl) ?_
                  refine va_get (D := (dC, dI)) (ci := 1) (v := .int (nI X)) (C := RX1) (T := TX1) (N := 14) hx hb hts (by decide +kernel) hown hK hP 0 rfl rfl 4 (by decide) (hts (.fieldLink RX1 48 "MotionDeskModel" "textKeys" "I") (by decide +kernel)) (fun _ h9 => h9) rfl dX1_key_127 ?_
                  refine lv_imul hx hb dX1_key_130 ?_
                  refine tp_i (y := nI (X * 3)) (by rw [pk_mul, Nat.mul_comm]) ?_
                  refine lv_iconst (v := (nI 2)) hx hb dX1_key_131 (by decide) ?_
                  refine lv_iadd hx hb dX1_key_132 ?_
                  refine tp_i (y := nI (X * 3 + 2)) (nI_add _ 2) ?_
                  refine lv_iload hx hb dX1_key_133 (lv_at hl 5 rfl) ?_
                  refine va_iast hx hb hK hP hD hS 9 0 rfl rfl (vp_in_nI (by omega) (by omega)) dX1_key_135 (fun H locs hP hD hS => ?_)
                  rw [nI_clamp (show X * 3 + 2 < 2 ^ 31 by omega)] at hP hD
                  replace hP : va_P (dC, dI) vwCl (wM cA g0 b1 b2 b3 b4 b5 b6 b7 b8 b9 N T X nw fv tn tw th tk kt kn (upd xt X t) (upd (upd (upd xn (X * 3) x1) (X * 3 + 1) x2) (X * 3 + 2) x3)) H := hP
                  replace hD : va_D A (wM cA g0 b1 b2 b3 b4 b5 b6 b7 b8 b9 N T X nw fv tn tw th tk kt kn (upd xt X t) (upd (upd (upd xn (X * 3) x1) (X * 3 + 1) x2) (X * 3 + 2) x3)) := hD
                  refine lv_aload_n hx hb dX1_key_136 rfl (lv_at hl 1 rfl) ?_
                  refine lv_dup hx hb dX1_key_137 rfl ?_
                  refine va_get (D := (dC, dI)) (ci := 1) (v := .int (nI X)) (C := RX1) (T := TX1) (N := 14) hx hb hts (by decide +kernel) hown hK hP 0 rfl rfl 4 (by decide) (hts (.fieldLink RX1 48 "MotionDeskModel" "textKeys" "I") (by decide +kernel)) (fun _ h9 => h9) rfl dX1_key_138 ?_
                  refine lv_iconst (v := (nI 1)) hx hb dX1_key_141 (by decide) ?_
                  refine lv_iadd hx hb dX1_key_142 ?_
                  refine tp_i (y := nI (X + 1)) (nI_1 X) ?_
                  refine va_put (D := (dC, dI)) (ci := 1) (v := .int (nI (X + 1))) (ty := .int) (C := RX1) (T := TX1) (N := 14) hx hb hts (by decide +kernel) tyX1 tyX1_ok nmX1 hown hK hP hD hS 0 rfl rfl 4 (by decide) (hts (.fieldLink RX1 48 "MotionDeskModel" "textKeys" "I") (by decide +kernel)) (fun _ h9 => h9) rfl (by decide +kernel) rfl rfl (Nat.le_of_ble_eq_true rfl) dX1_key_143 (fun H locs hP hD hS => ?_)
                  replace hP : va_P (dC, dI) vwCl (wM cA g0 b1 b2 b3 b4 b5 b6 b7 b8 b9 N T (X + 1) nw fv tn tw th tk kt kn (upd xt X t) (upd (upd (upd xn (X * 3) x1) (X * 3 + 1) x2) (X * 3 + 2) x3)) H := hP
                  replace hD : va_D A (wM cA g0 b1 b2 b3 b4 b5 b6 b7 b8 b9 N T (X + 1) nw fv tn tw th tk kt kn (upd xt X t) (upd (upd (upd xn (X * 3) x1) (X * 3 + 1) x2) (X * 3 + 2) x3)) := hD
                  refine lv_aload_n hx hb dX1_key_146 rfl (lv_at hl 1 rfl) ?_
                  refine va_get (D := (dC, dI)) (ci := 1) (v := .int (nI (X + 1))) (C := RX1) (T := TX1) (N := 14) hx hb hts (by decide +kernel) hown hK hP 0 rfl rfl 4 (by decide) (hts (.fieldLink RX1 48 "MotionDeskModel" "textKeys" "I") (by decide +kernel)) (fun _ h9 => h9) rfl dX1_key_147 ?_
                  exact W.iret (v := nI (X + 1)) hx hb hr (fun t9 ht9 hW9 => ⟨⟨nI (X + 1), ((X + 1), (upd xt X t), (upd (upd (upd xn (X * 3) x1) (X * 3 + 1) x2) (X * 3 + 2) x3)), rfl, br_t hok ⟨rfl, rfl⟩, by rw [ht9]; exact hP, va_K.moved hW9.alike hK, hD⟩, hS.F ht9⟩) hS.2.2 dX1_key_150
                · skip
                  have c15 := btF h_bo14 c15
                  refine lv_iconst (v := (-1)) hx hb dX1_key_83 (by decide) ?_
                  exact W.iret (v := (-1)) hx hb hr (fun t9 ht9 hW9 => ⟨⟨(-1), (X, xt, xn), rfl, br_f (fun h => c15 h.2.2.1.2.2) ⟨rfl, rfl⟩, by rw [ht9]; exact hP, va_K.moved hW9.alike hK, hD⟩, hS.F ht9⟩) hS.2.2 dX1_key_84
      · skip
        have c7 := zne c7
        refine lv_iload_n hx hb dX1_key_22 rfl (lv_at hl 1 rfl) ?_
        refine lv_aload_n hx hb dX1_key_23 rfl (lv_at hl 0 rfl) ?_
        refine va_get (D := (dC, dI)) (ci := 1) (v := .ref b8) (C := RX1) (T := TX1) (N := 14) hx hb hts (by decide +kernel) hown hK hP 0 rfl rfl 5 (by decide) (hts (.fieldLink RX1 13 "MotionDeskModel" "textTimes" "[I") (by decide +kernel)) (fun _ h9 => h9) rfl dX1_key_24 ?_
        refine lv_aload_n hx hb dX1_key_27 rfl (lv_at hl 0 rfl) ?_
        refine va_get (D := (dC, dI)) (ci := 1) (v := .int (nI X)) (C := RX1) (T := TX1) (N := 14) hx hb hts (by decide +kernel) hown hK hP 0 rfl rfl 4 (by decide) (hts (.fieldLink RX1 48 "MotionDeskModel" "textKeys" "I") (by decide +kernel)) (fun _ h9 => h9) rfl dX1_key_28 ?_
        refine lv_iconst (v := (nI 1)) hx hb dX1_key_31 (by decide) ?_
        refine lv_isub hx hb dX1_key_32 ?_
        refine tp_i (y := nI (X - 1)) (pk_sub (show 1 ≤ X by omega)) ?_
        refine va_iald hx hb hK hP 8 0 rfl rfl (vp_in_nI (by omega) (by omega)) dX1_key_33 ?_
        refine tp_i (y := (xt (X - 1))) (by rw [nI_clamp (by omega)]) ?_
        refine lv_icmp_le (tgt := 41) hx hb dX1_key_34 (by decide) (fun c16 => ?_) (fun c16 => ?_)
        · skip
          have c16 := zle c16
          refine lv_iconst (v := (nI 0)) hx hb dX1_key_41 (by decide) ?_
          refine lv_istore (lv' := [(5, .int (nI 0)), (0, .ref g0), (1, .int t), (2, .int x1), (3, .int x2), (4, .int x3)]) hx hb dX1_key_42 hl (by decide) rfl (fun ls hl => ?_)
          refine lv_aload_n hx hb dX1_key_44 rfl (lv_at hl 1 rfl) ?_
          refine va_get (D := (dC, dI)) (ci := 1) (v := .int (nI X)) (C := RX1) (T := TX1) (N := 14) hx hb hts (by decide +kernel) hown hK hP 0 rfl rfl 4 (by decide) (hts (.fieldLink RX1 48 "MotionDeskModel" "textKeys" "I") (by decide +kernel)) (fun _ h9 => h9) rfl dX1_key_45 ?_
          refine lv_bipush (v := (nI 32)) hx hb dX1_key_48 (by decide) ?_
          refine lv_icmp_eq (tgt := 83) hx hb dX1_key_50 (by decide) (fun c17 => ?_) (fun c17 => ?_)
          · skip
            have c17 := zeq c17
            refine lv_iconst (v := (-1)) hx hb dX1_key_83 (by decide) ?_
            exact W.iret (v := (-1)) hx hb hr (fun t9 ht9 hW9 => ⟨⟨(-1), (X, xt, xn), rfl, br_f (fun h => by obtain ⟨g1, g2, -, g4⟩ := h; unfold q_time at g2; omega) ⟨rfl, rfl⟩, by rw [ht9]; exact hP, va_K.moved hW9.alike hK, hD⟩, hS.F ht9⟩) hS.2.2 dX1_key_84
          · skip
            have c17 := zne c17
            refine lv_iload hx hb dX1_key_53 (lv_at hl 0 rfl) ?_
            refine lv_if_eq (tgt := 83) hx hb dX1_key_55 (by decide) (fun c18 => ?_) (fun c18 => ?_)
            · skip
              have c18 := c18
              refine lv_iconst (v := (-1)) hx hb dX1_key_83 (by decide) ?_
              exact W.iret (v := (-1)) hx hb hr (fun t9 ht9 hW9 => ⟨⟨(-1), (X, xt, xn), rfl, br_f (fun h => by obtain ⟨g1, g2, -, g4⟩ := h; unfold q_time at g2; omega) ⟨rfl, rfl⟩, by rw [ht9]; exact hP, va_K.moved hW9.alike hK, hD⟩, hS.F ht9⟩) hS.2.2 dX1_key_84
            · skip
              have c18 := c18
              exact absurd c18 (by decide)
        · skip
          have c16 := znle c16
          refine lv_iconst (v := (nI 1)) hx hb dX1_key_37 (by decide) ?_
          refine lv_goto (tgt := 42) hx hb dX1_key_38 (by decide) ?_
          refine lv_istore (lv' := [(5, .int (nI 1)), (0, .ref g0), (1, .int t), (2, .int x1), (3, .int x2), (4, .int x3)]) hx hb dX1_key_42 hl (by decide) rfl (fun ls hl => ?_)
          refine lv_aload_n hx hb dX1_key_44 rfl (lv_at hl 1 rfl) ?_
          refine va_get (D := (dC, dI)) (ci := 1) (v := .int (nI X)) (C := RX1) (T := TX1) (N := 14) hx hb hts (by decide +kernel) hown hK hP 0 rfl rfl 4 (by decide) (hts (.fieldLink RX1 48 "MotionDeskModel" "textKeys" "I") (by decide +kernel)) (fun _ h9 => h9) rfl dX1_key_45 ?_
          refine lv_bipush (v := (nI 32)) hx hb dX1_key_48 (by decide) ?_
          refine lv_icmp_eq (tgt := 83) hx hb dX1_key_50 (by decide) (fun c19 => ?_) (fun c19 => ?_)
          · skip
            have c19 := zeq c19
            refine lv_iconst (v := (-1)) hx hb dX1_key_83 (by decide) ?_
            exact W.iret (v := (-1)) hx hb hr (fun t9 ht9 hW9 => ⟨⟨(-1), (X, xt, xn), rfl, br_f (fun h => by obtain ⟨g1, g2, -, g4⟩ := h; unfold q_time at g2; omega) ⟨rfl, rfl⟩, by rw [ht9]; exact hP, va_K.moved hW9.alike hK, hD⟩, hS.F ht9⟩) hS.2.2 dX1_key_84
          · skip
            have c19 := zne c19
            refine lv_iload hx hb dX1_key_53 (lv_at hl 0 rfl) ?_
            refine lv_if_eq (tgt := 83) hx hb dX1_key_55 (by decide) (fun c20 => ?_) (fun c20 => ?_)
            · skip
              have c20 := c20
              exact absurd c20 (by decide)
            · skip
              have c20 := c20
              refine lv_iconst (v := (nI 0)) hx hb dX1_key_58 (by decide) ?_
              refine lv_iload_n hx hb dX1_key_59 rfl (lv_at hl 3 rfl) ?_
              refine vp_callSi (W.runS (As := [.int (nI 0), .int x1]) (rest := []) ⟨hx, hb, hml, hown, hts⟩ (cm_fits l (nI 0) x1) (va_cwS 2 hts gX1_key_X1_fits rfl rfl rfl (by decide +kernel) ⟨Nat.le_of_ble_eq_true rfl, Nat.le_of_ble_eq_true rfl⟩) preEq rfl rfl hl.1 rfl (lv_room (Nat.le_of_ble_eq_true rfl)) dX1_key_60 ⟨Nat.le_of_ble_eq_true rfl, Nat.le_of_ble_eq_true rfl⟩) (fun bo21 h_bo21 => ?_)
              refine lv_if_eq (tgt := 83) hx hb dX1_key_63 (by decide) (fun c22 => ?_) (fun c22 => ?_)
              · skip
                have c22 := btF h_bo21 c22
                refine lv_iconst (v := (-1)) hx hb dX1_key_83 (by decide) ?_
                exact W.iret (v := (-1)) hx hb hr (fun t9 ht9 hW9 => ⟨⟨(-1), (X, xt, xn), rfl, br_f (fun h => c22 h.2.2.1.1) ⟨rfl, rfl⟩, by rw [ht9]; exact hP, va_K.moved hW9.alike hK, hD⟩, hS.F ht9⟩) hS.2.2 dX1_key_84
              · skip
                have c22 := btT h_bo21 c22
                refine lv_iconst (v := (nI 0)) hx hb dX1_key_66 (by decide) ?_
                refine lv_iload_n hx hb dX1_key_67 rfl (lv_at hl 4 rfl) ?_
                refine vp_callSi (W.runS (As := [.int (nI 0), .int x2]) (rest := []) ⟨hx, hb, hml, hown, hts⟩ (cm_fits l (nI 0) x2) (va_cwS 2 hts gX1_key_X1_fits rfl rfl rfl (by decide +kernel) ⟨Nat.le_of_ble_eq_true rfl, Nat.le_of_ble_eq_true rfl⟩) preEq rfl rfl hl.1 rfl (lv_room (Nat.le_of_ble_eq_true rfl)) dX1_key_68 ⟨Nat.le_of_ble_eq_true rfl, Nat.le_of_ble_eq_true rfl⟩) (fun bo23 h_bo23 => ?_)
                refine lv_if_eq (tgt := 83) hx hb dX1_key_71 (by decide) (fun c24 => ?_) (fun c24 => ?_)
                · skip
                  have c24 := btF h_bo23 c24
                  refine lv_iconst (v := (-1)) hx hb dX1_key_83 (by decide) ?_
                  exact W.iret (v := (-1)) hx hb hr (fun t9 ht9 hW9 => ⟨⟨(-1), (X, xt, xn), rfl, br_f (fun h => c24 h.2.2.1.2.1) ⟨rfl, rfl⟩, by rw [ht9]; exact hP, va_K.moved hW9.alike hK, hD⟩, hS.F ht9⟩) hS.2.2 dX1_key_84
                · skip
                  have c24 := btT h_bo23 c24
                  refine lv_iconst (v := (nI 0)) hx hb dX1_key_74 (by decide) ?_
                  refine lv_iload hx hb dX1_key_75 (lv_at hl 5 rfl) ?_
                  refine vp_callSi (W.runS (As := [.int (nI 0), .int x3]) (rest := []) ⟨hx, hb, hml, hown, hts⟩ (cm_fits l (nI 0) x3) (va_cwS 2 hts gX1_key_X1_fits rfl rfl rfl (by decide +kernel) ⟨Nat.le_of_ble_eq_true rfl, Nat.le_of_ble_eq_true rfl⟩) preEq rfl rfl hl.1 rfl (lv_room (Nat.le_of_ble_eq_true rfl)) dX1_key_77 ⟨Nat.le_of_ble_eq_true rfl, Nat.le_of_ble_eq_true rfl⟩) (fun bo25 h_bo25 => ?_)
                  refine lv_if_ne (tgt := 85) hx hb dX1_key_80 (by decide) (fun c26 => ?_) (fun c26 => ?_)
                  · skip
                    have c26 := btT h_bo25 c26
                    have hok : (X < 32 ∧ q_time t ∧ q_can (nI 0) x1 x2 x3 ∧ (0 < X → (xt (X - 1)).toInt < t.toInt)) := ⟨by omega, by unfold q_time; omega, ⟨c22, c24, c26⟩, fun h => by omega⟩
                    refine lv_aload_n hx hb dX1_key_85 rfl (lv_at hl 1 rfl) ?_
                    refine va_get (D := (dC, dI)) (ci := 1) (v := .ref b8) (C := RX1) (T := TX1) (N := 14) hx hb hts (by decide +kernel) hown hK hP 0 rfl rfl 5 (by decide) (hts (.fieldLink RX1 13 "MotionDeskModel" "textTimes" "[I") (by decide +kernel)) (fun _ h9 => h9) rfl dX1_key_86 ?_
                    refine lv_aload_n hx hb dX1_key_89 rfl (lv_at hl 1 rfl) ?_
                    refine va_get (D := (dC, dI)) (ci := 1) (v := .int (nI X)) (C := RX1) (T := TX1) (N := 14) hx hb hts (by decide +kernel) hown hK hP 0 rfl rfl 4 (by decide) (hts (.fieldLink RX1 48 "MotionDeskModel" "textKeys" "I") (by decide +kernel)) (fun _ h9 => h9) rfl dX1_key_90 ?_
                    refine lv_iload_n hx hb dX1_key_93 rfl (lv_at hl 2 rfl) ?_
                    refine va_iast hx hb hK hP hD hS 8 0 rfl rfl (vp_in_nI (by omega) (by omega)) dX1_key_94 (fun H locs hP hD hS => ?_)
                    rw [nI_clamp (show X < 2 ^ 31 by omega)] at hP hD
                    replace hP : va_P (dC, dI) vwCl (wM cA g0 b1 b2 b3 b4 b5 b6 b7 b8 b9 N T X nw fv tn tw th tk kt kn (upd xt X t) xn) H := hP
                    replace hD : va_D A (wM cA g0 b1 b2 b3 b4 b5 b6 b7 b8 b9 N T X nw fv tn tw th tk kt kn (upd xt X t) xn) := hD
                    refine lv_aload_n hx hb dX1_key_95 rfl (lv_at hl 1 rfl) ?_
                    refine va_get (D := (dC, dI)) (ci := 1) (v := .ref b9) (C := RX1) (T := TX1) (N := 14) hx hb hts (by decide +kernel) hown hK hP 0 rfl rfl 6 (by decide) (hts (.fieldLink RX1 16 "MotionDeskModel" "textValues" "[I") (by decide +kernel)) (fun _ h9 => h9) rfl dX1_key_96 ?_
                    refine lv_iconst (v := (nI 3)) hx hb dX1_key_99 (by decide) ?_
                    refine lv_aload_n hx hb dX1_key_100 rfl (lv_at hl 1 rfl) ?_
                    refine va_get (D := (dC, dI)) (ci := 1) (v := .int (nI X)) (C := RX1) (T := TX1) (N := 14) hx hb hts (by decide +kernel) hown hK hP 0 rfl rfl 4 (by decide) (hts (.fieldLink RX1 48 "MotionDeskModel" "textKeys" "I") (by decide +kernel)) (fun _ h9 => h9) rfl dX1_key_101 ?_
                    refine lv_imul hx hb dX1_key_104 ?_
                    refine tp_i (y := nI (X * 3)) (by rw [pk_mul, Nat.mul_comm]) ?_
                    refine lv_iload_n hx hb dX1_key_105 rfl (lv_at hl 3 rfl) ?_
                    refine va_iast hx hb hK hP hD hS 9 0 rfl rfl (vp_in_nI (by omega) (by omega)) dX1_key_106 (fun H locs hP hD hS => ?_)
                    rw [nI_clamp (show X * 3 < 2 ^ 31 by omega)] at hP hD
                    replace hP : va_P (dC, dI) vwCl (wM cA g0 b1 b2 b3 b4 b5 b6 b7 b8 b9 N T X nw fv tn tw th tk kt kn (upd xt X t) (upd xn (X * 3) x1)) H := hP
                    replace hD : va_D A (wM cA g0 b1 b2 b3 b4 b5 b6 b7 b8 b9 N T X nw fv tn tw th tk kt kn (upd xt X t) (upd xn (X * 3) x1)) := hD
                    refine lv_aload_n hx hb dX1_key_107 rfl (lv_at hl 1 rfl) ?_
                    refine va_get (D := (dC, dI)) (ci := 1) (v := .ref b9) (C := RX1) (T := TX1) (N := 14) hx hb hts (by decide +kernel) hown hK hP 0 rfl rfl 6 (by decide) (hts (.fieldLink RX1 16 "MotionDeskModel" "textValues" "[I") (by decide +kernel)) (fun _ h9 => h9) rfl dX1_key_108 ?_
                    refine lv_iconst (v := (nI 3)) hx hb dX1_key_111 (by decide) ?_
                    refine lv_aload_n hx hb dX1_key_112 rfl (lv_at hl 1 rfl) ?_
                    refine va_get (D := (dC, dI)) (ci := 1) (v := .int (nI X)) (C := RX1) (T := TX1) (N := 14) hx hb hts (by decide +kernel) hown hK hP 0 rfl rfl 4 (by decide) (hts (.fieldLink RX1 48 "MotionDeskModel" "textKeys" "I") (by decide +kernel)) (fun _ h9 => h9) rfl dX1_key_113 ?_
                    refine lv_imul hx hb dX1_key_116 ?_
                    refine tp_i (y := nI (X * 3)) (by rw [pk_mul, Nat.mul_comm]) ?_
                    refine lv_iconst (v := (nI 1)) hx hb dX1_key_117 (by decide) ?_
                    refine lv_iadd hx hb dX1_key_118 ?_
                    refine tp_i (y := nI (X * 3 + 1)) (nI_add _ 1) ?_
                    refine lv_iload_n hx hb dX1_key_119 rfl (lv_at hl 4 rfl) ?_
                    refine va_iast hx hb hK hP hD hS 9 0 rfl rfl (vp_in_nI (by omega) (by omega)) dX1_key_120 (fun H locs hP hD hS => ?_)
                    rw [nI_clamp (show X * 3 + 1 < 2 ^ 31 by omega)] at hP hD
                    replace hP : va_P (dC, dI) vwCl (wM cA g0 b1 b2 b3 b4 b5 b6 b7 b8 b9 N T X nw fv tn tw th tk kt kn (upd xt X t) (upd (upd xn (X * 3) x1) (X * 3 + 1) x2)) H := hP
                    replace hD : va_D A (wM cA g0 b1 b2 b3 b4 b5 b6 b7 b8 b9 N T X nw fv tn tw th tk kt kn (upd xt X t) (upd (upd xn (X * 3) x1) (X * 3 + 1) x2)) := hD
                    refine lv_aload_n hx hb dX1_key_121 rfl (lv_at hl 1 rfl) ?_
                    refine va_get (D := (dC, dI)) (ci := 1) (v := .ref b9) (C := RX1) (T := TX1) (N := 14) hx hb hts (by decide +kernel) hown hK hP 0 rfl rfl 6 (by decide) (hts (.fieldLink RX1 16 "MotionDeskModel" "textValues" "[I") (by decide +kernel)) (fun _ h9 => h9) rfl dX1_key_122 ?_
                    refine lv_iconst (v := (nI 3)) hx hb dX1_key_125 (by decide) ?_
                    refine lv_aload_n hx hb dX1_key_126 rfl (lv_at hl 1 rfl) ?_
                    refine va_get (D := (dC, dI)) (ci := 1) (v := .int (nI X)) (C := RX1) (T := TX1) (N := 14) hx hb hts (by decide +kernel) hown hK hP 0 rfl rfl 4 (by decide) (hts (.fieldLink RX1 48 "MotionDeskModel" "textKeys" "I") (by decide +kernel)) (fun _ h9 => h9) rfl dX1_key_127 ?_
                    refine lv_imul hx hb dX1_key_130 ?_
                    refine tp_i (y := nI (X * 3)) (by rw [pk_mul, Nat.mul_comm]) ?_
                    refine lv_iconst (v := (nI 2)) hx hb dX1_key_131 (by decide) ?_
                    refine lv_iadd hx hb dX1_key_132 ?_
                    refine tp_i (y := nI (X * 3 + 2)) (nI_add _ 2) ?_
                    refine lv_iload hx hb dX1_key_133 (lv_at hl 5 rfl) ?_
                    refine va_iast hx hb hK hP hD hS 9 0 rfl rfl (vp_in_nI (by omega) (by omega)) dX1_key_135 (fun H locs hP hD hS => ?_)
                    rw [nI_clamp (show X * 3 + 2 < 2 ^ 31 by omega)] at hP hD
                    replace hP : va_P (dC, dI) vwCl (wM cA g0 b1 b2 b3 b4 b5 b6 b7 b8 b9 N T X nw fv tn tw th tk kt kn (upd xt X t) (upd (upd (upd xn (X * 3) x1) (X * 3 + 1) x2) (X * 3 + 2) x3)) H := hP
                    replace hD : va_D A (wM cA g0 b1 b2 b3 b4 b5 b6 b7 b8 b9 N T X nw fv tn tw th tk kt kn (upd xt X t) (upd (upd (upd xn (X * 3) x1) (X * 3 + 1) x2) (X * 3 + 2) x3)) := hD
                    refine lv_aload_n hx hb dX1_key_136 rfl (lv_at hl 1 rfl) ?_
                    refine lv_dup hx hb dX1_key_137 rfl ?_
                    refine va_get (D := (dC, dI)) (ci := 1) (v := .int (nI X)) (C := RX1) (T := TX1) (N := 14) hx hb hts (by decide +kernel) hown hK hP 0 rfl rfl 4 (by decide) (hts (.fieldLink RX1 48 "MotionDeskModel" "textKeys" "I") (by decide +kernel)) (fun _ h9 => h9) rfl dX1_key_138 ?_
                    refine lv_iconst (v := (nI 1)) hx hb dX1_key_141 (by decide) ?_
                    refine lv_iadd hx hb dX1_key_142 ?_
                    refine tp_i (y := nI (X + 1)) (nI_1 X) ?_
                    refine va_put (D := (dC, dI)) (ci := 1) (v := .int (nI (X + 1))) (ty := .int) (C := RX1) (T := TX1) (N := 14) hx hb hts (by decide +kernel) tyX1 tyX1_ok nmX1 hown hK hP hD hS 0 rfl rfl 4 (by decide) (hts (.fieldLink RX1 48 "MotionDeskModel" "textKeys" "I") (by decide +kernel)) (fun _ h9 => h9) rfl (by decide +kernel) rfl rfl (Nat.le_of_ble_eq_true rfl) dX1_key_143 (fun H locs hP hD hS => ?_)
                    replace hP : va_P (dC, dI) vwCl (wM cA g0 b1 b2 b3 b4 b5 b6 b7 b8 b9 N T (X + 1) nw fv tn tw th tk kt kn (upd xt X t) (upd (upd (upd xn (X * 3) x1) (X * 3 + 1) x2) (X * 3 + 2) x3)) H := hP
                    replace hD : va_D A (wM cA g0 b1 b2 b3 b4 b5 b6 b7 b8 b9 N T (X + 1) nw fv tn tw th tk kt kn (upd xt X t) (upd (upd (upd xn (X * 3) x1) (X * 3 + 1) x2) (X * 3 + 2) x3)) := hD
                    refine lv_aload_n hx hb dX1_key_146 rfl (lv_at hl 1 rfl) ?_
                    refine va_get (D := (dC, dI)) (ci := 1) (v := .int (nI (X + 1))) (C := RX1) (T := TX1) (N := 14) hx hb hts (by decide +kernel) hown hK hP 0 rfl rfl 4 (by decide) (hts (.fieldLink RX1 48 "MotionDeskModel" "textKeys" "I") (by decide +kernel)) (fun _ h9 => h9) rfl dX1_key_147 ?_
                    exact W.iret (v := nI (X + 1)) hx hb hr (fun t9 ht9 hW9 => ⟨⟨nI (X + 1), ((X + 1), (upd xt X t), (upd (upd (upd xn (X * 3) x1) (X * 3 + 1) x2) (X * 3 + 2) x3)), rfl, br_t hok ⟨rfl, rfl⟩, by rw [ht9]; exact hP, va_K.moved hW9.alike hK, hD⟩, hS.F ht9⟩) hS.2.2 dX1_key_150
                  · skip
                    have c26 := btF h_bo25 c26
                    refine lv_iconst (v := (-1)) hx hb dX1_key_83 (by decide) ?_
                    exact W.iret (v := (-1)) hx hb hr (fun t9 ht9 hW9 => ⟨⟨(-1), (X, xt, xn), rfl, br_f (fun h => c26 h.2.2.1.2.2) ⟨rfl, rfl⟩, by rw [ht9]; exact hP, va_K.moved hW9.alike hK, hD⟩, hS.F ht9⟩) hS.2.2 dX1_key_84
set_option maxHeartbeats 4000000 in
set_option maxRecDepth 100000 in
/-- count(what) -/
theorem cm_count (l : Launch) (dC : Nat → ClassId) (dI : Nat → Nat → Nat) (cA : ClassId) (g0 b1 b2 b3 b4 b5 b6 b7 b8 b9 N T X : Nat) (nw : Int32) (fv tn tw th tk kt kn xt xn : Nat → Int32) (sz : Nat) (a : Int32) (hT : T ≤ 32) : Met l yX1_count wsX1_count ({ frames := 0, cells := 0, slots := 0, locals := 0 }) (va_Pc [.ref g0, .int a] (eM sz dC dI cA g0 b1 b2 b3 b4 b5 b6 b7 b8 b9 N T X nw fv tn tw th tk kt kn xt xn)) (va_Qi (fun (r : Int32) (u : Unit) => r = if a.toInt = 0 then nI N else if a.toInt = 1 then nI T else if a.toInt = 2 then bx_sum tk T else if a.toInt = 3 then nw else if a.toInt = 4 then nI X else -1) (fun u => bM (va_A (wM cA g0 b1 b2 b3 b4 b5 b6 b7 b8 b9 N T X nw fv tn tw th tk kt kn xt xn) sz) dC dI cA g0 b1 b2 b3 b4 b5 b6 b7 b8 b9 N T X nw fv tn tw th tk kt kn xt xn) (va_A (wM cA g0 b1 b2 b3 b4 b5 b6 b7 b8 b9 N T X nw fv tn tw th tk kt kn xt xn) sz)) 0 0 (va_A (wM cA g0 b1 b2 b3 b4 b5 b6 b7 b8 b9 N T X nw fv tn tw th tk kt kn xt xn) sz) := by
  refine Met.ofW (cc := cX1_count) (maxL := 4) (ret := (some .int)) (by decide) rfl ?_
  intro p e s m args below meth c s₁ B hml hv
  obtain ⟨rfl, hsz, hP, hK, hD0⟩ := hv
  have hx := B.exec
  have hb := B.bytes
  have hr := B.returns
  have hts := atoms_spec (ws := wsX1_count) B.pre
  have hown : s.vm.findClass RX1 = some m.cls := findClass_of_methodNamed B.named
  have hlocks := B.notSynchronized
  subst hsz
  have hD := hD0.self (sz := s.heap.size)
  generalize hAe : va_A (wM cA g0 b1 b2 b3 b4 b5 b6 b7 b8 b9 N T X nw fv tn tw th tk kt kn xt xn) s.heap.size = A at hD ⊢
  have hA : ∀ q : Nat, s.heap.size ≤ q → A q := fun q h => by rw [← hAe]; exact Or.inr h
  have hS : va_S A s.heap s.heap [] := va_S.rf
  have hP : va_P (dC, dI) vwCl (wM cA g0 b1 b2 b3 b4 b5 b6 b7 b8 b9 N T X nw fv tn tw th tk kt kn xt xn) s.heap := hP
  have hl := lv_entry ([.ref g0, .int a]) (n := 4) (Nat.le_of_ble_eq_true rfl)
  rw [lg_entry_eq]
  generalize (lg_sl ([.ref g0, .int a]) ++ List.replicate (4 - (lg_sl ([.ref g0, .int a])).length) Slot.unset).toArray = ls at hl ⊢
  have hl : lv_has ls 4 [(0, .ref g0), (1, .int a)] := hl
  have t2 : (nI T).toInt = T := nI_toInt (by omega)
  refine lv_aload_n hx hb dX1_count_0 rfl (lv_at hl 0 rfl) ?_
  refine lv_iconst (v := (nI 0)) hx hb dX1_count_1 (by decide) ?_
  refine va_put (D := (dC, dI)) (ci := 1) (v := .int (nI 0)) (ty := .int) (C := RX1) (T := TX1) (N := 14) hx hb hts (by decide +kernel) tyX1 tyX1_ok nmX1 hown hK hP hD hS 0 rfl rfl 0 (by decide) (hts (.fieldLink RX1 42 "MotionDeskModel" "thrown" "I") (by decide +kernel)) (fun _ h9 => h9) rfl (by decide +kernel) rfl rfl (Nat.le_of_ble_eq_true rfl) dX1_count_2 (fun H locs hP hD hS => ?_)
  replace hP : va_P (dC, dI) vwCl (wM cA g0 b1 b2 b3 b4 b5 b6 b7 b8 b9 N T X nw fv tn tw th tk kt kn xt xn) H := hP
  replace hD : va_D A (wM cA g0 b1 b2 b3 b4 b5 b6 b7 b8 b9 N T X nw fv tn tw th tk kt kn xt xn) := hD
  refine lv_iconst (v := (nI 0)) hx hb dX1_count_5 (by decide) ?_
  refine lv_istore_n (lv' := [(2, .int (nI 0)), (0, .ref g0), (1, .int a)]) hx hb dX1_count_6 rfl hl (by decide) rfl (fun ls hl => ?_)
  refine lv_iconst (v := (nI 0)) hx hb dX1_count_7 (by decide) ?_
  refine lv_istore_n (lv' := [(3, .int (nI 0)), (2, .int (nI 0)), (0, .ref g0), (1, .int a)]) hx hb dX1_count_8 rfl hl (by decide) rfl (fun ls hl => ?_)
  obtain ⟨n, k, hn, hl9⟩ : ∃ n k : Nat, k + n = T ∧ lv_has ls 4 [(3, .int (nI k)), (2, .int (bx_sum tk k)), (0, .ref g0), (1, .int a)] := ⟨T, 0, by omega, hl⟩
  clear hl; have hl := hl9; clear hl9
  induction n generalizing k ls with
  | zero =>
    have t1 : (nI k).toInt = k := nI_toInt (by omega)
    refine lv_iload_n hx hb dX1_count_9 rfl (lv_at hl 0 rfl) ?_
    refine lv_aload_n hx hb dX1_count_10 rfl (lv_at hl 2 rfl) ?_
    refine va_get (D := (dC, dI)) (ci := 1) (v := .int (nI T)) (C := RX1) (T := TX1) (N := 14) hx hb hts (by decide +kernel) hown hK hP 0 rfl rfl 7 (by decide) (hts (.fieldLink RX1 58 "MotionDeskModel" "tracks" "I") (by decide +kernel)) (fun _ h9 => h9) rfl dX1_count_11 ?_
    refine lv_icmp_ge (tgt := 32) hx hb dX1_count_14 (by decide) (fun c1 => ?_) (fun c1 => ?_)
    · skip
      have c1 := zle c1
      refine lv_iload_n hx hb dX1_count_32 rfl (lv_at hl 3 rfl) ?_
      by_cases hs0 : a.toInt = 0
      · refine lv_tableIn (off := 35) (tgt := 68) hx hb dX1_count_33 (by omega) (by omega) (by rw [hs0]; rfl) (by decide) ?_
        refine lv_aload_n hx hb dX1_count_68 rfl (lv_at hl 2 rfl) ?_
        refine va_get (D := (dC, dI)) (ci := 1) (v := .int (nI N)) (C := RX1) (T := TX1) (N := 14) hx hb hts (by decide +kernel) hown hK hP 0 rfl rfl 1 (by decide) (hts (.fieldLink RX1 37 "MotionDeskModel" "nodes" "I") (by decide +kernel)) (fun _ h9 => h9) rfl dX1_count_69 ?_
        exact W.iret (v := nI N) hx hb hr (fun t9 ht9 hW9 => ⟨⟨nI N, (), rfl, by rw [if_pos hs0], by rw [ht9]; exact hP, va_K.moved hW9.alike hK, hD⟩, hS.F ht9⟩) hS.2.2 dX1_count_72
      by_cases hs1 : a.toInt = 1
      · refine lv_tableIn (off := 40) (tgt := 73) hx hb dX1_count_33 (by omega) (by omega) (by rw [hs1]; rfl) (by decide) ?_
        refine lv_aload_n hx hb dX1_count_73 rfl (lv_at hl 2 rfl) ?_
        refine va_get (D := (dC, dI)) (ci := 1) (v := .int (nI T)) (C := RX1) (T := TX1) (N := 14) hx hb hts (by decide +kernel) hown hK hP 0 rfl rfl 7 (by decide) (hts (.fieldLink RX1 58 "MotionDeskModel" "tracks" "I") (by decide +kernel)) (fun _ h9 => h9) rfl dX1_count_74 ?_
        exact W.iret (v := nI T) hx hb hr (fun t9 ht9 hW9 => ⟨⟨nI T, (), rfl, by rw [if_neg hs0, if_pos hs1], by rw [ht9]; exact hP, va_K.moved hW9.alike hK, hD⟩, hS.F ht9⟩) hS.2.2 dX1_count_77
      by_cases hs2 : a.toInt = 2
      · refine lv_tableIn (off := 45) (tgt := 78) hx hb dX1_count_33 (by omega) (by omega) (by rw [hs2]; rfl) (by decide) ?_
        refine lv_iload_n hx hb dX1_count_78 rfl (lv_at hl 1 rfl) ?_
        exact W.iret (v := bx_sum tk k) hx hb hr (fun t9 ht9 hW9 => ⟨⟨bx_sum tk k, (), rfl, by rw [if_neg hs0, if_neg hs1, if_pos hs2, show k = T by omega], by rw [ht9]; exact hP, va_K.moved hW9.alike hK, hD⟩, hS.F ht9⟩) hS.2.2 dX1_count_79
      by_cases hs3 : a.toInt = 3
      · refine lv_tableIn (off := 47) (tgt := 80) hx hb dX1_count_33 (by omega) (by omega) (by rw [hs3]; rfl) (by decide) ?_
        refine lv_aload_n hx hb dX1_count_80 rfl (lv_at hl 2 rfl) ?_
        refine va_get (D := (dC, dI)) (ci := 1) (v := .int nw) (C := RX1) (T := TX1) (N := 14) hx hb hts (by decide +kernel) hown hK hP 0 rfl rfl 3 (by decide) (hts (.fieldLink RX1 74 "MotionDeskModel" "now" "I") (by decide +kernel)) (fun _ h9 => h9) rfl dX1_count_81 ?_
        exact W.iret (v := nw) hx hb hr (fun t9 ht9 hW9 => ⟨⟨nw, (), rfl, by rw [if_neg hs0, if_neg hs1, if_neg hs2, if_pos hs3], by rw [ht9]; exact hP, va_K.moved hW9.alike hK, hD⟩, hS.F ht9⟩) hS.2.2 dX1_count_84
      by_cases hs4 : a.toInt = 4
      · refine lv_tableIn (off := 52) (tgt := 85) hx hb dX1_count_33 (by omega) (by omega) (by rw [hs4]; rfl) (by decide) ?_
        refine lv_aload_n hx hb dX1_count_85 rfl (lv_at hl 2 rfl) ?_
        refine va_get (D := (dC, dI)) (ci := 1) (v := .int (nI X)) (C := RX1) (T := TX1) (N := 14) hx hb hts (by decide +kernel) hown hK hP 0 rfl rfl 4 (by decide) (hts (.fieldLink RX1 48 "MotionDeskModel" "textKeys" "I") (by decide +kernel)) (fun _ h9 => h9) rfl dX1_count_86 ?_
        exact W.iret (v := nI X) hx hb hr (fun t9 ht9 hW9 => ⟨⟨nI X, (), rfl, by rw [if_neg hs0, if_neg hs1, if_neg hs2, if_neg hs3, if_pos hs4], by rw [ht9]; exact hP, va_K.moved hW9.alike hK, hD⟩, hS.F ht9⟩) hS.2.2 dX1_count_89
      refine lv_tableOut (tgt := 90) hx hb dX1_count_33 (by omega) (by decide) ?_
      refine lv_iconst (v := (-1)) hx hb dX1_count_90 (by decide) ?_
      exact W.iret (v := (-1)) hx hb hr (fun t9 ht9 hW9 => ⟨⟨(-1), (), rfl, by rw [if_neg hs0, if_neg hs1, if_neg hs2, if_neg hs3, if_neg hs4], by rw [ht9]; exact hP, va_K.moved hW9.alike hK, hD⟩, hS.F ht9⟩) hS.2.2 dX1_count_91
    · skip
      have c1 := znle c1
      exfalso; omega
  | succ n ih =>
    have t1 : (nI k).toInt = k := nI_toInt (by omega)
    refine lv_iload_n hx hb dX1_count_9 rfl (lv_at hl 0 rfl) ?_
    refine lv_aload_n hx hb dX1_count_10 rfl (lv_at hl 2 rfl) ?_
    refine va_get (D := (dC, dI)) (ci := 1) (v := .int (nI T)) (C := RX1) (T := TX1) (N := 14) hx hb hts (by decide +kernel) hown hK hP 0 rfl rfl 7 (by decide) (hts (.fieldLink RX1 58 "MotionDeskModel" "tracks" "I") (by decide +kernel)) (fun _ h9 => h9) rfl dX1_count_11 ?_
    refine lv_icmp_ge (tgt := 32) hx hb dX1_count_14 (by decide) (fun c2 => ?_) (fun c2 => ?_)
    · skip
      have c2 := zle c2
      exfalso; omega
    · skip
      have c2 := znle c2
      refine lv_iload_n hx hb dX1_count_17 rfl (lv_at hl 1 rfl) ?_
      refine lv_aload_n hx hb dX1_count_18 rfl (lv_at hl 2 rfl) ?_
      refine va_get (D := (dC, dI)) (ci := 1) (v := .ref b5) (C := RX1) (T := TX1) (N := 14) hx hb hts (by decide +kernel) hown hK hP 0 rfl rfl 11 (by decide) (hts (.fieldLink RX1 28 "MotionDeskModel" "keysOf" "[I") (by decide +kernel)) (fun _ h9 => h9) rfl dX1_count_19 ?_
      refine lv_iload_n hx hb dX1_count_22 rfl (lv_at hl 0 rfl) ?_
      refine va_iald hx hb hK hP 5 0 rfl rfl (vp_in_nI (by omega) (by omega)) dX1_count_23 ?_
      refine tp_i (y := (tk k)) (by rw [nI_clamp (by omega)]) ?_
      refine lv_iadd hx hb dX1_count_24 ?_
      refine tp_i (y := bx_sum tk (k + 1)) (rfl) ?_
      refine lv_istore_n (lv' := [(2, .int (bx_sum tk (k + 1))), (3, .int (nI k)), (0, .ref g0), (1, .int a)]) hx hb dX1_count_25 rfl hl (by decide) rfl (fun ls hl => ?_)
      refine lv_iinc (v := nI (k + 1)) (lv' := [(3, .int (nI (k + 1))), (2, .int (bx_sum tk (k + 1))), (0, .ref g0), (1, .int a)]) hx hb dX1_count_26 hl (k := 1) rfl (nI_1 k) (by decide) rfl (fun ls hl => ?_)
      refine lv_goto (tgt := 9) hx hb dX1_count_29 (by decide) ?_
      exact ih (ls := ls) (k := k + 1) (by omega) hl
end
section
set_option maxHeartbeats 4000000 in
set_option maxRecDepth 100000 in
/-- time(t) -/
theorem cm_time (l : Launch) (dC : Nat → ClassId) (dI : Nat → Nat → Nat) (cA : ClassId) (g0 b1 b2 b3 b4 b5 b6 b7 b8 b9 N T X : Nat) (nw : Int32) (fv tn tw th tk kt kn xt xn : Nat → Int32) (sz : Nat) (t : Int32) (hT : T ≤ 32) (hN : N ≤ 48) (htr : ∀ j, j < T → q_trk N tn tw tk j ∧ q_how (th j) ∧ q_grow kt (j * 32) (tk j).toInt.toNat) : Met l yX1_time wsX1_time ({ frames := 3, cells := 0, slots := 0, locals := 86 }) (va_Pc [.ref g0, .int t] (eM sz dC dI cA g0 b1 b2 b3 b4 b5 b6 b7 b8 b9 N T X nw fv tn tw th tk kt kn xt xn)) (va_Qi (fun (r : Int32) (u : Int32 × (Nat → Int32)) => (q_time t → r = nI 1 ∧ u = (t, pls kt kn t tn tw th tk fv T)) ∧ (¬ q_time t → r = nI 0 ∧ u = (nw, fv))) (fun u => bM (va_A (wM cA g0 b1 b2 b3 b4 b5 b6 b7 b8 b9 N T X nw fv tn tw th tk kt kn xt xn) sz) dC dI cA g0 b1 b2 b3 b4 b5 b6 b7 b8 b9 N T X u.1 u.2 tn tw th tk kt kn xt xn) (va_A (wM cA g0 b1 b2 b3 b4 b5 b6 b7 b8 b9 N T X nw fv tn tw th tk kt kn xt xn) sz)) 0 0 (va_A (wM cA g0 b1 b2 b3 b4 b5 b6 b7 b8 b9 N T X nw fv tn tw th tk kt kn xt xn) sz) := by
  refine Met.ofW (cc := cX1_time) (maxL := 4) (ret := (some .boolean)) (by decide) rfl ?_
  intro p e s m args below meth c s₁ B hml hv
  obtain ⟨rfl, hsz, hP, hK, hD0⟩ := hv
  have hx := B.exec
  have hb := B.bytes
  have hr := B.returns
  have hts := atoms_spec (ws := wsX1_time) B.pre
  have hown : s.vm.findClass RX1 = some m.cls := findClass_of_methodNamed B.named
  have hlocks := B.notSynchronized
  subst hsz
  have hD := hD0.self (sz := s.heap.size)
  generalize hAe : va_A (wM cA g0 b1 b2 b3 b4 b5 b6 b7 b8 b9 N T X nw fv tn tw th tk kt kn xt xn) s.heap.size = A at hD ⊢
  have hA : ∀ q : Nat, s.heap.size ≤ q → A q := fun q h => by rw [← hAe]; exact Or.inr h
  have hS : va_S A s.heap s.heap [] := va_S.rf
  have hP : va_P (dC, dI) vwCl (wM cA g0 b1 b2 b3 b4 b5 b6 b7 b8 b9 N T X nw fv tn tw th tk kt kn xt xn) s.heap := hP
  have hl := lv_entry ([.ref g0, .int t]) (n := 4) (Nat.le_of_ble_eq_true rfl)
  rw [lg_entry_eq]
  generalize (lg_sl ([.ref g0, .int t]) ++ List.replicate (4 - (lg_sl ([.ref g0, .int t])).length) Slot.unset).toArray = ls at hl ⊢
  have hl : lv_has ls 4 [(0, .ref g0), (1, .int t)] := hl
  have t0 := z_0
  have t1 : (nI T).toInt = T := nI_toInt (by omega)
  have t3 : (1000000 : Int32).toInt = 1000000 := by decide
  refine lv_aload_n hx hb dX1_time_0 rfl (lv_at hl 0 rfl) ?_
  refine lv_iconst (v := (nI 0)) hx hb dX1_time_1 (by decide) ?_
  refine va_put (D := (dC, dI)) (ci := 1) (v := .int (nI 0)) (ty := .int) (C := RX1) (T := TX1) (N := 14) hx hb hts (by decide +kernel) tyX1 tyX1_ok nmX1 hown hK hP hD hS 0 rfl rfl 0 (by decide) (hts (.fieldLink RX1 42 "MotionDeskModel" "thrown" "I") (by decide +kernel)) (fun _ h9 => h9) rfl (by decide +kernel) rfl rfl (Nat.le_of_ble_eq_true rfl) dX1_time_2 (fun H locs hP hD hS => ?_)
  replace hP : va_P (dC, dI) vwCl (wM cA g0 b1 b2 b3 b4 b5 b6 b7 b8 b9 N T X nw fv tn tw th tk kt kn xt xn) H := hP
  replace hD : va_D A (wM cA g0 b1 b2 b3 b4 b5 b6 b7 b8 b9 N T X nw fv tn tw th tk kt kn xt xn) := hD
  refine lv_iload_n hx hb dX1_time_5 rfl (lv_at hl 1 rfl) ?_
  refine lv_if_lt (tgt := 15) hx hb dX1_time_6 (by decide) (fun c1 => ?_) (fun c1 => ?_)
  · skip
    have c1 := zlt c1
    refine lv_iconst (v := (nI 0)) hx hb dX1_time_15 (by decide) ?_
    exact W.zret (v := (nI 0)) (ty := .boolean) hx hb hr (by decide) (fun t9 ht9 hW9 => ⟨⟨(nI 0), (nw, fv), rfl, br_f (by unfold q_time; omega) ⟨rfl, rfl⟩, by rw [ht9]; exact hP, va_K.moved hW9.alike hK, hD⟩, hS.F ht9⟩) hS.2.2 dX1_time_16
  · skip
    have c1 := znlt c1
    refine lv_iload_n hx hb dX1_time_9 rfl (lv_at hl 1 rfl) ?_
    refine lv_ldc (v := 1000000) hx hb hown (hts (.constant RX1 47 1000000) (by decide +kernel)) dX1_time_10 ?_
    refine lv_icmp_le (tgt := 17) hx hb dX1_time_12 (by decide) (fun c2 => ?_) (fun c2 => ?_)
    · skip
      have c2 := zle c2
      have hv : q_time t := by unfold q_time; omega
      refine lv_aload_n hx hb dX1_time_17 rfl (lv_at hl 0 rfl) ?_
      refine lv_iload_n hx hb dX1_time_18 rfl (lv_at hl 1 rfl) ?_
      refine va_put (D := (dC, dI)) (ci := 1) (v := .int t) (ty := .int) (C := RX1) (T := TX1) (N := 14) hx hb hts (by decide +kernel) tyX1 tyX1_ok nmX1 hown hK hP hD hS 0 rfl rfl 3 (by decide) (hts (.fieldLink RX1 74 "MotionDeskModel" "now" "I") (by decide +kernel)) (fun _ h9 => h9) rfl (by decide +kernel) rfl rfl (Nat.le_of_ble_eq_true rfl) dX1_time_19 (fun H locs hP hD hS => ?_)
      replace hP : va_P (dC, dI) vwCl (wM cA g0 b1 b2 b3 b4 b5 b6 b7 b8 b9 N T X t fv tn tw th tk kt kn xt xn) H := hP
      replace hD : va_D A (wM cA g0 b1 b2 b3 b4 b5 b6 b7 b8 b9 N T X t fv tn tw th tk kt kn xt xn) := hD
      refine lv_iconst (v := (nI 0)) hx hb dX1_time_22 (by decide) ?_
      refine lv_istore_n (lv' := [(2, .int (nI 0)), (0, .ref g0), (1, .int t)]) hx hb dX1_time_23 rfl hl (by decide) rfl (fun ls hl => ?_)
      obtain ⟨n, k, hn, hP9, hD9, hl9⟩ : ∃ n k : Nat, k + n = T ∧ va_P (dC, dI) vwCl (wM cA g0 b1 b2 b3 b4 b5 b6 b7 b8 b9 N T X t (pls kt kn t tn tw th tk fv k) tn tw th tk kt kn xt xn) H ∧ va_D A (wM cA g0 b1 b2 b3 b4 b5 b6 b7 b8 b9 N T X t (pls kt kn t tn tw th tk fv k) tn tw th tk kt kn xt xn) ∧ lv_has ls 4 [(2, .int (nI k)), (0, .ref g0), (1, .int t)] := ⟨T, 0, by omega, hP, hD, hl⟩
      clear hl hP hD; have hl := hl9; have hP := hP9; have hD := hD9; clear hl9 hP9 hD9
      induction n generalizing k ls H locs with
      | zero =>
        have t2 : (nI k).toInt = k := nI_toInt (by omega)
        refine lv_iload_n hx hb dX1_time_24 rfl (lv_at hl 0 rfl) ?_
        refine lv_aload_n hx hb dX1_time_25 rfl (lv_at hl 1 rfl) ?_
        refine va_get (D := (dC, dI)) (ci := 1) (v := .int (nI T)) (C := RX1) (T := TX1) (N := 14) hx hb hts (by decide +kernel) hown hK hP 0 rfl rfl 7 (by decide) (hts (.fieldLink RX1 58 "MotionDeskModel" "tracks" "I") (by decide +kernel)) (fun _ h9 => h9) rfl dX1_time_26 ?_
        refine lv_icmp_ge (tgt := 83) hx hb dX1_time_29 (by decide) (fun c3 => ?_) (fun c3 => ?_)
        · skip
          have c3 := zle c3
          refine lv_iconst (v := (nI 1)) hx hb dX1_time_83 (by decide) ?_
          exact W.zret (v := (nI 1)) (ty := .boolean) hx hb hr (by decide) (fun t9 ht9 hW9 => ⟨⟨(nI 1), (t, (pls kt kn t tn tw th tk fv k)), rfl, br_t hv ⟨rfl, by rw [show k = T by omega]⟩, by rw [ht9]; exact hP, va_K.moved hW9.alike hK, hD⟩, hS.F ht9⟩) hS.2.2 dX1_time_84
        · skip
          have c3 := znle c3
          exfalso; omega
      | succ n ih =>
        have t2 : (nI k).toInt = k := nI_toInt (by omega)
        refine lv_iload_n hx hb dX1_time_24 rfl (lv_at hl 0 rfl) ?_
        refine lv_aload_n hx hb dX1_time_25 rfl (lv_at hl 1 rfl) ?_
        refine va_get (D := (dC, dI)) (ci := 1) (v := .int (nI T)) (C := RX1) (T := TX1) (N := 14) hx hb hts (by decide +kernel) hown hK hP 0 rfl rfl 7 (by decide) (hts (.fieldLink RX1 58 "MotionDeskModel" "tracks" "I") (by decide +kernel)) (fun _ h9 => h9) rfl dX1_time_26 ?_
        refine lv_icmp_ge (tgt := 83) hx hb dX1_time_29 (by decide) (fun c4 => ?_) (fun c4 => ?_)
        · skip
          have c4 := zle c4
          exfalso; omega
        · skip
          have c4 := znle c4
          obtain ⟨⟨g1, g2, g3, g4⟩, hw, hg⟩ := htr k (by omega)
          obtain ⟨K, hK1, hK2, etk⟩ : ∃ K : Nat, 1 ≤ K ∧ K ≤ 32 ∧ tk k = nI K := z_in1 g3 g4
          obtain ⟨n1, hn1, etn⟩ := z_in g1.1 g1.2
          obtain ⟨v1, hv1, etw⟩ : ∃ v1 : Nat, v1 < 3 ∧ tw k = nI v1 := z_in g2.1 g2.2
          have q1 : (tk k).toInt.toNat = K := by rw [etk, nI_toInt (by omega)]; omega
          have q2 : pl_of (tn k) (tw k) = (n1 * 3 + v1) * 3 := by unfold pl_of; rw [etn, etw, nI_toInt (by omega), nI_toInt (by omega)]; omega
          rw [q1] at hg
          refine lv_iconst (v := (nI 0)) hx hb dX1_time_32 (by decide) ?_
          refine lv_istore_n (lv' := [(3, .int (nI 0)), (2, .int (nI k)), (0, .ref g0), (1, .int t)]) hx hb dX1_time_33 rfl hl (by decide) rfl (fun ls hl => ?_)
          refine lv_iload_n hx hb dX1_time_34 rfl (lv_at hl 0 rfl) ?_
          refine lv_iconst (v := (nI 3)) hx hb dX1_time_35 (by decide) ?_
          refine lv_icmp_ge (tgt := 77) hx hb dX1_time_36 (by decide) (fun c5 => ?_) (fun c5 => ?_)
          · skip
            have c5 := c5
            exact absurd c5 (by decide)
          · skip
            have c5 := c5
            refine lv_aload_n hx hb dX1_time_39 rfl (lv_at hl 2 rfl) ?_
            refine va_get (D := (dC, dI)) (ci := 1) (v := .ref b1) (C := RX1) (T := TX1) (N := 14) hx hb hts (by decide +kernel) hown hK hP 0 rfl rfl 2 (by decide) (hts (.fieldLink RX1 7 "MotionDeskModel" "poses" "[I") (by decide +kernel)) (fun _ h9 => h9) rfl dX1_time_40 ?_
            refine lv_bipush (v := (nI 9)) hx hb dX1_time_43 (by decide) ?_
            refine lv_aload_n hx hb dX1_time_45 rfl (lv_at hl 2 rfl) ?_
            refine va_get (D := (dC, dI)) (ci := 1) (v := .ref b2) (C := RX1) (T := TX1) (N := 14) hx hb hts (by decide +kernel) hown hK hP 0 rfl rfl 8 (by decide) (hts (.fieldLink RX1 19 "MotionDeskModel" "nodeOf" "[I") (by decide +kernel)) (fun _ h9 => h9) rfl dX1_time_46 ?_
            refine lv_iload_n hx hb dX1_time_49 rfl (lv_at hl 1 rfl) ?_
            refine va_iald hx hb hK hP 2 0 rfl rfl (vp_in_nI (by omega) (by omega)) dX1_time_50 ?_
            refine tp_i (y := (tn k)) (by rw [nI_clamp (by omega)]) ?_
            refine tp_i (y := nI n1) (etn) ?_
            refine lv_imul hx hb dX1_time_51 ?_
            refine tp_i (y := nI (n1 * 9)) (by rw [pk_mul, Nat.mul_comm]) ?_
            refine lv_iconst (v := (nI 3)) hx hb dX1_time_52 (by decide) ?_
            refine lv_aload_n hx hb dX1_time_53 rfl (lv_at hl 2 rfl) ?_
            refine va_get (D := (dC, dI)) (ci := 1) (v := .ref b3) (C := RX1) (T := TX1) (N := 14) hx hb hts (by decide +kernel) hown hK hP 0 rfl rfl 9 (by decide) (hts (.fieldLink RX1 22 "MotionDeskModel" "whatOf" "[I") (by decide +kernel)) (fun _ h9 => h9) rfl dX1_time_54 ?_
            refine lv_iload_n hx hb dX1_time_57 rfl (lv_at hl 1 rfl) ?_
            refine va_iald hx hb hK hP 3 0 rfl rfl (vp_in_nI (by omega) (by omega)) dX1_time_58 ?_
            refine tp_i (y := (tw k)) (by rw [nI_clamp (by omega)]) ?_
            refine tp_i (y := nI v1) (etw) ?_
            refine lv_imul hx hb dX1_time_59 ?_
            refine tp_i (y := nI (v1 * 3)) (by rw [pk_mul, Nat.mul_comm]) ?_
            refine lv_iadd hx hb dX1_time_60 ?_
            refine tp_i (y := nI ((n1 * 3 + v1) * 3)) (by rw [nI_add, show n1 * 9 + v1 * 3 = (n1 * 3 + v1) * 3 by omega]) ?_
            refine lv_iload_n hx hb dX1_time_61 rfl (lv_at hl 0 rfl) ?_
            refine lv_iadd hx hb dX1_time_62 ?_
            refine tp_i (y := nI ((n1 * 3 + v1) * 3 + 0)) (nI_add _ _) ?_
            refine lv_aload_n hx hb dX1_time_63 rfl (lv_at hl 2 rfl) ?_
            refine lv_iload_n hx hb dX1_time_64 rfl (lv_at hl 1 rfl) ?_
            refine lv_iload_n hx hb dX1_time_65 rfl (lv_at hl 0 rfl) ?_
            refine lv_iload_n hx hb dX1_time_66 rfl (lv_at hl 3 rfl) ?_
            refine vp_callSi (W.runV (C := RX1) (As := [.int (nI k), .int (nI 0), .int t]) (rest := [.int (nI ((n1 * 3 + v1) * 3 + 0)), .ref b1]) ⟨hx, hb, hml, hown, hts⟩ (cm_at l dC dI cA g0 b1 b2 b3 b4 b5 b6 b7 b8 b9 N T X t (pls kt kn t tn tw th tk fv k) tn tw th tk kt kn xt xn k 0 K t hT (by omega) (by decide) hK1 hK2 etk hw hg hv) (cwV 3 hts gX1_time_X1_at rfl rfl rfl (by decide +kernel) ⟨Nat.le_of_ble_eq_true rfl, Nat.le_of_ble_eq_true rfl⟩) ⟨fun a U g mk q => ⟨q.1, q.2.1, va_K.moved (u := U) (U := U.calling g mk a) (Vm.Alike.refl U.vm) q.2.2⟩, va_recv hK hP (ci := 1) (q0 := 0) rfl rfl, fun U hU hW => ⟨rfl, by rw [hU]; exact hP, va_K.moved hW.alike hK⟩⟩ rfl rfl hl.1 rfl (lv_room (Nat.le_of_ble_eq_true rfl)) dX1_time_67 ⟨Nat.le_of_ble_eq_true rfl, Nat.le_of_ble_eq_true rfl⟩) (fun r6 h_r6 => ?_)
            refine tp_i (y := plv kt kn t (th k) (k * 32) K 0) (h_r6) ?_
            refine va_iast hx hb hK hP hD hS 1 0 rfl rfl (vp_in_nI (by omega) (by omega)) dX1_time_70 (fun H locs hP hD hS => ?_)
            rw [nI_clamp (show (n1 * 3 + v1) * 3 + 0 < 2 ^ 31 by omega)] at hP hD
            replace hP : va_P (dC, dI) vwCl (wM cA g0 b1 b2 b3 b4 b5 b6 b7 b8 b9 N T X t (upd (pls kt kn t tn tw th tk fv k) ((n1 * 3 + v1) * 3 + 0) (plv kt kn t (th k) (k * 32) K 0)) tn tw th tk kt kn xt xn) H := hP
            replace hD : va_D A (wM cA g0 b1 b2 b3 b4 b5 b6 b7 b8 b9 N T X t (upd (pls kt kn t tn tw th tk fv k) ((n1 * 3 + v1) * 3 + 0) (plv kt kn t (th k) (k * 32) K 0)) tn tw th tk kt kn xt xn) := hD
            refine lv_iinc (v := nI 1) (lv' := [(3, .int (nI 1)), (2, .int (nI k)), (0, .ref g0), (1, .int t)]) hx hb dX1_time_71 hl (k := 0) rfl (by decide) (by decide) rfl (fun ls hl => ?_)
            refine lv_goto (tgt := 34) hx hb dX1_time_74 (by decide) ?_
            refine lv_iload_n hx hb dX1_time_34 rfl (lv_at hl 0 rfl) ?_
            refine lv_iconst (v := (nI 3)) hx hb dX1_time_35 (by decide) ?_
            refine lv_icmp_ge (tgt := 77) hx hb dX1_time_36 (by decide) (fun c7 => ?_) (fun c7 => ?_)
            · skip
              have c7 := c7
              exact absurd c7 (by decide)
            · skip
              have c7 := c7
              refine lv_aload_n hx hb dX1_time_39 rfl (lv_at hl 2 rfl) ?_
              refine va_get (D := (dC, dI)) (ci := 1) (v := .ref b1) (C := RX1) (T := TX1) (N := 14) hx hb hts (by decide +kernel) hown hK hP 0 rfl rfl 2 (by decide) (hts (.fieldLink RX1 7 "MotionDeskModel" "poses" "[I") (by decide +kernel)) (fun _ h9 => h9) rfl dX1_time_40 ?_
              refine lv_bipush (v := (nI 9)) hx hb dX1_time_43 (by decide) ?_
              refine lv_aload_n hx hb dX1_time_45 rfl (lv_at hl 2 rfl) ?_
              refine va_get (D := (dC, dI)) (ci := 1) (v := .ref b2) (C := RX1) (T := TX1) (N := 14) hx hb hts (by decide +kernel) hown hK hP 0 rfl rfl 8 (by decide) (hts (.fieldLink RX1 19 "MotionDeskModel" "nodeOf" "[I") (by decide +kernel)) (fun _ h9 => h9) rfl dX1_time_46 ?_
              refine lv_iload_n hx hb dX1_time_49 rfl (lv_at hl 1 rfl) ?_
              refine va_iald hx hb hK hP 2 0 rfl rfl (vp_in_nI (by omega) (by omega)) dX1_time_50 ?_
              refine tp_i (y := (tn k)) (by rw [nI_clamp (by omega)]) ?_
              refine tp_i (y := nI n1) (etn) ?_
              refine lv_imul hx hb dX1_time_51 ?_
              refine tp_i (y := nI (n1 * 9)) (by rw [pk_mul, Nat.mul_comm]) ?_
              refine lv_iconst (v := (nI 3)) hx hb dX1_time_52 (by decide) ?_
              refine lv_aload_n hx hb dX1_time_53 rfl (lv_at hl 2 rfl) ?_
              refine va_get (D := (dC, dI)) (ci := 1) (v := .ref b3) (C := RX1) (T := TX1) (N := 14) hx hb hts (by decide +kernel) hown hK hP 0 rfl rfl 9 (by decide) (hts (.fieldLink RX1 22 "MotionDeskModel" "whatOf" "[I") (by decide +kernel)) (fun _ h9 => h9) rfl dX1_time_54 ?_
              refine lv_iload_n hx hb dX1_time_57 rfl (lv_at hl 1 rfl) ?_
              refine va_iald hx hb hK hP 3 0 rfl rfl (vp_in_nI (by omega) (by omega)) dX1_time_58 ?_
              refine tp_i (y := (tw k)) (by rw [nI_clamp (by omega)]) ?_
              refine tp_i (y := nI v1) (etw) ?_
              refine lv_imul hx hb dX1_time_59 ?_
              refine tp_i (y := nI (v1 * 3)) (by rw [pk_mul, Nat.mul_comm]) ?_
              refine lv_iadd hx hb dX1_time_60 ?_
              refine tp_i (y := nI ((n1 * 3 + v1) * 3)) (by rw [nI_add, show n1 * 9 + v1 * 3 = (n1 * 3 + v1) * 3 by omega]) ?_
              refine lv_iload_n hx hb dX1_time_61 rfl (lv_at hl 0 rfl) ?_
              refine lv_iadd hx hb dX1_time_62 ?_
              refine tp_i (y := nI ((n1 * 3 + v1) * 3 + 1)) (nI_add _ _) ?_
              refine lv_aload_n hx hb dX1_time_63 rfl (lv_at hl 2 rfl) ?_
              refine lv_iload_n hx hb dX1_time_64 rfl (lv_at hl 1 rfl) ?_
              refine lv_iload_n hx hb dX1_time_65 rfl (lv_at hl 0 rfl) ?_
              refine lv_iload_n hx hb dX1_time_66 rfl (lv_at hl 3 rfl) ?_
              refine vp_callSi (W.runV (C := RX1) (As := [.int (nI k), .int (nI 1), .int t]) (rest := [.int (nI ((n1 * 3 + v1) * 3 + 1)), .ref b1]) ⟨hx, hb, hml, hown, hts⟩ (cm_at l dC dI cA g0 b1 b2 b3 b4 b5 b6 b7 b8 b9 N T X t (upd (pls kt kn t tn tw th tk fv k) ((n1 * 3 + v1) * 3 + 0) (plv kt kn t (th k) (k * 32) K 0)) tn tw th tk kt kn xt xn k 1 K t hT (by omega) (by decide) hK1 hK2 etk hw hg hv) (cwV 3 hts gX1_time_X1_at rfl rfl rfl (by decide +kernel) ⟨Nat.le_of_ble_eq_true rfl, Nat.le_of_ble_eq_true rfl⟩) ⟨fun a U g mk q => ⟨q.1, q.2.1, va_K.moved (u := U) (U := U.calling g mk a) (Vm.Alike.refl U.vm) q.2.2⟩, va_recv hK hP (ci := 1) (q0 := 0) rfl rfl, fun U hU hW => ⟨rfl, by rw [hU]; exact hP, va_K.moved hW.alike hK⟩⟩ rfl rfl hl.1 rfl (lv_room (Nat.le_of_ble_eq_true rfl)) dX1_time_67 ⟨Nat.le_of_ble_eq_true rfl, Nat.le_of_ble_eq_true rfl⟩) (fun r8 h_r8 => ?_)
              refine tp_i (y := plv kt kn t (th k) (k * 32) K 1) (h_r8) ?_
              refine va_iast hx hb hK hP hD hS 1 0 rfl rfl (vp_in_nI (by omega) (by omega)) dX1_time_70 (fun H locs hP hD hS => ?_)
              rw [nI_clamp (show (n1 * 3 + v1) * 3 + 1 < 2 ^ 31 by omega)] at hP hD
              replace hP : va_P (dC, dI) vwCl (wM cA g0 b1 b2 b3 b4 b5 b6 b7 b8 b9 N T X t (upd (upd (pls kt kn t tn tw th tk fv k) ((n1 * 3 + v1) * 3 + 0) (plv kt kn t (th k) (k * 32) K 0)) ((n1 * 3 + v1) * 3 + 1) (plv kt kn t (th k) (k * 32) K 1)) tn tw th tk kt kn xt xn) H := hP
              replace hD : va_D A (wM cA g0 b1 b2 b3 b4 b5 b6 b7 b8 b9 N T X t (upd (upd (pls kt kn t tn tw th tk fv k) ((n1 * 3 + v1) * 3 + 0) (plv kt kn t (th k) (k * 32) K 0)) ((n1 * 3 + v1) * 3 + 1) (plv kt kn t (th k) (k * 32) K 1)) tn tw th tk kt kn xt xn) := hD
              refine lv_iinc (v := nI 2) (lv' := [(3, .int (nI 2)), (2, .int (nI k)), (0, .ref g0), (1, .int t)]) hx hb dX1_time_71 hl (k := 0) rfl (by decide) (by decide) rfl (fun ls hl => ?_)
              refine lv_goto (tgt := 34) hx hb dX1_time_74 (by decide) ?_
              refine lv_iload_n hx hb dX1_time_34 rfl (lv_at hl 0 rfl) ?_
              refine lv_iconst (v := (nI 3)) hx hb dX1_time_35 (by decide) ?_
              refine lv_icmp_ge (tgt := 77) hx hb dX1_time_36 (by decide) (fun c9 => ?_) (fun c9 => ?_)
              · skip
                have c9 := c9
                exact absurd c9 (by decide)
              · skip
                have c9 := c9
                refine lv_aload_n hx hb dX1_time_39 rfl (lv_at hl 2 rfl) ?_
                refine va_get (D := (dC, dI)) (ci := 1) (v := .ref b1) (C := RX1) (T := TX1) (N := 14) hx hb hts (by decide +kernel) hown hK hP 0 rfl rfl 2 (by decide) (hts (.fieldLink RX1 7 "MotionDeskModel" "poses" "[I") (by decide +kernel)) (fun _ h9 => h9) rfl dX1_time_40 ?_
                refine lv_bipush (v := (nI 9)) hx hb dX1_time_43 (by decide) ?_
                refine lv_aload_n hx hb dX1_time_45 rfl (lv_at hl 2 rfl) ?_
                refine va_get (D := (dC, dI)) (ci := 1) (v := .ref b2) (C := RX1) (T := TX1) (N := 14) hx hb hts (by decide +kernel) hown hK hP 0 rfl rfl 8 (by decide) (hts (.fieldLink RX1 19 "MotionDeskModel" "nodeOf" "[I") (by decide +kernel)) (fun _ h9 => h9) rfl dX1_time_46 ?_
                refine lv_iload_n hx hb dX1_time_49 rfl (lv_at hl 1 rfl) ?_
                refine va_iald hx hb hK hP 2 0 rfl rfl (vp_in_nI (by omega) (by omega)) dX1_time_50 ?_
                refine tp_i (y := (tn k)) (by rw [nI_clamp (by omega)]) ?_
                refine tp_i (y := nI n1) (etn) ?_
                refine lv_imul hx hb dX1_time_51 ?_
                refine tp_i (y := nI (n1 * 9)) (by rw [pk_mul, Nat.mul_comm]) ?_
                refine lv_iconst (v := (nI 3)) hx hb dX1_time_52 (by decide) ?_
                refine lv_aload_n hx hb dX1_time_53 rfl (lv_at hl 2 rfl) ?_
                refine va_get (D := (dC, dI)) (ci := 1) (v := .ref b3) (C := RX1) (T := TX1) (N := 14) hx hb hts (by decide +kernel) hown hK hP 0 rfl rfl 9 (by decide) (hts (.fieldLink RX1 22 "MotionDeskModel" "whatOf" "[I") (by decide +kernel)) (fun _ h9 => h9) rfl dX1_time_54 ?_
                refine lv_iload_n hx hb dX1_time_57 rfl (lv_at hl 1 rfl) ?_
                refine va_iald hx hb hK hP 3 0 rfl rfl (vp_in_nI (by omega) (by omega)) dX1_time_58 ?_
                refine tp_i (y := (tw k)) (by rw [nI_clamp (by omega)]) ?_
                refine tp_i (y := nI v1) (etw) ?_
                refine lv_imul hx hb dX1_time_59 ?_
                refine tp_i (y := nI (v1 * 3)) (by rw [pk_mul, Nat.mul_comm]) ?_
                refine lv_iadd hx hb dX1_time_60 ?_
                refine tp_i (y := nI ((n1 * 3 + v1) * 3)) (by rw [nI_add, show n1 * 9 + v1 * 3 = (n1 * 3 + v1) * 3 by omega]) ?_
                refine lv_iload_n hx hb dX1_time_61 rfl (lv_at hl 0 rfl) ?_
                refine lv_iadd hx hb dX1_time_62 ?_
                refine tp_i (y := nI ((n1 * 3 + v1) * 3 + 2)) (nI_add _ _) ?_
                refine lv_aload_n hx hb dX1_time_63 rfl (lv_at hl 2 rfl) ?_
                refine lv_iload_n hx hb dX1_time_64 rfl (lv_at hl 1 rfl) ?_
                refine lv_iload_n hx hb dX1_time_65 rfl (lv_at hl 0 rfl) ?_
                refine lv_iload_n hx hb dX1_time_66 rfl (lv_at hl 3 rfl) ?_
                refine vp_callSi (W.runV (C := RX1) (As := [.int (nI k), .int (nI 2), .int t]) (rest := [.int (nI ((n1 * 3 + v1) * 3 + 2)), .ref b1]) ⟨hx, hb, hml, hown, hts⟩ (cm_at l dC dI cA g0 b1 b2 b3 b4 b5 b6 b7 b8 b9 N T X t (upd (upd (pls kt kn t tn tw th tk fv k) ((n1 * 3 + v1) * 3 + 0) (plv kt kn t (th k) (k * 32) K 0)) ((n1 * 3 + v1) * 3 + 1) (plv kt kn t (th k) (k * 32) K 1)) tn tw th tk kt kn xt xn k 2 K t hT (by omega) (by decide) hK1 hK2 etk hw hg hv) (cwV 3 hts gX1_time_X1_at rfl rfl rfl (by decide +kernel) ⟨Nat.le_of_ble_eq_true rfl, Nat.le_of_ble_eq_true rfl⟩) ⟨fun a U g mk q => ⟨q.1, q.2.1, va_K.moved (u := U) (U := U.calling g mk a) (Vm.Alike.refl U.vm) q.2.2⟩, va_recv hK hP (ci := 1) (q0 := 0) rfl rfl, fun U hU hW => ⟨rfl, by rw [hU]; exact hP, va_K.moved hW.alike hK⟩⟩ rfl rfl hl.1 rfl (lv_room (Nat.le_of_ble_eq_true rfl)) dX1_time_67 ⟨Nat.le_of_ble_eq_true rfl, Nat.le_of_ble_eq_true rfl⟩) (fun r10 h_r10 => ?_)
                refine tp_i (y := plv kt kn t (th k) (k * 32) K 2) (h_r10) ?_
                refine va_iast hx hb hK hP hD hS 1 0 rfl rfl (vp_in_nI (by omega) (by omega)) dX1_time_70 (fun H locs hP hD hS => ?_)
                rw [nI_clamp (show (n1 * 3 + v1) * 3 + 2 < 2 ^ 31 by omega)] at hP hD
                replace hP : va_P (dC, dI) vwCl (wM cA g0 b1 b2 b3 b4 b5 b6 b7 b8 b9 N T X t (upd (upd (upd (pls kt kn t tn tw th tk fv k) ((n1 * 3 + v1) * 3 + 0) (plv kt kn t (th k) (k * 32) K 0)) ((n1 * 3 + v1) * 3 + 1) (plv kt kn t (th k) (k * 32) K 1)) ((n1 * 3 + v1) * 3 + 2) (plv kt kn t (th k) (k * 32) K 2)) tn tw th tk kt kn xt xn) H := hP
                replace hD : va_D A (wM cA g0 b1 b2 b3 b4 b5 b6 b7 b8 b9 N T X t (upd (upd (upd (pls kt kn t tn tw th tk fv k) ((n1 * 3 + v1) * 3 + 0) (plv kt kn t (th k) (k * 32) K 0)) ((n1 * 3 + v1) * 3 + 1) (plv kt kn t (th k) (k * 32) K 1)) ((n1 * 3 + v1) * 3 + 2) (plv kt kn t (th k) (k * 32) K 2)) tn tw th tk kt kn xt xn) := hD
                refine lv_iinc (v := nI 3) (lv' := [(3, .int (nI 3)), (2, .int (nI k)), (0, .ref g0), (1, .int t)]) hx hb dX1_time_71 hl (k := 0) rfl (by decide) (by decide) rfl (fun ls hl => ?_)
                refine lv_goto (tgt := 34) hx hb dX1_time_74 (by decide) ?_
                refine lv_iload_n hx hb dX1_time_34 rfl (lv_at hl 0 rfl) ?_
                refine lv_iconst (v := (nI 3)) hx hb dX1_time_35 (by decide) ?_
                refine lv_icmp_ge (tgt := 77) hx hb dX1_time_36 (by decide) (fun c11 => ?_) (fun c11 => ?_)
                · skip
                  have c11 := c11
                  refine lv_iinc (v := nI (k + 1)) (lv' := [(2, .int (nI (k + 1))), (3, .int (nI 3)), (0, .ref g0), (1, .int t)]) hx hb dX1_time_77 hl (k := 1) rfl (nI_1 k) (by decide) rfl (fun ls hl => ?_)
                  refine lv_goto (tgt := 24) hx hb dX1_time_80 (by decide) ?_
                  have hpl1 : (upd (upd (upd (pls kt kn t tn tw th tk fv k) ((n1 * 3 + v1) * 3 + 0) (plv kt kn t (th k) (k * 32) K 0)) ((n1 * 3 + v1) * 3 + 1) (plv kt kn t (th k) (k * 32) K 1)) ((n1 * 3 + v1) * 3 + 2) (plv kt kn t (th k) (k * 32) K 2)) = pls kt kn t tn tw th tk fv (k + 1) := by
                    show _ = pl1 kt kn t tn tw th tk k (pls kt kn t tn tw th tk fv k)
                    unfold pl1 put3; simp only [q1, q2, Nat.add_zero]
                  rw [hpl1] at hP hD
                  exact ih (ls := ls) (k := k + 1) (H := H) (locs := locs) hS (by omega) (lv_sub hl [0, 2, 3] rfl) hP hD
                · skip
                  have c11 := c11
                  exact absurd c11 (by decide)
    · skip
      have c2 := znle c2
      refine lv_iconst (v := (nI 0)) hx hb dX1_time_15 (by decide) ?_
      exact W.zret (v := (nI 0)) (ty := .boolean) hx hb hr (by decide) (fun t9 ht9 hW9 => ⟨⟨(nI 0), (nw, fv), rfl, br_f (by unfold q_time; omega) ⟨rfl, rfl⟩, by rw [ht9]; exact hP, va_K.moved hW9.alike hK, hD⟩, hS.F ht9⟩) hS.2.2 dX1_time_16
end
section
set_option maxHeartbeats 4000000 in
set_option maxRecDepth 100000 in
/-- MotionDeskModel(nodes) -/
theorem cm_init (l : Launch) (dC : Nat → ClassId) (dI : Nat → Nat → Nat) (cA : ClassId) (g0 N sz : Nat) (x : Int32) (eN : cl48 x = N) : Met l yX1_init wsX1_init ({ frames := 1, cells := 9, slots := 4784, locals := 12 }) (va_Pc [.ref g0, .int x] (fun U => U.heap.size = sz ∧ va_P (dC, dI) vwCl [(g0, .inr (1, [.int (nI 0), .int (nI 0), .null, .int (nI 0), .int (nI 0), .null, .null, .int (nI 0), .null, .null, .null, .null, .null, .null]))] U.heap ∧ va_K (dC, dI) vwCl [(cA, .int)] U ∧ va_D (fun _ => True) [(g0, .inr (1, [.int (nI 0), .int (nI 0), .null, .int (nI 0), .int (nI 0), .null, .null, .int (nI 0), .null, .null, .null, .null, .null, .null]))])) (va_Qv (fun (_ : Unit) => True) (fun (_ : Unit) t => ∃ b1 b2 b3 b4 b5 b6 b7 b8 b9 : Nat, bM (va_A [(g0, .inr (1, [.int (nI 0), .int (nI 0), .null, .int (nI 0), .int (nI 0), .null, .null, .int (nI 0), .null, .null, .null, .null, .null, .null]))] sz) dC dI cA g0 b1 b2 b3 b4 b5 b6 b7 b8 b9 N 0 0 (nI 0) (ini N) (fun _ => 0) (fun _ => 0) (fun _ => 0) (fun _ => 0) (fun _ => 0) (fun _ => 0) (fun _ => 0) (fun _ => 0) t) (va_A [(g0, .inr (1, [.int (nI 0), .int (nI 0), .null, .int (nI 0), .int (nI 0), .null, .null, .int (nI 0), .null, .null, .null, .null, .null, .null]))] sz)) 9 4784 (va_A [(g0, .inr (1, [.int (nI 0), .int (nI 0), .null, .int (nI 0), .int (nI 0), .null, .null, .int (nI 0), .null, .null, .null, .null, .null, .null]))] sz) := by
  refine Met.ofW (cc := cX1_init) (maxL := 4) (ret := none) (by decide) rfl ?_
  intro p e s m args below meth c s₁ B hml hv
  obtain ⟨rfl, hsz, hP, hK, hD0⟩ := hv
  have hx := B.exec
  have hb := B.bytes
  have hr := B.returns
  have hts := atoms_spec (ws := wsX1_init) B.pre
  have hown : s.vm.findClass RX1 = some m.cls := findClass_of_methodNamed B.named
  have hlocks := B.notSynchronized
  have hin : meth.name = "<init>" := (name_of_methodNamed B.named B.method).1
  subst hsz
  have hD := hD0.self (sz := s.heap.size)
  generalize hAe : va_A [(g0, .inr (1, [.int (nI 0), .int (nI 0), .null, .int (nI 0), .int (nI 0), .null, .null, .int (nI 0), .null, .null, .null, .null, .null, .null]))] s.heap.size = A at hD ⊢
  have hA : ∀ q : Nat, s.heap.size ≤ q → A q := fun q h => by rw [← hAe]; exact Or.inr h
  have hS : va_S A s.heap s.heap [] := va_S.rf
  have hP : va_P (dC, dI) vwCl [(g0, .inr (1, [.int (nI 0), .int (nI 0), .null, .int (nI 0), .int (nI 0), .null, .null, .int (nI 0), .null, .null, .null, .null, .null, .null]))] s.heap := hP
  have hl := lv_entry ([.ref g0, .int x]) (n := 4) (Nat.le_of_ble_eq_true rfl)
  rw [lg_entry_eq]
  generalize (lg_sl ([.ref g0, .int x]) ++ List.replicate (4 - (lg_sl ([.ref g0, .int x])).length) Slot.unset).toArray = ls at hl ⊢
  have hl : lv_has ls 4 [(0, .ref g0), (1, .int x)] := hl
  have hN : 1 ≤ N ∧ N ≤ 48 := by rw [← eN]; exact cl48_le x
  have t1 : (nI N).toInt = N := nI_toInt (by omega)
  have k1 : (nI 1).toInt = 1 := by decide
  have k48 : (nI 48).toInt = 48 := by decide
  refine lv_aload_n hx hb dX1_init_0 rfl (lv_at hl 0 rfl) ?_
  refine W.objInit hx hb hown (hts (.methodLink RX1 1 objectInit) (by decide +kernel)) (hts (.instanceMethod objectInit) (by decide +kernel)) (hts _ (List.mem_cons_of_mem _ (List.mem_append_left _ (List.mem_of_getElem? (i := 2) rfl)))) rfl (by rw [hml]; exact hl.1) rfl dX1_init_1 (Nat.le_of_ble_eq_true rfl) (Nat.le_of_ble_eq_true rfl) ?_
  refine W.eq (g2 := F0 m 4 ls []) rfl ?_
  refine lv_aload_n hx hb dX1_init_4 rfl (lv_at hl 0 rfl) ?_
  refine lv_sipush (v := (nI 432)) hx hb dX1_init_5 (by decide) ?_
  refine va_newa (atype := .int) (a0 := (432, .inl (ini 0))) (N' := 432) (ty := .int) hx hb (hts (.arrayClass .int) (by decide +kernel)) rfl hK hP hD hS hA (fun _ => by rw [ini_z]; rfl) (nI_pos (by omega)) (nI_clamp (by omega)) (by show 432 * 4 ≤ 536870912; omega) (Nat.le_of_ble_eq_true rfl) (Nat.le_of_ble_eq_true rfl) dX1_init_8 (fun b1 cB H hK hP hD hS => ?_)
  have eB : cB = cA := arr_one hK
  rw [eB] at hP hD
  have hK := hK.sub (tys' := [(cA, .int)]) [0] rfl
  replace hP : va_P (dC, dI) vwCl [(g0, .inr (1, [.int (nI 0), .int (nI 0), .null, .int (nI 0), .int (nI 0), .null, .null, .int (nI 0), .null, .null, .null, .null, .null, .null])), (b1, .inl (cA, 432, .inl (ini 0)))] H := hP
  replace hD : va_D A [(g0, .inr (1, [.int (nI 0), .int (nI 0), .null, .int (nI 0), .int (nI 0), .null, .null, .int (nI 0), .null, .null, .null, .null, .null, .null])), (b1, .inl (cA, 432, .inl (ini 0)))] := hD
  refine W.widen (k := 1) (n := 432) (by omega) (by omega) ?_
  refine va_putF (D := (dC, dI)) (ci := 1) (v := .ref b1) (ty := .array .int) (C := RX1) (T := TX1) (N := 14) hx hb hts (by decide +kernel) tyX1 tyX1_ok nmX1 hown hK hP hD hS 0 rfl rfl 2 (by decide) (hts (.fieldLink RX1 7 "MotionDeskModel" "poses" "[I") (by decide +kernel)) (fun _ h9 => h9) rfl hin rfl (by decide +kernel) rfl rfl (Nat.le_of_ble_eq_true rfl) dX1_init_10 (fun H locs hP hD hS => ?_)
  replace hP : va_P (dC, dI) vwCl [(g0, .inr (1, [.int (nI 0), .int (nI 0), .ref b1, .int (nI 0), .int (nI 0), .null, .null, .int (nI 0), .null, .null, .null, .null, .null, .null])), (b1, .inl (cA, 432, .inl (ini 0)))] H := hP
  replace hD : va_D A [(g0, .inr (1, [.int (nI 0), .int (nI 0), .ref b1, .int (nI 0), .int (nI 0), .null, .null, .int (nI 0), .null, .null, .null, .null, .null, .null])), (b1, .inl (cA, 432, .inl (ini 0)))] := hD
  refine lv_aload_n hx hb dX1_init_13 rfl (lv_at hl 0 rfl) ?_
  refine lv_bipush (v := (nI 32)) hx hb dX1_init_14 (by decide) ?_
  refine va_newa (atype := .int) (a0 := (32, .inl (fun _ => 0))) (N' := 32) (ty := .int) hx hb (hts (.arrayClass .int) (by decide +kernel)) rfl hK hP hD hS hA (fun _ => rfl) (nI_pos (by omega)) (nI_clamp (by omega)) (by show 32 * 4 ≤ 536870912; omega) (Nat.le_of_ble_eq_true rfl) (Nat.le_of_ble_eq_true rfl) dX1_init_16 (fun b8 cB H hK hP hD hS => ?_)
  have eB : cB = cA := arr_one hK
  rw [eB] at hP hD
  have hK := hK.sub (tys' := [(cA, .int)]) [0] rfl
  replace hP : va_P (dC, dI) vwCl [(g0, .inr (1, [.int (nI 0), .int (nI 0), .ref b1, .int (nI 0), .int (nI 0), .null, .null, .int (nI 0), .null, .null, .null, .null, .null, .null])), (b1, .inl (cA, 432, .inl (ini 0))), (b8, .inl (cA, 32, .inl (fun _ => 0)))] H := hP
  replace hD : va_D A [(g0, .inr (1, [.int (nI 0), .int (nI 0), .ref b1, .int (nI 0), .int (nI 0), .null, .null, .int (nI 0), .null, .null, .null, .null, .null, .null])), (b1, .inl (cA, 432, .inl (ini 0))), (b8, .inl (cA, 32, .inl (fun _ => 0)))] := hD
  refine W.widen (k := 2) (n := 464) (by omega) (by omega) ?_
  refine va_putF (D := (dC, dI)) (ci := 1) (v := .ref b8) (ty := .array .int) (C := RX1) (T := TX1) (N := 14) hx hb hts (by decide +kernel) tyX1 tyX1_ok nmX1 hown hK hP hD hS 0 rfl rfl 5 (by decide) (hts (.fieldLink RX1 13 "MotionDeskModel" "textTimes" "[I") (by decide +kernel)) (fun _ h9 => h9) rfl hin rfl (by decide +kernel) rfl rfl (Nat.le_of_ble_eq_true rfl) dX1_init_18 (fun H locs hP hD hS => ?_)
  replace hP : va_P (dC, dI) vwCl [(g0, .inr (1, [.int (nI 0), .int (nI 0), .ref b1, .int (nI 0), .int (nI 0), .ref b8, .null, .int (nI 0), .null, .null, .null, .null, .null, .null])), (b1, .inl (cA, 432, .inl (ini 0))), (b8, .inl (cA, 32, .inl (fun _ => 0)))] H := hP
  replace hD : va_D A [(g0, .inr (1, [.int (nI 0), .int (nI 0), .ref b1, .int (nI 0), .int (nI 0), .ref b8, .null, .int (nI 0), .null, .null, .null, .null, .null, .null])), (b1, .inl (cA, 432, .inl (ini 0))), (b8, .inl (cA, 32, .inl (fun _ => 0)))] := hD
  refine lv_aload_n hx hb dX1_init_21 rfl (lv_at hl 0 rfl) ?_
  refine lv_bipush (v := (nI 96)) hx hb dX1_init_22 (by decide) ?_
  refine va_newa (atype := .int) (a0 := (96, .inl (fun _ => 0))) (N' := 96) (ty := .int) hx hb (hts (.arrayClass .int) (by decide +kernel)) rfl hK hP hD hS hA (fun _ => rfl) (nI_pos (by omega)) (nI_clamp (by omega)) (by show 96 * 4 ≤ 536870912; omega) (Nat.le_of_ble_eq_true rfl) (Nat.le_of_ble_eq_true rfl) dX1_init_24 (fun b9 cB H hK hP hD hS => ?_)
  have eB : cB = cA := arr_one hK
  rw [eB] at hP hD
  have hK := hK.sub (tys' := [(cA, .int)]) [0] rfl
  replace hP : va_P (dC, dI) vwCl [(g0, .inr (1, [.int (nI 0), .int (nI 0), .ref b1, .int (nI 0), .int (nI 0), .ref b8, .null, .int (nI 0), .null, .null, .null, .null, .null, .null])), (b1, .inl (cA, 432, .inl (ini 0))), (b8, .inl (cA, 32, .inl (fun _ => 0))), (b9, .inl (cA, 96, .inl (fun _ => 0)))] H := hP
  replace hD : va_D A [(g0, .inr (1, [.int (nI 0), .int (nI 0), .ref b1, .int (nI 0), .int (nI 0), .ref b8, .null, .int (nI 0), .null, .null, .null, .null, .null, .null])), (b1, .inl (cA, 432, .inl (ini 0))), (b8, .inl (cA, 32, .inl (fun _ => 0))), (b9, .inl (cA, 96, .inl (fun _ => 0)))] := hD
  refine W.widen (k := 3) (n := 560) (by omega) (by omega) ?_
  refine va_putF (D := (dC, dI)) (ci := 1) (v := .ref b9) (ty := .array .int) (C := RX1) (T := TX1) (N := 14) hx hb hts (by decide +kernel) tyX1 tyX1_ok nmX1 hown hK hP hD hS 0 rfl rfl 6 (by decide) (hts (.fieldLink RX1 16 "MotionDeskModel" "textValues" "[I") (by decide +kernel)) (fun _ h9 => h9) rfl hin rfl (by decide +kernel) rfl rfl (Nat.le_of_ble_eq_true rfl) dX1_init_26 (fun H locs hP hD hS => ?_)
  replace hP : va_P (dC, dI) vwCl [(g0, .inr (1, [.int (nI 0), .int (nI 0), .ref b1, .int (nI 0), .int (nI 0), .ref b8, .ref b9, .int (nI 0), .null, .null, .null, .null, .null, .null])), (b1, .inl (cA, 432, .inl (ini 0))), (b8, .inl (cA, 32, .inl (fun _ => 0))), (b9, .inl (cA, 96, .inl (fun _ => 0)))] H := hP
  replace hD : va_D A [(g0, .inr (1, [.int (nI 0), .int (nI 0), .ref b1, .int (nI 0), .int (nI 0), .ref b8, .ref b9, .int (nI 0), .null, .null, .null, .null, .null, .null])), (b1, .inl (cA, 432, .inl (ini 0))), (b8, .inl (cA, 32, .inl (fun _ => 0))), (b9, .inl (cA, 96, .inl (fun _ => 0)))] := hD
  refine lv_aload_n hx hb dX1_init_29 rfl (lv_at hl 0 rfl) ?_
  refine lv_bipush (v := (nI 32)) hx hb dX1_init_30 (by decide) ?_
  refine va_newa (atype := .int) (a0 := (32, .inl (fun _ => 0))) (N' := 32) (ty := .int) hx hb (hts (.arrayClass .int) (by decide +kernel)) rfl hK hP hD hS hA (fun _ => rfl) (nI_pos (by omega)) (nI_clamp (by omega)) (by show 32 * 4 ≤ 536870912; omega) (Nat.le_of_ble_eq_true rfl) (Nat.le_of_ble_eq_true rfl) dX1_init_32 (fun b2 cB H hK hP hD hS => ?_)
  have eB : cB = cA := arr_one hK
  rw [eB] at hP hD
  have hK := hK.sub (tys' := [(cA, .int)]) [0] rfl
  replace hP : va_P (dC, dI) vwCl [(g0, .inr (1, [.int (nI 0), .int (nI 0), .ref b1, .int (nI 0), .int (nI 0), .ref b8, .ref b9, .int (nI 0), .null, .null, .null, .null, .null, .null])), (b1, .inl (cA, 432, .inl (ini 0))), (b8, .inl (cA, 32, .inl (fun _ => 0))), (b9, .inl (cA, 96, .inl (fun _ => 0))), (b2, .inl (cA, 32, .inl (fun _ => 0)))] H := hP
  replace hD : va_D A [(g0, .inr (1, [.int (nI 0), .int (nI 0), .ref b1, .int (nI 0), .int (nI 0), .ref b8, .ref b9, .int (nI 0), .null, .null, .null, .null, .null, .null])), (b1, .inl (cA, 432, .inl (ini 0))), (b8, .inl (cA, 32, .inl (fun _ => 0))), (b9, .inl (cA, 96, .inl (fun _ => 0))), (b2, .inl (cA, 32, .inl (fun _ => 0)))] := hD
  refine W.widen (k := 4) (n := 592) (by omega) (by omega) ?_
  refine va_putF (D := (dC, dI)) (ci := 1) (v := .ref b2) (ty := .array .int) (C := RX1) (T := TX1) (N := 14) hx hb hts (by decide +kernel) tyX1 tyX1_ok nmX1 hown hK hP hD hS 0 rfl rfl 8 (by decide) (hts (.fieldLink RX1 19 "MotionDeskModel" "nodeOf" "[I") (by decide +kernel)) (fun _ h9 => h9) rfl hin rfl (by decide +kernel) rfl rfl (Nat.le_of_ble_eq_true rfl) dX1_init_34 (fun H locs hP hD hS => ?_)
  replace hP : va_P (dC, dI) vwCl [(g0, .inr (1, [.int (nI 0), .int (nI 0), .ref b1, .int (nI 0), .int (nI 0), .ref b8, .ref b9, .int (nI 0), .ref b2, .null, .null, .null, .null, .null])), (b1, .inl (cA, 432, .inl (ini 0))), (b8, .inl (cA, 32, .inl (fun _ => 0))), (b9, .inl (cA, 96, .inl (fun _ => 0))), (b2, .inl (cA, 32, .inl (fun _ => 0)))] H := hP
  replace hD : va_D A [(g0, .inr (1, [.int (nI 0), .int (nI 0), .ref b1, .int (nI 0), .int (nI 0), .ref b8, .ref b9, .int (nI 0), .ref b2, .null, .null, .null, .null, .null])), (b1, .inl (cA, 432, .inl (ini 0))), (b8, .inl (cA, 32, .inl (fun _ => 0))), (b9, .inl (cA, 96, .inl (fun _ => 0))), (b2, .inl (cA, 32, .inl (fun _ => 0)))] := hD
  refine lv_aload_n hx hb dX1_init_37 rfl (lv_at hl 0 rfl) ?_
  refine lv_bipush (v := (nI 32)) hx hb dX1_init_38 (by decide) ?_
  refine va_newa (atype := .int) (a0 := (32, .inl (fun _ => 0))) (N' := 32) (ty := .int) hx hb (hts (.arrayClass .int) (by decide +kernel)) rfl hK hP hD hS hA (fun _ => rfl) (nI_pos (by omega)) (nI_clamp (by omega)) (by show 32 * 4 ≤ 536870912; omega) (Nat.le_of_ble_eq_true rfl) (Nat.le_of_ble_eq_true rfl) dX1_init_40 (fun b3 cB H hK hP hD hS => ?_)
  have eB : cB = cA := arr_one hK
  rw [eB] at hP hD
  have hK := hK.sub (tys' := [(cA, .int)]) [0] rfl
  replace hP : va_P (dC, dI) vwCl [(g0, .inr (1, [.int (nI 0), .int (nI 0), .ref b1, .int (nI 0), .int (nI 0), .ref b8, .ref b9, .int (nI 0), .ref b2, .null, .null, .null, .null, .null])), (b1, .inl (cA, 432, .inl (ini 0))), (b8, .inl (cA, 32, .inl (fun _ => 0))), (b9, .inl (cA, 96, .inl (fun _ => 0))), (b2, .inl (cA, 32, .inl (fun _ => 0))), (b3, .inl (cA, 32, .inl (fun _ => 0)))] H := hP
  replace hD : va_D A [(g0, .inr (1, [.int (nI 0), .int (nI 0), .ref b1, .int (nI 0), .int (nI 0), .ref b8, .ref b9, .int (nI 0), .ref b2, .null, .null, .null, .null, .null])), (b1, .inl (cA, 432, .inl (ini 0))), (b8, .inl (cA, 32, .inl (fun _ => 0))), (b9, .inl (cA, 96, .inl (fun _ => 0))), (b2, .inl (cA, 32, .inl (fun _ => 0))), (b3, .inl (cA, 32, .inl (fun _ => 0)))] := hD
  refine W.widen (k := 5) (n := 624) (by omega) (by omega) ?_
  refine va_putF (D := (dC, dI)) (ci := 1) (v := .ref b3) (ty := .array .int) (C := RX1) (T := TX1) (N := 14) hx hb hts (by decide +kernel) tyX1 tyX1_ok nmX1 hown hK hP hD hS 0 rfl rfl 9 (by decide) (hts (.fieldLink RX1 22 "MotionDeskModel" "whatOf" "[I") (by decide +kernel)) (fun _ h9 => h9) rfl hin rfl (by decide +kernel) rfl rfl (Nat.le_of_ble_eq_true rfl) dX1_init_42 (fun H locs hP hD hS => ?_)
  replace hP : va_P (dC, dI) vwCl [(g0, .inr (1, [.int (nI 0), .int (nI 0), .ref b1, .int (nI 0), .int (nI 0), .ref b8, .ref b9, .int (nI 0), .ref b2, .ref b3, .null, .null, .null, .null])), (b1, .inl (cA, 432, .inl (ini 0))), (b8, .inl (cA, 32, .inl (fun _ => 0))), (b9, .inl (cA, 96, .inl (fun _ => 0))), (b2, .inl (cA, 32, .inl (fun _ => 0))), (b3, .inl (cA, 32, .inl (fun _ => 0)))] H := hP
  replace hD : va_D A [(g0, .inr (1, [.int (nI 0), .int (nI 0), .ref b1, .int (nI 0), .int (nI 0), .ref b8, .ref b9, .int (nI 0), .ref b2, .ref b3, .null, .null, .null, .null])), (b1, .inl (cA, 432, .inl (ini 0))), (b8, .inl (cA, 32, .inl (fun _ => 0))), (b9, .inl (cA, 96, .inl (fun _ => 0))), (b2, .inl (cA, 32, .inl (fun _ => 0))), (b3, .inl (cA, 32, .inl (fun _ => 0)))] := hD
  refine lv_aload_n hx hb dX1_init_45 rfl (lv_at hl 0 rfl) ?_
  refine lv_bipush (v := (nI 32)) hx hb dX1_init_46 (by decide) ?_
  refine va_newa (atype := .int) (a0 := (32, .inl (fun _ => 0))) (N' := 32) (ty := .int) hx hb (hts (.arrayClass .int) (by decide +kernel)) rfl hK hP hD hS hA (fun _ => rfl) (nI_pos (by omega)) (nI_clamp (by omega)) (by show 32 * 4 ≤ 536870912; omega) (Nat.le_of_ble_eq_true rfl) (Nat.le_of_ble_eq_true rfl) dX1_init_48 (fun b4 cB H hK hP hD hS => ?_)
  have eB : cB = cA := arr_one hK
  rw [eB] at hP hD
  have hK := hK.sub (tys' := [(cA, .int)]) [0] rfl
  replace hP : va_P (dC, dI) vwCl [(g0, .inr (1, [.int (nI 0), .int (nI 0), .ref b1, .int (nI 0), .int (nI 0), .ref b8, .ref b9, .int (nI 0), .ref b2, .ref b3, .null, .null, .null, .null])), (b1, .inl (cA, 432, .inl (ini 0))), (b8, .inl (cA, 32, .inl (fun _ => 0))), (b9, .inl (cA, 96, .inl (fun _ => 0))), (b2, .inl (cA, 32, .inl (fun _ => 0))), (b3, .inl (cA, 32, .inl (fun _ => 0))), (b4, .inl (cA, 32, .inl (fun _ => 0)))] H := hP
  replace hD : va_D A [(g0, .inr (1, [.int (nI 0), .int (nI 0), .ref b1, .int (nI 0), .int (nI 0), .ref b8, .ref b9, .int (nI 0), .ref b2, .ref b3, .null, .null, .null, .null])), (b1, .inl (cA, 432, .inl (ini 0))), (b8, .inl (cA, 32, .inl (fun _ => 0))), (b9, .inl (cA, 96, .inl (fun _ => 0))), (b2, .inl (cA, 32, .inl (fun _ => 0))), (b3, .inl (cA, 32, .inl (fun _ => 0))), (b4, .inl (cA, 32, .inl (fun _ => 0)))] := hD
  refine W.widen (k := 6) (n := 656) (by omega) (by omega) ?_
  refine va_putF (D := (dC, dI)) (ci := 1) (v := .ref b4) (ty := .array .int) (C := RX1) (T := TX1) (N := 14) hx hb hts (by decide +kernel) tyX1 tyX1_ok nmX1 hown hK hP hD hS 0 rfl rfl 10 (by decide) (hts (.fieldLink RX1 25 "MotionDeskModel" "howOf" "[I") (by decide +kernel)) (fun _ h9 => h9) rfl hin rfl (by decide +kernel) rfl rfl (Nat.le_of_ble_eq_true rfl) dX1_init_50 (fun H locs hP hD hS => ?_)
  replace hP : va_P (dC, dI) vwCl [(g0, .inr (1, [.int (nI 0), .int (nI 0), .ref b1, .int (nI 0), .int (nI 0), .ref b8, .ref b9, .int (nI 0), .ref b2, .ref b3, .ref b4, .null, .null, .null])), (b1, .inl (cA, 432, .inl (ini 0))), (b8, .inl (cA, 32, .inl (fun _ => 0))), (b9, .inl (cA, 96, .inl (fun _ => 0))), (b2, .inl (cA, 32, .inl (fun _ => 0))), (b3, .inl (cA, 32, .inl (fun _ => 0))), (b4, .inl (cA, 32, .inl (fun _ => 0)))] H := hP
  replace hD : va_D A [(g0, .inr (1, [.int (nI 0), .int (nI 0), .ref b1, .int (nI 0), .int (nI 0), .ref b8, .ref b9, .int (nI 0), .ref b2, .ref b3, .ref b4, .null, .null, .null])), (b1, .inl (cA, 432, .inl (ini 0))), (b8, .inl (cA, 32, .inl (fun _ => 0))), (b9, .inl (cA, 96, .inl (fun _ => 0))), (b2, .inl (cA, 32, .inl (fun _ => 0))), (b3, .inl (cA, 32, .inl (fun _ => 0))), (b4, .inl (cA, 32, .inl (fun _ => 0)))] := hD
  refine lv_aload_n hx hb dX1_init_53 rfl (lv_at hl 0 rfl) ?_
  refine lv_bipush (v := (nI 32)) hx hb dX1_init_54 (by decide) ?_
  refine va_newa (atype := .int) (a0 := (32, .inl (fun _ => 0))) (N' := 32) (ty := .int) hx hb (hts (.arrayClass .int) (by decide +kernel)) rfl hK hP hD hS hA (fun _ => rfl) (nI_pos (by omega)) (nI_clamp (by omega)) (by show 32 * 4 ≤ 536870912; omega) (Nat.le_of_ble_eq_true rfl) (Nat.le_of_ble_eq_true rfl) dX1_init_56 (fun b5 cB H hK hP hD hS => ?_)
  have eB : cB = cA := arr_one hK
  rw [eB] at hP hD
  have hK := hK.sub (tys' := [(cA, .int)]) [0] rfl
  replace hP : va_P (dC, dI) vwCl [(g0, .inr (1, [.int (nI 0), .int (nI 0), .ref b1, .int (nI 0), .int (nI 0), .ref b8, .ref b9, .int (nI 0), .ref b2, .ref b3, .ref b4, .null, .null, .null])), (b1, .inl (cA, 432, .inl (ini 0))), (b8, .inl (cA, 32, .inl (fun _ => 0))), (b9, .inl (cA, 96, .inl (fun _ => 0))), (b2, .inl (cA, 32, .inl (fun _ => 0))), (b3, .inl (cA, 32, .inl (fun _ => 0))), (b4, .inl (cA, 32, .inl (fun _ => 0))), (b5, .inl (cA, 32, .inl (fun _ => 0)))] H := hP
  replace hD : va_D A [(g0, .inr (1, [.int (nI 0), .int (nI 0), .ref b1, .int (nI 0), .int (nI 0), .ref b8, .ref b9, .int (nI 0), .ref b2, .ref b3, .ref b4, .null, .null, .null])), (b1, .inl (cA, 432, .inl (ini 0))), (b8, .inl (cA, 32, .inl (fun _ => 0))), (b9, .inl (cA, 96, .inl (fun _ => 0))), (b2, .inl (cA, 32, .inl (fun _ => 0))), (b3, .inl (cA, 32, .inl (fun _ => 0))), (b4, .inl (cA, 32, .inl (fun _ => 0))), (b5, .inl (cA, 32, .inl (fun _ => 0)))] := hD
  refine W.widen (k := 7) (n := 688) (by omega) (by omega) ?_
  refine va_putF (D := (dC, dI)) (ci := 1) (v := .ref b5) (ty := .array .int) (C := RX1) (T := TX1) (N := 14) hx hb hts (by decide +kernel) tyX1 tyX1_ok nmX1 hown hK hP hD hS 0 rfl rfl 11 (by decide) (hts (.fieldLink RX1 28 "MotionDeskModel" "keysOf" "[I") (by decide +kernel)) (fun _ h9 => h9) rfl hin rfl (by decide +kernel) rfl rfl (Nat.le_of_ble_eq_true rfl) dX1_init_58 (fun H locs hP hD hS => ?_)
  replace hP : va_P (dC, dI) vwCl [(g0, .inr (1, [.int (nI 0), .int (nI 0), .ref b1, .int (nI 0), .int (nI 0), .ref b8, .ref b9, .int (nI 0), .ref b2, .ref b3, .ref b4, .ref b5, .null, .null])), (b1, .inl (cA, 432, .inl (ini 0))), (b8, .inl (cA, 32, .inl (fun _ => 0))), (b9, .inl (cA, 96, .inl (fun _ => 0))), (b2, .inl (cA, 32, .inl (fun _ => 0))), (b3, .inl (cA, 32, .inl (fun _ => 0))), (b4, .inl (cA, 32, .inl (fun _ => 0))), (b5, .inl (cA, 32, .inl (fun _ => 0)))] H := hP
  replace hD : va_D A [(g0, .inr (1, [.int (nI 0), .int (nI 0), .ref b1, .int (nI 0), .int (nI 0), .ref b8, .ref b9, .int (nI 0), .ref b2, .ref b3, .ref b4, .ref b5, .null, .null])), (b1, .inl (cA, 432, .inl (ini 0))), (b8, .inl (cA, 32, .inl (fun _ => 0))), (b9, .inl (cA, 96, .inl (fun _ => 0))), (b2, .inl (cA, 32, .inl (fun _ => 0))), (b3, .inl (cA, 32, .inl (fun _ => 0))), (b4, .inl (cA, 32, .inl (fun _ => 0))), (b5, .inl (cA, 32, .inl (fun _ => 0)))] := hD
  refine lv_aload_n hx hb dX1_init_61 rfl (lv_at hl 0 rfl) ?_
  refine lv_sipush (v := (nI 1024)) hx hb dX1_init_62 (by decide) ?_
  refine va_newa (atype := .int) (a0 := (1024, .inl (fun _ => 0))) (N' := 1024) (ty := .int) hx hb (hts (.arrayClass .int) (by decide +kernel)) rfl hK hP hD hS hA (fun _ => rfl) (nI_pos (by omega)) (nI_clamp (by omega)) (by show 1024 * 4 ≤ 536870912; omega) (Nat.le_of_ble_eq_true rfl) (Nat.le_of_ble_eq_true rfl) dX1_init_65 (fun b6 cB H hK hP hD hS => ?_)
  have eB : cB = cA := arr_one hK
  rw [eB] at hP hD
  have hK := hK.sub (tys' := [(cA, .int)]) [0] rfl
  replace hP : va_P (dC, dI) vwCl [(g0, .inr (1, [.int (nI 0), .int (nI 0), .ref b1, .int (nI 0), .int (nI 0), .ref b8, .ref b9, .int (nI 0), .ref b2, .ref b3, .ref b4, .ref b5, .null, .null])), (b1, .inl (cA, 432, .inl (ini 0))), (b8, .inl (cA, 32, .inl (fun _ => 0))), (b9, .inl (cA, 96, .inl (fun _ => 0))), (b2, .inl (cA, 32, .inl (fun _ => 0))), (b3, .inl (cA, 32, .inl (fun _ => 0))), (b4, .inl (cA, 32, .inl (fun _ => 0))), (b5, .inl (cA, 32, .inl (fun _ => 0))), (b6, .inl (cA, 1024, .inl (fun _ => 0)))] H := hP
  replace hD : va_D A [(g0, .inr (1, [.int (nI 0), .int (nI 0), .ref b1, .int (nI 0), .int (nI 0), .ref b8, .ref b9, .int (nI 0), .ref b2, .ref b3, .ref b4, .ref b5, .null, .null])), (b1, .inl (cA, 432, .inl (ini 0))), (b8, .inl (cA, 32, .inl (fun _ => 0))), (b9, .inl (cA, 96, .inl (fun _ => 0))), (b2, .inl (cA, 32, .inl (fun _ => 0))), (b3, .inl (cA, 32, .inl (fun _ => 0))), (b4, .inl (cA, 32, .inl (fun _ => 0))), (b5, .inl (cA, 32, .inl (fun _ => 0))), (b6, .inl (cA, 1024, .inl (fun _ => 0)))] := hD
  refine W.widen (k := 8) (n := 1712) (by omega) (by omega) ?_
  refine va_putF (D := (dC, dI)) (ci := 1) (v := .ref b6) (ty := .array .int) (C := RX1) (T := TX1) (N := 14) hx hb hts (by decide +kernel) tyX1 tyX1_ok nmX1 hown hK hP hD hS 0 rfl rfl 12 (by decide) (hts (.fieldLink RX1 31 "MotionDeskModel" "times" "[I") (by decide +kernel)) (fun _ h9 => h9) rfl hin rfl (by decide +kernel) rfl rfl (Nat.le_of_ble_eq_true rfl) dX1_init_67 (fun H locs hP hD hS => ?_)
  replace hP : va_P (dC, dI) vwCl [(g0, .inr (1, [.int (nI 0), .int (nI 0), .ref b1, .int (nI 0), .int (nI 0), .ref b8, .ref b9, .int (nI 0), .ref b2, .ref b3, .ref b4, .ref b5, .ref b6, .null])), (b1, .inl (cA, 432, .inl (ini 0))), (b8, .inl (cA, 32, .inl (fun _ => 0))), (b9, .inl (cA, 96, .inl (fun _ => 0))), (b2, .inl (cA, 32, .inl (fun _ => 0))), (b3, .inl (cA, 32, .inl (fun _ => 0))), (b4, .inl (cA, 32, .inl (fun _ => 0))), (b5, .inl (cA, 32, .inl (fun _ => 0))), (b6, .inl (cA, 1024, .inl (fun _ => 0)))] H := hP
  replace hD : va_D A [(g0, .inr (1, [.int (nI 0), .int (nI 0), .ref b1, .int (nI 0), .int (nI 0), .ref b8, .ref b9, .int (nI 0), .ref b2, .ref b3, .ref b4, .ref b5, .ref b6, .null])), (b1, .inl (cA, 432, .inl (ini 0))), (b8, .inl (cA, 32, .inl (fun _ => 0))), (b9, .inl (cA, 96, .inl (fun _ => 0))), (b2, .inl (cA, 32, .inl (fun _ => 0))), (b3, .inl (cA, 32, .inl (fun _ => 0))), (b4, .inl (cA, 32, .inl (fun _ => 0))), (b5, .inl (cA, 32, .inl (fun _ => 0))), (b6, .inl (cA, 1024, .inl (fun _ => 0)))] := hD
  refine lv_aload_n hx hb dX1_init_70 rfl (lv_at hl 0 rfl) ?_
  refine lv_sipush (v := (nI 3072)) hx hb dX1_init_71 (by decide) ?_
  refine va_newa (atype := .int) (a0 := (3072, .inl (fun _ => 0))) (N' := 3072) (ty := .int) hx hb (hts (.arrayClass .int) (by decide +kernel)) rfl hK hP hD hS hA (fun _ => rfl) (nI_pos (by omega)) (nI_clamp (by omega)) (by show 3072 * 4 ≤ 536870912; omega) (Nat.le_of_ble_eq_true rfl) (Nat.le_of_ble_eq_true rfl) dX1_init_74 (fun b7 cB H hK hP hD hS => ?_)
  have eB : cB = cA := arr_one hK
  rw [eB] at hP hD
  have hK := hK.sub (tys' := [(cA, .int)]) [0] rfl
  replace hP : va_P (dC, dI) vwCl [(g0, .inr (1, [.int (nI 0), .int (nI 0), .ref b1, .int (nI 0), .int (nI 0), .ref b8, .ref b9, .int (nI 0), .ref b2, .ref b3, .ref b4, .ref b5, .ref b6, .null])), (b1, .inl (cA, 432, .inl (ini 0))), (b8, .inl (cA, 32, .inl (fun _ => 0))), (b9, .inl (cA, 96, .inl (fun _ => 0))), (b2, .inl (cA, 32, .inl (fun _ => 0))), (b3, .inl (cA, 32, .inl (fun _ => 0))), (b4, .inl (cA, 32, .inl (fun _ => 0))), (b5, .inl (cA, 32, .inl (fun _ => 0))), (b6, .inl (cA, 1024, .inl (fun _ => 0))), (b7, .inl (cA, 3072, .inl (fun _ => 0)))] H := hP
  replace hD : va_D A [(g0, .inr (1, [.int (nI 0), .int (nI 0), .ref b1, .int (nI 0), .int (nI 0), .ref b8, .ref b9, .int (nI 0), .ref b2, .ref b3, .ref b4, .ref b5, .ref b6, .null])), (b1, .inl (cA, 432, .inl (ini 0))), (b8, .inl (cA, 32, .inl (fun _ => 0))), (b9, .inl (cA, 96, .inl (fun _ => 0))), (b2, .inl (cA, 32, .inl (fun _ => 0))), (b3, .inl (cA, 32, .inl (fun _ => 0))), (b4, .inl (cA, 32, .inl (fun _ => 0))), (b5, .inl (cA, 32, .inl (fun _ => 0))), (b6, .inl (cA, 1024, .inl (fun _ => 0))), (b7, .inl (cA, 3072, .inl (fun _ => 0)))] := hD
  refine W.widen (k := 9) (n := 4784) (by omega) (by omega) ?_
  refine va_putF (D := (dC, dI)) (ci := 1) (v := .ref b7) (ty := .array .int) (C := RX1) (T := TX1) (N := 14) hx hb hts (by decide +kernel) tyX1 tyX1_ok nmX1 hown hK hP hD hS 0 rfl rfl 13 (by decide) (hts (.fieldLink RX1 34 "MotionDeskModel" "values" "[I") (by decide +kernel)) (fun _ h9 => h9) rfl hin rfl (by decide +kernel) rfl rfl (Nat.le_of_ble_eq_true rfl) dX1_init_76 (fun H locs hP hD hS => ?_)
  replace hP : va_P (dC, dI) vwCl [(g0, .inr (1, [.int (nI 0), .int (nI 0), .ref b1, .int (nI 0), .int (nI 0), .ref b8, .ref b9, .int (nI 0), .ref b2, .ref b3, .ref b4, .ref b5, .ref b6, .ref b7])), (b1, .inl (cA, 432, .inl (ini 0))), (b8, .inl (cA, 32, .inl (fun _ => 0))), (b9, .inl (cA, 96, .inl (fun _ => 0))), (b2, .inl (cA, 32, .inl (fun _ => 0))), (b3, .inl (cA, 32, .inl (fun _ => 0))), (b4, .inl (cA, 32, .inl (fun _ => 0))), (b5, .inl (cA, 32, .inl (fun _ => 0))), (b6, .inl (cA, 1024, .inl (fun _ => 0))), (b7, .inl (cA, 3072, .inl (fun _ => 0)))] H := hP
  replace hD : va_D A [(g0, .inr (1, [.int (nI 0), .int (nI 0), .ref b1, .int (nI 0), .int (nI 0), .ref b8, .ref b9, .int (nI 0), .ref b2, .ref b3, .ref b4, .ref b5, .ref b6, .ref b7])), (b1, .inl (cA, 432, .inl (ini 0))), (b8, .inl (cA, 32, .inl (fun _ => 0))), (b9, .inl (cA, 96, .inl (fun _ => 0))), (b2, .inl (cA, 32, .inl (fun _ => 0))), (b3, .inl (cA, 32, .inl (fun _ => 0))), (b4, .inl (cA, 32, .inl (fun _ => 0))), (b5, .inl (cA, 32, .inl (fun _ => 0))), (b6, .inl (cA, 1024, .inl (fun _ => 0))), (b7, .inl (cA, 3072, .inl (fun _ => 0)))] := hD
  refine lv_aload_n hx hb dX1_init_79 rfl (lv_at hl 0 rfl) ?_
  refine lv_iload_n hx hb dX1_init_80 rfl (lv_at hl 1 rfl) ?_
  refine lv_iconst (v := (nI 1)) hx hb dX1_init_81 (by decide) ?_
  refine lv_icmp_ge (tgt := 89) hx hb dX1_init_82 (by decide) (fun c1 => ?_) (fun c1 => ?_)
  · skip
    have c1 := zle c1
    refine lv_iload_n hx hb dX1_init_89 rfl (lv_at hl 1 rfl) ?_
    refine lv_bipush (v := (nI 48)) hx hb dX1_init_90 (by decide) ?_
    refine lv_icmp_le (tgt := 100) hx hb dX1_init_92 (by decide) (fun c2 => ?_) (fun c2 => ?_)
    · skip
      have c2 := zle c2
      refine lv_iload_n hx hb dX1_init_100 rfl (lv_at hl 1 rfl) ?_
      have hz : N = cl48 x := eN.symm
      unfold cl48 at hz
      refine tp_i (y := nI N) (by rw [if_neg (by omega), if_neg (by omega)] at hz; rw [hz]; exact z_nat (by omega)) ?_
      clear hz
      refine va_putF (D := (dC, dI)) (ci := 1) (v := .int (nI N)) (ty := .int) (C := RX1) (T := TX1) (N := 14) hx hb hts (by decide +kernel) tyX1 tyX1_ok nmX1 hown hK hP hD hS 0 rfl rfl 1 (by decide) (hts (.fieldLink RX1 37 "MotionDeskModel" "nodes" "I") (by decide +kernel)) (fun _ h9 => h9) rfl hin rfl (by decide +kernel) rfl rfl (Nat.le_of_ble_eq_true rfl) dX1_init_101 (fun H locs hP hD hS => ?_)
      replace hP : va_P (dC, dI) vwCl [(g0, .inr (1, [.int (nI 0), .int (nI N), .ref b1, .int (nI 0), .int (nI 0), .ref b8, .ref b9, .int (nI 0), .ref b2, .ref b3, .ref b4, .ref b5, .ref b6, .ref b7])), (b1, .inl (cA, 432, .inl (ini 0))), (b8, .inl (cA, 32, .inl (fun _ => 0))), (b9, .inl (cA, 96, .inl (fun _ => 0))), (b2, .inl (cA, 32, .inl (fun _ => 0))), (b3, .inl (cA, 32, .inl (fun _ => 0))), (b4, .inl (cA, 32, .inl (fun _ => 0))), (b5, .inl (cA, 32, .inl (fun _ => 0))), (b6, .inl (cA, 1024, .inl (fun _ => 0))), (b7, .inl (cA, 3072, .inl (fun _ => 0)))] H := hP
      replace hD : va_D A [(g0, .inr (1, [.int (nI 0), .int (nI N), .ref b1, .int (nI 0), .int (nI 0), .ref b8, .ref b9, .int (nI 0), .ref b2, .ref b3, .ref b4, .ref b5, .ref b6, .ref b7])), (b1, .inl (cA, 432, .inl (ini 0))), (b8, .inl (cA, 32, .inl (fun _ => 0))), (b9, .inl (cA, 96, .inl (fun _ => 0))), (b2, .inl (cA, 32, .inl (fun _ => 0))), (b3, .inl (cA, 32, .inl (fun _ => 0))), (b4, .inl (cA, 32, .inl (fun _ => 0))), (b5, .inl (cA, 32, .inl (fun _ => 0))), (b6, .inl (cA, 1024, .inl (fun _ => 0))), (b7, .inl (cA, 3072, .inl (fun _ => 0)))] := hD
      refine lv_iconst (v := (nI 0)) hx hb dX1_init_104 (by decide) ?_
      refine lv_istore_n (lv' := [(2, .int (nI 0)), (0, .ref g0), (1, .int x)]) hx hb dX1_init_105 rfl hl (by decide) rfl (fun ls hl => ?_)
      obtain ⟨n, k, hn, hP9, hD9, hl9⟩ : ∃ (n k : Nat), k + n = N ∧ va_P (dC, dI) vwCl [(g0, .inr (1, [.int (nI 0), .int (nI N), .ref b1, .int (nI 0), .int (nI 0), .ref b8, .ref b9, .int (nI 0), .ref b2, .ref b3, .ref b4, .ref b5, .ref b6, .ref b7])), (b1, .inl (cA, 432, .inl (ini k))), (b8, .inl (cA, 32, .inl (fun _ => 0))), (b9, .inl (cA, 96, .inl (fun _ => 0))), (b2, .inl (cA, 32, .inl (fun _ => 0))), (b3, .inl (cA, 32, .inl (fun _ => 0))), (b4, .inl (cA, 32, .inl (fun _ => 0))), (b5, .inl (cA, 32, .inl (fun _ => 0))), (b6, .inl (cA, 1024, .inl (fun _ => 0))), (b7, .inl (cA, 3072, .inl (fun _ => 0)))] H ∧ va_D A [(g0, .inr (1, [.int (nI 0), .int (nI N), .ref b1, .int (nI 0), .int (nI 0), .ref b8, .ref b9, .int (nI 0), .ref b2, .ref b3, .ref b4, .ref b5, .ref b6, .ref b7])), (b1, .inl (cA, 432, .inl (ini k))), (b8, .inl (cA, 32, .inl (fun _ => 0))), (b9, .inl (cA, 96, .inl (fun _ => 0))), (b2, .inl (cA, 32, .inl (fun _ => 0))), (b3, .inl (cA, 32, .inl (fun _ => 0))), (b4, .inl (cA, 32, .inl (fun _ => 0))), (b5, .inl (cA, 32, .inl (fun _ => 0))), (b6, .inl (cA, 1024, .inl (fun _ => 0))), (b7, .inl (cA, 3072, .inl (fun _ => 0)))] ∧ lv_has ls 4 [(2, .int (nI k)), (0, .ref g0), (1, .int x)] := ⟨N, 0, by omega, hP, hD, hl⟩
      clear hl hP hD; have hl := hl9; have hP := hP9; have hD := hD9; clear hl9 hP9 hD9
      induction n generalizing k ls H locs with
      | zero =>
        have t2 : (nI k).toInt = k := nI_toInt (by omega)
        refine lv_iload_n hx hb dX1_init_106 rfl (lv_at hl 0 rfl) ?_
        refine lv_aload_n hx hb dX1_init_107 rfl (lv_at hl 1 rfl) ?_
        refine va_get (D := (dC, dI)) (ci := 1) (v := .int (nI N)) (C := RX1) (T := TX1) (N := 14) hx hb hts (by decide +kernel) hown hK hP 0 rfl rfl 1 (by decide) (hts (.fieldLink RX1 37 "MotionDeskModel" "nodes" "I") (by decide +kernel)) (fun _ h9 => h9) rfl dX1_init_108 ?_
        refine lv_icmp_ge (tgt := 148) hx hb dX1_init_111 (by decide) (fun c3 => ?_) (fun c3 => ?_)
        · skip
          have c3 := zle c3
          refine W.widen (k := 9) (n := 4784) (by omega) (by omega) ?_
          obtain rfl : k = N := by omega
          have hP9 := hP.sub (ws' := (wM cA g0 b1 b2 b3 b4 b5 b6 b7 b8 b9 k 0 0 (nI 0) (ini k) (fun _ => 0) (fun _ => 0) (fun _ => 0) (fun _ => 0) (fun _ => 0) (fun _ => 0) (fun _ => 0) (fun _ => 0))) [0, 1, 4, 5, 6, 7, 8, 9, 2, 3] rfl
          have hD9 := hD.sub (ws' := (wM cA g0 b1 b2 b3 b4 b5 b6 b7 b8 b9 k 0 0 (nI 0) (ini k) (fun _ => 0) (fun _ => 0) (fun _ => 0) (fun _ => 0) (fun _ => 0) (fun _ => 0) (fun _ => 0) (fun _ => 0))) [0, 1, 4, 5, 6, 7, 8, 9, 2, 3] (by decide) rfl
          exact W.vret hx hb hr (fun t9 ht9 hW9 => ⟨⟨(), rfl, trivial, b1, b2, b3, b4, b5, b6, b7, b8, b9, by rw [ht9]; exact hP9, va_K.moved hW9.alike hK, hD9⟩, hS.F ht9⟩) hS.2.2 dX1_init_148
        · skip
          have c3 := znle c3
          exfalso; omega
      | succ n ih =>
        have t2 : (nI k).toInt = k := nI_toInt (by omega)
        refine lv_iload_n hx hb dX1_init_106 rfl (lv_at hl 0 rfl) ?_
        refine lv_aload_n hx hb dX1_init_107 rfl (lv_at hl 1 rfl) ?_
        refine va_get (D := (dC, dI)) (ci := 1) (v := .int (nI N)) (C := RX1) (T := TX1) (N := 14) hx hb hts (by decide +kernel) hown hK hP 0 rfl rfl 1 (by decide) (hts (.fieldLink RX1 37 "MotionDeskModel" "nodes" "I") (by decide +kernel)) (fun _ h9 => h9) rfl dX1_init_108 ?_
        refine lv_icmp_ge (tgt := 148) hx hb dX1_init_111 (by decide) (fun c4 => ?_) (fun c4 => ?_)
        · skip
          have c4 := zle c4
          exfalso; omega
        · skip
          have c4 := znle c4
          refine lv_bipush (v := (nI 6)) hx hb dX1_init_114 (by decide) ?_
          refine lv_istore_n (lv' := [(3, .int (nI 6)), (2, .int (nI k)), (0, .ref g0), (1, .int x)]) hx hb dX1_init_116 rfl hl (by decide) rfl (fun ls hl => ?_)
          refine lv_iload_n hx hb dX1_init_117 rfl (lv_at hl 0 rfl) ?_
          refine lv_bipush (v := (nI 9)) hx hb dX1_init_118 (by decide) ?_
          refine lv_icmp_ge (tgt := 142) hx hb dX1_init_120 (by decide) (fun c5 => ?_) (fun c5 => ?_)
          · skip
            have c5 := c5
            exact absurd c5 (by decide)
          · skip
            have c5 := c5
            refine lv_aload_n hx hb dX1_init_123 rfl (lv_at hl 2 rfl) ?_
            refine va_get (D := (dC, dI)) (ci := 1) (v := .ref b1) (C := RX1) (T := TX1) (N := 14) hx hb hts (by decide +kernel) hown hK hP 0 rfl rfl 2 (by decide) (hts (.fieldLink RX1 7 "MotionDeskModel" "poses" "[I") (by decide +kernel)) (fun _ h9 => h9) rfl dX1_init_124 ?_
            refine lv_bipush (v := (nI 9)) hx hb dX1_init_127 (by decide) ?_
            refine lv_iload_n hx hb dX1_init_129 rfl (lv_at hl 1 rfl) ?_
            refine lv_imul hx hb dX1_init_130 ?_
            refine tp_i (y := nI (k * 9)) (by rw [pk_mul, Nat.mul_comm]) ?_
            refine lv_iload_n hx hb dX1_init_131 rfl (lv_at hl 0 rfl) ?_
            refine lv_iadd hx hb dX1_init_132 ?_
            refine tp_i (y := nI ((k * 3 + 2) * 3 + 0)) (by rw [nI_add, show k * 9 + 6 = (k * 3 + 2) * 3 + 0 by omega]) ?_
            refine lv_ldc (v := 65536) hx hb hown (hts (.constant RX1 41 65536) (by decide +kernel)) dX1_init_133 ?_
            refine va_iast hx hb hK hP hD hS 1 0 rfl rfl (vp_in_nI (by omega) (by omega)) dX1_init_135 (fun H locs hP hD hS => ?_)
            rw [nI_clamp (show (k * 3 + 2) * 3 + 0 < 2 ^ 31 by omega)] at hP hD
            replace hP : va_P (dC, dI) vwCl [(g0, .inr (1, [.int (nI 0), .int (nI N), .ref b1, .int (nI 0), .int (nI 0), .ref b8, .ref b9, .int (nI 0), .ref b2, .ref b3, .ref b4, .ref b5, .ref b6, .ref b7])), (b1, .inl (cA, 432, .inl (upd (ini k) ((k * 3 + 2) * 3 + 0) 65536))), (b8, .inl (cA, 32, .inl (fun _ => 0))), (b9, .inl (cA, 96, .inl (fun _ => 0))), (b2, .inl (cA, 32, .inl (fun _ => 0))), (b3, .inl (cA, 32, .inl (fun _ => 0))), (b4, .inl (cA, 32, .inl (fun _ => 0))), (b5, .inl (cA, 32, .inl (fun _ => 0))), (b6, .inl (cA, 1024, .inl (fun _ => 0))), (b7, .inl (cA, 3072, .inl (fun _ => 0)))] H := hP
            replace hD : va_D A [(g0, .inr (1, [.int (nI 0), .int (nI N), .ref b1, .int (nI 0), .int (nI 0), .ref b8, .ref b9, .int (nI 0), .ref b2, .ref b3, .ref b4, .ref b5, .ref b6, .ref b7])), (b1, .inl (cA, 432, .inl (upd (ini k) ((k * 3 + 2) * 3 + 0) 65536))), (b8, .inl (cA, 32, .inl (fun _ => 0))), (b9, .inl (cA, 96, .inl (fun _ => 0))), (b2, .inl (cA, 32, .inl (fun _ => 0))), (b3, .inl (cA, 32, .inl (fun _ => 0))), (b4, .inl (cA, 32, .inl (fun _ => 0))), (b5, .inl (cA, 32, .inl (fun _ => 0))), (b6, .inl (cA, 1024, .inl (fun _ => 0))), (b7, .inl (cA, 3072, .inl (fun _ => 0)))] := hD
            refine lv_iinc (v := nI 7) (lv' := [(3, .int (nI 7)), (2, .int (nI k)), (0, .ref g0), (1, .int x)]) hx hb dX1_init_136 hl (k := 0) rfl (by decide) (by decide) rfl (fun ls hl => ?_)
            refine lv_goto (tgt := 117) hx hb dX1_init_139 (by decide) ?_
            refine lv_iload_n hx hb dX1_init_117 rfl (lv_at hl 0 rfl) ?_
            refine lv_bipush (v := (nI 9)) hx hb dX1_init_118 (by decide) ?_
            refine lv_icmp_ge (tgt := 142) hx hb dX1_init_120 (by decide) (fun c6 => ?_) (fun c6 => ?_)
            · skip
              have c6 := c6
              exact absurd c6 (by decide)
            · skip
              have c6 := c6
              refine lv_aload_n hx hb dX1_init_123 rfl (lv_at hl 2 rfl) ?_
              refine va_get (D := (dC, dI)) (ci := 1) (v := .ref b1) (C := RX1) (T := TX1) (N := 14) hx hb hts (by decide +kernel) hown hK hP 0 rfl rfl 2 (by decide) (hts (.fieldLink RX1 7 "MotionDeskModel" "poses" "[I") (by decide +kernel)) (fun _ h9 => h9) rfl dX1_init_124 ?_
              refine lv_bipush (v := (nI 9)) hx hb dX1_init_127 (by decide) ?_
              refine lv_iload_n hx hb dX1_init_129 rfl (lv_at hl 1 rfl) ?_
              refine lv_imul hx hb dX1_init_130 ?_
              refine tp_i (y := nI (k * 9)) (by rw [pk_mul, Nat.mul_comm]) ?_
              refine lv_iload_n hx hb dX1_init_131 rfl (lv_at hl 0 rfl) ?_
              refine lv_iadd hx hb dX1_init_132 ?_
              refine tp_i (y := nI ((k * 3 + 2) * 3 + 1)) (by rw [nI_add, show k * 9 + 7 = (k * 3 + 2) * 3 + 1 by omega]) ?_
              refine lv_ldc (v := 65536) hx hb hown (hts (.constant RX1 41 65536) (by decide +kernel)) dX1_init_133 ?_
              refine va_iast hx hb hK hP hD hS 1 0 rfl rfl (vp_in_nI (by omega) (by omega)) dX1_init_135 (fun H locs hP hD hS => ?_)
              rw [nI_clamp (show (k * 3 + 2) * 3 + 1 < 2 ^ 31 by omega)] at hP hD
              replace hP : va_P (dC, dI) vwCl [(g0, .inr (1, [.int (nI 0), .int (nI N), .ref b1, .int (nI 0), .int (nI 0), .ref b8, .ref b9, .int (nI 0), .ref b2, .ref b3, .ref b4, .ref b5, .ref b6, .ref b7])), (b1, .inl (cA, 432, .inl (upd (upd (ini k) ((k * 3 + 2) * 3 + 0) 65536) ((k * 3 + 2) * 3 + 1) 65536))), (b8, .inl (cA, 32, .inl (fun _ => 0))), (b9, .inl (cA, 96, .inl (fun _ => 0))), (b2, .inl (cA, 32, .inl (fun _ => 0))), (b3, .inl (cA, 32, .inl (fun _ => 0))), (b4, .inl (cA, 32, .inl (fun _ => 0))), (b5, .inl (cA, 32, .inl (fun _ => 0))), (b6, .inl (cA, 1024, .inl (fun _ => 0))), (b7, .inl (cA, 3072, .inl (fun _ => 0)))] H := hP
              replace hD : va_D A [(g0, .inr (1, [.int (nI 0), .int (nI N), .ref b1, .int (nI 0), .int (nI 0), .ref b8, .ref b9, .int (nI 0), .ref b2, .ref b3, .ref b4, .ref b5, .ref b6, .ref b7])), (b1, .inl (cA, 432, .inl (upd (upd (ini k) ((k * 3 + 2) * 3 + 0) 65536) ((k * 3 + 2) * 3 + 1) 65536))), (b8, .inl (cA, 32, .inl (fun _ => 0))), (b9, .inl (cA, 96, .inl (fun _ => 0))), (b2, .inl (cA, 32, .inl (fun _ => 0))), (b3, .inl (cA, 32, .inl (fun _ => 0))), (b4, .inl (cA, 32, .inl (fun _ => 0))), (b5, .inl (cA, 32, .inl (fun _ => 0))), (b6, .inl (cA, 1024, .inl (fun _ => 0))), (b7, .inl (cA, 3072, .inl (fun _ => 0)))] := hD
              refine lv_iinc (v := nI 8) (lv' := [(3, .int (nI 8)), (2, .int (nI k)), (0, .ref g0), (1, .int x)]) hx hb dX1_init_136 hl (k := 0) rfl (by decide) (by decide) rfl (fun ls hl => ?_)
              refine lv_goto (tgt := 117) hx hb dX1_init_139 (by decide) ?_
              refine lv_iload_n hx hb dX1_init_117 rfl (lv_at hl 0 rfl) ?_
              refine lv_bipush (v := (nI 9)) hx hb dX1_init_118 (by decide) ?_
              refine lv_icmp_ge (tgt := 142) hx hb dX1_init_120 (by decide) (fun c7 => ?_) (fun c7 => ?_)
              · skip
                have c7 := c7
                exact absurd c7 (by decide)
              · skip
                have c7 := c7
                refine lv_aload_n hx hb dX1_init_123 rfl (lv_at hl 2 rfl) ?_
                refine va_get (D := (dC, dI)) (ci := 1) (v := .ref b1) (C := RX1) (T := TX1) (N := 14) hx hb hts (by decide +kernel) hown hK hP 0 rfl rfl 2 (by decide) (hts (.fieldLink RX1 7 "MotionDeskModel" "poses" "[I") (by decide +kernel)) (fun _ h9 => h9) rfl dX1_init_124 ?_
                refine lv_bipush (v := (nI 9)) hx hb dX1_init_127 (by decide) ?_
                refine lv_iload_n hx hb dX1_init_129 rfl (lv_at hl 1 rfl) ?_
                refine lv_imul hx hb dX1_init_130 ?_
                refine tp_i (y := nI (k * 9)) (by rw [pk_mul, Nat.mul_comm]) ?_
                refine lv_iload_n hx hb dX1_init_131 rfl (lv_at hl 0 rfl) ?_
                refine lv_iadd hx hb dX1_init_132 ?_
                refine tp_i (y := nI ((k * 3 + 2) * 3 + 2)) (by rw [nI_add, show k * 9 + 8 = (k * 3 + 2) * 3 + 2 by omega]) ?_
                refine lv_ldc (v := 65536) hx hb hown (hts (.constant RX1 41 65536) (by decide +kernel)) dX1_init_133 ?_
                refine va_iast hx hb hK hP hD hS 1 0 rfl rfl (vp_in_nI (by omega) (by omega)) dX1_init_135 (fun H locs hP hD hS => ?_)
                rw [nI_clamp (show (k * 3 + 2) * 3 + 2 < 2 ^ 31 by omega)] at hP hD
                replace hP : va_P (dC, dI) vwCl [(g0, .inr (1, [.int (nI 0), .int (nI N), .ref b1, .int (nI 0), .int (nI 0), .ref b8, .ref b9, .int (nI 0), .ref b2, .ref b3, .ref b4, .ref b5, .ref b6, .ref b7])), (b1, .inl (cA, 432, .inl (upd (upd (upd (ini k) ((k * 3 + 2) * 3 + 0) 65536) ((k * 3 + 2) * 3 + 1) 65536) ((k * 3 + 2) * 3 + 2) 65536))), (b8, .inl (cA, 32, .inl (fun _ => 0))), (b9, .inl (cA, 96, .inl (fun _ => 0))), (b2, .inl (cA, 32, .inl (fun _ => 0))), (b3, .inl (cA, 32, .inl (fun _ => 0))), (b4, .inl (cA, 32, .inl (fun _ => 0))), (b5, .inl (cA, 32, .inl (fun _ => 0))), (b6, .inl (cA, 1024, .inl (fun _ => 0))), (b7, .inl (cA, 3072, .inl (fun _ => 0)))] H := hP
                replace hD : va_D A [(g0, .inr (1, [.int (nI 0), .int (nI N), .ref b1, .int (nI 0), .int (nI 0), .ref b8, .ref b9, .int (nI 0), .ref b2, .ref b3, .ref b4, .ref b5, .ref b6, .ref b7])), (b1, .inl (cA, 432, .inl (upd (upd (upd (ini k) ((k * 3 + 2) * 3 + 0) 65536) ((k * 3 + 2) * 3 + 1) 65536) ((k * 3 + 2) * 3 + 2) 65536))), (b8, .inl (cA, 32, .inl (fun _ => 0))), (b9, .inl (cA, 96, .inl (fun _ => 0))), (b2, .inl (cA, 32, .inl (fun _ => 0))), (b3, .inl (cA, 32, .inl (fun _ => 0))), (b4, .inl (cA, 32, .inl (fun _ => 0))), (b5, .inl (cA, 32, .inl (fun _ => 0))), (b6, .inl (cA, 1024, .inl (fun _ => 0))), (b7, .inl (cA, 3072, .inl (fun _ => 0)))] := hD
                refine lv_iinc (v := nI 9) (lv' := [(3, .int (nI 9)), (2, .int (nI k)), (0, .ref g0), (1, .int x)]) hx hb dX1_init_136 hl (k := 0) rfl (by decide) (by decide) rfl (fun ls hl => ?_)
                refine lv_goto (tgt := 117) hx hb dX1_init_139 (by decide) ?_
                refine lv_iload_n hx hb dX1_init_117 rfl (lv_at hl 0 rfl) ?_
                refine lv_bipush (v := (nI 9)) hx hb dX1_init_118 (by decide) ?_
                refine lv_icmp_ge (tgt := 142) hx hb dX1_init_120 (by decide) (fun c8 => ?_) (fun c8 => ?_)
                · skip
                  have c8 := c8
                  refine lv_iinc (v := nI (k + 1)) (lv' := [(2, .int (nI (k + 1))), (3, .int (nI 9)), (0, .ref g0), (1, .int x)]) hx hb dX1_init_142 hl (k := 1) rfl (nI_1 k) (by decide) rfl (fun ls hl => ?_)
                  refine lv_goto (tgt := 106) hx hb dX1_init_145 (by decide) ?_
                  rw [ini_upd k] at hP hD
                  exact ih (ls := ls) (k := k + 1) (H := H) (locs := locs) hS (by omega) (lv_sub hl [0, 2, 3] rfl) hP hD
                · skip
                  have c8 := c8
                  exact absurd c8 (by decide)
    · skip
      have c2 := znle c2
      refine lv_bipush (v := (nI 48)) hx hb dX1_init_95 (by decide) ?_
      refine lv_goto (tgt := 101) hx hb dX1_init_97 (by decide) ?_
      have hz : N = cl48 x := eN.symm
      unfold cl48 at hz
      refine tp_i (y := nI N) (by rw [if_neg (by omega), if_pos (by omega)] at hz; rw [hz]) ?_
      clear hz
      refine va_putF (D := (dC, dI)) (ci := 1) (v := .int (nI N)) (ty := .int) (C := RX1) (T := TX1) (N := 14) hx hb hts (by decide +kernel) tyX1 tyX1_ok nmX1 hown hK hP hD hS 0 rfl rfl 1 (by decide) (hts (.fieldLink RX1 37 "MotionDeskModel" "nodes" "I") (by decide +kernel)) (fun _ h9 => h9) rfl hin rfl (by decide +kernel) rfl rfl (Nat.le_of_ble_eq_true rfl) dX1_init_101 (fun H locs hP hD hS => ?_)
      replace hP : va_P (dC, dI) vwCl [(g0, .inr (1, [.int (nI 0), .int (nI N), .ref b1, .int (nI 0), .int (nI 0), .ref b8, .ref b9, .int (nI 0), .ref b2, .ref b3, .ref b4, .ref b5, .ref b6, .ref b7])), (b1, .inl (cA, 432, .inl (ini 0))), (b8, .inl (cA, 32, .inl (fun _ => 0))), (b9, .inl (cA, 96, .inl (fun _ => 0))), (b2, .inl (cA, 32, .inl (fun _ => 0))), (b3, .inl (cA, 32, .inl (fun _ => 0))), (b4, .inl (cA, 32, .inl (fun _ => 0))), (b5, .inl (cA, 32, .inl (fun _ => 0))), (b6, .inl (cA, 1024, .inl (fun _ => 0))), (b7, .inl (cA, 3072, .inl (fun _ => 0)))] H := hP
      replace hD : va_D A [(g0, .inr (1, [.int (nI 0), .int (nI N), .ref b1, .int (nI 0), .int (nI 0), .ref b8, .ref b9, .int (nI 0), .ref b2, .ref b3, .ref b4, .ref b5, .ref b6, .ref b7])), (b1, .inl (cA, 432, .inl (ini 0))), (b8, .inl (cA, 32, .inl (fun _ => 0))), (b9, .inl (cA, 96, .inl (fun _ => 0))), (b2, .inl (cA, 32, .inl (fun _ => 0))), (b3, .inl (cA, 32, .inl (fun _ => 0))), (b4, .inl (cA, 32, .inl (fun _ => 0))), (b5, .inl (cA, 32, .inl (fun _ => 0))), (b6, .inl (cA, 1024, .inl (fun _ => 0))), (b7, .inl (cA, 3072, .inl (fun _ => 0)))] := hD
      refine lv_iconst (v := (nI 0)) hx hb dX1_init_104 (by decide) ?_
      refine lv_istore_n (lv' := [(2, .int (nI 0)), (0, .ref g0), (1, .int x)]) hx hb dX1_init_105 rfl hl (by decide) rfl (fun ls hl => ?_)
      obtain ⟨n, k, hn, hP9, hD9, hl9⟩ : ∃ (n k : Nat), k + n = N ∧ va_P (dC, dI) vwCl [(g0, .inr (1, [.int (nI 0), .int (nI N), .ref b1, .int (nI 0), .int (nI 0), .ref b8, .ref b9, .int (nI 0), .ref b2, .ref b3, .ref b4, .ref b5, .ref b6, .ref b7])), (b1, .inl (cA, 432, .inl (ini k))), (b8, .inl (cA, 32, .inl (fun _ => 0))), (b9, .inl (cA, 96, .inl (fun _ => 0))), (b2, .inl (cA, 32, .inl (fun _ => 0))), (b3, .inl (cA, 32, .inl (fun _ => 0))), (b4, .inl (cA, 32, .inl (fun _ => 0))), (b5, .inl (cA, 32, .inl (fun _ => 0))), (b6, .inl (cA, 1024, .inl (fun _ => 0))), (b7, .inl (cA, 3072, .inl (fun _ => 0)))] H ∧ va_D A [(g0, .inr (1, [.int (nI 0), .int (nI N), .ref b1, .int (nI 0), .int (nI 0), .ref b8, .ref b9, .int (nI 0), .ref b2, .ref b3, .ref b4, .ref b5, .ref b6, .ref b7])), (b1, .inl (cA, 432, .inl (ini k))), (b8, .inl (cA, 32, .inl (fun _ => 0))), (b9, .inl (cA, 96, .inl (fun _ => 0))), (b2, .inl (cA, 32, .inl (fun _ => 0))), (b3, .inl (cA, 32, .inl (fun _ => 0))), (b4, .inl (cA, 32, .inl (fun _ => 0))), (b5, .inl (cA, 32, .inl (fun _ => 0))), (b6, .inl (cA, 1024, .inl (fun _ => 0))), (b7, .inl (cA, 3072, .inl (fun _ => 0)))] ∧ lv_has ls 4 [(2, .int (nI k)), (0, .ref g0), (1, .int x)] := ⟨N, 0, by omega, hP, hD, hl⟩
      clear hl hP hD; have hl := hl9; have hP := hP9; have hD := hD9; clear hl9 hP9 hD9
      induction n generalizing k ls H locs with
      | zero =>
        have t2 : (nI k).toInt = k := nI_toInt (by omega)
        refine lv_iload_n hx hb dX1_init_106 rfl (lv_at hl 0 rfl) ?_
        refine lv_aload_n hx hb dX1_init_107 rfl (lv_at hl 1 rfl) ?_
        refine va_get (D := (dC, dI)) (ci := 1) (v := .int (nI N)) (C := RX1) (T := TX1) (N := 14) hx hb hts (by decide +kernel) hown hK hP 0 rfl rfl 1 (by decide) (hts (.fieldLink RX1 37 "MotionDeskModel" "nodes" "I") (by decide +kernel)) (fun _ h9 => h9) rfl dX1_init_108 ?_
        refine lv_icmp_ge (tgt := 148) hx hb dX1_init_111 (by decide) (fun c9 => ?_) (fun c9 => ?_)
        · skip
          have c9 := zle c9
          refine W.widen (k := 9) (n := 4784) (by omega) (by omega) ?_
          obtain rfl : k = N := by omega
          have hP9 := hP.sub (ws' := (wM cA g0 b1 b2 b3 b4 b5 b6 b7 b8 b9 k 0 0 (nI 0) (ini k) (fun _ => 0) (fun _ => 0) (fun _ => 0) (fun _ => 0) (fun _ => 0) (fun _ => 0) (fun _ => 0) (fun _ => 0))) [0, 1, 4, 5, 6, 7, 8, 9, 2, 3] rfl
          have hD9 := hD.sub (ws' := (wM cA g0 b1 b2 b3 b4 b5 b6 b7 b8 b9 k 0 0 (nI 0) (ini k) (fun _ => 0) (fun _ => 0) (fun _ => 0) (fun _ => 0) (fun _ => 0) (fun _ => 0) (fun _ => 0) (fun _ => 0))) [0, 1, 4, 5, 6, 7, 8, 9, 2, 3] (by decide) rfl
          exact W.vret hx hb hr (fun t9 ht9 hW9 => ⟨⟨(), rfl, trivial, b1, b2, b3, b4, b5, b6, b7, b8, b9, by rw [ht9]; exact hP9, va_K.moved hW9.alike hK, hD9⟩, hS.F ht9⟩) hS.2.2 dX1_init_148
        · skip
          have c9 := znle c9
          exfalso; omega
      | succ n ih =>
        have t2 : (nI k).toInt = k := nI_toInt (by omega)
        refine lv_iload_n hx hb dX1_init_106 rfl (lv_at hl 0 rfl) ?_
        refine lv_aload_n hx hb dX1_init_107 rfl (lv_at hl 1 rfl) ?_
        refine va_get (D := (dC, dI)) (ci := 1) (v := .int (nI N)) (C := RX1) (T := TX1) (N := 14) hx hb hts (by decide +kernel) hown hK hP 0 rfl rfl 1 (by decide) (hts (.fieldLink RX1 37 "MotionDeskModel" "nodes" "I") (by decide +kernel)) (fun _ h9 => h9) rfl dX1_init_108 ?_
        refine lv_icmp_ge (tgt := 148) hx hb dX1_init_111 (by decide) (fun c10 => ?_) (fun c10 => ?_)
        · skip
          have c10 := zle c10
          exfalso; omega
        · skip
          have c10 := znle c10
          refine lv_bipush (v := (nI 6)) hx hb dX1_init_114 (by decide) ?_
          refine lv_istore_n (lv' := [(3, .int (nI 6)), (2, .int (nI k)), (0, .ref g0), (1, .int x)]) hx hb dX1_init_116 rfl hl (by decide) rfl (fun ls hl => ?_)
          refine lv_iload_n hx hb dX1_init_117 rfl (lv_at hl 0 rfl) ?_
          refine lv_bipush (v := (nI 9)) hx hb dX1_init_118 (by decide) ?_
          refine lv_icmp_ge (tgt := 142) hx hb dX1_init_120 (by decide) (fun c11 => ?_) (fun c11 => ?_)
          · skip
            have c11 := c11
            exact absurd c11 (by decide)
          · skip
            have c11 := c11
            refine lv_aload_n hx hb dX1_init_123 rfl (lv_at hl 2 rfl) ?_
            refine va_get (D := (dC, dI)) (ci := 1) (v := .ref b1) (C := RX1) (T := TX1) (N := 14) hx hb hts (by decide +kernel) hown hK hP 0 rfl rfl 2 (by decide) (hts (.fieldLink RX1 7 "MotionDeskModel" "poses" "[I") (by decide +kernel)) (fun _ h9 => h9) rfl dX1_init_124 ?_
            refine lv_bipush (v := (nI 9)) hx hb dX1_init_127 (by decide) ?_
            refine lv_iload_n hx hb dX1_init_129 rfl (lv_at hl 1 rfl) ?_
            refine lv_imul hx hb dX1_init_130 ?_
            refine tp_i (y := nI (k * 9)) (by rw [pk_mul, Nat.mul_comm]) ?_
            refine lv_iload_n hx hb dX1_init_131 rfl (lv_at hl 0 rfl) ?_
            refine lv_iadd hx hb dX1_init_132 ?_
            refine tp_i (y := nI ((k * 3 + 2) * 3 + 0)) (by rw [nI_add, show k * 9 + 6 = (k * 3 + 2) * 3 + 0 by omega]) ?_
            refine lv_ldc (v := 65536) hx hb hown (hts (.constant RX1 41 65536) (by decide +kernel)) dX1_init_133 ?_
            refine va_iast hx hb hK hP hD hS 1 0 rfl rfl (vp_in_nI (by omega) (by omega)) dX1_init_135 (fun H locs hP hD hS => ?_)
            rw [nI_clamp (show (k * 3 + 2) * 3 + 0 < 2 ^ 31 by omega)] at hP hD
            replace hP : va_P (dC, dI) vwCl [(g0, .inr (1, [.int (nI 0), .int (nI N), .ref b1, .int (nI 0), .int (nI 0), .ref b8, .ref b9, .int (nI 0), .ref b2, .ref b3, .ref b4, .ref b5, .ref b6, .ref b7])), (b1, .inl (cA, 432, .inl (upd (ini k) ((k * 3 + 2) * 3 + 0) 65536))), (b8, .inl (cA, 32, .inl (fun _ => 0))), (b9, .inl (cA, 96, .inl (fun _ => 0))), (b2, .inl (cA, 32, .inl (fun _ => 0))), (b3, .inl (cA, 32, .inl (fun _ => 0))), (b4, .inl (cA, 32, .inl (fun _ => 0))), (b5, .inl (cA, 32, .inl (fun _ => 0))), (b6, .inl (cA, 1024, .inl (fun _ => 0))), (b7, .inl (cA, 3072, .inl (fun _ => 0)))] H := hP
            replace hD : va_D A [(g0, .inr (1, [.int (nI 0), .int (nI N), .ref b1, .int (nI 0), .int (nI 0), .ref b8, .ref b9, .int (nI 0), .ref b2, .ref b3, .ref b4, .ref b5, .ref b6, .ref b7])), (b1, .inl (cA, 432, .inl (upd (ini k) ((k * 3 + 2) * 3 + 0) 65536))), (b8, .inl (cA, 32, .inl (fun _ => 0))), (b9, .inl (cA, 96, .inl (fun _ => 0))), (b2, .inl (cA, 32, .inl (fun _ => 0))), (b3, .inl (cA, 32, .inl (fun _ => 0))), (b4, .inl (cA, 32, .inl (fun _ => 0))), (b5, .inl (cA, 32, .inl (fun _ => 0))), (b6, .inl (cA, 1024, .inl (fun _ => 0))), (b7, .inl (cA, 3072, .inl (fun _ => 0)))] := hD
            refine lv_iinc (v := nI 7) (lv' := [(3, .int (nI 7)), (2, .int (nI k)), (0, .ref g0), (1, .int x)]) hx hb dX1_init_136 hl (k := 0) rfl (by decide) (by decide) rfl (fun ls hl => ?_)
            refine lv_goto (tgt := 117) hx hb dX1_init_139 (by decide) ?_
            refine lv_iload_n hx hb dX1_init_117 rfl (lv_at hl 0 rfl) ?_
            refine lv_bipush (v := (nI 9)) hx hb dX1_init_118 (by decide) ?_
            refine lv_icmp_ge (tgt := 142) hx hb dX1_init_120 (by decide) (fun c12 => ?_) (fun c12 => ?_)
            · skip
              have c12 := c12
              exact absurd c12 (by decide)
            · skip
              have c12 := c12
              refine lv_aload_n hx hb dX1_init_123 rfl (lv_at hl 2 rfl) ?_
              refine va_get (D := (dC, dI)) (ci := 1) (v := .ref b1) (C := RX1) (T := TX1) (N := 14) hx hb hts (by decide +kernel) hown hK hP 0 rfl rfl 2 (by decide) (hts (.fieldLink RX1 7 "MotionDeskModel" "poses" "[I") (by decide +kernel)) (fun _ h9 => h9) rfl dX1_init_124 ?_
              refine lv_bipush (v := (nI 9)) hx hb dX1_init_127 (by decide) ?_
              refine lv_iload_n hx hb dX1_init_129 rfl (lv_at hl 1 rfl) ?_
              refine lv_imul hx hb dX1_init_130 ?_
              refine tp_i (y := nI (k * 9)) (by rw [pk_mul, Nat.mul_comm]) ?_
              refine lv_iload_n hx hb dX1_init_131 rfl (lv_at hl 0 rfl) ?_
              refine lv_iadd hx hb dX1_init_132 ?_
              refine tp_i (y := nI ((k * 3 + 2) * 3 + 1)) (by rw [nI_add, show k * 9 + 7 = (k * 3 + 2) * 3 + 1 by omega]) ?_
              refine lv_ldc (v := 65536) hx hb hown (hts (.constant RX1 41 65536) (by decide +kernel)) dX1_init_133 ?_
              refine va_iast hx hb hK hP hD hS 1 0 rfl rfl (vp_in_nI (by omega) (by omega)) dX1_init_135 (fun H locs hP hD hS => ?_)
              rw [nI_clamp (show (k * 3 + 2) * 3 + 1 < 2 ^ 31 by omega)] at hP hD
              replace hP : va_P (dC, dI) vwCl [(g0, .inr (1, [.int (nI 0), .int (nI N), .ref b1, .int (nI 0), .int (nI 0), .ref b8, .ref b9, .int (nI 0), .ref b2, .ref b3, .ref b4, .ref b5, .ref b6, .ref b7])), (b1, .inl (cA, 432, .inl (upd (upd (ini k) ((k * 3 + 2) * 3 + 0) 65536) ((k * 3 + 2) * 3 + 1) 65536))), (b8, .inl (cA, 32, .inl (fun _ => 0))), (b9, .inl (cA, 96, .inl (fun _ => 0))), (b2, .inl (cA, 32, .inl (fun _ => 0))), (b3, .inl (cA, 32, .inl (fun _ => 0))), (b4, .inl (cA, 32, .inl (fun _ => 0))), (b5, .inl (cA, 32, .inl (fun _ => 0))), (b6, .inl (cA, 1024, .inl (fun _ => 0))), (b7, .inl (cA, 3072, .inl (fun _ => 0)))] H := hP
              replace hD : va_D A [(g0, .inr (1, [.int (nI 0), .int (nI N), .ref b1, .int (nI 0), .int (nI 0), .ref b8, .ref b9, .int (nI 0), .ref b2, .ref b3, .ref b4, .ref b5, .ref b6, .ref b7])), (b1, .inl (cA, 432, .inl (upd (upd (ini k) ((k * 3 + 2) * 3 + 0) 65536) ((k * 3 + 2) * 3 + 1) 65536))), (b8, .inl (cA, 32, .inl (fun _ => 0))), (b9, .inl (cA, 96, .inl (fun _ => 0))), (b2, .inl (cA, 32, .inl (fun _ => 0))), (b3, .inl (cA, 32, .inl (fun _ => 0))), (b4, .inl (cA, 32, .inl (fun _ => 0))), (b5, .inl (cA, 32, .inl (fun _ => 0))), (b6, .inl (cA, 1024, .inl (fun _ => 0))), (b7, .inl (cA, 3072, .inl (fun _ => 0)))] := hD
              refine lv_iinc (v := nI 8) (lv' := [(3, .int (nI 8)), (2, .int (nI k)), (0, .ref g0), (1, .int x)]) hx hb dX1_init_136 hl (k := 0) rfl (by decide) (by decide) rfl (fun ls hl => ?_)
              refine lv_goto (tgt := 117) hx hb dX1_init_139 (by decide) ?_
              refine lv_iload_n hx hb dX1_init_117 rfl (lv_at hl 0 rfl) ?_
              refine lv_bipush (v := (nI 9)) hx hb dX1_init_118 (by decide) ?_
              refine lv_icmp_ge (tgt := 142) hx hb dX1_init_120 (by decide) (fun c13 => ?_) (fun c13 => ?_)
              · skip
                have c13 := c13
                exact absurd c13 (by decide)
              · skip
                have c13 := c13
                refine lv_aload_n hx hb dX1_init_123 rfl (lv_at hl 2 rfl) ?_
                refine va_get (D := (dC, dI)) (ci := 1) (v := .ref b1) (C := RX1) (T := TX1) (N := 14) hx hb hts (by decide +kernel) hown hK hP 0 rfl rfl 2 (by decide) (hts (.fieldLink RX1 7 "MotionDeskModel" "poses" "[I") (by decide +kernel)) (fun _ h9 => h9) rfl dX1_init_124 ?_
                refine lv_bipush (v := (nI 9)) hx hb dX1_init_127 (by decide) ?_
                refine lv_iload_n hx hb dX1_init_129 rfl (lv_at hl 1 rfl) ?_
                refine lv_imul hx hb dX1_init_130 ?_
                refine tp_i (y := nI (k * 9)) (by rw [pk_mul, Nat.mul_comm]) ?_
                refine lv_iload_n hx hb dX1_init_131 rfl (lv_at hl 0 rfl) ?_
                refine lv_iadd hx hb dX1_init_132 ?_
                refine tp_i (y := nI ((k * 3 + 2) * 3 + 2)) (by rw [nI_add, show k * 9 + 8 = (k * 3 + 2) * 3 + 2 by omega]) ?_
                refine lv_ldc (v := 65536) hx hb hown (hts (.constant RX1 41 65536) (by decide +kernel)) dX1_init_133 ?_
                refine va_iast hx hb hK hP hD hS 1 0 rfl rfl (vp_in_nI (by omega) (by omega)) dX1_init_135 (fun H locs hP hD hS => ?_)
                rw [nI_clamp (show (k * 3 + 2) * 3 + 2 < 2 ^ 31 by omega)] at hP hD
                replace hP : va_P (dC, dI) vwCl [(g0, .inr (1, [.int (nI 0), .int (nI N), .ref b1, .int (nI 0), .int (nI 0), .ref b8, .ref b9, .int (nI 0), .ref b2, .ref b3, .ref b4, .ref b5, .ref b6, .ref b7])), (b1, .inl (cA, 432, .inl (upd (upd (upd (ini k) ((k * 3 + 2) * 3 + 0) 65536) ((k * 3 + 2) * 3 + 1) 65536) ((k * 3 + 2) * 3 + 2) 65536))), (b8, .inl (cA, 32, .inl (fun _ => 0))), (b9, .inl (cA, 96, .inl (fun _ => 0))), (b2, .inl (cA, 32, .inl (fun _ => 0))), (b3, .inl (cA, 32, .inl (fun _ => 0))), (b4, .inl (cA, 32, .inl (fun _ => 0))), (b5, .inl (cA, 32, .inl (fun _ => 0))), (b6, .inl (cA, 1024, .inl (fun _ => 0))), (b7, .inl (cA, 3072, .inl (fun _ => 0)))] H := hP
                replace hD : va_D A [(g0, .inr (1, [.int (nI 0), .int (nI N), .ref b1, .int (nI 0), .int (nI 0), .ref b8, .ref b9, .int (nI 0), .ref b2, .ref b3, .ref b4, .ref b5, .ref b6, .ref b7])), (b1, .inl (cA, 432, .inl (upd (upd (upd (ini k) ((k * 3 + 2) * 3 + 0) 65536) ((k * 3 + 2) * 3 + 1) 65536) ((k * 3 + 2) * 3 + 2) 65536))), (b8, .inl (cA, 32, .inl (fun _ => 0))), (b9, .inl (cA, 96, .inl (fun _ => 0))), (b2, .inl (cA, 32, .inl (fun _ => 0))), (b3, .inl (cA, 32, .inl (fun _ => 0))), (b4, .inl (cA, 32, .inl (fun _ => 0))), (b5, .inl (cA, 32, .inl (fun _ => 0))), (b6, .inl (cA, 1024, .inl (fun _ => 0))), (b7, .inl (cA, 3072, .inl (fun _ => 0)))] := hD
                refine lv_iinc (v := nI 9) (lv' := [(3, .int (nI 9)), (2, .int (nI k)), (0, .ref g0), (1, .int x)]) hx hb dX1_init_136 hl (k := 0) rfl (by decide) (by decide) rfl (fun ls hl => ?_)
                refine lv_goto (tgt := 117) hx hb dX1_init_139 (by decide) ?_
                refine lv_iload_n hx hb dX1_init_117 rfl (lv_at hl 0 rfl) ?_
                refine lv_bipush (v := (nI 9)) hx hb dX1_init_118 (by decide) ?_
                refine lv_icmp_ge (tgt := 142) hx hb dX1_init_120 (by decide) (fun c14 => ?_) (fun c14 => ?_)
                · skip
                  have c14 := c14
                  refine lv_iinc (v := nI (k + 1)) (lv' := [(2, .int (nI (k + 1))), (3, .int (nI 9)), (0, .ref g0), (1, .int x)]) hx hb dX1_init_142 hl (k := 1) rfl (nI_1 k) (by decide) rfl (fun ls hl => ?_)
                  refine lv_goto (tgt := 106) hx hb dX1_init_145 (by decide) ?_
                  rw [ini_upd k] at hP hD
                  exact ih (ls := ls) (k := k + 1) (H := H) (locs := locs) hS (by omega) (lv_sub hl [0, 2, 3] rfl) hP hD
                · skip
                  have c14 := c14
                  exact absurd c14 (by decide)
  · skip
    have c1 := znle c1
    refine lv_iconst (v := (nI 1)) hx hb dX1_init_85 (by decide) ?_
    refine lv_goto (tgt := 101) hx hb dX1_init_86 (by decide) ?_
    have hz : N = cl48 x := eN.symm
    unfold cl48 at hz
    refine tp_i (y := nI N) (by rw [if_pos (by omega)] at hz; rw [hz]) ?_
    clear hz
    refine va_putF (D := (dC, dI)) (ci := 1) (v := .int (nI N)) (ty := .int) (C := RX1) (T := TX1) (N := 14) hx hb hts (by decide +kernel) tyX1 tyX1_ok nmX1 hown hK hP hD hS 0 rfl rfl 1 (by decide) (hts (.fieldLink RX1 37 "MotionDeskModel" "nodes" "I") (by decide +kernel)) (fun _ h9 => h9) rfl hin rfl (by decide +kernel) rfl rfl (Nat.le_of_ble_eq_true rfl) dX1_init_101 (fun H locs hP hD hS => ?_)
    replace hP : va_P (dC, dI) vwCl [(g0, .inr (1, [.int (nI 0), .int (nI N), .ref b1, .int (nI 0), .int (nI 0), .ref b8, .ref b9, .int (nI 0), .ref b2, .ref b3, .ref b4, .ref b5, .ref b6, .ref b7])), (b1, .inl (cA, 432, .inl (ini 0))), (b8, .inl (cA, 32, .inl (fun _ => 0))), (b9, .inl (cA, 96, .inl (fun _ => 0))), (b2, .inl (cA, 32, .inl (fun _ => 0))), (b3, .inl (cA, 32, .inl (fun _ => 0))), (b4, .inl (cA, 32, .inl (fun _ => 0))), (b5, .inl (cA, 32, .inl (fun _ => 0))), (b6, .inl (cA, 1024, .inl (fun _ => 0))), (b7, .inl (cA, 3072, .inl (fun _ => 0)))] H := hP
    replace hD : va_D A [(g0, .inr (1, [.int (nI 0), .int (nI N), .ref b1, .int (nI 0), .int (nI 0), .ref b8, .ref b9, .int (nI 0), .ref b2, .ref b3, .ref b4, .ref b5, .ref b6, .ref b7])), (b1, .inl (cA, 432, .inl (ini 0))), (b8, .inl (cA, 32, .inl (fun _ => 0))), (b9, .inl (cA, 96, .inl (fun _ => 0))), (b2, .inl (cA, 32, .inl (fun _ => 0))), (b3, .inl (cA, 32, .inl (fun _ => 0))), (b4, .inl (cA, 32, .inl (fun _ => 0))), (b5, .inl (cA, 32, .inl (fun _ => 0))), (b6, .inl (cA, 1024, .inl (fun _ => 0))), (b7, .inl (cA, 3072, .inl (fun _ => 0)))] := hD
    refine lv_iconst (v := (nI 0)) hx hb dX1_init_104 (by decide) ?_
    refine lv_istore_n (lv' := [(2, .int (nI 0)), (0, .ref g0), (1, .int x)]) hx hb dX1_init_105 rfl hl (by decide) rfl (fun ls hl => ?_)
    obtain ⟨n, k, hn, hP9, hD9, hl9⟩ : ∃ (n k : Nat), k + n = N ∧ va_P (dC, dI) vwCl [(g0, .inr (1, [.int (nI 0), .int (nI N), .ref b1, .int (nI 0), .int (nI 0), .ref b8, .ref b9, .int (nI 0), .ref b2, .ref b3, .ref b4, .ref b5, .ref b6, .ref b7])), (b1, .inl (cA, 432, .inl (ini k))), (b8, .inl (cA, 32, .inl (fun _ => 0))), (b9, .inl (cA, 96, .inl (fun _ => 0))), (b2, .inl (cA, 32, .inl (fun _ => 0))), (b3, .inl (cA, 32, .inl (fun _ => 0))), (b4, .inl (cA, 32, .inl (fun _ => 0))), (b5, .inl (cA, 32, .inl (fun _ => 0))), (b6, .inl (cA, 1024, .inl (fun _ => 0))), (b7, .inl (cA, 3072, .inl (fun _ => 0)))] H ∧ va_D A [(g0, .inr (1, [.int (nI 0), .int (nI N), .ref b1, .int (nI 0), .int (nI 0), .ref b8, .ref b9, .int (nI 0), .ref b2, .ref b3, .ref b4, .ref b5, .ref b6, .ref b7])), (b1, .inl (cA, 432, .inl (ini k))), (b8, .inl (cA, 32, .inl (fun _ => 0))), (b9, .inl (cA, 96, .inl (fun _ => 0))), (b2, .inl (cA, 32, .inl (fun _ => 0))), (b3, .inl (cA, 32, .inl (fun _ => 0))), (b4, .inl (cA, 32, .inl (fun _ => 0))), (b5, .inl (cA, 32, .inl (fun _ => 0))), (b6, .inl (cA, 1024, .inl (fun _ => 0))), (b7, .inl (cA, 3072, .inl (fun _ => 0)))] ∧ lv_has ls 4 [(2, .int (nI k)), (0, .ref g0), (1, .int x)] := ⟨N, 0, by omega, hP, hD, hl⟩
    clear hl hP hD; have hl := hl9; have hP := hP9; have hD := hD9; clear hl9 hP9 hD9
    induction n generalizing k ls H locs with
    | zero =>
      have t2 : (nI k).toInt = k := nI_toInt (by omega)
      refine lv_iload_n hx hb dX1_init_106 rfl (lv_at hl 0 rfl) ?_
      refine lv_aload_n hx hb dX1_init_107 rfl (lv_at hl 1 rfl) ?_
      refine va_get (D := (dC, dI)) (ci := 1) (v := .int (nI N)) (C := RX1) (T := TX1) (N := 14) hx hb hts (by decide +kernel) hown hK hP 0 rfl rfl 1 (by decide) (hts (.fieldLink RX1 37 "MotionDeskModel" "nodes" "I") (by decide +kernel)) (fun _ h9 => h9) rfl dX1_init_108 ?_
      refine lv_icmp_ge (tgt := 148) hx hb dX1_init_111 (by decide) (fun c15 => ?_) (fun c15 => ?_)
      · skip
        have c15 := zle c15
        refine W.widen (k := 9) (n := 4784) (by omega) (by omega) ?_
        obtain rfl : k = N := by omega
        have hP9 := hP.sub (ws' := (wM cA g0 b1 b2 b3 b4 b5 b6 b7 b8 b9 k 0 0 (nI 0) (ini k) (fun _ => 0) (fun _ => 0) (fun _ => 0) (fun _ => 0) (fun _ => 0) (fun _ => 0) (fun _ => 0) (fun _ => 0))) [0, 1, 4, 5, 6, 7, 8, 9, 2, 3] rfl
        have hD9 := hD.sub (ws' := (wM cA g0 b1 b2 b3 b4 b5 b6 b7 b8 b9 k 0 0 (nI 0) (ini k) (fun _ => 0) (fun _ => 0) (fun _ => 0) (fun _ => 0) (fun _ => 0) (fun _ => 0) (fun _ => 0) (fun _ => 0))) [0, 1, 4, 5, 6, 7, 8, 9, 2, 3] (by decide) rfl
        exact W.vret hx hb hr (fun t9 ht9 hW9 => ⟨⟨(), rfl, trivial, b1, b2, b3, b4, b5, b6, b7, b8, b9, by rw [ht9]; exact hP9, va_K.moved hW9.alike hK, hD9⟩, hS.F ht9⟩) hS.2.2 dX1_init_148
      · skip
        have c15 := znle c15
        exfalso; omega
    | succ n ih =>
      have t2 : (nI k).toInt = k := nI_toInt (by omega)
      refine lv_iload_n hx hb dX1_init_106 rfl (lv_at hl 0 rfl) ?_
      refine lv_aload_n hx hb dX1_init_107 rfl (lv_at hl 1 rfl) ?_
      refine va_get (D := (dC, dI)) (ci := 1) (v := .int (nI N)) (C := RX1) (T := TX1) (N := 14) hx hb hts (by decide +kernel) hown hK hP 0 rfl rfl 1 (by decide) (hts (.fieldLink RX1 37 "MotionDeskModel" "nodes" "I") (by decide +kernel)) (fun _ h9 => h9) rfl dX1_init_108 ?_
      refine lv_icmp_ge (tgt := 148) hx hb dX1_init_111 (by decide) (fun c16 => ?_) (fun c16 => ?_)
      · skip
        have c16 := zle c16
        exfalso; omega
      · skip
        have c16 := znle c16
        refine lv_bipush (v := (nI 6)) hx hb dX1_init_114 (by decide) ?_
        refine lv_istore_n (lv' := [(3, .int (nI 6)), (2, .int (nI k)), (0, .ref g0), (1, .int x)]) hx hb dX1_init_116 rfl hl (by decide) rfl (fun ls hl => ?_)
        refine lv_iload_n hx hb dX1_init_117 rfl (lv_at hl 0 rfl) ?_
        refine lv_bipush (v := (nI 9)) hx hb dX1_init_118 (by decide) ?_
        refine lv_icmp_ge (tgt := 142) hx hb dX1_init_120 (by decide) (fun c17 => ?_) (fun c17 => ?_)
        · skip
          have c17 := c17
          exact absurd c17 (by decide)
        · skip
          have c17 := c17
          refine lv_aload_n hx hb dX1_init_123 rfl (lv_at hl 2 rfl) ?_
          refine va_get (D := (dC, dI)) (ci := 1) (v := .ref b1) (C := RX1) (T := TX1) (N := 14) hx hb hts (by decide +kernel) hown hK hP 0 rfl rfl 2 (by decide) (hts (.fieldLink RX1 7 "MotionDeskModel" "poses" "[I") (by decide +kernel)) (fun _ h9 => h9) rfl dX1_init_124 ?_
          refine lv_bipush (v := (nI 9)) hx hb dX1_init_127 (by decide) ?_
          refine lv_iload_n hx hb dX1_init_129 rfl (lv_at hl 1 rfl) ?_
          refine lv_imul hx hb dX1_init_130 ?_
          refine tp_i (y := nI (k * 9)) (by rw [pk_mul, Nat.mul_comm]) ?_
          refine lv_iload_n hx hb dX1_init_131 rfl (lv_at hl 0 rfl) ?_
          refine lv_iadd hx hb dX1_init_132 ?_
          refine tp_i (y := nI ((k * 3 + 2) * 3 + 0)) (by rw [nI_add, show k * 9 + 6 = (k * 3 + 2) * 3 + 0 by omega]) ?_
          refine lv_ldc (v := 65536) hx hb hown (hts (.constant RX1 41 65536) (by decide +kernel)) dX1_init_133 ?_
          refine va_iast hx hb hK hP hD hS 1 0 rfl rfl (vp_in_nI (by omega) (by omega)) dX1_init_135 (fun H locs hP hD hS => ?_)
          rw [nI_clamp (show (k * 3 + 2) * 3 + 0 < 2 ^ 31 by omega)] at hP hD
          replace hP : va_P (dC, dI) vwCl [(g0, .inr (1, [.int (nI 0), .int (nI N), .ref b1, .int (nI 0), .int (nI 0), .ref b8, .ref b9, .int (nI 0), .ref b2, .ref b3, .ref b4, .ref b5, .ref b6, .ref b7])), (b1, .inl (cA, 432, .inl (upd (ini k) ((k * 3 + 2) * 3 + 0) 65536))), (b8, .inl (cA, 32, .inl (fun _ => 0))), (b9, .inl (cA, 96, .inl (fun _ => 0))), (b2, .inl (cA, 32, .inl (fun _ => 0))), (b3, .inl (cA, 32, .inl (fun _ => 0))), (b4, .inl (cA, 32, .inl (fun _ => 0))), (b5, .inl (cA, 32, .inl (fun _ => 0))), (b6, .inl (cA, 1024, .inl (fun _ => 0))), (b7, .inl (cA, 3072, .inl (fun _ => 0)))] H := hP
          replace hD : va_D A [(g0, .inr (1, [.int (nI 0), .int (nI N), .ref b1, .int (nI 0), .int (nI 0), .ref b8, .ref b9, .int (nI 0), .ref b2, .ref b3, .ref b4, .ref b5, .ref b6, .ref b7])), (b1, .inl (cA, 432, .inl (upd (ini k) ((k * 3 + 2) * 3 + 0) 65536))), (b8, .inl (cA, 32, .inl (fun _ => 0))), (b9, .inl (cA, 96, .inl (fun _ => 0))), (b2, .inl (cA, 32, .inl (fun _ => 0))), (b3, .inl (cA, 32, .inl (fun _ => 0))), (b4, .inl (cA, 32, .inl (fun _ => 0))), (b5, .inl (cA, 32, .inl (fun _ => 0))), (b6, .inl (cA, 1024, .inl (fun _ => 0))), (b7, .inl (cA, 3072, .inl (fun _ => 0)))] := hD
          refine lv_iinc (v := nI 7) (lv' := [(3, .int (nI 7)), (2, .int (nI k)), (0, .ref g0), (1, .int x)]) hx hb dX1_init_136 hl (k := 0) rfl (by decide) (by decide) rfl (fun ls hl => ?_)
          refine lv_goto (tgt := 117) hx hb dX1_init_139 (by decide) ?_
          refine lv_iload_n hx hb dX1_init_117 rfl (lv_at hl 0 rfl) ?_
          refine lv_bipush (v := (nI 9)) hx hb dX1_init_118 (by decide) ?_
          refine lv_icmp_ge (tgt := 142) hx hb dX1_init_120 (by decide) (fun c18 => ?_) (fun c18 => ?_)
          · skip
            have c18 := c18
            exact absurd c18 (by decide)
          · skip
            have c18 := c18
            refine lv_aload_n hx hb dX1_init_123 rfl (lv_at hl 2 rfl) ?_
            refine va_get (D := (dC, dI)) (ci := 1) (v := .ref b1) (C := RX1) (T := TX1) (N := 14) hx hb hts (by decide +kernel) hown hK hP 0 rfl rfl 2 (by decide) (hts (.fieldLink RX1 7 "MotionDeskModel" "poses" "[I") (by decide +kernel)) (fun _ h9 => h9) rfl dX1_init_124 ?_
            refine lv_bipush (v := (nI 9)) hx hb dX1_init_127 (by decide) ?_
            refine lv_iload_n hx hb dX1_init_129 rfl (lv_at hl 1 rfl) ?_
            refine lv_imul hx hb dX1_init_130 ?_
            refine tp_i (y := nI (k * 9)) (by rw [pk_mul, Nat.mul_comm]) ?_
            refine lv_iload_n hx hb dX1_init_131 rfl (lv_at hl 0 rfl) ?_
            refine lv_iadd hx hb dX1_init_132 ?_
            refine tp_i (y := nI ((k * 3 + 2) * 3 + 1)) (by rw [nI_add, show k * 9 + 7 = (k * 3 + 2) * 3 + 1 by omega]) ?_
            refine lv_ldc (v := 65536) hx hb hown (hts (.constant RX1 41 65536) (by decide +kernel)) dX1_init_133 ?_
            refine va_iast hx hb hK hP hD hS 1 0 rfl rfl (vp_in_nI (by omega) (by omega)) dX1_init_135 (fun H locs hP hD hS => ?_)
            rw [nI_clamp (show (k * 3 + 2) * 3 + 1 < 2 ^ 31 by omega)] at hP hD
            replace hP : va_P (dC, dI) vwCl [(g0, .inr (1, [.int (nI 0), .int (nI N), .ref b1, .int (nI 0), .int (nI 0), .ref b8, .ref b9, .int (nI 0), .ref b2, .ref b3, .ref b4, .ref b5, .ref b6, .ref b7])), (b1, .inl (cA, 432, .inl (upd (upd (ini k) ((k * 3 + 2) * 3 + 0) 65536) ((k * 3 + 2) * 3 + 1) 65536))), (b8, .inl (cA, 32, .inl (fun _ => 0))), (b9, .inl (cA, 96, .inl (fun _ => 0))), (b2, .inl (cA, 32, .inl (fun _ => 0))), (b3, .inl (cA, 32, .inl (fun _ => 0))), (b4, .inl (cA, 32, .inl (fun _ => 0))), (b5, .inl (cA, 32, .inl (fun _ => 0))), (b6, .inl (cA, 1024, .inl (fun _ => 0))), (b7, .inl (cA, 3072, .inl (fun _ => 0)))] H := hP
            replace hD : va_D A [(g0, .inr (1, [.int (nI 0), .int (nI N), .ref b1, .int (nI 0), .int (nI 0), .ref b8, .ref b9, .int (nI 0), .ref b2, .ref b3, .ref b4, .ref b5, .ref b6, .ref b7])), (b1, .inl (cA, 432, .inl (upd (upd (ini k) ((k * 3 + 2) * 3 + 0) 65536) ((k * 3 + 2) * 3 + 1) 65536))), (b8, .inl (cA, 32, .inl (fun _ => 0))), (b9, .inl (cA, 96, .inl (fun _ => 0))), (b2, .inl (cA, 32, .inl (fun _ => 0))), (b3, .inl (cA, 32, .inl (fun _ => 0))), (b4, .inl (cA, 32, .inl (fun _ => 0))), (b5, .inl (cA, 32, .inl (fun _ => 0))), (b6, .inl (cA, 1024, .inl (fun _ => 0))), (b7, .inl (cA, 3072, .inl (fun _ => 0)))] := hD
            refine lv_iinc (v := nI 8) (lv' := [(3, .int (nI 8)), (2, .int (nI k)), (0, .ref g0), (1, .int x)]) hx hb dX1_init_136 hl (k := 0) rfl (by decide) (by decide) rfl (fun ls hl => ?_)
            refine lv_goto (tgt := 117) hx hb dX1_init_139 (by decide) ?_
            refine lv_iload_n hx hb dX1_init_117 rfl (lv_at hl 0 rfl) ?_
            refine lv_bipush (v := (nI 9)) hx hb dX1_init_118 (by decide) ?_
            refine lv_icmp_ge (tgt := 142) hx hb dX1_init_120 (by decide) (fun c19 => ?_) (fun c19 => ?_)
            · skip
              have c19 := c19
              exact absurd c19 (by decide)
            · skip
              have c19 := c19
              refine lv_aload_n hx hb dX1_init_123 rfl (lv_at hl 2 rfl) ?_
              refine va_get (D := (dC, dI)) (ci := 1) (v := .ref b1) (C := RX1) (T := TX1) (N := 14) hx hb hts (by decide +kernel) hown hK hP 0 rfl rfl 2 (by decide) (hts (.fieldLink RX1 7 "MotionDeskModel" "poses" "[I") (by decide +kernel)) (fun _ h9 => h9) rfl dX1_init_124 ?_
              refine lv_bipush (v := (nI 9)) hx hb dX1_init_127 (by decide) ?_
              refine lv_iload_n hx hb dX1_init_129 rfl (lv_at hl 1 rfl) ?_
              refine lv_imul hx hb dX1_init_130 ?_
              refine tp_i (y := nI (k * 9)) (by rw [pk_mul, Nat.mul_comm]) ?_
              refine lv_iload_n hx hb dX1_init_131 rfl (lv_at hl 0 rfl) ?_
              refine lv_iadd hx hb dX1_init_132 ?_
              refine tp_i (y := nI ((k * 3 + 2) * 3 + 2)) (by rw [nI_add, show k * 9 + 8 = (k * 3 + 2) * 3 + 2 by omega]) ?_
              refine lv_ldc (v := 65536) hx hb hown (hts (.constant RX1 41 65536) (by decide +kernel)) dX1_init_133 ?_
              refine va_iast hx hb hK hP hD hS 1 0 rfl rfl (vp_in_nI (by omega) (by omega)) dX1_init_135 (fun H locs hP hD hS => ?_)
              rw [nI_clamp (show (k * 3 + 2) * 3 + 2 < 2 ^ 31 by omega)] at hP hD
              replace hP : va_P (dC, dI) vwCl [(g0, .inr (1, [.int (nI 0), .int (nI N), .ref b1, .int (nI 0), .int (nI 0), .ref b8, .ref b9, .int (nI 0), .ref b2, .ref b3, .ref b4, .ref b5, .ref b6, .ref b7])), (b1, .inl (cA, 432, .inl (upd (upd (upd (ini k) ((k * 3 + 2) * 3 + 0) 65536) ((k * 3 + 2) * 3 + 1) 65536) ((k * 3 + 2) * 3 + 2) 65536))), (b8, .inl (cA, 32, .inl (fun _ => 0))), (b9, .inl (cA, 96, .inl (fun _ => 0))), (b2, .inl (cA, 32, .inl (fun _ => 0))), (b3, .inl (cA, 32, .inl (fun _ => 0))), (b4, .inl (cA, 32, .inl (fun _ => 0))), (b5, .inl (cA, 32, .inl (fun _ => 0))), (b6, .inl (cA, 1024, .inl (fun _ => 0))), (b7, .inl (cA, 3072, .inl (fun _ => 0)))] H := hP
              replace hD : va_D A [(g0, .inr (1, [.int (nI 0), .int (nI N), .ref b1, .int (nI 0), .int (nI 0), .ref b8, .ref b9, .int (nI 0), .ref b2, .ref b3, .ref b4, .ref b5, .ref b6, .ref b7])), (b1, .inl (cA, 432, .inl (upd (upd (upd (ini k) ((k * 3 + 2) * 3 + 0) 65536) ((k * 3 + 2) * 3 + 1) 65536) ((k * 3 + 2) * 3 + 2) 65536))), (b8, .inl (cA, 32, .inl (fun _ => 0))), (b9, .inl (cA, 96, .inl (fun _ => 0))), (b2, .inl (cA, 32, .inl (fun _ => 0))), (b3, .inl (cA, 32, .inl (fun _ => 0))), (b4, .inl (cA, 32, .inl (fun _ => 0))), (b5, .inl (cA, 32, .inl (fun _ => 0))), (b6, .inl (cA, 1024, .inl (fun _ => 0))), (b7, .inl (cA, 3072, .inl (fun _ => 0)))] := hD
              refine lv_iinc (v := nI 9) (lv' := [(3, .int (nI 9)), (2, .int (nI k)), (0, .ref g0), (1, .int x)]) hx hb dX1_init_136 hl (k := 0) rfl (by decide) (by decide) rfl (fun ls hl => ?_)
              refine lv_goto (tgt := 117) hx hb dX1_init_139 (by decide) ?_
              refine lv_iload_n hx hb dX1_init_117 rfl (lv_at hl 0 rfl) ?_
              refine lv_bipush (v := (nI 9)) hx hb dX1_init_118 (by decide) ?_
              refine lv_icmp_ge (tgt := 142) hx hb dX1_init_120 (by decide) (fun c20 => ?_) (fun c20 => ?_)
              · skip
                have c20 := c20
                refine lv_iinc (v := nI (k + 1)) (lv' := [(2, .int (nI (k + 1))), (3, .int (nI 9)), (0, .ref g0), (1, .int x)]) hx hb dX1_init_142 hl (k := 1) rfl (nI_1 k) (by decide) rfl (fun ls hl => ?_)
                refine lv_goto (tgt := 106) hx hb dX1_init_145 (by decide) ?_
                rw [ini_upd k] at hP hD
                exact ih (ls := ls) (k := k + 1) (H := H) (locs := locs) hS (by omega) (lv_sub hl [0, 2, 3] rfl) hP hD
              · skip
                have c20 := c20
                exact absurd c20 (by decide)
end
section
/-- a place where several ways meet -/
theorem w_cut {p : Program} {l : Launch} {e : Env} {R : Room} {s : State} {m : MethodId} {args : Array Value} {below : List Frame} {meth : Method} {c : Code} {H : Heap} {locs : List Loc} {cells slots : Nat} {Q : State → Prop} {g : JFrame} {α : Type} (I : α → Heap → List Loc → Array Slot → Prop) (F : α → Array Slot → JFrame)
    (tail : ∀ (a : α) (H : Heap) (locs : List Loc) (ls : Array Slot), I a H locs ls → W p l e R s m args below meth c H locs cells slots Q (F a ls))
    (k : (∀ (a : α) (H : Heap) (locs : List Loc) (ls : Array Slot), I a H locs ls → W p l e R s m args below meth c H locs cells slots Q (F a ls)) → W p l e R s m args below meth c H locs cells slots Q g) : W p l e R s m args below meth c H locs cells slots Q g := k tail
theorem cpy_0 (f g : Nat → Int32) (sp dp : Nat) : va_cpy f g sp dp 0 = g := by
  funext j
  unfold va_cpy
  rw [if_neg (by omega)]
theorem cpy_s (f g : Nat → Int32) (dp k : Nat) : upd (va_cpy f g 0 dp k) (dp + k) (f k) = va_cpy f g 0 dp (k + 1) := by
  funext j
  unfold upd va_cpy
  by_cases c : j = dp + k
  · rw [if_pos c, if_pos (by omega), show 0 + (j - dp) = k by omega]
  · rw [if_neg c]
    by_cases d : dp ≤ j ∧ j < dp + k
    · rw [if_pos d, if_pos (by omega)]
    · rw [if_neg d, if_neg (by omega)]
theorem q_all_iff (a : Int32) (xn : Nat → Int32) (K : Nat) : q_all a xn K ↔ ∀ j, j < K * 3 → q_in (xn j) (q_reach a) := by
  constructor
  · intro h j hj
    have h1 := h (j / 3) (by omega)
    unfold q_fits q_can at h1
    rcases (show j = j / 3 * 3 ∨ j = j / 3 * 3 + 1 ∨ j = j / 3 * 3 + 2 by omega) with q | q | q
    · rw [q]; exact h1.1
    · rw [q]; exact h1.2.1
    · rw [q]; exact h1.2.2
  · intro h k hk
    exact ⟨h _ (by omega), h _ (by omega), h _ (by omega)⟩
end
section
set_option maxHeartbeats 4000000 in
set_option maxRecDepth 100000 in
/-- track(node, what, how) -/
theorem cm_track (l : Launch) (dC : Nat → ClassId) (dI : Nat → Nat → Nat) (cA : ClassId) (g0 b1 b2 b3 b4 b5 b6 b7 b8 b9 N T X : Nat) (nw : Int32) (fv tn tw th tk kt kn xt xn : Nat → Int32) (sz : Nat) (x y z : Int32) (hN : N ≤ 48) (hT : T ≤ 32) (hX : X ≤ 32) : Met l yX1_track wsX1_track ({ frames := 1, cells := 0, slots := 0, locals := 22 }) (va_Pc [.ref g0, .int x, .int y, .int z] (eM sz dC dI cA g0 b1 b2 b3 b4 b5 b6 b7 b8 b9 N T X nw fv tn tw th tk kt kn xt xn)) (va_Qi (fun (r : Int32) (u : Nat × (Nat → Int32) × (Nat → Int32) × (Nat → Int32) × (Nat → Int32) × (Nat → Int32) × (Nat → Int32)) => ((X ≠ 0 ∧ T < 32 ∧ q_node N x ∧ q_what y ∧ q_how z ∧ q_all y xn X) → r = nI T ∧ u = (T + 1, upd tn T x, upd tw T y, upd th T z, upd tk T (nI X), va_cpy xt kt 0 (T * 32) X, va_cpy xn kn 0 (T * 32 * 3) (X * 3))) ∧ (¬ (X ≠ 0 ∧ T < 32 ∧ q_node N x ∧ q_what y ∧ q_how z ∧ q_all y xn X) → r = -1 ∧ u = (T, tn, tw, th, tk, kt, kn))) (fun u => bM (va_A (wM cA g0 b1 b2 b3 b4 b5 b6 b7 b8 b9 N T X nw fv tn tw th tk kt kn xt xn) sz) dC dI cA g0 b1 b2 b3 b4 b5 b6 b7 b8 b9 N u.1 0 nw fv u.2.1 u.2.2.1 u.2.2.2.1 u.2.2.2.2.1 u.2.2.2.2.2.1 u.2.2.2.2.2.2 xt xn) (va_A (wM cA g0 b1 b2 b3 b4 b5 b6 b7 b8 b9 N T X nw fv tn tw th tk kt kn xt xn) sz)) 0 0 (va_A (wM cA g0 b1 b2 b3 b4 b5 b6 b7 b8 b9 N T X nw fv tn tw th tk kt kn xt xn) sz) := by
  refine Met.ofW (cc := cX1_track) (maxL := 7) (ret := (some .int)) (by decide) rfl ?_
  intro p e s m args below meth c s₁ B hml hv
  obtain ⟨rfl, hsz, hP, hK, hD0⟩ := hv
  have hx := B.exec
  have hb := B.bytes
  have hr := B.returns
  have hts := atoms_spec (ws := wsX1_track) B.pre
  have hown : s.vm.findClass RX1 = some m.cls := findClass_of_methodNamed B.named
  have hlocks := B.notSynchronized
  subst hsz
  have hD := hD0.self (sz := s.heap.size)
  generalize hAe : va_A (wM cA g0 b1 b2 b3 b4 b5 b6 b7 b8 b9 N T X nw fv tn tw th tk kt kn xt xn) s.heap.size = A at hD ⊢
  have hA : ∀ q : Nat, s.heap.size ≤ q → A q := fun q h => by rw [← hAe]; exact Or.inr h
  have hS : va_S A s.heap s.heap [] := va_S.rf
  have hP : va_P (dC, dI) vwCl (wM cA g0 b1 b2 b3 b4 b5 b6 b7 b8 b9 N T X nw fv tn tw th tk kt kn xt xn) s.heap := hP
  have hl := lv_entry ([.ref g0, .int x, .int y, .int z]) (n := 7) (Nat.le_of_ble_eq_true rfl)
  rw [lg_entry_eq]
  generalize (lg_sl ([.ref g0, .int x, .int y, .int z]) ++ List.replicate (7 - (lg_sl ([.ref g0, .int x, .int y, .int z])).length) Slot.unset).toArray = ls at hl ⊢
  have hl : lv_has ls 7 [(0, .ref g0), (1, .int x), (2, .int y), (3, .int z)] := hl
  have t0 := z_0
  have t1 : (nI T).toInt = T := nI_toInt (by omega)
  have t2 : (nI 32).toInt = 32 := by decide
  have t3 : (nI X).toInt = X := nI_toInt (by omega)
  have t4 : (nI 2).toInt = 2 := by decide
  have t5 : (nI (X * 3)).toInt = (X * 3 : Nat) := nI_toInt (by omega)
  refine lv_aload_n hx hb dX1_track_0 rfl (lv_at hl 0 rfl) ?_
  refine lv_iconst (v := (nI 0)) hx hb dX1_track_1 (by decide) ?_
  refine va_put (D := (dC, dI)) (ci := 1) (v := .int (nI 0)) (ty := .int) (C := RX1) (T := TX1) (N := 14) hx hb hts (by decide +kernel) tyX1 tyX1_ok nmX1 hown hK hP hD hS 0 rfl rfl 0 (by decide) (hts (.fieldLink RX1 42 "MotionDeskModel" "thrown" "I") (by decide +kernel)) (fun _ h9 => h9) rfl (by decide +kernel) rfl rfl (Nat.le_of_ble_eq_true rfl) dX1_track_2 (fun H locs hP hD hS => ?_)
  replace hP : va_P (dC, dI) vwCl (wM cA g0 b1 b2 b3 b4 b5 b6 b7 b8 b9 N T X nw fv tn tw th tk kt kn xt xn) H := hP
  replace hD : va_D A (wM cA g0 b1 b2 b3 b4 b5 b6 b7 b8 b9 N T X nw fv tn tw th tk kt kn xt xn) := hD
  refine lv_aload_n hx hb dX1_track_5 rfl (lv_at hl 0 rfl) ?_
  refine va_get (D := (dC, dI)) (ci := 1) (v := .int (nI X)) (C := RX1) (T := TX1) (N := 14) hx hb hts (by decide +kernel) hown hK hP 0 rfl rfl 4 (by decide) (hts (.fieldLink RX1 48 "MotionDeskModel" "textKeys" "I") (by decide +kernel)) (fun _ h9 => h9) rfl dX1_track_6 ?_
  refine lv_istore (lv' := [(4, .int (nI X)), (0, .ref g0), (1, .int x), (2, .int y), (3, .int z)]) hx hb dX1_track_9 hl (by decide) rfl (fun ls hl => ?_)
  refine lv_aload_n hx hb dX1_track_11 rfl (lv_at hl 1 rfl) ?_
  refine lv_iconst (v := (nI 0)) hx hb dX1_track_12 (by decide) ?_
  refine va_put (D := (dC, dI)) (ci := 1) (v := .int (nI 0)) (ty := .int) (C := RX1) (T := TX1) (N := 14) hx hb hts (by decide +kernel) tyX1 tyX1_ok nmX1 hown hK hP hD hS 0 rfl rfl 4 (by decide) (hts (.fieldLink RX1 48 "MotionDeskModel" "textKeys" "I") (by decide +kernel)) (fun _ h9 => h9) rfl (by decide +kernel) rfl rfl (Nat.le_of_ble_eq_true rfl) dX1_track_13 (fun H locs hP hD hS => ?_)
  replace hP : va_P (dC, dI) vwCl (wM cA g0 b1 b2 b3 b4 b5 b6 b7 b8 b9 N T 0 nw fv tn tw th tk kt kn xt xn) H := hP
  replace hD : va_D A (wM cA g0 b1 b2 b3 b4 b5 b6 b7 b8 b9 N T 0 nw fv tn tw th tk kt kn xt xn) := hD
  refine w_cut (α := Int32) (fun b H locs ls => (b = 0 ↔ ¬ (0 < X ∧ (q_node N x ∧ q_what y) ∧ q_how z ∧ T < 32)) ∧ va_P (dC, dI) vwCl (wM cA g0 b1 b2 b3 b4 b5 b6 b7 b8 b9 N T 0 nw fv tn tw th tk kt kn xt xn) H ∧ va_D A (wM cA g0 b1 b2 b3 b4 b5 b6 b7 b8 b9 N T 0 nw fv tn tw th tk kt kn xt xn) ∧ va_S A s.heap H locs ∧ lv_has ls 7 [(4, .int (nI X)), (0, .ref g0), (1, .int x), (2, .int y), (3, .int z)]) (fun b ls => F0 m 53 ls [.int b]) ?_ (fun tail => ?_)
  · clear hP hD hS hl
    intro g H locs ls hI
    obtain ⟨hg, hP, hD, hS, hl⟩ := hI
    refine lv_istore (lv' := [(5, .int g), (4, .int (nI X)), (0, .ref g0), (1, .int x), (2, .int y), (3, .int z)]) hx hb dX1_track_53 hl (by decide) rfl (fun ls hl => ?_)
    refine lv_iconst (v := (nI 0)) hx hb dX1_track_55 (by decide) ?_
    refine lv_istore (lv' := [(6, .int (nI 0)), (5, .int g), (4, .int (nI X)), (0, .ref g0), (1, .int x), (2, .int y), (3, .int z)]) hx hb dX1_track_56 hl (by decide) rfl (fun ls hl => ?_)
    obtain ⟨n, k, g1, hn, hg2, hl9⟩ : ∃ (n k : Nat) (g1 : Int32), k + n = X * 3 ∧ (g1 = 0 ↔ ¬ ((0 < X ∧ (q_node N x ∧ q_what y) ∧ q_how z ∧ T < 32) ∧ ∀ j, j < k → q_in (xn j) (q_reach y))) ∧ lv_has ls 7 [(6, .int (nI k)), (5, .int g1), (4, .int (nI X)), (0, .ref g0), (1, .int x), (2, .int y), (3, .int z)] := ⟨X * 3, 0, g, by omega, by rw [hg]; exact ⟨fun h q => h q.1, fun h q => h ⟨q, lt_0⟩⟩, lv_sub hl [0, 1, 2, 3, 4, 5, 6] rfl⟩
    clear hl hg; have hl := hl9; clear hl9
    induction n generalizing k g1 ls with
    | zero =>
      have t6 : (nI k).toInt = k := nI_toInt (by omega)
      refine lv_iload hx hb dX1_track_58 (lv_at hl 0 rfl) ?_
      refine lv_iconst (v := (nI 3)) hx hb dX1_track_60 (by decide) ?_
      refine lv_iload hx hb dX1_track_61 (lv_at hl 2 rfl) ?_
      refine lv_imul hx hb dX1_track_63 ?_
      refine tp_i (y := nI (X * 3)) (by rw [pk_mul, Nat.mul_comm]) ?_
      refine lv_icmp_ge (tgt := 99) hx hb dX1_track_64 (by decide) (fun c1 => ?_) (fun c1 => ?_)
      · skip
        have c1 := zle c1
        refine lv_iload hx hb dX1_track_99 (lv_at hl 1 rfl) ?_
        refine lv_if_ne (tgt := 106) hx hb dX1_track_101 (by decide) (fun c2 => ?_) (fun c2 => ?_)
        · skip
          have c2 := btT hg2 c2
          have hok : (X ≠ 0 ∧ T < 32 ∧ q_node N x ∧ q_what y ∧ q_how z ∧ q_all y xn X) := ⟨by have := c2.1.1; omega, c2.1.2.2.2, c2.1.2.1.1, c2.1.2.1.2, c2.1.2.2.1, (q_all_iff y xn X).mpr (fun j hj => c2.2 j (by omega))⟩
          have hT2 : T < 32 := hok.2.1
          refine lv_aload_n hx hb dX1_track_106 rfl (lv_at hl 3 rfl) ?_
          refine va_get (D := (dC, dI)) (ci := 1) (v := .ref b2) (C := RX1) (T := TX1) (N := 14) hx hb hts (by decide +kernel) hown hK hP 0 rfl rfl 8 (by decide) (hts (.fieldLink RX1 19 "MotionDeskModel" "nodeOf" "[I") (by decide +kernel)) (fun _ h9 => h9) rfl dX1_track_107 ?_
          refine lv_aload_n hx hb dX1_track_110 rfl (lv_at hl 3 rfl) ?_
          refine va_get (D := (dC, dI)) (ci := 1) (v := .int (nI T)) (C := RX1) (T := TX1) (N := 14) hx hb hts (by decide +kernel) hown hK hP 0 rfl rfl 7 (by decide) (hts (.fieldLink RX1 58 "MotionDeskModel" "tracks" "I") (by decide +kernel)) (fun _ h9 => h9) rfl dX1_track_111 ?_
          refine lv_iload_n hx hb dX1_track_114 rfl (lv_at hl 4 rfl) ?_
          refine va_iast hx hb hK hP hD hS 2 0 rfl rfl (vp_in_nI (by omega) (by omega)) dX1_track_115 (fun H locs hP hD hS => ?_)
          rw [nI_clamp (show T < 2 ^ 31 by omega)] at hP hD
          replace hP : va_P (dC, dI) vwCl (wM cA g0 b1 b2 b3 b4 b5 b6 b7 b8 b9 N T 0 nw fv (upd tn T x) tw th tk kt kn xt xn) H := hP
          replace hD : va_D A (wM cA g0 b1 b2 b3 b4 b5 b6 b7 b8 b9 N T 0 nw fv (upd tn T x) tw th tk kt kn xt xn) := hD
          refine lv_aload_n hx hb dX1_track_116 rfl (lv_at hl 3 rfl) ?_
          refine va_get (D := (dC, dI)) (ci := 1) (v := .ref b3) (C := RX1) (T := TX1) (N := 14) hx hb hts (by decide +kernel) hown hK hP 0 rfl rfl 9 (by decide) (hts (.fieldLink RX1 22 "MotionDeskModel" "whatOf" "[I") (by decide +kernel)) (fun _ h9 => h9) rfl dX1_track_117 ?_
          refine lv_aload_n hx hb dX1_track_120 rfl (lv_at hl 3 rfl) ?_
          refine va_get (D := (dC, dI)) (ci := 1) (v := .int (nI T)) (C := RX1) (T := TX1) (N := 14) hx hb hts (by decide +kernel) hown hK hP 0 rfl rfl 7 (by decide) (hts (.fieldLink RX1 58 "MotionDeskModel" "tracks" "I") (by decide +kernel)) (fun _ h9 => h9) rfl dX1_track_121 ?_
          refine lv_iload_n hx hb dX1_track_124 rfl (lv_at hl 5 rfl) ?_
          refine va_iast hx hb hK hP hD hS 3 0 rfl rfl (vp_in_nI (by omega) (by omega)) dX1_track_125 (fun H locs hP hD hS => ?_)
          rw [nI_clamp (show T < 2 ^ 31 by omega)] at hP hD
          replace hP : va_P (dC, dI) vwCl (wM cA g0 b1 b2 b3 b4 b5 b6 b7 b8 b9 N T 0 nw fv (upd tn T x) (upd tw T y) th tk kt kn xt xn) H := hP
          replace hD : va_D A (wM cA g0 b1 b2 b3 b4 b5 b6 b7 b8 b9 N T 0 nw fv (upd tn T x) (upd tw T y) th tk kt kn xt xn) := hD
          refine lv_aload_n hx hb dX1_track_126 rfl (lv_at hl 3 rfl) ?_
          refine va_get (D := (dC, dI)) (ci := 1) (v := .ref b4) (C := RX1) (T := TX1) (N := 14) hx hb hts (by decide +kernel) hown hK hP 0 rfl rfl 10 (by decide) (hts (.fieldLink RX1 25 "MotionDeskModel" "howOf" "[I") (by decide +kernel)) (fun _ h9 => h9) rfl dX1_track_127 ?_
          refine lv_aload_n hx hb dX1_track_130 rfl (lv_at hl 3 rfl) ?_
          refine va_get (D := (dC, dI)) (ci := 1) (v := .int (nI T)) (C := RX1) (T := TX1) (N := 14) hx hb hts (by decide +kernel) hown hK hP 0 rfl rfl 7 (by decide) (hts (.fieldLink RX1 58 "MotionDeskModel" "tracks" "I") (by decide +kernel)) (fun _ h9 => h9) rfl dX1_track_131 ?_
          refine lv_iload_n hx hb dX1_track_134 rfl (lv_at hl 6 rfl) ?_
          refine va_iast hx hb hK hP hD hS 4 0 rfl rfl (vp_in_nI (by omega) (by omega)) dX1_track_135 (fun H locs hP hD hS => ?_)
          rw [nI_clamp (show T < 2 ^ 31 by omega)] at hP hD
          replace hP : va_P (dC, dI) vwCl (wM cA g0 b1 b2 b3 b4 b5 b6 b7 b8 b9 N T 0 nw fv (upd tn T x) (upd tw T y) (upd th T z) tk kt kn xt xn) H := hP
          replace hD : va_D A (wM cA g0 b1 b2 b3 b4 b5 b6 b7 b8 b9 N T 0 nw fv (upd tn T x) (upd tw T y) (upd th T z) tk kt kn xt xn) := hD
          refine lv_aload_n hx hb dX1_track_136 rfl (lv_at hl 3 rfl) ?_
          refine va_get (D := (dC, dI)) (ci := 1) (v := .ref b5) (C := RX1) (T := TX1) (N := 14) hx hb hts (by decide +kernel) hown hK hP 0 rfl rfl 11 (by decide) (hts (.fieldLink RX1 28 "MotionDeskModel" "keysOf" "[I") (by decide +kernel)) (fun _ h9 => h9) rfl dX1_track_137 ?_
          refine lv_aload_n hx hb dX1_track_140 rfl (lv_at hl 3 rfl) ?_
          refine va_get (D := (dC, dI)) (ci := 1) (v := .int (nI T)) (C := RX1) (T := TX1) (N := 14) hx hb hts (by decide +kernel) hown hK hP 0 rfl rfl 7 (by decide) (hts (.fieldLink RX1 58 "MotionDeskModel" "tracks" "I") (by decide +kernel)) (fun _ h9 => h9) rfl dX1_track_141 ?_
          refine lv_iload hx hb dX1_track_144 (lv_at hl 2 rfl) ?_
          refine va_iast hx hb hK hP hD hS 5 0 rfl rfl (vp_in_nI (by omega) (by omega)) dX1_track_146 (fun H locs hP hD hS => ?_)
          rw [nI_clamp (show T < 2 ^ 31 by omega)] at hP hD
          replace hP : va_P (dC, dI) vwCl (wM cA g0 b1 b2 b3 b4 b5 b6 b7 b8 b9 N T 0 nw fv (upd tn T x) (upd tw T y) (upd th T z) (upd tk T (nI X)) kt kn xt xn) H := hP
          replace hD : va_D A (wM cA g0 b1 b2 b3 b4 b5 b6 b7 b8 b9 N T 0 nw fv (upd tn T x) (upd tw T y) (upd th T z) (upd tk T (nI X)) kt kn xt xn) := hD
          refine lv_iconst (v := (nI 0)) hx hb dX1_track_147 (by decide) ?_
          refine lv_istore (lv' := [(6, .int (nI 0)), (5, .int g1), (4, .int (nI X)), (0, .ref g0), (1, .int x), (2, .int y), (3, .int z)]) hx hb dX1_track_148 hl (by decide) rfl (fun ls hl => ?_)
          obtain ⟨n, k, hn, hP9, hD9, hl9⟩ : ∃ n k : Nat, k + n = X ∧ va_P (dC, dI) vwCl (wM cA g0 b1 b2 b3 b4 b5 b6 b7 b8 b9 N T 0 nw fv (upd tn T x) (upd tw T y) (upd th T z) (upd tk T (nI X)) (va_cpy xt kt 0 (T * 32) k) kn xt xn) H ∧ va_D A (wM cA g0 b1 b2 b3 b4 b5 b6 b7 b8 b9 N T 0 nw fv (upd tn T x) (upd tw T y) (upd th T z) (upd tk T (nI X)) (va_cpy xt kt 0 (T * 32) k) kn xt xn) ∧ lv_has ls 7 [(6, .int (nI k)), (5, .int g1), (4, .int (nI X)), (0, .ref g0), (1, .int x), (2, .int y), (3, .int z)] := ⟨X, 0, by omega, by rw [cpy_0]; exact hP, by rw [cpy_0]; exact hD, lv_sub hl [0, 1, 2, 3, 4, 5, 6] rfl⟩
          clear hl hP hD; have hl := hl9; have hP := hP9; have hD := hD9; clear hl9 hP9 hD9
          induction n generalizing k ls H locs with
          | zero =>
            have t7 : (nI k).toInt = k := nI_toInt (by omega)
            refine lv_iload hx hb dX1_track_150 (lv_at hl 0 rfl) ?_
            refine lv_iload hx hb dX1_track_152 (lv_at hl 2 rfl) ?_
            refine lv_icmp_ge (tgt := 185) hx hb dX1_track_154 (by decide) (fun c3 => ?_) (fun c3 => ?_)
            · skip
              have c3 := zle c3
              obtain rfl : X = k := by omega
              refine lv_iconst (v := (nI 0)) hx hb dX1_track_185 (by decide) ?_
              refine lv_istore (lv' := [(6, .int (nI 0)), (5, .int g1), (4, .int (nI X)), (0, .ref g0), (1, .int x), (2, .int y), (3, .int z)]) hx hb dX1_track_186 hl (by decide) rfl (fun ls hl => ?_)
              obtain ⟨n, k, hn, hP9, hD9, hl9⟩ : ∃ n k : Nat, k + n = X * 3 ∧ va_P (dC, dI) vwCl (wM cA g0 b1 b2 b3 b4 b5 b6 b7 b8 b9 N T 0 nw fv (upd tn T x) (upd tw T y) (upd th T z) (upd tk T (nI X)) (va_cpy xt kt 0 (T * 32) (X)) (va_cpy xn kn 0 (T * 32 * 3) k) xt xn) H ∧ va_D A (wM cA g0 b1 b2 b3 b4 b5 b6 b7 b8 b9 N T 0 nw fv (upd tn T x) (upd tw T y) (upd th T z) (upd tk T (nI X)) (va_cpy xt kt 0 (T * 32) (X)) (va_cpy xn kn 0 (T * 32 * 3) k) xt xn) ∧ lv_has ls 7 [(6, .int (nI k)), (5, .int g1), (4, .int (nI X)), (0, .ref g0), (1, .int x), (2, .int y), (3, .int z)] := ⟨X * 3, 0, by omega, by rw [cpy_0]; exact hP, by rw [cpy_0]; exact hD, lv_sub hl [0, 1, 2, 3, 4, 5, 6] rfl⟩
              clear hl hP hD; have hl := hl9; have hP := hP9; have hD := hD9; clear hl9 hP9 hD9
              induction n generalizing k ls H locs with
              | zero =>
                have t7 : (nI k).toInt = k := nI_toInt (by omega)
                refine lv_iload hx hb dX1_track_188 (lv_at hl 0 rfl) ?_
                refine lv_iconst (v := (nI 3)) hx hb dX1_track_190 (by decide) ?_
                refine lv_iload hx hb dX1_track_191 (lv_at hl 2 rfl) ?_
                refine lv_imul hx hb dX1_track_193 ?_
                refine tp_i (y := nI (X * 3)) (by rw [pk_mul, Nat.mul_comm]) ?_
                refine lv_icmp_ge (tgt := 225) hx hb dX1_track_194 (by decide) (fun c4 => ?_) (fun c4 => ?_)
                · skip
                  have c4 := zle c4
                  obtain rfl : X * 3 = k := by omega
                  refine lv_aload_n hx hb dX1_track_225 rfl (lv_at hl 3 rfl) ?_
                  refine lv_dup hx hb dX1_track_226 rfl ?_
                  refine va_get (D := (dC, dI)) (ci := 1) (v := .int (nI T)) (C := RX1) (T := TX1) (N := 14) hx hb hts (by decide +kernel) hown hK hP 0 rfl rfl 7 (by decide) (hts (.fieldLink RX1 58 "MotionDeskModel" "tracks" "I") (by decide +kernel)) (fun _ h9 => h9) rfl dX1_track_227 ?_
                  refine lv_iconst (v := (nI 1)) hx hb dX1_track_230 (by decide) ?_
                  refine lv_iadd hx hb dX1_track_231 ?_
                  refine tp_i (y := nI (T + 1)) (nI_1 T) ?_
                  refine va_put (D := (dC, dI)) (ci := 1) (v := .int (nI (T + 1))) (ty := .int) (C := RX1) (T := TX1) (N := 14) hx hb hts (by decide +kernel) tyX1 tyX1_ok nmX1 hown hK hP hD hS 0 rfl rfl 7 (by decide) (hts (.fieldLink RX1 58 "MotionDeskModel" "tracks" "I") (by decide +kernel)) (fun _ h9 => h9) rfl (by decide +kernel) rfl rfl (Nat.le_of_ble_eq_true rfl) dX1_track_232 (fun H locs hP hD hS => ?_)
                  replace hP : va_P (dC, dI) vwCl (wM cA g0 b1 b2 b3 b4 b5 b6 b7 b8 b9 N (T + 1) 0 nw fv (upd tn T x) (upd tw T y) (upd th T z) (upd tk T (nI X)) (va_cpy xt kt 0 (T * 32) (X)) (va_cpy xn kn 0 (T * 32 * 3) (X * 3)) xt xn) H := hP
                  replace hD : va_D A (wM cA g0 b1 b2 b3 b4 b5 b6 b7 b8 b9 N (T + 1) 0 nw fv (upd tn T x) (upd tw T y) (upd th T z) (upd tk T (nI X)) (va_cpy xt kt 0 (T * 32) (X)) (va_cpy xn kn 0 (T * 32 * 3) (X * 3)) xt xn) := hD
                  refine lv_aload_n hx hb dX1_track_235 rfl (lv_at hl 3 rfl) ?_
                  refine va_get (D := (dC, dI)) (ci := 1) (v := .int (nI (T + 1))) (C := RX1) (T := TX1) (N := 14) hx hb hts (by decide +kernel) hown hK hP 0 rfl rfl 7 (by decide) (hts (.fieldLink RX1 58 "MotionDeskModel" "tracks" "I") (by decide +kernel)) (fun _ h9 => h9) rfl dX1_track_236 ?_
                  refine lv_iconst (v := (nI 1)) hx hb dX1_track_239 (by decide) ?_
                  refine lv_isub hx hb dX1_track_240 ?_
                  refine tp_i (y := nI T) (pk_sub (show 1 ≤ T + 1 by omega)) ?_
                  exact W.iret (v := nI T) hx hb hr (fun t9 ht9 hW9 => ⟨⟨nI T, ((T + 1), (upd tn T x), (upd tw T y), (upd th T z), (upd tk T (nI X)), (va_cpy xt kt 0 (T * 32) (X)), (va_cpy xn kn 0 (T * 32 * 3) (X * 3))), rfl, br_t hok ⟨rfl, rfl⟩, by rw [ht9]; exact hP, va_K.moved hW9.alike hK, hD⟩, hS.F ht9⟩) hS.2.2 dX1_track_241
                · skip
                  have c4 := znle c4
                  exfalso; omega
              | succ n ih =>
                have t7 : (nI k).toInt = k := nI_toInt (by omega)
                refine lv_iload hx hb dX1_track_188 (lv_at hl 0 rfl) ?_
                refine lv_iconst (v := (nI 3)) hx hb dX1_track_190 (by decide) ?_
                refine lv_iload hx hb dX1_track_191 (lv_at hl 2 rfl) ?_
                refine lv_imul hx hb dX1_track_193 ?_
                refine tp_i (y := nI (X * 3)) (by rw [pk_mul, Nat.mul_comm]) ?_
                refine lv_icmp_ge (tgt := 225) hx hb dX1_track_194 (by decide) (fun c5 => ?_) (fun c5 => ?_)
                · skip
                  have c5 := zle c5
                  exfalso; omega
                · skip
                  have c5 := znle c5
                  refine lv_aload_n hx hb dX1_track_197 rfl (lv_at hl 3 rfl) ?_
                  refine va_get (D := (dC, dI)) (ci := 1) (v := .ref b7) (C := RX1) (T := TX1) (N := 14) hx hb hts (by decide +kernel) hown hK hP 0 rfl rfl 13 (by decide) (hts (.fieldLink RX1 34 "MotionDeskModel" "values" "[I") (by decide +kernel)) (fun _ h9 => h9) rfl dX1_track_198 ?_
                  refine lv_bipush (v := (nI 96)) hx hb dX1_track_201 (by decide) ?_
                  refine lv_aload_n hx hb dX1_track_203 rfl (lv_at hl 3 rfl) ?_
                  refine va_get (D := (dC, dI)) (ci := 1) (v := .int (nI T)) (C := RX1) (T := TX1) (N := 14) hx hb hts (by decide +kernel) hown hK hP 0 rfl rfl 7 (by decide) (hts (.fieldLink RX1 58 "MotionDeskModel" "tracks" "I") (by decide +kernel)) (fun _ h9 => h9) rfl dX1_track_204 ?_
                  refine lv_imul hx hb dX1_track_207 ?_
                  refine tp_i (y := nI (T * 32 * 3)) (by rw [pk_mul, show 96 * T = T * 32 * 3 by omega]) ?_
                  refine lv_iload hx hb dX1_track_208 (lv_at hl 0 rfl) ?_
                  refine lv_iadd hx hb dX1_track_210 ?_
                  refine tp_i (y := nI (T * 32 * 3 + k)) (nI_add _ _) ?_
                  refine lv_aload_n hx hb dX1_track_211 rfl (lv_at hl 3 rfl) ?_
                  refine va_get (D := (dC, dI)) (ci := 1) (v := .ref b9) (C := RX1) (T := TX1) (N := 14) hx hb hts (by decide +kernel) hown hK hP 0 rfl rfl 6 (by decide) (hts (.fieldLink RX1 16 "MotionDeskModel" "textValues" "[I") (by decide +kernel)) (fun _ h9 => h9) rfl dX1_track_212 ?_
                  refine lv_iload hx hb dX1_track_215 (lv_at hl 0 rfl) ?_
                  refine va_iald hx hb hK hP 9 0 rfl rfl (vp_in_nI (by omega) (by omega)) dX1_track_217 ?_
                  refine tp_i (y := (xn k)) (by rw [nI_clamp (by omega)]) ?_
                  refine va_iast hx hb hK hP hD hS 7 0 rfl rfl (vp_in_nI (by omega) (by omega)) dX1_track_218 (fun H locs hP hD hS => ?_)
                  rw [nI_clamp (show T * 32 * 3 + k < 2 ^ 31 by omega)] at hP hD
                  replace hP : va_P (dC, dI) vwCl (wM cA g0 b1 b2 b3 b4 b5 b6 b7 b8 b9 N T 0 nw fv (upd tn T x) (upd tw T y) (upd th T z) (upd tk T (nI X)) (va_cpy xt kt 0 (T * 32) (X)) (upd (va_cpy xn kn 0 (T * 32 * 3) k) (T * 32 * 3 + k) (xn k)) xt xn) H := hP
                  replace hD : va_D A (wM cA g0 b1 b2 b3 b4 b5 b6 b7 b8 b9 N T 0 nw fv (upd tn T x) (upd tw T y) (upd th T z) (upd tk T (nI X)) (va_cpy xt kt 0 (T * 32) (X)) (upd (va_cpy xn kn 0 (T * 32 * 3) k) (T * 32 * 3 + k) (xn k)) xt xn) := hD
                  refine lv_iinc (v := nI (k + 1)) (lv' := [(6, .int (nI (k + 1))), (5, .int g1), (4, .int (nI X)), (0, .ref g0), (1, .int x), (2, .int y), (3, .int z)]) hx hb dX1_track_219 hl (k := 0) rfl (nI_1 k) (by decide) rfl (fun ls hl => ?_)
                  refine lv_goto (tgt := 188) hx hb dX1_track_222 (by decide) ?_
                  rw [cpy_s] at hP hD
                  exact ih (ls := ls) (k := k + 1) (H := H) (locs := locs) hS (by omega) (lv_sub hl [0, 1, 2, 3, 4, 5, 6] rfl) hP hD
            · skip
              have c3 := znle c3
              exfalso; omega
          | succ n ih =>
            have t7 : (nI k).toInt = k := nI_toInt (by omega)
            refine lv_iload hx hb dX1_track_150 (lv_at hl 0 rfl) ?_
            refine lv_iload hx hb dX1_track_152 (lv_at hl 2 rfl) ?_
            refine lv_icmp_ge (tgt := 185) hx hb dX1_track_154 (by decide) (fun c6 => ?_) (fun c6 => ?_)
            · skip
              have c6 := zle c6
              exfalso; omega
            · skip
              have c6 := znle c6
              refine lv_aload_n hx hb dX1_track_157 rfl (lv_at hl 3 rfl) ?_
              refine va_get (D := (dC, dI)) (ci := 1) (v := .ref b6) (C := RX1) (T := TX1) (N := 14) hx hb hts (by decide +kernel) hown hK hP 0 rfl rfl 12 (by decide) (hts (.fieldLink RX1 31 "MotionDeskModel" "times" "[I") (by decide +kernel)) (fun _ h9 => h9) rfl dX1_track_158 ?_
              refine lv_bipush (v := (nI 32)) hx hb dX1_track_161 (by decide) ?_
              refine lv_aload_n hx hb dX1_track_163 rfl (lv_at hl 3 rfl) ?_
              refine va_get (D := (dC, dI)) (ci := 1) (v := .int (nI T)) (C := RX1) (T := TX1) (N := 14) hx hb hts (by decide +kernel) hown hK hP 0 rfl rfl 7 (by decide) (hts (.fieldLink RX1 58 "MotionDeskModel" "tracks" "I") (by decide +kernel)) (fun _ h9 => h9) rfl dX1_track_164 ?_
              refine lv_imul hx hb dX1_track_167 ?_
              refine tp_i (y := nI (T * 32)) (by rw [pk_mul, Nat.mul_comm]) ?_
              refine lv_iload hx hb dX1_track_168 (lv_at hl 0 rfl) ?_
              refine lv_iadd hx hb dX1_track_170 ?_
              refine tp_i (y := nI (T * 32 + k)) (nI_add _ _) ?_
              refine lv_aload_n hx hb dX1_track_171 rfl (lv_at hl 3 rfl) ?_
              refine va_get (D := (dC, dI)) (ci := 1) (v := .ref b8) (C := RX1) (T := TX1) (N := 14) hx hb hts (by decide +kernel) hown hK hP 0 rfl rfl 5 (by decide) (hts (.fieldLink RX1 13 "MotionDeskModel" "textTimes" "[I") (by decide +kernel)) (fun _ h9 => h9) rfl dX1_track_172 ?_
              refine lv_iload hx hb dX1_track_175 (lv_at hl 0 rfl) ?_
              refine va_iald hx hb hK hP 8 0 rfl rfl (vp_in_nI (by omega) (by omega)) dX1_track_177 ?_
              refine tp_i (y := (xt k)) (by rw [nI_clamp (by omega)]) ?_
              refine va_iast hx hb hK hP hD hS 6 0 rfl rfl (vp_in_nI (by omega) (by omega)) dX1_track_178 (fun H locs hP hD hS => ?_)
              rw [nI_clamp (show T * 32 + k < 2 ^ 31 by omega)] at hP hD
              replace hP : va_P (dC, dI) vwCl (wM cA g0 b1 b2 b3 b4 b5 b6 b7 b8 b9 N T 0 nw fv (upd tn T x) (upd tw T y) (upd th T z) (upd tk T (nI X)) (upd (va_cpy xt kt 0 (T * 32) k) (T * 32 + k) (xt k)) kn xt xn) H := hP
              replace hD : va_D A (wM cA g0 b1 b2 b3 b4 b5 b6 b7 b8 b9 N T 0 nw fv (upd tn T x) (upd tw T y) (upd th T z) (upd tk T (nI X)) (upd (va_cpy xt kt 0 (T * 32) k) (T * 32 + k) (xt k)) kn xt xn) := hD
              refine lv_iinc (v := nI (k + 1)) (lv' := [(6, .int (nI (k + 1))), (5, .int g1), (4, .int (nI X)), (0, .ref g0), (1, .int x), (2, .int y), (3, .int z)]) hx hb dX1_track_179 hl (k := 0) rfl (nI_1 k) (by decide) rfl (fun ls hl => ?_)
              refine lv_goto (tgt := 150) hx hb dX1_track_182 (by decide) ?_
              rw [cpy_s] at hP hD
              exact ih (ls := ls) (k := k + 1) (H := H) (locs := locs) hS (by omega) (lv_sub hl [0, 1, 2, 3, 4, 5, 6] rfl) hP hD
        · skip
          have c2 := btF hg2 c2
          have hno : ¬ (X ≠ 0 ∧ T < 32 ∧ q_node N x ∧ q_what y ∧ q_how z ∧ q_all y xn X) := fun h => c2 ⟨⟨by omega, ⟨h.2.2.1, h.2.2.2.1⟩, h.2.2.2.2.1, h.2.1⟩, fun j hj => (q_all_iff y xn X).mp h.2.2.2.2.2 j (by omega)⟩
          refine lv_iconst (v := (-1)) hx hb dX1_track_104 (by decide) ?_
          exact W.iret (v := (-1)) hx hb hr (fun t9 ht9 hW9 => ⟨⟨(-1), (T, tn, tw, th, tk, kt, kn), rfl, br_f hno ⟨rfl, rfl⟩, by rw [ht9]; exact hP, va_K.moved hW9.alike hK, hD⟩, hS.F ht9⟩) hS.2.2 dX1_track_105
      · skip
        have c1 := znle c1
        exfalso; omega
    | succ n ih =>
      have t6 : (nI k).toInt = k := nI_toInt (by omega)
      refine lv_iload hx hb dX1_track_58 (lv_at hl 0 rfl) ?_
      refine lv_iconst (v := (nI 3)) hx hb dX1_track_60 (by decide) ?_
      refine lv_iload hx hb dX1_track_61 (lv_at hl 2 rfl) ?_
      refine lv_imul hx hb dX1_track_63 ?_
      refine tp_i (y := nI (X * 3)) (by rw [pk_mul, Nat.mul_comm]) ?_
      refine lv_icmp_ge (tgt := 99) hx hb dX1_track_64 (by decide) (fun c7 => ?_) (fun c7 => ?_)
      · skip
        have c7 := zle c7
        exfalso; omega
      · skip
        have c7 := znle c7
        refine lv_iload hx hb dX1_track_67 (lv_at hl 1 rfl) ?_
        refine lv_if_eq (tgt := 90) hx hb dX1_track_69 (by decide) (fun c8 => ?_) (fun c8 => ?_)
        · skip
          have c8 := btF hg2 c8
          refine lv_iconst (v := (nI 0)) hx hb dX1_track_90 (by decide) ?_
          refine lv_istore (lv' := [(5, .int (nI 0)), (6, .int (nI k)), (4, .int (nI X)), (0, .ref g0), (1, .int x), (2, .int y), (3, .int z)]) hx hb dX1_track_91 hl (by decide) rfl (fun ls hl => ?_)
          refine lv_iinc (v := nI (k + 1)) (lv' := [(6, .int (nI (k + 1))), (5, .int (nI 0)), (4, .int (nI X)), (0, .ref g0), (1, .int x), (2, .int y), (3, .int z)]) hx hb dX1_track_93 hl (k := 1) rfl (nI_1 k) (by decide) rfl (fun ls hl => ?_)
          refine lv_goto (tgt := 58) hx hb dX1_track_96 (by decide) ?_
          exact ih (ls := ls) (k := k + 1) (g1 := (nI 0)) (by omega) (bt0 (fun h => c8 ⟨h.1, fun j hj => h.2 j (by omega)⟩)) (lv_sub hl [0, 1, 2, 3, 4, 5, 6] rfl)
        · skip
          have c8 := btT hg2 c8
          refine lv_iload_n hx hb dX1_track_72 rfl (lv_at hl 5 rfl) ?_
          refine lv_aload_n hx hb dX1_track_73 rfl (lv_at hl 3 rfl) ?_
          refine va_get (D := (dC, dI)) (ci := 1) (v := .ref b9) (C := RX1) (T := TX1) (N := 14) hx hb hts (by decide +kernel) hown hK hP 0 rfl rfl 6 (by decide) (hts (.fieldLink RX1 16 "MotionDeskModel" "textValues" "[I") (by decide +kernel)) (fun _ h9 => h9) rfl dX1_track_74 ?_
          refine lv_iload hx hb dX1_track_77 (lv_at hl 0 rfl) ?_
          refine va_iald hx hb hK hP 9 0 rfl rfl (vp_in_nI (by omega) (by omega)) dX1_track_79 ?_
          refine tp_i (y := (xn k)) (by rw [nI_clamp (by omega)]) ?_
          refine vp_callSi (W.runS (As := [.int y, .int (xn k)]) (rest := []) ⟨hx, hb, hml, hown, hts⟩ (cm_fits l y (xn k)) (va_cwS 2 hts gX1_track_X1_fits rfl rfl rfl (by decide +kernel) ⟨Nat.le_of_ble_eq_true rfl, Nat.le_of_ble_eq_true rfl⟩) preEq rfl rfl hl.1 rfl (lv_room (Nat.le_of_ble_eq_true rfl)) dX1_track_80 ⟨Nat.le_of_ble_eq_true rfl, Nat.le_of_ble_eq_true rfl⟩) (fun bo9 h_bo9 => ?_)
          refine lv_if_eq (tgt := 90) hx hb dX1_track_83 (by decide) (fun c10 => ?_) (fun c10 => ?_)
          · skip
            have c10 := btF h_bo9 c10
            refine lv_iconst (v := (nI 0)) hx hb dX1_track_90 (by decide) ?_
            refine lv_istore (lv' := [(5, .int (nI 0)), (6, .int (nI k)), (4, .int (nI X)), (0, .ref g0), (1, .int x), (2, .int y), (3, .int z)]) hx hb dX1_track_91 hl (by decide) rfl (fun ls hl => ?_)
            refine lv_iinc (v := nI (k + 1)) (lv' := [(6, .int (nI (k + 1))), (5, .int (nI 0)), (4, .int (nI X)), (0, .ref g0), (1, .int x), (2, .int y), (3, .int z)]) hx hb dX1_track_93 hl (k := 1) rfl (nI_1 k) (by decide) rfl (fun ls hl => ?_)
            refine lv_goto (tgt := 58) hx hb dX1_track_96 (by decide) ?_
            exact ih (ls := ls) (k := k + 1) (g1 := (nI 0)) (by omega) (bt0 (fun h => c10 (h.2 k (by omega)))) (lv_sub hl [0, 1, 2, 3, 4, 5, 6] rfl)
          · skip
            have c10 := btT h_bo9 c10
            refine lv_iconst (v := (nI 1)) hx hb dX1_track_86 (by decide) ?_
            refine lv_goto (tgt := 91) hx hb dX1_track_87 (by decide) ?_
            refine lv_istore (lv' := [(5, .int (nI 1)), (6, .int (nI k)), (4, .int (nI X)), (0, .ref g0), (1, .int x), (2, .int y), (3, .int z)]) hx hb dX1_track_91 hl (by decide) rfl (fun ls hl => ?_)
            refine lv_iinc (v := nI (k + 1)) (lv' := [(6, .int (nI (k + 1))), (5, .int (nI 1)), (4, .int (nI X)), (0, .ref g0), (1, .int x), (2, .int y), (3, .int z)]) hx hb dX1_track_93 hl (k := 1) rfl (nI_1 k) (by decide) rfl (fun ls hl => ?_)
            refine lv_goto (tgt := 58) hx hb dX1_track_96 (by decide) ?_
            exact ih (ls := ls) (k := k + 1) (g1 := (nI 1)) (by omega) (bt1 ⟨c8.1, lt_s c8.2 c10⟩) (lv_sub hl [0, 1, 2, 3, 4, 5, 6] rfl)
  refine lv_iload hx hb dX1_track_16 (lv_at hl 0 rfl) ?_
  refine lv_if_le (tgt := 52) hx hb dX1_track_18 (by decide) (fun c11 => ?_) (fun c11 => ?_)
  · skip
    have c11 := zle c11
    refine lv_iconst (v := (nI 0)) hx hb dX1_track_52 (by decide) ?_
    exact tail _ _ _ _ ⟨bt0 (fun h => by obtain ⟨h1, -, h3, h4⟩ := h; unfold q_how at h3; omega), hP, hD, hS, lv_sub hl [0, 1, 2, 3, 4] rfl⟩
  · skip
    have c11 := znle c11
    refine lv_aload_n hx hb dX1_track_21 rfl (lv_at hl 1 rfl) ?_
    refine lv_iload_n hx hb dX1_track_22 rfl (lv_at hl 2 rfl) ?_
    refine lv_iload_n hx hb dX1_track_23 rfl (lv_at hl 3 rfl) ?_
    refine vp_callSi (W.runV (C := RX1) (As := [.int x, .int y]) (rest := []) ⟨hx, hb, hml, hown, hts⟩ (cm_there l dC dI cA g0 b1 b2 b3 b4 b5 b6 b7 b8 b9 N T 0 nw fv tn tw th tk kt kn xt xn x y (by omega)) (cwV 2 hts gX1_track_X1_there rfl rfl rfl (by decide +kernel) ⟨Nat.le_of_ble_eq_true rfl, Nat.le_of_ble_eq_true rfl⟩) ⟨fun a U g mk q => ⟨q.1, q.2.1, va_K.moved (u := U) (U := U.calling g mk a) (Vm.Alike.refl U.vm) q.2.2⟩, va_recv hK hP (ci := 1) (q0 := 0) rfl rfl, fun U hU hW => ⟨rfl, by rw [hU]; exact hP, va_K.moved hW.alike hK⟩⟩ rfl rfl hl.1 rfl (lv_room (Nat.le_of_ble_eq_true rfl)) dX1_track_24 ⟨Nat.le_of_ble_eq_true rfl, Nat.le_of_ble_eq_true rfl⟩) (fun bo12 h_bo12 => ?_)
    refine lv_if_eq (tgt := 52) hx hb dX1_track_27 (by decide) (fun c13 => ?_) (fun c13 => ?_)
    · skip
      have c13 := btF h_bo12 c13
      refine lv_iconst (v := (nI 0)) hx hb dX1_track_52 (by decide) ?_
      exact tail _ _ _ _ ⟨bt0 (fun h => c13 h.2.1), hP, hD, hS, lv_sub hl [0, 1, 2, 3, 4] rfl⟩
    · skip
      have c13 := btT h_bo12 c13
      refine lv_iload_n hx hb dX1_track_30 rfl (lv_at hl 4 rfl) ?_
      refine lv_if_lt (tgt := 52) hx hb dX1_track_31 (by decide) (fun c14 => ?_) (fun c14 => ?_)
      · skip
        have c14 := zlt c14
        refine lv_iconst (v := (nI 0)) hx hb dX1_track_52 (by decide) ?_
        exact tail _ _ _ _ ⟨bt0 (fun h => by obtain ⟨h1, -, h3, h4⟩ := h; unfold q_how at h3; omega), hP, hD, hS, lv_sub hl [0, 1, 2, 3, 4] rfl⟩
      · skip
        have c14 := znlt c14
        refine lv_iload_n hx hb dX1_track_34 rfl (lv_at hl 4 rfl) ?_
        refine lv_iconst (v := (nI 2)) hx hb dX1_track_35 (by decide) ?_
        refine lv_icmp_gt (tgt := 52) hx hb dX1_track_36 (by decide) (fun c15 => ?_) (fun c15 => ?_)
        · skip
          have c15 := zlt c15
          refine lv_iconst (v := (nI 0)) hx hb dX1_track_52 (by decide) ?_
          exact tail _ _ _ _ ⟨bt0 (fun h => by obtain ⟨h1, -, h3, h4⟩ := h; unfold q_how at h3; omega), hP, hD, hS, lv_sub hl [0, 1, 2, 3, 4] rfl⟩
        · skip
          have c15 := znlt c15
          refine lv_aload_n hx hb dX1_track_39 rfl (lv_at hl 1 rfl) ?_
          refine va_get (D := (dC, dI)) (ci := 1) (v := .int (nI T)) (C := RX1) (T := TX1) (N := 14) hx hb hts (by decide +kernel) hown hK hP 0 rfl rfl 7 (by decide) (hts (.fieldLink RX1 58 "MotionDeskModel" "tracks" "I") (by decide +kernel)) (fun _ h9 => h9) rfl dX1_track_40 ?_
          refine lv_bipush (v := (nI 32)) hx hb dX1_track_43 (by decide) ?_
          refine lv_icmp_ge (tgt := 52) hx hb dX1_track_45 (by decide) (fun c16 => ?_) (fun c16 => ?_)
          · skip
            have c16 := zle c16
            refine lv_iconst (v := (nI 0)) hx hb dX1_track_52 (by decide) ?_
            exact tail _ _ _ _ ⟨bt0 (fun h => by obtain ⟨h1, -, h3, h4⟩ := h; unfold q_how at h3; omega), hP, hD, hS, lv_sub hl [0, 1, 2, 3, 4] rfl⟩
          · skip
            have c16 := znle c16
            refine lv_iconst (v := (nI 1)) hx hb dX1_track_48 (by decide) ?_
            refine lv_goto (tgt := 53) hx hb dX1_track_49 (by decide) ?_
            exact tail _ _ _ _ ⟨bt1 ⟨by omega, c13, by unfold q_how; omega, by omega⟩, hP, hD, hS, lv_sub hl [0, 1, 2, 3, 4] rfl⟩
end
section
-- a state in order
def iG (N T X : Nat) (tn tw th tk kt xt : Nat → Int32) : Prop := (1 ≤ N ∧ N ≤ 48) ∧ T ≤ 32 ∧ X ≤ 32 ∧ (∀ j, j < T → q_trk N tn tw tk j ∧ q_how (th j) ∧ q_grow kt (j * 32) (tk j).toInt.toNat) ∧ q_grow xt 0 X
theorem iG_0 {N : Nat} {tn tw th tk kt xt : Nat → Int32} (h : 1 ≤ N ∧ N ≤ 48) : iG N 0 0 tn tw th tk kt xt := ⟨h, by omega, by omega, fun j hj => absurd hj (by omega), fun k hk => absurd hk (by omega), fun k hk => absurd hk (by omega)⟩
theorem iG_clear {N T X : Nat} {tn tw th tk kt xt : Nat → Int32} (h : iG N T X tn tw th tk kt xt) : iG N 0 X tn tw th tk kt xt := ⟨h.1, by omega, h.2.2.1, fun j hj => absurd hj (by omega), h.2.2.2.2⟩
theorem upd_n {f : Nat → Int32} {k j : Nat} {x : Int32} (h : j ≠ k) : upd f k x j = f j := by unfold upd; rw [if_neg h]
theorem upd_s {f : Nat → Int32} {k : Nat} {x : Int32} : upd f k x k = x := by unfold upd; rw [if_pos rfl]
theorem iG_key {N T X : Nat} {tn tw th tk kt xt xn : Nat → Int32} {t x1 x2 x3 r : Int32} {u : Nat × (Nat → Int32) × (Nat → Int32)} (h : iG N T X tn tw th tk kt xt)
    (hw : ((X < 32 ∧ q_time t ∧ q_can (nI 0) x1 x2 x3 ∧ (0 < X → (xt (X - 1)).toInt < t.toInt)) → r = nI (X + 1) ∧ u = (X + 1, upd xt X t, put3 xn (X * 3) x1 x2 x3)) ∧ (¬ (X < 32 ∧ q_time t ∧ q_can (nI 0) x1 x2 x3 ∧ (0 < X → (xt (X - 1)).toInt < t.toInt)) → r = -1 ∧ u = (X, xt, xn))) : iG N T u.1 tn tw th tk kt u.2.1 := by
  by_cases c : (X < 32 ∧ q_time t ∧ q_can (nI 0) x1 x2 x3 ∧ (0 < X → (xt (X - 1)).toInt < t.toInt))
  · obtain ⟨-, rfl⟩ := hw.1 c
    obtain ⟨h1, h2, h3, h4, h5⟩ := h
    refine ⟨h1, h2, by show X + 1 ≤ 32; omega, h4, fun k hk => ?_, fun k hk => ?_⟩
    · have hk : k < X + 1 := hk
      show q_time (upd xt X t (0 + k))
      by_cases e : 0 + k = X
      · rw [e, upd_s]; exact c.2.1
      · rw [upd_n e]; exact h5.1 k (by omega)
    · have hk : k + 1 < X + 1 := hk
      show (upd xt X t (0 + k)).toInt < (upd xt X t (0 + k + 1)).toInt
      rw [upd_n (show 0 + k ≠ X by omega)]
      by_cases e : 0 + k + 1 = X
      · rw [e, upd_s]
        have := c.2.2.2 (by omega)
        rw [show X - 1 = 0 + k by omega] at this
        exact this
      · rw [upd_n e]; exact h5.2 k (by omega)
  · obtain ⟨-, rfl⟩ := hw.2 c
    exact h
theorem iG_track {N T X : Nat} {tn tw th tk kt kn xt xn : Nat → Int32} {x y z r : Int32} {u : Nat × (Nat → Int32) × (Nat → Int32) × (Nat → Int32) × (Nat → Int32) × (Nat → Int32) × (Nat → Int32)} (h : iG N T X tn tw th tk kt xt)
    (hw : ((X ≠ 0 ∧ T < 32 ∧ q_node N x ∧ q_what y ∧ q_how z ∧ q_all y xn X) → r = nI T ∧ u = (T + 1, upd tn T x, upd tw T y, upd th T z, upd tk T (nI X), va_cpy xt kt 0 (T * 32) X, va_cpy xn kn 0 (T * 32 * 3) (X * 3))) ∧ (¬ (X ≠ 0 ∧ T < 32 ∧ q_node N x ∧ q_what y ∧ q_how z ∧ q_all y xn X) → r = -1 ∧ u = (T, tn, tw, th, tk, kt, kn))) : iG N u.1 0 u.2.1 u.2.2.1 u.2.2.2.1 u.2.2.2.2.1 u.2.2.2.2.2.1 xt := by
  have z0 : q_grow xt 0 0 := ⟨fun k hk => absurd hk (by omega), fun k hk => absurd hk (by omega)⟩
  by_cases c : (X ≠ 0 ∧ T < 32 ∧ q_node N x ∧ q_what y ∧ q_how z ∧ q_all y xn X)
  · obtain ⟨-, rfl⟩ := hw.1 c
    obtain ⟨h1, h2, h3, h4, h5⟩ := h
    refine ⟨h1, by show T + 1 ≤ 32; omega, by omega, fun j hj => ?_, z0⟩
    have hj : j < T + 1 := hj
    show (q_node N (upd tn T x j) ∧ q_what (upd tw T y j) ∧ 1 ≤ (upd tk T (nI X) j).toInt ∧ (upd tk T (nI X) j).toInt ≤ 32) ∧ q_how (upd th T z j) ∧ q_grow (va_cpy xt kt 0 (T * 32) X) (j * 32) (upd tk T (nI X) j).toInt.toNat
    by_cases e : j = T
    · subst e
      rw [upd_s, upd_s, upd_s, upd_s, nI_toInt (by omega)]
      have q : ∀ k, k < X → va_cpy xt kt 0 (j * 32) X (j * 32 + k) = xt (0 + k) := by
        intro k hk
        unfold va_cpy
        rw [if_pos (by omega), show j * 32 + k - j * 32 = k by omega]
      refine ⟨⟨c.2.2.1, c.2.2.2.1, by omega, by omega⟩, c.2.2.2.2.1, fun k hk => ?_, fun k hk => ?_⟩
      · rw [q k (by omega)]; exact h5.1 k (by omega)
      · rw [q k (by omega), Nat.add_assoc, q (k + 1) (by omega)]; exact h5.2 k (by omega)
    · obtain ⟨g1, g2, g3⟩ := h4 j (by omega)
      rw [upd_n e, upd_n e, upd_n e, upd_n e]
      have hk32 := g1.2.2.2
      have q : ∀ k, k < 32 → va_cpy xt kt 0 (T * 32) X (j * 32 + k) = kt (j * 32 + k) := by
        intro k hk
        unfold va_cpy
        rw [if_neg (by omega)]
      refine ⟨g1, g2, fun k hk => ?_, fun k hk => ?_⟩
      · rw [q k (by omega)]; exact g3.1 k hk
      · rw [q k (by omega), Nat.add_assoc, q (k + 1) (by omega)]; exact g3.2 k hk
  · obtain ⟨-, rfl⟩ := hw.2 c
    exact ⟨h.1, h.2.1, by omega, h.2.2.2.1, z0⟩
theorem same2 {P : Prop} {α β : Type} {r1 r2 a b : α} {u1 u2 c d : β} (h1 : (P → r1 = a ∧ u1 = c) ∧ (¬ P → r1 = b ∧ u1 = d)) (h2 : (P → r2 = a ∧ u2 = c) ∧ (¬ P → r2 = b ∧ u2 = d)) : r1 = r2 ∧ u1 = u2 := by
  by_cases q : P
  · exact ⟨(h1.1 q).1.trans (h2.1 q).1.symm, (h1.1 q).2.trans (h2.1 q).2.symm⟩
  · exact ⟨(h1.2 q).1.trans (h2.2 q).1.symm, (h1.2 q).2.trans (h2.2 q).2.symm⟩
theorem same1 {P : Prop} {α : Type} {r1 r2 a b : α} (h1 : (P → r1 = a) ∧ (¬ P → r1 = b)) (h2 : (P → r2 = a) ∧ (¬ P → r2 = b)) : r1 = r2 := by
  by_cases q : P
  · exact (h1.1 q).trans (h2.1 q).symm
  · exact (h1.2 q).trans (h2.2 q).symm
theorem arr_of {args : Array Value} {s : State} (h : (Cond.arrayClass .int).before args s = true) : ∃ cA : ClassId, ArrOfT s cA .int ∧ va_RA s cA .int := by
  obtain ⟨cA, kA, comp, hfind, hk, hkind⟩ := Cond.arrayClass_spec h
  exact ⟨cA, fun n z => ⟨fun k h => (by cases h), kA, hk, comp, hkind⟩, hfind⟩

/-! THE CLAIM OUT OF ONE WALK OF THE LAW'S BODY. Your part is whole_start (and what it stands on); all else here is the same for every law, but numbers. -/
def R_law : String := "MotionDeskLaw"
def lw_P (b : Addr) (xs : List Int32) (args : Array Value) (s : State) : Prop := args = #[.ref b] ∧ s.IntsAt b xs ∧ xs.length ≤ 3073 ∧ (Jvm.Cond.and given_1 narrow_1).before args s = true
def lw_Q (_ : Array Value) (s : State) (o : Outcome) (t : State) : Prop := o = .returned (some (.int 1)) ∧ Framed s o t [] 600000 7302250
def lw_Z (below : List Frame) (a : Array Value) (s : State) : State → Prop := fun t => ∃ o, t.status = .running ∧ Ended t below o ∧ lw_Q a s o t
/-- the law's own end, with 1 on the stack, nothing written that was there before, its room as the claim has it -/
theorem lw_ret {p : Program} {l : Launch} {e : Env} {s : State} {m : MethodId} {below : List Frame} {meth : Method} {c : Code} {b : Nat} (hx : p.tables.exec = Jvm.exec) (hb : c.code = code) (hr : meth.sig.returnType = ret) (hlocks : meth.locks = false) {pc : Nat} {H : Heap} {ls : Array Slot} (hdg : decode code pc = .ok (.ireturn, 1)) : W p l e room_1 s m #[Value.ref b] below meth c H [] 600000 7302250 (lw_Z below #[Value.ref b] s) (F0 m pc ls [.int 1]) := by
  intro T hT X
  obtain ⟨fs, hret, hrun, hended, hW, hframe⟩ := X.leave (v := some (.int 1)) (hlocks := hlocks) (fun h => by rw [hr] at h; cases h)
  have hmeth' : T.vm.method? m = some meth := X.method'
  refine ⟨T.setFrames fs, ?_, .returned (some (.int 1)), hrun, hended, rfl, ⟨_, rfl⟩, hW, hframe⟩
  jvm_step X.here [X.here.top, hx, hb, hdg, hmeth', hr, ret, narrow_b1]
  (try refine ⟨rfl, ?_⟩); (try refine ⟨rfl, ?_⟩)
  first | (intro acts; rw [hret _ acts rfl rfl rfl]) | rw [hret _ _ rfl rfl rfl]
  exact Steps.refl _
/-- what holds at the law's entry: the machine, the code, the tables' words (any of lw_tbl by 'hts w (by decide +kernel)'), the script of L ints xs at the cell b, what the Statement gives of the start (any of its parts by flat_of_before) -/
def lw_At (p : Program) (s : State) (m : MethodId) (meth : Method) (c : Code) (b L : Nat) (xs : Nat → Int32) : Prop :=
  p.tables.exec = Jvm.exec ∧ c.code = code ∧ meth.sig.returnType = ret ∧ c.maxLocals = 4 ∧ s.vm.findClass R_law = some m.cls ∧ (∀ w ∈ lw_tbl, w.before #[Value.ref b] s = true) ∧ va_X b L xs s s.heap ∧ b < s.heap.size ∧ meth.locks = false ∧ (Jvm.Cond.and given_1 narrow_1).before #[Value.ref b] s = true
end
section
/-- what goes on behind a call: the turn's end, with any state that is in order -/
def lw_C (p : Program) (l : Launch) (e : Env) (s : State) (m : MethodId) (below : List Frame) (meth : Method) (c : Code) (b : Nat) (dC : Nat → ClassId) (dI : Nat → Nat → Nat) (cA : ClassId) (h0 a1 a2 a3 a4 a5 a6 a7 a8 a9 g0 b1 b2 b3 b4 b5 b6 b7 b8 b9 N i : Nat) : Prop := ∀ (T X : Nat) (nw : Int32) (fv tn tw th tk kt kn xt xn : Nat → Int32) (H : Heap) (locs : List Loc) (ls : Array Slot), iG N T X tn tw th tk kt xt → va_P (dC, dI) vwCl ((wX cA h0 a1 a2 a3 a4 a5 a6 a7 a8 a9 N T X nw fv tn tw th tk kt kn xt xn) ++ (wM cA g0 b1 b2 b3 b4 b5 b6 b7 b8 b9 N T X nw fv tn tw th tk kt kn xt xn)) H → va_D (fun q : Nat => s.heap.size ≤ q) ((wX cA h0 a1 a2 a3 a4 a5 a6 a7 a8 a9 N T X nw fv tn tw th tk kt kn xt xn) ++ (wM cA g0 b1 b2 b3 b4 b5 b6 b7 b8 b9 N T X nw fv tn tw th tk kt kn xt xn)) → va_S (fun q : Nat => s.heap.size ≤ q) s.heap H locs → lv_has ls 4 [(3, .int (nI i)), (0, .ref b), (1, .ref h0), (2, .ref g0)] → W p l e room_1 s m #[Value.ref b] below meth c H locs 20 9595 (lw_Z below #[Value.ref b] s) (F0 m 380 ls [])
set_option maxHeartbeats 4000000 in
set_option maxRecDepth 100000 in
/-- the law's case 0: key -/
theorem law_c0 {p : Program} {e : Env} {s : State} {m : MethodId} {below : List Frame} {meth : Method} {c : Code} (l : Launch) {b L : Nat} {xs : Nat → Int32} (hL : L ≤ 3073) (C0 : lw_At p s m meth c b L xs) (dC : Nat → ClassId) (dI : Nat → Nat → Nat) (cA : ClassId) (hK : va_K (dC, dI) vwCl [(cA, .int)] s) (h0 a1 a2 a3 a4 a5 a6 a7 a8 a9 g0 b1 b2 b3 b4 b5 b6 b7 b8 b9 N i : Nat) (hi : i + 6 ≤ L) (hC : lw_C p l e s m below meth c b dC dI cA h0 a1 a2 a3 a4 a5 a6 a7 a8 a9 g0 b1 b2 b3 b4 b5 b6 b7 b8 b9 N i) (T X : Nat) (nw : Int32) (fv tn tw th tk kt kn xt xn : Nat → Int32) (H : Heap) (locs : List Loc) (ls : Array Slot) (hG : iG N T X tn tw th tk kt xt) (hP : va_P (dC, dI) vwCl ((wX cA h0 a1 a2 a3 a4 a5 a6 a7 a8 a9 N T X nw fv tn tw th tk kt kn xt xn) ++ (wM cA g0 b1 b2 b3 b4 b5 b6 b7 b8 b9 N T X nw fv tn tw th tk kt kn xt xn)) H) (hD : va_D (fun q : Nat => s.heap.size ≤ q) ((wX cA h0 a1 a2 a3 a4 a5 a6 a7 a8 a9 N T X nw fv tn tw th tk kt kn xt xn) ++ (wM cA g0 b1 b2 b3 b4 b5 b6 b7 b8 b9 N T X nw fv tn tw th tk kt kn xt xn))) (hS : va_S (fun q : Nat => s.heap.size ≤ q) s.heap H locs) (hl : lv_has ls 4 [(3, .int (nI i)), (0, .ref b), (1, .ref h0), (2, .ref g0)]) : W p l e room_1 s m #[Value.ref b] below meth c H locs 20 9595 (lw_Z below #[Value.ref b] s) (F0 m 88 ls []) := by
  obtain ⟨hx, hb, hr, hml, hown0, hts, hX, hbl, hlocks, hgv⟩ := id C0
  have hown : s.vm.findClass RL = some m.cls := hown0
  have hA : ∀ q : Nat, s.heap.size ≤ q → (fun q : Nat => s.heap.size ≤ q) q := fun _ h => h
  have hbA : ¬ (fun q : Nat => s.heap.size ≤ q) b := Nat.not_le.mpr hbl
  obtain ⟨hN, hT, hX32, htr, hgx⟩ := id hG
  refine lv_aload_n hx hb dL_law_88 rfl (lv_at hl 2 rfl) ?_
  refine lv_aload_n hx hb dL_law_89 rfl (lv_at hl 1 rfl) ?_
  refine lv_iload_n hx hb dL_law_90 rfl (lv_at hl 0 rfl) ?_
  refine lv_iconst (v := (nI 1)) hx hb dL_law_91 (by decide) ?_
  refine lv_iadd hx hb dL_law_92 ?_
  refine tp_i (y := nI (i + 1)) (nI_add i 1) ?_
  refine va_sld hx hb hX hbl hbA hS (vp_in_nI (n := i + 1) (by omega) (by omega)) dL_law_93 ?_
  refine tp_i (y := (xs (i + 1))) (by rw [nI_clamp (by omega)]) ?_
  refine lv_aload_n hx hb dL_law_94 rfl (lv_at hl 1 rfl) ?_
  refine lv_iload_n hx hb dL_law_95 rfl (lv_at hl 0 rfl) ?_
  refine lv_iconst (v := (nI 2)) hx hb dL_law_96 (by decide) ?_
  refine lv_iadd hx hb dL_law_97 ?_
  refine tp_i (y := nI (i + 2)) (nI_add i 2) ?_
  refine va_sld hx hb hX hbl hbA hS (vp_in_nI (n := i + 2) (by omega) (by omega)) dL_law_98 ?_
  refine tp_i (y := (xs (i + 2))) (by rw [nI_clamp (by omega)]) ?_
  refine lv_aload_n hx hb dL_law_99 rfl (lv_at hl 1 rfl) ?_
  refine lv_iload_n hx hb dL_law_100 rfl (lv_at hl 0 rfl) ?_
  refine lv_iconst (v := (nI 3)) hx hb dL_law_101 (by decide) ?_
  refine lv_iadd hx hb dL_law_102 ?_
  refine tp_i (y := nI (i + 3)) (nI_add i 3) ?_
  refine va_sld hx hb hX hbl hbA hS (vp_in_nI (n := i + 3) (by omega) (by omega)) dL_law_103 ?_
  refine tp_i (y := (xs (i + 3))) (by rw [nI_clamp (by omega)]) ?_
  refine lv_aload_n hx hb dL_law_104 rfl (lv_at hl 1 rfl) ?_
  refine lv_iload_n hx hb dL_law_105 rfl (lv_at hl 0 rfl) ?_
  refine lv_iconst (v := (nI 4)) hx hb dL_law_106 (by decide) ?_
  refine lv_iadd hx hb dL_law_107 ?_
  refine tp_i (y := nI (i + 4)) (nI_add i 4) ?_
  refine va_sld hx hb hX hbl hbA hS (vp_in_nI (n := i + 4) (by omega) (by omega)) dL_law_108 ?_
  refine tp_i (y := (xs (i + 4))) (by rw [nI_clamp (by omega)]) ?_
  have hPc := hP.sub (ws' := (wX cA h0 a1 a2 a3 a4 a5 a6 a7 a8 a9 N T X nw fv tn tw th tk kt kn xt xn)) [0, 1, 2, 3, 4, 5, 6, 7, 8, 9] rfl
  have hDc := hD.sub (ws' := (wX cA h0 a1 a2 a3 a4 a5 a6 a7 a8 a9 N T X nw fv tn tw th tk kt kn xt xn)) [0, 1, 2, 3, 4, 5, 6, 7, 8, 9] (by decide) rfl
  have hFc := va_free (wc := (wX cA h0 a1 a2 a3 a4 a5 a6 a7 a8 a9 N T X nw fv tn tw th tk kt kn xt xn)) hD hS hA [0, 1, 2, 3, 4, 5, 6, 7, 8, 9] rfl
  refine va_calli (va_runV (C := RX0) (As := [.int (xs (i + 1)), .int (xs (i + 2)), .int (xs (i + 3)), .int (xs (i + 4))]) (rest := []) ⟨hx, hb, hml, hown, hts⟩ (cx_key l dC dI cA h0 a1 a2 a3 a4 a5 a6 a7 a8 a9 N T X nw fv tn tw th tk kt kn xt xn H.size (xs (i + 1)) (xs (i + 2)) (xs (i + 3)) (xs (i + 4)) hX32) (cwV 4 hts gL_law_X0_key rfl rfl rfl (by decide +kernel) ⟨Nat.le_of_ble_eq_true rfl, Nat.le_of_ble_eq_true rfl⟩) ⟨fun a U g mk q => by obtain ⟨q0, q1, qP, qK, qD⟩ := q; exact ⟨q0, q1, qP, va_K.moved (u := U) (U := U.calling g mk a) (Vm.Alike.refl U.vm) qK, qD⟩, va_recv hK hPc (ci := 0) (q0 := 0) rfl rfl, fun U hU hW => ⟨rfl, by rw [hU], by rw [hU]; exact hPc, va_K.moved hW.alike hK, hDc.weaken (fun _ _ _ _ => trivial)⟩⟩ rfl rfl hl.1 rfl (lv_room (Nat.le_of_ble_eq_true rfl)) dL_law_109 ⟨Nat.le_of_ble_eq_true rfl, Nat.le_of_ble_eq_true rfl⟩) hS (fun q _ h => hFc q h) hFc (fun r1 u1 t9 H1 locs ht9 hvm h_r1 hB hz1 hk1 hS => ?_)
  obtain ⟨hP1, hK1, hD1⟩ := hB
  rw [ht9] at hP1
  obtain ⟨hP2, hD2⟩ := va_join (wr := (wM cA g0 b1 b2 b3 b4 b5 b6 b7 b8 b9 N T X nw fv tn tw th tk kt kn xt xn)) (w1 := (wX cA h0 a1 a2 a3 a4 a5 a6 a7 a8 a9 N T u1.1 nw fv tn tw th tk kt kn u1.2.1 u1.2.2)) hP hD [0, 1, 2, 3, 4, 5, 6, 7, 8, 9] [10, 11, 12, 13, 14, 15, 16, 17, 18, 19] rfl rfl (by decide) (by decide) hk1 hFc hP1 hD1
  clear hP hD hP1 hD1 hPc hDc hFc hk1 hz1 ht9 hvm hK1
  generalize H1 = H at hP2 hS ⊢
  have hP : va_P (dC, dI) vwCl ((wM cA g0 b1 b2 b3 b4 b5 b6 b7 b8 b9 N T X nw fv tn tw th tk kt kn xt xn) ++ (wX cA h0 a1 a2 a3 a4 a5 a6 a7 a8 a9 N T u1.1 nw fv tn tw th tk kt kn u1.2.1 u1.2.2)) H := hP2
  have hD : va_D (fun q : Nat => s.heap.size ≤ q) ((wM cA g0 b1 b2 b3 b4 b5 b6 b7 b8 b9 N T X nw fv tn tw th tk kt kn xt xn) ++ (wX cA h0 a1 a2 a3 a4 a5 a6 a7 a8 a9 N T u1.1 nw fv tn tw th tk kt kn u1.2.1 u1.2.2)) := hD2
  clear hP2 hD2
  refine lv_aload_n hx hb dL_law_112 rfl (lv_at hl 3 rfl) ?_
  refine lv_aload_n hx hb dL_law_113 rfl (lv_at hl 1 rfl) ?_
  refine lv_iload_n hx hb dL_law_114 rfl (lv_at hl 0 rfl) ?_
  refine lv_iconst (v := (nI 1)) hx hb dL_law_115 (by decide) ?_
  refine lv_iadd hx hb dL_law_116 ?_
  refine tp_i (y := nI (i + 1)) (nI_add i 1) ?_
  refine va_sld hx hb hX hbl hbA hS (vp_in_nI (n := i + 1) (by omega) (by omega)) dL_law_117 ?_
  refine tp_i (y := (xs (i + 1))) (by rw [nI_clamp (by omega)]) ?_
  refine lv_aload_n hx hb dL_law_118 rfl (lv_at hl 1 rfl) ?_
  refine lv_iload_n hx hb dL_law_119 rfl (lv_at hl 0 rfl) ?_
  refine lv_iconst (v := (nI 2)) hx hb dL_law_120 (by decide) ?_
  refine lv_iadd hx hb dL_law_121 ?_
  refine tp_i (y := nI (i + 2)) (nI_add i 2) ?_
  refine va_sld hx hb hX hbl hbA hS (vp_in_nI (n := i + 2) (by omega) (by omega)) dL_law_122 ?_
  refine tp_i (y := (xs (i + 2))) (by rw [nI_clamp (by omega)]) ?_
  refine lv_aload_n hx hb dL_law_123 rfl (lv_at hl 1 rfl) ?_
  refine lv_iload_n hx hb dL_law_124 rfl (lv_at hl 0 rfl) ?_
  refine lv_iconst (v := (nI 3)) hx hb dL_law_125 (by decide) ?_
  refine lv_iadd hx hb dL_law_126 ?_
  refine tp_i (y := nI (i + 3)) (nI_add i 3) ?_
  refine va_sld hx hb hX hbl hbA hS (vp_in_nI (n := i + 3) (by omega) (by omega)) dL_law_127 ?_
  refine tp_i (y := (xs (i + 3))) (by rw [nI_clamp (by omega)]) ?_
  refine lv_aload_n hx hb dL_law_128 rfl (lv_at hl 1 rfl) ?_
  refine lv_iload_n hx hb dL_law_129 rfl (lv_at hl 0 rfl) ?_
  refine lv_iconst (v := (nI 4)) hx hb dL_law_130 (by decide) ?_
  refine lv_iadd hx hb dL_law_131 ?_
  refine tp_i (y := nI (i + 4)) (nI_add i 4) ?_
  refine va_sld hx hb hX hbl hbA hS (vp_in_nI (n := i + 4) (by omega) (by omega)) dL_law_132 ?_
  refine tp_i (y := (xs (i + 4))) (by rw [nI_clamp (by omega)]) ?_
  have hPc := hP.sub (ws' := (wM cA g0 b1 b2 b3 b4 b5 b6 b7 b8 b9 N T X nw fv tn tw th tk kt kn xt xn)) [0, 1, 2, 3, 4, 5, 6, 7, 8, 9] rfl
  have hDc := hD.sub (ws' := (wM cA g0 b1 b2 b3 b4 b5 b6 b7 b8 b9 N T X nw fv tn tw th tk kt kn xt xn)) [0, 1, 2, 3, 4, 5, 6, 7, 8, 9] (by decide) rfl
  have hFc := va_free (wc := (wM cA g0 b1 b2 b3 b4 b5 b6 b7 b8 b9 N T X nw fv tn tw th tk kt kn xt xn)) hD hS hA [0, 1, 2, 3, 4, 5, 6, 7, 8, 9] rfl
  refine va_calli (va_runV (C := RX1) (As := [.int (xs (i + 1)), .int (xs (i + 2)), .int (xs (i + 3)), .int (xs (i + 4))]) (rest := [.int r1]) ⟨hx, hb, hml, hown, hts⟩ (cm_key l dC dI cA g0 b1 b2 b3 b4 b5 b6 b7 b8 b9 N T X nw fv tn tw th tk kt kn xt xn H.size (xs (i + 1)) (xs (i + 2)) (xs (i + 3)) (xs (i + 4)) hX32) (cwV 4 hts gL_law_X1_key rfl rfl rfl (by decide +kernel) ⟨Nat.le_of_ble_eq_true rfl, Nat.le_of_ble_eq_true rfl⟩) ⟨fun a U g mk q => by obtain ⟨q0, q1, qP, qK, qD⟩ := q; exact ⟨q0, q1, qP, va_K.moved (u := U) (U := U.calling g mk a) (Vm.Alike.refl U.vm) qK, qD⟩, va_recv hK hPc (ci := 1) (q0 := 0) rfl rfl, fun U hU hW => ⟨rfl, by rw [hU], by rw [hU]; exact hPc, va_K.moved hW.alike hK, hDc.weaken (fun _ _ _ _ => trivial)⟩⟩ rfl rfl hl.1 rfl (lv_room (Nat.le_of_ble_eq_true rfl)) dL_law_133 ⟨Nat.le_of_ble_eq_true rfl, Nat.le_of_ble_eq_true rfl⟩) hS (fun q _ h => hFc q h) hFc (fun r2 u2 t9 H1 locs ht9 hvm h_r2 hB hz1 hk1 hS => ?_)
  obtain ⟨hP1, hK1, hD1⟩ := hB
  rw [ht9] at hP1
  obtain ⟨hP2, hD2⟩ := va_join (wr := (wX cA h0 a1 a2 a3 a4 a5 a6 a7 a8 a9 N T u1.1 nw fv tn tw th tk kt kn u1.2.1 u1.2.2)) (w1 := (wM cA g0 b1 b2 b3 b4 b5 b6 b7 b8 b9 N T u2.1 nw fv tn tw th tk kt kn u2.2.1 u2.2.2)) hP hD [0, 1, 2, 3, 4, 5, 6, 7, 8, 9] [10, 11, 12, 13, 14, 15, 16, 17, 18, 19] rfl rfl (by decide) (by decide) hk1 hFc hP1 hD1
  clear hP hD hP1 hD1 hPc hDc hFc hk1 hz1 ht9 hvm hK1
  generalize H1 = H at hP2 hS ⊢
  have hP : va_P (dC, dI) vwCl ((wX cA h0 a1 a2 a3 a4 a5 a6 a7 a8 a9 N T u1.1 nw fv tn tw th tk kt kn u1.2.1 u1.2.2) ++ (wM cA g0 b1 b2 b3 b4 b5 b6 b7 b8 b9 N T u2.1 nw fv tn tw th tk kt kn u2.2.1 u2.2.2)) H := hP2
  have hD : va_D (fun q : Nat => s.heap.size ≤ q) ((wX cA h0 a1 a2 a3 a4 a5 a6 a7 a8 a9 N T u1.1 nw fv tn tw th tk kt kn u1.2.1 u1.2.2) ++ (wM cA g0 b1 b2 b3 b4 b5 b6 b7 b8 b9 N T u2.1 nw fv tn tw th tk kt kn u2.2.1 u2.2.2)) := hD2
  clear hP2 hD2
  obtain ⟨hr12, hu⟩ := same2 h_r1 h_r2
  subst hu
  refine lv_icmp_eq (tgt := 380) hx hb dL_law_136 (by decide) (fun c1 => ?_) (fun c1 => ?_)
  · skip
    have c1 := c1
    exact hC T u1.1 nw fv tn tw th tk kt kn u1.2.1 u1.2.2 H locs ls (iG_key hG h_r1) hP hD hS hl
  · skip
    have c1 := c1
    exact absurd hr12 c1
set_option maxHeartbeats 4000000 in
set_option maxRecDepth 100000 in
/-- the law's case 1: track -/
theorem law_c1 {p : Program} {e : Env} {s : State} {m : MethodId} {below : List Frame} {meth : Method} {c : Code} (l : Launch) {b L : Nat} {xs : Nat → Int32} (hL : L ≤ 3073) (C0 : lw_At p s m meth c b L xs) (dC : Nat → ClassId) (dI : Nat → Nat → Nat) (cA : ClassId) (hK : va_K (dC, dI) vwCl [(cA, .int)] s) (h0 a1 a2 a3 a4 a5 a6 a7 a8 a9 g0 b1 b2 b3 b4 b5 b6 b7 b8 b9 N i : Nat) (hi : i + 6 ≤ L) (hC : lw_C p l e s m below meth c b dC dI cA h0 a1 a2 a3 a4 a5 a6 a7 a8 a9 g0 b1 b2 b3 b4 b5 b6 b7 b8 b9 N i) (T X : Nat) (nw : Int32) (fv tn tw th tk kt kn xt xn : Nat → Int32) (H : Heap) (locs : List Loc) (ls : Array Slot) (hG : iG N T X tn tw th tk kt xt) (hP : va_P (dC, dI) vwCl ((wX cA h0 a1 a2 a3 a4 a5 a6 a7 a8 a9 N T X nw fv tn tw th tk kt kn xt xn) ++ (wM cA g0 b1 b2 b3 b4 b5 b6 b7 b8 b9 N T X nw fv tn tw th tk kt kn xt xn)) H) (hD : va_D (fun q : Nat => s.heap.size ≤ q) ((wX cA h0 a1 a2 a3 a4 a5 a6 a7 a8 a9 N T X nw fv tn tw th tk kt kn xt xn) ++ (wM cA g0 b1 b2 b3 b4 b5 b6 b7 b8 b9 N T X nw fv tn tw th tk kt kn xt xn))) (hS : va_S (fun q : Nat => s.heap.size ≤ q) s.heap H locs) (hl : lv_has ls 4 [(3, .int (nI i)), (0, .ref b), (1, .ref h0), (2, .ref g0)]) : W p l e room_1 s m #[Value.ref b] below meth c H locs 20 9595 (lw_Z below #[Value.ref b] s) (F0 m 141 ls []) := by
  obtain ⟨hx, hb, hr, hml, hown0, hts, hX, hbl, hlocks, hgv⟩ := id C0
  have hown : s.vm.findClass RL = some m.cls := hown0
  have hA : ∀ q : Nat, s.heap.size ≤ q → (fun q : Nat => s.heap.size ≤ q) q := fun _ h => h
  have hbA : ¬ (fun q : Nat => s.heap.size ≤ q) b := Nat.not_le.mpr hbl
  obtain ⟨hN, hT, hX32, htr, hgx⟩ := id hG
  refine lv_aload_n hx hb dL_law_141 rfl (lv_at hl 2 rfl) ?_
  refine lv_aload_n hx hb dL_law_142 rfl (lv_at hl 1 rfl) ?_
  refine lv_iload_n hx hb dL_law_143 rfl (lv_at hl 0 rfl) ?_
  refine lv_iconst (v := (nI 1)) hx hb dL_law_144 (by decide) ?_
  refine lv_iadd hx hb dL_law_145 ?_
  refine tp_i (y := nI (i + 1)) (nI_add i 1) ?_
  refine va_sld hx hb hX hbl hbA hS (vp_in_nI (n := i + 1) (by omega) (by omega)) dL_law_146 ?_
  refine tp_i (y := (xs (i + 1))) (by rw [nI_clamp (by omega)]) ?_
  refine lv_aload_n hx hb dL_law_147 rfl (lv_at hl 1 rfl) ?_
  refine lv_iload_n hx hb dL_law_148 rfl (lv_at hl 0 rfl) ?_
  refine lv_iconst (v := (nI 2)) hx hb dL_law_149 (by decide) ?_
  refine lv_iadd hx hb dL_law_150 ?_
  refine tp_i (y := nI (i + 2)) (nI_add i 2) ?_
  refine va_sld hx hb hX hbl hbA hS (vp_in_nI (n := i + 2) (by omega) (by omega)) dL_law_151 ?_
  refine tp_i (y := (xs (i + 2))) (by rw [nI_clamp (by omega)]) ?_
  refine lv_aload_n hx hb dL_law_152 rfl (lv_at hl 1 rfl) ?_
  refine lv_iload_n hx hb dL_law_153 rfl (lv_at hl 0 rfl) ?_
  refine lv_iconst (v := (nI 3)) hx hb dL_law_154 (by decide) ?_
  refine lv_iadd hx hb dL_law_155 ?_
  refine tp_i (y := nI (i + 3)) (nI_add i 3) ?_
  refine va_sld hx hb hX hbl hbA hS (vp_in_nI (n := i + 3) (by omega) (by omega)) dL_law_156 ?_
  refine tp_i (y := (xs (i + 3))) (by rw [nI_clamp (by omega)]) ?_
  have hPc := hP.sub (ws' := (wX cA h0 a1 a2 a3 a4 a5 a6 a7 a8 a9 N T X nw fv tn tw th tk kt kn xt xn)) [0, 1, 2, 3, 4, 5, 6, 7, 8, 9] rfl
  have hDc := hD.sub (ws' := (wX cA h0 a1 a2 a3 a4 a5 a6 a7 a8 a9 N T X nw fv tn tw th tk kt kn xt xn)) [0, 1, 2, 3, 4, 5, 6, 7, 8, 9] (by decide) rfl
  have hFc := va_free (wc := (wX cA h0 a1 a2 a3 a4 a5 a6 a7 a8 a9 N T X nw fv tn tw th tk kt kn xt xn)) hD hS hA [0, 1, 2, 3, 4, 5, 6, 7, 8, 9] rfl
  refine va_calli (va_runV (C := RX0) (As := [.int (xs (i + 1)), .int (xs (i + 2)), .int (xs (i + 3))]) (rest := []) ⟨hx, hb, hml, hown, hts⟩ (cx_track l dC dI cA h0 a1 a2 a3 a4 a5 a6 a7 a8 a9 N T X nw fv tn tw th tk kt kn xt xn H.size (xs (i + 1)) (xs (i + 2)) (xs (i + 3)) hN.2 hT hX32) (cwV 3 hts gL_law_X0_track rfl rfl rfl (by decide +kernel) ⟨Nat.le_of_ble_eq_true rfl, Nat.le_of_ble_eq_true rfl⟩) ⟨fun a U g mk q => by obtain ⟨q0, q1, qP, qK, qD⟩ := q; exact ⟨q0, q1, qP, va_K.moved (u := U) (U := U.calling g mk a) (Vm.Alike.refl U.vm) qK, qD⟩, va_recv hK hPc (ci := 0) (q0 := 0) rfl rfl, fun U hU hW => ⟨rfl, by rw [hU], by rw [hU]; exact hPc, va_K.moved hW.alike hK, hDc.weaken (fun _ _ _ _ => trivial)⟩⟩ rfl rfl hl.1 rfl (lv_room (Nat.le_of_ble_eq_true rfl)) dL_law_157 ⟨Nat.le_of_ble_eq_true rfl, Nat.le_of_ble_eq_true rfl⟩) hS (fun q _ h => hFc q h) hFc (fun r1 u1 t9 H1 locs ht9 hvm h_r1 hB hz1 hk1 hS => ?_)
  obtain ⟨hP1, hK1, hD1⟩ := hB
  rw [ht9] at hP1
  obtain ⟨hP2, hD2⟩ := va_join (wr := (wM cA g0 b1 b2 b3 b4 b5 b6 b7 b8 b9 N T X nw fv tn tw th tk kt kn xt xn)) (w1 := (wX cA h0 a1 a2 a3 a4 a5 a6 a7 a8 a9 N u1.1 0 nw fv u1.2.1 u1.2.2.1 u1.2.2.2.1 u1.2.2.2.2.1 u1.2.2.2.2.2.1 u1.2.2.2.2.2.2 xt xn)) hP hD [0, 1, 2, 3, 4, 5, 6, 7, 8, 9] [10, 11, 12, 13, 14, 15, 16, 17, 18, 19] rfl rfl (by decide) (by decide) hk1 hFc hP1 hD1
  clear hP hD hP1 hD1 hPc hDc hFc hk1 hz1 ht9 hvm hK1
  generalize H1 = H at hP2 hS ⊢
  have hP : va_P (dC, dI) vwCl ((wM cA g0 b1 b2 b3 b4 b5 b6 b7 b8 b9 N T X nw fv tn tw th tk kt kn xt xn) ++ (wX cA h0 a1 a2 a3 a4 a5 a6 a7 a8 a9 N u1.1 0 nw fv u1.2.1 u1.2.2.1 u1.2.2.2.1 u1.2.2.2.2.1 u1.2.2.2.2.2.1 u1.2.2.2.2.2.2 xt xn)) H := hP2
  have hD : va_D (fun q : Nat => s.heap.size ≤ q) ((wM cA g0 b1 b2 b3 b4 b5 b6 b7 b8 b9 N T X nw fv tn tw th tk kt kn xt xn) ++ (wX cA h0 a1 a2 a3 a4 a5 a6 a7 a8 a9 N u1.1 0 nw fv u1.2.1 u1.2.2.1 u1.2.2.2.1 u1.2.2.2.2.1 u1.2.2.2.2.2.1 u1.2.2.2.2.2.2 xt xn)) := hD2
  clear hP2 hD2
  refine lv_aload_n hx hb dL_law_160 rfl (lv_at hl 3 rfl) ?_
  refine lv_aload_n hx hb dL_law_161 rfl (lv_at hl 1 rfl) ?_
  refine lv_iload_n hx hb dL_law_162 rfl (lv_at hl 0 rfl) ?_
  refine lv_iconst (v := (nI 1)) hx hb dL_law_163 (by decide) ?_
  refine lv_iadd hx hb dL_law_164 ?_
  refine tp_i (y := nI (i + 1)) (nI_add i 1) ?_
  refine va_sld hx hb hX hbl hbA hS (vp_in_nI (n := i + 1) (by omega) (by omega)) dL_law_165 ?_
  refine tp_i (y := (xs (i + 1))) (by rw [nI_clamp (by omega)]) ?_
  refine lv_aload_n hx hb dL_law_166 rfl (lv_at hl 1 rfl) ?_
  refine lv_iload_n hx hb dL_law_167 rfl (lv_at hl 0 rfl) ?_
  refine lv_iconst (v := (nI 2)) hx hb dL_law_168 (by decide) ?_
  refine lv_iadd hx hb dL_law_169 ?_
  refine tp_i (y := nI (i + 2)) (nI_add i 2) ?_
  refine va_sld hx hb hX hbl hbA hS (vp_in_nI (n := i + 2) (by omega) (by omega)) dL_law_170 ?_
  refine tp_i (y := (xs (i + 2))) (by rw [nI_clamp (by omega)]) ?_
  refine lv_aload_n hx hb dL_law_171 rfl (lv_at hl 1 rfl) ?_
  refine lv_iload_n hx hb dL_law_172 rfl (lv_at hl 0 rfl) ?_
  refine lv_iconst (v := (nI 3)) hx hb dL_law_173 (by decide) ?_
  refine lv_iadd hx hb dL_law_174 ?_
  refine tp_i (y := nI (i + 3)) (nI_add i 3) ?_
  refine va_sld hx hb hX hbl hbA hS (vp_in_nI (n := i + 3) (by omega) (by omega)) dL_law_175 ?_
  refine tp_i (y := (xs (i + 3))) (by rw [nI_clamp (by omega)]) ?_
  have hPc := hP.sub (ws' := (wM cA g0 b1 b2 b3 b4 b5 b6 b7 b8 b9 N T X nw fv tn tw th tk kt kn xt xn)) [0, 1, 2, 3, 4, 5, 6, 7, 8, 9] rfl
  have hDc := hD.sub (ws' := (wM cA g0 b1 b2 b3 b4 b5 b6 b7 b8 b9 N T X nw fv tn tw th tk kt kn xt xn)) [0, 1, 2, 3, 4, 5, 6, 7, 8, 9] (by decide) rfl
  have hFc := va_free (wc := (wM cA g0 b1 b2 b3 b4 b5 b6 b7 b8 b9 N T X nw fv tn tw th tk kt kn xt xn)) hD hS hA [0, 1, 2, 3, 4, 5, 6, 7, 8, 9] rfl
  refine va_calli (va_runV (C := RX1) (As := [.int (xs (i + 1)), .int (xs (i + 2)), .int (xs (i + 3))]) (rest := [.int r1]) ⟨hx, hb, hml, hown, hts⟩ (cm_track l dC dI cA g0 b1 b2 b3 b4 b5 b6 b7 b8 b9 N T X nw fv tn tw th tk kt kn xt xn H.size (xs (i + 1)) (xs (i + 2)) (xs (i + 3)) hN.2 hT hX32) (cwV 3 hts gL_law_X1_track rfl rfl rfl (by decide +kernel) ⟨Nat.le_of_ble_eq_true rfl, Nat.le_of_ble_eq_true rfl⟩) ⟨fun a U g mk q => by obtain ⟨q0, q1, qP, qK, qD⟩ := q; exact ⟨q0, q1, qP, va_K.moved (u := U) (U := U.calling g mk a) (Vm.Alike.refl U.vm) qK, qD⟩, va_recv hK hPc (ci := 1) (q0 := 0) rfl rfl, fun U hU hW => ⟨rfl, by rw [hU], by rw [hU]; exact hPc, va_K.moved hW.alike hK, hDc.weaken (fun _ _ _ _ => trivial)⟩⟩ rfl rfl hl.1 rfl (lv_room (Nat.le_of_ble_eq_true rfl)) dL_law_176 ⟨Nat.le_of_ble_eq_true rfl, Nat.le_of_ble_eq_true rfl⟩) hS (fun q _ h => hFc q h) hFc (fun r2 u2 t9 H1 locs ht9 hvm h_r2 hB hz1 hk1 hS => ?_)
  obtain ⟨hP1, hK1, hD1⟩ := hB
  rw [ht9] at hP1
  obtain ⟨hP2, hD2⟩ := va_join (wr := (wX cA h0 a1 a2 a3 a4 a5 a6 a7 a8 a9 N u1.1 0 nw fv u1.2.1 u1.2.2.1 u1.2.2.2.1 u1.2.2.2.2.1 u1.2.2.2.2.2.1 u1.2.2.2.2.2.2 xt xn)) (w1 := (wM cA g0 b1 b2 b3 b4 b5 b6 b7 b8 b9 N u2.1 0 nw fv u2.2.1 u2.2.2.1 u2.2.2.2.1 u2.2.2.2.2.1 u2.2.2.2.2.2.1 u2.2.2.2.2.2.2 xt xn)) hP hD [0, 1, 2, 3, 4, 5, 6, 7, 8, 9] [10, 11, 12, 13, 14, 15, 16, 17, 18, 19] rfl rfl (by decide) (by decide) hk1 hFc hP1 hD1
  clear hP hD hP1 hD1 hPc hDc hFc hk1 hz1 ht9 hvm hK1
  generalize H1 = H at hP2 hS ⊢
  have hP : va_P (dC, dI) vwCl ((wX cA h0 a1 a2 a3 a4 a5 a6 a7 a8 a9 N u1.1 0 nw fv u1.2.1 u1.2.2.1 u1.2.2.2.1 u1.2.2.2.2.1 u1.2.2.2.2.2.1 u1.2.2.2.2.2.2 xt xn) ++ (wM cA g0 b1 b2 b3 b4 b5 b6 b7 b8 b9 N u2.1 0 nw fv u2.2.1 u2.2.2.1 u2.2.2.2.1 u2.2.2.2.2.1 u2.2.2.2.2.2.1 u2.2.2.2.2.2.2 xt xn)) H := hP2
  have hD : va_D (fun q : Nat => s.heap.size ≤ q) ((wX cA h0 a1 a2 a3 a4 a5 a6 a7 a8 a9 N u1.1 0 nw fv u1.2.1 u1.2.2.1 u1.2.2.2.1 u1.2.2.2.2.1 u1.2.2.2.2.2.1 u1.2.2.2.2.2.2 xt xn) ++ (wM cA g0 b1 b2 b3 b4 b5 b6 b7 b8 b9 N u2.1 0 nw fv u2.2.1 u2.2.2.1 u2.2.2.2.1 u2.2.2.2.2.1 u2.2.2.2.2.2.1 u2.2.2.2.2.2.2 xt xn)) := hD2
  clear hP2 hD2
  obtain ⟨hr12, hu⟩ := same2 h_r1 h_r2
  subst hu
  refine lv_icmp_eq (tgt := 380) hx hb dL_law_179 (by decide) (fun c1 => ?_) (fun c1 => ?_)
  · skip
    have c1 := c1
    exact hC u1.1 0 nw fv u1.2.1 u1.2.2.1 u1.2.2.2.1 u1.2.2.2.2.1 u1.2.2.2.2.2.1 u1.2.2.2.2.2.2 xt xn H locs ls (iG_track hG h_r1) hP hD hS hl
  · skip
    have c1 := c1
    exact absurd hr12 c1
set_option maxHeartbeats 4000000 in
set_option maxRecDepth 100000 in
/-- the law's case 2: set -/
theorem law_c2 {p : Program} {e : Env} {s : State} {m : MethodId} {below : List Frame} {meth : Method} {c : Code} (l : Launch) {b L : Nat} {xs : Nat → Int32} (hL : L ≤ 3073) (C0 : lw_At p s m meth c b L xs) (dC : Nat → ClassId) (dI : Nat → Nat → Nat) (cA : ClassId) (hK : va_K (dC, dI) vwCl [(cA, .int)] s) (h0 a1 a2 a3 a4 a5 a6 a7 a8 a9 g0 b1 b2 b3 b4 b5 b6 b7 b8 b9 N i : Nat) (hi : i + 6 ≤ L) (hC : lw_C p l e s m below meth c b dC dI cA h0 a1 a2 a3 a4 a5 a6 a7 a8 a9 g0 b1 b2 b3 b4 b5 b6 b7 b8 b9 N i) (T X : Nat) (nw : Int32) (fv tn tw th tk kt kn xt xn : Nat → Int32) (H : Heap) (locs : List Loc) (ls : Array Slot) (hG : iG N T X tn tw th tk kt xt) (hP : va_P (dC, dI) vwCl ((wX cA h0 a1 a2 a3 a4 a5 a6 a7 a8 a9 N T X nw fv tn tw th tk kt kn xt xn) ++ (wM cA g0 b1 b2 b3 b4 b5 b6 b7 b8 b9 N T X nw fv tn tw th tk kt kn xt xn)) H) (hD : va_D (fun q : Nat => s.heap.size ≤ q) ((wX cA h0 a1 a2 a3 a4 a5 a6 a7 a8 a9 N T X nw fv tn tw th tk kt kn xt xn) ++ (wM cA g0 b1 b2 b3 b4 b5 b6 b7 b8 b9 N T X nw fv tn tw th tk kt kn xt xn))) (hS : va_S (fun q : Nat => s.heap.size ≤ q) s.heap H locs) (hl : lv_has ls 4 [(3, .int (nI i)), (0, .ref b), (1, .ref h0), (2, .ref g0)]) : W p l e room_1 s m #[Value.ref b] below meth c H locs 20 9595 (lw_Z below #[Value.ref b] s) (F0 m 184 ls []) := by
  obtain ⟨hx, hb, hr, hml, hown0, hts, hX, hbl, hlocks, hgv⟩ := id C0
  have hown : s.vm.findClass RL = some m.cls := hown0
  have hA : ∀ q : Nat, s.heap.size ≤ q → (fun q : Nat => s.heap.size ≤ q) q := fun _ h => h
  have hbA : ¬ (fun q : Nat => s.heap.size ≤ q) b := Nat.not_le.mpr hbl
  obtain ⟨hN, hT, hX32, htr, hgx⟩ := id hG
  refine lv_aload_n hx hb dL_law_184 rfl (lv_at hl 2 rfl) ?_
  refine lv_aload_n hx hb dL_law_185 rfl (lv_at hl 1 rfl) ?_
  refine lv_iload_n hx hb dL_law_186 rfl (lv_at hl 0 rfl) ?_
  refine lv_iconst (v := (nI 1)) hx hb dL_law_187 (by decide) ?_
  refine lv_iadd hx hb dL_law_188 ?_
  refine tp_i (y := nI (i + 1)) (nI_add i 1) ?_
  refine va_sld hx hb hX hbl hbA hS (vp_in_nI (n := i + 1) (by omega) (by omega)) dL_law_189 ?_
  refine tp_i (y := (xs (i + 1))) (by rw [nI_clamp (by omega)]) ?_
  refine lv_aload_n hx hb dL_law_190 rfl (lv_at hl 1 rfl) ?_
  refine lv_iload_n hx hb dL_law_191 rfl (lv_at hl 0 rfl) ?_
  refine lv_iconst (v := (nI 2)) hx hb dL_law_192 (by decide) ?_
  refine lv_iadd hx hb dL_law_193 ?_
  refine tp_i (y := nI (i + 2)) (nI_add i 2) ?_
  refine va_sld hx hb hX hbl hbA hS (vp_in_nI (n := i + 2) (by omega) (by omega)) dL_law_194 ?_
  refine tp_i (y := (xs (i + 2))) (by rw [nI_clamp (by omega)]) ?_
  refine lv_aload_n hx hb dL_law_195 rfl (lv_at hl 1 rfl) ?_
  refine lv_iload_n hx hb dL_law_196 rfl (lv_at hl 0 rfl) ?_
  refine lv_iconst (v := (nI 3)) hx hb dL_law_197 (by decide) ?_
  refine lv_iadd hx hb dL_law_198 ?_
  refine tp_i (y := nI (i + 3)) (nI_add i 3) ?_
  refine va_sld hx hb hX hbl hbA hS (vp_in_nI (n := i + 3) (by omega) (by omega)) dL_law_199 ?_
  refine tp_i (y := (xs (i + 3))) (by rw [nI_clamp (by omega)]) ?_
  refine lv_aload_n hx hb dL_law_200 rfl (lv_at hl 1 rfl) ?_
  refine lv_iload_n hx hb dL_law_201 rfl (lv_at hl 0 rfl) ?_
  refine lv_iconst (v := (nI 4)) hx hb dL_law_202 (by decide) ?_
  refine lv_iadd hx hb dL_law_203 ?_
  refine tp_i (y := nI (i + 4)) (nI_add i 4) ?_
  refine va_sld hx hb hX hbl hbA hS (vp_in_nI (n := i + 4) (by omega) (by omega)) dL_law_204 ?_
  refine tp_i (y := (xs (i + 4))) (by rw [nI_clamp (by omega)]) ?_
  refine lv_aload_n hx hb dL_law_205 rfl (lv_at hl 1 rfl) ?_
  refine lv_iload_n hx hb dL_law_206 rfl (lv_at hl 0 rfl) ?_
  refine lv_iconst (v := (nI 5)) hx hb dL_law_207 (by decide) ?_
  refine lv_iadd hx hb dL_law_208 ?_
  refine tp_i (y := nI (i + 5)) (nI_add i 5) ?_
  refine va_sld hx hb hX hbl hbA hS (vp_in_nI (n := i + 5) (by omega) (by omega)) dL_law_209 ?_
  refine tp_i (y := (xs (i + 5))) (by rw [nI_clamp (by omega)]) ?_
  have hPc := hP.sub (ws' := (wX cA h0 a1 a2 a3 a4 a5 a6 a7 a8 a9 N T X nw fv tn tw th tk kt kn xt xn)) [0, 1, 2, 3, 4, 5, 6, 7, 8, 9] rfl
  have hDc := hD.sub (ws' := (wX cA h0 a1 a2 a3 a4 a5 a6 a7 a8 a9 N T X nw fv tn tw th tk kt kn xt xn)) [0, 1, 2, 3, 4, 5, 6, 7, 8, 9] (by decide) rfl
  have hFc := va_free (wc := (wX cA h0 a1 a2 a3 a4 a5 a6 a7 a8 a9 N T X nw fv tn tw th tk kt kn xt xn)) hD hS hA [0, 1, 2, 3, 4, 5, 6, 7, 8, 9] rfl
  refine va_calli (va_runV (C := RX0) (As := [.int (xs (i + 1)), .int (xs (i + 2)), .int (xs (i + 3)), .int (xs (i + 4)), .int (xs (i + 5))]) (rest := []) ⟨hx, hb, hml, hown, hts⟩ (cx_set l dC dI cA h0 a1 a2 a3 a4 a5 a6 a7 a8 a9 N T X nw fv tn tw th tk kt kn xt xn H.size (xs (i + 1)) (xs (i + 2)) (xs (i + 3)) (xs (i + 4)) (xs (i + 5)) hN.2) (cwV 5 hts gL_law_X0_set rfl rfl rfl (by decide +kernel) ⟨Nat.le_of_ble_eq_true rfl, Nat.le_of_ble_eq_true rfl⟩) ⟨fun a U g mk q => by obtain ⟨q0, q1, qP, qK, qD⟩ := q; exact ⟨q0, q1, qP, va_K.moved (u := U) (U := U.calling g mk a) (Vm.Alike.refl U.vm) qK, qD⟩, va_recv hK hPc (ci := 0) (q0 := 0) rfl rfl, fun U hU hW => ⟨rfl, by rw [hU], by rw [hU]; exact hPc, va_K.moved hW.alike hK, hDc.weaken (fun _ _ _ _ => trivial)⟩⟩ rfl rfl hl.1 rfl (lv_room (Nat.le_of_ble_eq_true rfl)) dL_law_210 ⟨Nat.le_of_ble_eq_true rfl, Nat.le_of_ble_eq_true rfl⟩) hS (fun q _ h => hFc q h) hFc (fun r1 u1 t9 H1 locs ht9 hvm h_r1 hB hz1 hk1 hS => ?_)
  obtain ⟨hP1, hK1, hD1⟩ := hB
  rw [ht9] at hP1
  obtain ⟨hP2, hD2⟩ := va_join (wr := (wM cA g0 b1 b2 b3 b4 b5 b6 b7 b8 b9 N T X nw fv tn tw th tk kt kn xt xn)) (w1 := (wX cA h0 a1 a2 a3 a4 a5 a6 a7 a8 a9 N T X nw u1 tn tw th tk kt kn xt xn)) hP hD [0, 1, 2, 3, 4, 5, 6, 7, 8, 9] [10, 11, 12, 13, 14, 15, 16, 17, 18, 19] rfl rfl (by decide) (by decide) hk1 hFc hP1 hD1
  clear hP hD hP1 hD1 hPc hDc hFc hk1 hz1 ht9 hvm hK1
  generalize H1 = H at hP2 hS ⊢
  have hP : va_P (dC, dI) vwCl ((wM cA g0 b1 b2 b3 b4 b5 b6 b7 b8 b9 N T X nw fv tn tw th tk kt kn xt xn) ++ (wX cA h0 a1 a2 a3 a4 a5 a6 a7 a8 a9 N T X nw u1 tn tw th tk kt kn xt xn)) H := hP2
  have hD : va_D (fun q : Nat => s.heap.size ≤ q) ((wM cA g0 b1 b2 b3 b4 b5 b6 b7 b8 b9 N T X nw fv tn tw th tk kt kn xt xn) ++ (wX cA h0 a1 a2 a3 a4 a5 a6 a7 a8 a9 N T X nw u1 tn tw th tk kt kn xt xn)) := hD2
  clear hP2 hD2
  refine lv_aload_n hx hb dL_law_213 rfl (lv_at hl 3 rfl) ?_
  refine lv_aload_n hx hb dL_law_214 rfl (lv_at hl 1 rfl) ?_
  refine lv_iload_n hx hb dL_law_215 rfl (lv_at hl 0 rfl) ?_
  refine lv_iconst (v := (nI 1)) hx hb dL_law_216 (by decide) ?_
  refine lv_iadd hx hb dL_law_217 ?_
  refine tp_i (y := nI (i + 1)) (nI_add i 1) ?_
  refine va_sld hx hb hX hbl hbA hS (vp_in_nI (n := i + 1) (by omega) (by omega)) dL_law_218 ?_
  refine tp_i (y := (xs (i + 1))) (by rw [nI_clamp (by omega)]) ?_
  refine lv_aload_n hx hb dL_law_219 rfl (lv_at hl 1 rfl) ?_
  refine lv_iload_n hx hb dL_law_220 rfl (lv_at hl 0 rfl) ?_
  refine lv_iconst (v := (nI 2)) hx hb dL_law_221 (by decide) ?_
  refine lv_iadd hx hb dL_law_222 ?_
  refine tp_i (y := nI (i + 2)) (nI_add i 2) ?_
  refine va_sld hx hb hX hbl hbA hS (vp_in_nI (n := i + 2) (by omega) (by omega)) dL_law_223 ?_
  refine tp_i (y := (xs (i + 2))) (by rw [nI_clamp (by omega)]) ?_
  refine lv_aload_n hx hb dL_law_224 rfl (lv_at hl 1 rfl) ?_
  refine lv_iload_n hx hb dL_law_225 rfl (lv_at hl 0 rfl) ?_
  refine lv_iconst (v := (nI 3)) hx hb dL_law_226 (by decide) ?_
  refine lv_iadd hx hb dL_law_227 ?_
  refine tp_i (y := nI (i + 3)) (nI_add i 3) ?_
  refine va_sld hx hb hX hbl hbA hS (vp_in_nI (n := i + 3) (by omega) (by omega)) dL_law_228 ?_
  refine tp_i (y := (xs (i + 3))) (by rw [nI_clamp (by omega)]) ?_
  refine lv_aload_n hx hb dL_law_229 rfl (lv_at hl 1 rfl) ?_
  refine lv_iload_n hx hb dL_law_230 rfl (lv_at hl 0 rfl) ?_
  refine lv_iconst (v := (nI 4)) hx hb dL_law_231 (by decide) ?_
  refine lv_iadd hx hb dL_law_232 ?_
  refine tp_i (y := nI (i + 4)) (nI_add i 4) ?_
  refine va_sld hx hb hX hbl hbA hS (vp_in_nI (n := i + 4) (by omega) (by omega)) dL_law_233 ?_
  refine tp_i (y := (xs (i + 4))) (by rw [nI_clamp (by omega)]) ?_
  refine lv_aload_n hx hb dL_law_234 rfl (lv_at hl 1 rfl) ?_
  refine lv_iload_n hx hb dL_law_235 rfl (lv_at hl 0 rfl) ?_
  refine lv_iconst (v := (nI 5)) hx hb dL_law_236 (by decide) ?_
  refine lv_iadd hx hb dL_law_237 ?_
  refine tp_i (y := nI (i + 5)) (nI_add i 5) ?_
  refine va_sld hx hb hX hbl hbA hS (vp_in_nI (n := i + 5) (by omega) (by omega)) dL_law_238 ?_
  refine tp_i (y := (xs (i + 5))) (by rw [nI_clamp (by omega)]) ?_
  have hPc := hP.sub (ws' := (wM cA g0 b1 b2 b3 b4 b5 b6 b7 b8 b9 N T X nw fv tn tw th tk kt kn xt xn)) [0, 1, 2, 3, 4, 5, 6, 7, 8, 9] rfl
  have hDc := hD.sub (ws' := (wM cA g0 b1 b2 b3 b4 b5 b6 b7 b8 b9 N T X nw fv tn tw th tk kt kn xt xn)) [0, 1, 2, 3, 4, 5, 6, 7, 8, 9] (by decide) rfl
  have hFc := va_free (wc := (wM cA g0 b1 b2 b3 b4 b5 b6 b7 b8 b9 N T X nw fv tn tw th tk kt kn xt xn)) hD hS hA [0, 1, 2, 3, 4, 5, 6, 7, 8, 9] rfl
  refine va_calli (va_runV (C := RX1) (As := [.int (xs (i + 1)), .int (xs (i + 2)), .int (xs (i + 3)), .int (xs (i + 4)), .int (xs (i + 5))]) (rest := [.int r1]) ⟨hx, hb, hml, hown, hts⟩ (cm_set l dC dI cA g0 b1 b2 b3 b4 b5 b6 b7 b8 b9 N T X nw fv tn tw th tk kt kn xt xn H.size (xs (i + 1)) (xs (i + 2)) (xs (i + 3)) (xs (i + 4)) (xs (i + 5)) hN.2) (cwV 5 hts gL_law_X1_set rfl rfl rfl (by decide +kernel) ⟨Nat.le_of_ble_eq_true rfl, Nat.le_of_ble_eq_true rfl⟩) ⟨fun a U g mk q => by obtain ⟨q0, q1, qP, qK, qD⟩ := q; exact ⟨q0, q1, qP, va_K.moved (u := U) (U := U.calling g mk a) (Vm.Alike.refl U.vm) qK, qD⟩, va_recv hK hPc (ci := 1) (q0 := 0) rfl rfl, fun U hU hW => ⟨rfl, by rw [hU], by rw [hU]; exact hPc, va_K.moved hW.alike hK, hDc.weaken (fun _ _ _ _ => trivial)⟩⟩ rfl rfl hl.1 rfl (lv_room (Nat.le_of_ble_eq_true rfl)) dL_law_239 ⟨Nat.le_of_ble_eq_true rfl, Nat.le_of_ble_eq_true rfl⟩) hS (fun q _ h => hFc q h) hFc (fun r2 u2 t9 H1 locs ht9 hvm h_r2 hB hz1 hk1 hS => ?_)
  obtain ⟨hP1, hK1, hD1⟩ := hB
  rw [ht9] at hP1
  obtain ⟨hP2, hD2⟩ := va_join (wr := (wX cA h0 a1 a2 a3 a4 a5 a6 a7 a8 a9 N T X nw u1 tn tw th tk kt kn xt xn)) (w1 := (wM cA g0 b1 b2 b3 b4 b5 b6 b7 b8 b9 N T X nw u2 tn tw th tk kt kn xt xn)) hP hD [0, 1, 2, 3, 4, 5, 6, 7, 8, 9] [10, 11, 12, 13, 14, 15, 16, 17, 18, 19] rfl rfl (by decide) (by decide) hk1 hFc hP1 hD1
  clear hP hD hP1 hD1 hPc hDc hFc hk1 hz1 ht9 hvm hK1
  generalize H1 = H at hP2 hS ⊢
  have hP : va_P (dC, dI) vwCl ((wX cA h0 a1 a2 a3 a4 a5 a6 a7 a8 a9 N T X nw u1 tn tw th tk kt kn xt xn) ++ (wM cA g0 b1 b2 b3 b4 b5 b6 b7 b8 b9 N T X nw u2 tn tw th tk kt kn xt xn)) H := hP2
  have hD : va_D (fun q : Nat => s.heap.size ≤ q) ((wX cA h0 a1 a2 a3 a4 a5 a6 a7 a8 a9 N T X nw u1 tn tw th tk kt kn xt xn) ++ (wM cA g0 b1 b2 b3 b4 b5 b6 b7 b8 b9 N T X nw u2 tn tw th tk kt kn xt xn)) := hD2
  clear hP2 hD2
  obtain ⟨hr12, hu⟩ := same2 h_r1 h_r2
  subst hu
  refine lv_icmp_eq (tgt := 380) hx hb dL_law_242 (by decide) (fun c1 => ?_) (fun c1 => ?_)
  · skip
    have c1 := c1
    exact hC T X nw u1 tn tw th tk kt kn xt xn H locs ls hG hP hD hS hl
  · skip
    have c1 := c1
    exact absurd hr12 c1
set_option maxHeartbeats 4000000 in
set_option maxRecDepth 100000 in
/-- the law's case 3: time -/
theorem law_c3 {p : Program} {e : Env} {s : State} {m : MethodId} {below : List Frame} {meth : Method} {c : Code} (l : Launch) {b L : Nat} {xs : Nat → Int32} (hL : L ≤ 3073) (C0 : lw_At p s m meth c b L xs) (dC : Nat → ClassId) (dI : Nat → Nat → Nat) (cA : ClassId) (hK : va_K (dC, dI) vwCl [(cA, .int)] s) (h0 a1 a2 a3 a4 a5 a6 a7 a8 a9 g0 b1 b2 b3 b4 b5 b6 b7 b8 b9 N i : Nat) (hi : i + 6 ≤ L) (hC : lw_C p l e s m below meth c b dC dI cA h0 a1 a2 a3 a4 a5 a6 a7 a8 a9 g0 b1 b2 b3 b4 b5 b6 b7 b8 b9 N i) (T X : Nat) (nw : Int32) (fv tn tw th tk kt kn xt xn : Nat → Int32) (H : Heap) (locs : List Loc) (ls : Array Slot) (hG : iG N T X tn tw th tk kt xt) (hP : va_P (dC, dI) vwCl ((wX cA h0 a1 a2 a3 a4 a5 a6 a7 a8 a9 N T X nw fv tn tw th tk kt kn xt xn) ++ (wM cA g0 b1 b2 b3 b4 b5 b6 b7 b8 b9 N T X nw fv tn tw th tk kt kn xt xn)) H) (hD : va_D (fun q : Nat => s.heap.size ≤ q) ((wX cA h0 a1 a2 a3 a4 a5 a6 a7 a8 a9 N T X nw fv tn tw th tk kt kn xt xn) ++ (wM cA g0 b1 b2 b3 b4 b5 b6 b7 b8 b9 N T X nw fv tn tw th tk kt kn xt xn))) (hS : va_S (fun q : Nat => s.heap.size ≤ q) s.heap H locs) (hl : lv_has ls 4 [(3, .int (nI i)), (0, .ref b), (1, .ref h0), (2, .ref g0)]) : W p l e room_1 s m #[Value.ref b] below meth c H locs 20 9595 (lw_Z below #[Value.ref b] s) (F0 m 247 ls []) := by
  obtain ⟨hx, hb, hr, hml, hown0, hts, hX, hbl, hlocks, hgv⟩ := id C0
  have hown : s.vm.findClass RL = some m.cls := hown0
  have hA : ∀ q : Nat, s.heap.size ≤ q → (fun q : Nat => s.heap.size ≤ q) q := fun _ h => h
  have hbA : ¬ (fun q : Nat => s.heap.size ≤ q) b := Nat.not_le.mpr hbl
  obtain ⟨hN, hT, hX32, htr, hgx⟩ := id hG
  refine lv_aload_n hx hb dL_law_247 rfl (lv_at hl 2 rfl) ?_
  refine lv_aload_n hx hb dL_law_248 rfl (lv_at hl 1 rfl) ?_
  refine lv_iload_n hx hb dL_law_249 rfl (lv_at hl 0 rfl) ?_
  refine lv_iconst (v := (nI 1)) hx hb dL_law_250 (by decide) ?_
  refine lv_iadd hx hb dL_law_251 ?_
  refine tp_i (y := nI (i + 1)) (nI_add i 1) ?_
  refine va_sld hx hb hX hbl hbA hS (vp_in_nI (n := i + 1) (by omega) (by omega)) dL_law_252 ?_
  refine tp_i (y := (xs (i + 1))) (by rw [nI_clamp (by omega)]) ?_
  have hPc := hP.sub (ws' := (wX cA h0 a1 a2 a3 a4 a5 a6 a7 a8 a9 N T X nw fv tn tw th tk kt kn xt xn)) [0, 1, 2, 3, 4, 5, 6, 7, 8, 9] rfl
  have hDc := hD.sub (ws' := (wX cA h0 a1 a2 a3 a4 a5 a6 a7 a8 a9 N T X nw fv tn tw th tk kt kn xt xn)) [0, 1, 2, 3, 4, 5, 6, 7, 8, 9] (by decide) rfl
  have hFc := va_free (wc := (wX cA h0 a1 a2 a3 a4 a5 a6 a7 a8 a9 N T X nw fv tn tw th tk kt kn xt xn)) hD hS hA [0, 1, 2, 3, 4, 5, 6, 7, 8, 9] rfl
  refine va_calli (va_runV (C := RX0) (As := [.int (xs (i + 1))]) (rest := []) ⟨hx, hb, hml, hown, hts⟩ (cx_time l dC dI cA h0 a1 a2 a3 a4 a5 a6 a7 a8 a9 N T X nw fv tn tw th tk kt kn xt xn H.size (xs (i + 1)) hT hN.2 (fun j hj => (htr j hj).1)) (cwV 1 hts gL_law_X0_time rfl rfl rfl (by decide +kernel) ⟨Nat.le_of_ble_eq_true rfl, Nat.le_of_ble_eq_true rfl⟩) ⟨fun a U g mk q => by obtain ⟨q0, q1, qP, qK, qD⟩ := q; exact ⟨q0, q1, qP, va_K.moved (u := U) (U := U.calling g mk a) (Vm.Alike.refl U.vm) qK, qD⟩, va_recv hK hPc (ci := 0) (q0 := 0) rfl rfl, fun U hU hW => ⟨rfl, by rw [hU], by rw [hU]; exact hPc, va_K.moved hW.alike hK, hDc.weaken (fun _ _ _ _ => trivial)⟩⟩ rfl rfl hl.1 rfl (lv_room (Nat.le_of_ble_eq_true rfl)) dL_law_253 ⟨Nat.le_of_ble_eq_true rfl, Nat.le_of_ble_eq_true rfl⟩) hS (fun q _ h => hFc q h) hFc (fun r1 u1 t9 H1 locs ht9 hvm h_r1 hB hz1 hk1 hS => ?_)
  obtain ⟨hP1, hK1, hD1⟩ := hB
  rw [ht9] at hP1
  obtain ⟨hP2, hD2⟩ := va_join (wr := (wM cA g0 b1 b2 b3 b4 b5 b6 b7 b8 b9 N T X nw fv tn tw th tk kt kn xt xn)) (w1 := (wX cA h0 a1 a2 a3 a4 a5 a6 a7 a8 a9 N T X u1.1 u1.2 tn tw th tk kt kn xt xn)) hP hD [0, 1, 2, 3, 4, 5, 6, 7, 8, 9] [10, 11, 12, 13, 14, 15, 16, 17, 18, 19] rfl rfl (by decide) (by decide) hk1 hFc hP1 hD1
  clear hP hD hP1 hD1 hPc hDc hFc hk1 hz1 ht9 hvm hK1
  generalize H1 = H at hP2 hS ⊢
  have hP : va_P (dC, dI) vwCl ((wM cA g0 b1 b2 b3 b4 b5 b6 b7 b8 b9 N T X nw fv tn tw th tk kt kn xt xn) ++ (wX cA h0 a1 a2 a3 a4 a5 a6 a7 a8 a9 N T X u1.1 u1.2 tn tw th tk kt kn xt xn)) H := hP2
  have hD : va_D (fun q : Nat => s.heap.size ≤ q) ((wM cA g0 b1 b2 b3 b4 b5 b6 b7 b8 b9 N T X nw fv tn tw th tk kt kn xt xn) ++ (wX cA h0 a1 a2 a3 a4 a5 a6 a7 a8 a9 N T X u1.1 u1.2 tn tw th tk kt kn xt xn)) := hD2
  clear hP2 hD2
  refine lv_aload_n hx hb dL_law_256 rfl (lv_at hl 3 rfl) ?_
  refine lv_aload_n hx hb dL_law_257 rfl (lv_at hl 1 rfl) ?_
  refine lv_iload_n hx hb dL_law_258 rfl (lv_at hl 0 rfl) ?_
  refine lv_iconst (v := (nI 1)) hx hb dL_law_259 (by decide) ?_
  refine lv_iadd hx hb dL_law_260 ?_
  refine tp_i (y := nI (i + 1)) (nI_add i 1) ?_
  refine va_sld hx hb hX hbl hbA hS (vp_in_nI (n := i + 1) (by omega) (by omega)) dL_law_261 ?_
  refine tp_i (y := (xs (i + 1))) (by rw [nI_clamp (by omega)]) ?_
  have hPc := hP.sub (ws' := (wM cA g0 b1 b2 b3 b4 b5 b6 b7 b8 b9 N T X nw fv tn tw th tk kt kn xt xn)) [0, 1, 2, 3, 4, 5, 6, 7, 8, 9] rfl
  have hDc := hD.sub (ws' := (wM cA g0 b1 b2 b3 b4 b5 b6 b7 b8 b9 N T X nw fv tn tw th tk kt kn xt xn)) [0, 1, 2, 3, 4, 5, 6, 7, 8, 9] (by decide) rfl
  have hFc := va_free (wc := (wM cA g0 b1 b2 b3 b4 b5 b6 b7 b8 b9 N T X nw fv tn tw th tk kt kn xt xn)) hD hS hA [0, 1, 2, 3, 4, 5, 6, 7, 8, 9] rfl
  refine va_calli (va_runV (C := RX1) (As := [.int (xs (i + 1))]) (rest := [.int r1]) ⟨hx, hb, hml, hown, hts⟩ (cm_time l dC dI cA g0 b1 b2 b3 b4 b5 b6 b7 b8 b9 N T X nw fv tn tw th tk kt kn xt xn H.size (xs (i + 1)) hT hN.2 htr) (cwV 1 hts gL_law_X1_time rfl rfl rfl (by decide +kernel) ⟨Nat.le_of_ble_eq_true rfl, Nat.le_of_ble_eq_true rfl⟩) ⟨fun a U g mk q => by obtain ⟨q0, q1, qP, qK, qD⟩ := q; exact ⟨q0, q1, qP, va_K.moved (u := U) (U := U.calling g mk a) (Vm.Alike.refl U.vm) qK, qD⟩, va_recv hK hPc (ci := 1) (q0 := 0) rfl rfl, fun U hU hW => ⟨rfl, by rw [hU], by rw [hU]; exact hPc, va_K.moved hW.alike hK, hDc.weaken (fun _ _ _ _ => trivial)⟩⟩ rfl rfl hl.1 rfl (lv_room (Nat.le_of_ble_eq_true rfl)) dL_law_262 ⟨Nat.le_of_ble_eq_true rfl, Nat.le_of_ble_eq_true rfl⟩) hS (fun q _ h => hFc q h) hFc (fun r2 u2 t9 H1 locs ht9 hvm h_r2 hB hz1 hk1 hS => ?_)
  obtain ⟨hP1, hK1, hD1⟩ := hB
  rw [ht9] at hP1
  obtain ⟨hP2, hD2⟩ := va_join (wr := (wX cA h0 a1 a2 a3 a4 a5 a6 a7 a8 a9 N T X u1.1 u1.2 tn tw th tk kt kn xt xn)) (w1 := (wM cA g0 b1 b2 b3 b4 b5 b6 b7 b8 b9 N T X u2.1 u2.2 tn tw th tk kt kn xt xn)) hP hD [0, 1, 2, 3, 4, 5, 6, 7, 8, 9] [10, 11, 12, 13, 14, 15, 16, 17, 18, 19] rfl rfl (by decide) (by decide) hk1 hFc hP1 hD1
  clear hP hD hP1 hD1 hPc hDc hFc hk1 hz1 ht9 hvm hK1
  generalize H1 = H at hP2 hS ⊢
  have hP : va_P (dC, dI) vwCl ((wX cA h0 a1 a2 a3 a4 a5 a6 a7 a8 a9 N T X u1.1 u1.2 tn tw th tk kt kn xt xn) ++ (wM cA g0 b1 b2 b3 b4 b5 b6 b7 b8 b9 N T X u2.1 u2.2 tn tw th tk kt kn xt xn)) H := hP2
  have hD : va_D (fun q : Nat => s.heap.size ≤ q) ((wX cA h0 a1 a2 a3 a4 a5 a6 a7 a8 a9 N T X u1.1 u1.2 tn tw th tk kt kn xt xn) ++ (wM cA g0 b1 b2 b3 b4 b5 b6 b7 b8 b9 N T X u2.1 u2.2 tn tw th tk kt kn xt xn)) := hD2
  clear hP2 hD2
  obtain ⟨hr12, hu⟩ := same2 h_r1 h_r2
  subst hu
  refine lv_icmp_eq (tgt := 380) hx hb dL_law_265 (by decide) (fun c1 => ?_) (fun c1 => ?_)
  · skip
    have c1 := c1
    exact hC T X u1.1 u1.2 tn tw th tk kt kn xt xn H locs ls hG hP hD hS hl
  · skip
    have c1 := c1
    exact absurd hr12 c1
set_option maxHeartbeats 4000000 in
set_option maxRecDepth 100000 in
/-- the law's case 4: value -/
theorem law_c4 {p : Program} {e : Env} {s : State} {m : MethodId} {below : List Frame} {meth : Method} {c : Code} (l : Launch) {b L : Nat} {xs : Nat → Int32} (hL : L ≤ 3073) (C0 : lw_At p s m meth c b L xs) (dC : Nat → ClassId) (dI : Nat → Nat → Nat) (cA : ClassId) (hK : va_K (dC, dI) vwCl [(cA, .int)] s) (h0 a1 a2 a3 a4 a5 a6 a7 a8 a9 g0 b1 b2 b3 b4 b5 b6 b7 b8 b9 N i : Nat) (hi : i + 6 ≤ L) (hC : lw_C p l e s m below meth c b dC dI cA h0 a1 a2 a3 a4 a5 a6 a7 a8 a9 g0 b1 b2 b3 b4 b5 b6 b7 b8 b9 N i) (T X : Nat) (nw : Int32) (fv tn tw th tk kt kn xt xn : Nat → Int32) (H : Heap) (locs : List Loc) (ls : Array Slot) (hG : iG N T X tn tw th tk kt xt) (hP : va_P (dC, dI) vwCl ((wX cA h0 a1 a2 a3 a4 a5 a6 a7 a8 a9 N T X nw fv tn tw th tk kt kn xt xn) ++ (wM cA g0 b1 b2 b3 b4 b5 b6 b7 b8 b9 N T X nw fv tn tw th tk kt kn xt xn)) H) (hD : va_D (fun q : Nat => s.heap.size ≤ q) ((wX cA h0 a1 a2 a3 a4 a5 a6 a7 a8 a9 N T X nw fv tn tw th tk kt kn xt xn) ++ (wM cA g0 b1 b2 b3 b4 b5 b6 b7 b8 b9 N T X nw fv tn tw th tk kt kn xt xn))) (hS : va_S (fun q : Nat => s.heap.size ≤ q) s.heap H locs) (hl : lv_has ls 4 [(3, .int (nI i)), (0, .ref b), (1, .ref h0), (2, .ref g0)]) : W p l e room_1 s m #[Value.ref b] below meth c H locs 20 9595 (lw_Z below #[Value.ref b] s) (F0 m 270 ls []) := by
  obtain ⟨hx, hb, hr, hml, hown0, hts, hX, hbl, hlocks, hgv⟩ := id C0
  have hown : s.vm.findClass RL = some m.cls := hown0
  have hA : ∀ q : Nat, s.heap.size ≤ q → (fun q : Nat => s.heap.size ≤ q) q := fun _ h => h
  have hbA : ¬ (fun q : Nat => s.heap.size ≤ q) b := Nat.not_le.mpr hbl
  obtain ⟨hN, hT, hX32, htr, hgx⟩ := id hG
  refine lv_aload_n hx hb dL_law_270 rfl (lv_at hl 2 rfl) ?_
  refine lv_aload_n hx hb dL_law_271 rfl (lv_at hl 1 rfl) ?_
  refine lv_iload_n hx hb dL_law_272 rfl (lv_at hl 0 rfl) ?_
  refine lv_iconst (v := (nI 1)) hx hb dL_law_273 (by decide) ?_
  refine lv_iadd hx hb dL_law_274 ?_
  refine tp_i (y := nI (i + 1)) (nI_add i 1) ?_
  refine va_sld hx hb hX hbl hbA hS (vp_in_nI (n := i + 1) (by omega) (by omega)) dL_law_275 ?_
  refine tp_i (y := (xs (i + 1))) (by rw [nI_clamp (by omega)]) ?_
  refine lv_aload_n hx hb dL_law_276 rfl (lv_at hl 1 rfl) ?_
  refine lv_iload_n hx hb dL_law_277 rfl (lv_at hl 0 rfl) ?_
  refine lv_iconst (v := (nI 2)) hx hb dL_law_278 (by decide) ?_
  refine lv_iadd hx hb dL_law_279 ?_
  refine tp_i (y := nI (i + 2)) (nI_add i 2) ?_
  refine va_sld hx hb hX hbl hbA hS (vp_in_nI (n := i + 2) (by omega) (by omega)) dL_law_280 ?_
  refine tp_i (y := (xs (i + 2))) (by rw [nI_clamp (by omega)]) ?_
  refine lv_aload_n hx hb dL_law_281 rfl (lv_at hl 1 rfl) ?_
  refine lv_iload_n hx hb dL_law_282 rfl (lv_at hl 0 rfl) ?_
  refine lv_iconst (v := (nI 3)) hx hb dL_law_283 (by decide) ?_
  refine lv_iadd hx hb dL_law_284 ?_
  refine tp_i (y := nI (i + 3)) (nI_add i 3) ?_
  refine va_sld hx hb hX hbl hbA hS (vp_in_nI (n := i + 3) (by omega) (by omega)) dL_law_285 ?_
  refine tp_i (y := (xs (i + 3))) (by rw [nI_clamp (by omega)]) ?_
  have hPc := hP.sub (ws' := (wX cA h0 a1 a2 a3 a4 a5 a6 a7 a8 a9 N T X nw fv tn tw th tk kt kn xt xn)) [0, 1, 2, 3, 4, 5, 6, 7, 8, 9] rfl
  refine vp_callSi (W.runV (C := RX0) (As := [.int (xs (i + 1)), .int (xs (i + 2)), .int (xs (i + 3))]) (rest := []) ⟨hx, hb, hml, hown, hts⟩ (cx_value l dC dI cA h0 a1 a2 a3 a4 a5 a6 a7 a8 a9 N T X nw fv tn tw th tk kt kn xt xn (xs (i + 1)) (xs (i + 2)) (xs (i + 3)) hN.2) (cwV 3 hts gL_law_X0_value rfl rfl rfl (by decide +kernel) ⟨Nat.le_of_ble_eq_true rfl, Nat.le_of_ble_eq_true rfl⟩) ⟨fun a U g mk q => ⟨q.1, q.2.1, va_K.moved (u := U) (U := U.calling g mk a) (Vm.Alike.refl U.vm) q.2.2⟩, va_recv hK hPc (ci := 0) (q0 := 0) rfl rfl, fun U hU hW => ⟨rfl, by rw [hU]; exact hPc, va_K.moved hW.alike hK⟩⟩ rfl rfl hl.1 rfl (lv_room (Nat.le_of_ble_eq_true rfl)) dL_law_286 ⟨Nat.le_of_ble_eq_true rfl, Nat.le_of_ble_eq_true rfl⟩) (fun r1 h_r1 => ?_)
  clear hPc
  refine lv_aload_n hx hb dL_law_289 rfl (lv_at hl 3 rfl) ?_
  refine lv_aload_n hx hb dL_law_290 rfl (lv_at hl 1 rfl) ?_
  refine lv_iload_n hx hb dL_law_291 rfl (lv_at hl 0 rfl) ?_
  refine lv_iconst (v := (nI 1)) hx hb dL_law_292 (by decide) ?_
  refine lv_iadd hx hb dL_law_293 ?_
  refine tp_i (y := nI (i + 1)) (nI_add i 1) ?_
  refine va_sld hx hb hX hbl hbA hS (vp_in_nI (n := i + 1) (by omega) (by omega)) dL_law_294 ?_
  refine tp_i (y := (xs (i + 1))) (by rw [nI_clamp (by omega)]) ?_
  refine lv_aload_n hx hb dL_law_295 rfl (lv_at hl 1 rfl) ?_
  refine lv_iload_n hx hb dL_law_296 rfl (lv_at hl 0 rfl) ?_
  refine lv_iconst (v := (nI 2)) hx hb dL_law_297 (by decide) ?_
  refine lv_iadd hx hb dL_law_298 ?_
  refine tp_i (y := nI (i + 2)) (nI_add i 2) ?_
  refine va_sld hx hb hX hbl hbA hS (vp_in_nI (n := i + 2) (by omega) (by omega)) dL_law_299 ?_
  refine tp_i (y := (xs (i + 2))) (by rw [nI_clamp (by omega)]) ?_
  refine lv_aload_n hx hb dL_law_300 rfl (lv_at hl 1 rfl) ?_
  refine lv_iload_n hx hb dL_law_301 rfl (lv_at hl 0 rfl) ?_
  refine lv_iconst (v := (nI 3)) hx hb dL_law_302 (by decide) ?_
  refine lv_iadd hx hb dL_law_303 ?_
  refine tp_i (y := nI (i + 3)) (nI_add i 3) ?_
  refine va_sld hx hb hX hbl hbA hS (vp_in_nI (n := i + 3) (by omega) (by omega)) dL_law_304 ?_
  refine tp_i (y := (xs (i + 3))) (by rw [nI_clamp (by omega)]) ?_
  have hPc := hP.sub (ws' := (wM cA g0 b1 b2 b3 b4 b5 b6 b7 b8 b9 N T X nw fv tn tw th tk kt kn xt xn)) [10, 11, 12, 13, 14, 15, 16, 17, 18, 19] rfl
  have hDc := hD.sub (ws' := (wM cA g0 b1 b2 b3 b4 b5 b6 b7 b8 b9 N T X nw fv tn tw th tk kt kn xt xn)) [10, 11, 12, 13, 14, 15, 16, 17, 18, 19] (by decide) rfl
  have hFc := va_free (wc := (wM cA g0 b1 b2 b3 b4 b5 b6 b7 b8 b9 N T X nw fv tn tw th tk kt kn xt xn)) hD hS hA [10, 11, 12, 13, 14, 15, 16, 17, 18, 19] rfl
  refine va_calli (va_runV (C := RX1) (As := [.int (xs (i + 1)), .int (xs (i + 2)), .int (xs (i + 3))]) (rest := [.int r1]) ⟨hx, hb, hml, hown, hts⟩ (cm_value l dC dI cA g0 b1 b2 b3 b4 b5 b6 b7 b8 b9 N T X nw fv tn tw th tk kt kn xt xn H.size (xs (i + 1)) (xs (i + 2)) (xs (i + 3)) hN.2) (cwV 3 hts gL_law_X1_value rfl rfl rfl (by decide +kernel) ⟨Nat.le_of_ble_eq_true rfl, Nat.le_of_ble_eq_true rfl⟩) ⟨fun a U g mk q => by obtain ⟨q0, q1, qP, qK, qD⟩ := q; exact ⟨q0, q1, qP, va_K.moved (u := U) (U := U.calling g mk a) (Vm.Alike.refl U.vm) qK, qD⟩, va_recv hK hPc (ci := 1) (q0 := 0) rfl rfl, fun U hU hW => ⟨rfl, by rw [hU], by rw [hU]; exact hPc, va_K.moved hW.alike hK, hDc.weaken (fun _ _ _ _ => trivial)⟩⟩ rfl rfl hl.1 rfl (lv_room (Nat.le_of_ble_eq_true rfl)) dL_law_305 ⟨Nat.le_of_ble_eq_true rfl, Nat.le_of_ble_eq_true rfl⟩) hS (fun q _ h => hFc q h) hFc (fun r2 u2 t9 H1 locs ht9 hvm h_r2 hB hz1 hk1 hS => ?_)
  obtain ⟨hP1, hK1, hD1⟩ := hB
  rw [ht9] at hP1
  obtain ⟨hP2, hD2⟩ := va_join (wr := (wX cA h0 a1 a2 a3 a4 a5 a6 a7 a8 a9 N T X nw fv tn tw th tk kt kn xt xn)) (w1 := (wM cA g0 b1 b2 b3 b4 b5 b6 b7 b8 b9 N T X nw fv tn tw th tk kt kn xt xn)) hP hD [10, 11, 12, 13, 14, 15, 16, 17, 18, 19] [0, 1, 2, 3, 4, 5, 6, 7, 8, 9] rfl rfl (by decide) (by decide) hk1 hFc hP1 hD1
  clear hP hD hP1 hD1 hPc hDc hFc hk1 hz1 ht9 hvm hK1
  generalize H1 = H at hP2 hS ⊢
  have hP : va_P (dC, dI) vwCl ((wX cA h0 a1 a2 a3 a4 a5 a6 a7 a8 a9 N T X nw fv tn tw th tk kt kn xt xn) ++ (wM cA g0 b1 b2 b3 b4 b5 b6 b7 b8 b9 N T X nw fv tn tw th tk kt kn xt xn)) H := hP2
  have hD : va_D (fun q : Nat => s.heap.size ≤ q) ((wX cA h0 a1 a2 a3 a4 a5 a6 a7 a8 a9 N T X nw fv tn tw th tk kt kn xt xn) ++ (wM cA g0 b1 b2 b3 b4 b5 b6 b7 b8 b9 N T X nw fv tn tw th tk kt kn xt xn)) := hD2
  clear hP2 hD2
  have hr12 := same1 h_r1 h_r2
  refine lv_icmp_eq (tgt := 380) hx hb dL_law_308 (by decide) (fun c1 => ?_) (fun c1 => ?_)
  · skip
    have c1 := c1
    exact hC T X nw fv tn tw th tk kt kn xt xn H locs ls hG hP hD hS hl
  · skip
    have c1 := c1
    exact absurd hr12 c1
set_option maxHeartbeats 4000000 in
set_option maxRecDepth 100000 in
/-- the law's case 5: count -/
theorem law_c5 {p : Program} {e : Env} {s : State} {m : MethodId} {below : List Frame} {meth : Method} {c : Code} (l : Launch) {b L : Nat} {xs : Nat → Int32} (hL : L ≤ 3073) (C0 : lw_At p s m meth c b L xs) (dC : Nat → ClassId) (dI : Nat → Nat → Nat) (cA : ClassId) (hK : va_K (dC, dI) vwCl [(cA, .int)] s) (h0 a1 a2 a3 a4 a5 a6 a7 a8 a9 g0 b1 b2 b3 b4 b5 b6 b7 b8 b9 N i : Nat) (hi : i + 6 ≤ L) (hC : lw_C p l e s m below meth c b dC dI cA h0 a1 a2 a3 a4 a5 a6 a7 a8 a9 g0 b1 b2 b3 b4 b5 b6 b7 b8 b9 N i) (T X : Nat) (nw : Int32) (fv tn tw th tk kt kn xt xn : Nat → Int32) (H : Heap) (locs : List Loc) (ls : Array Slot) (hG : iG N T X tn tw th tk kt xt) (hP : va_P (dC, dI) vwCl ((wX cA h0 a1 a2 a3 a4 a5 a6 a7 a8 a9 N T X nw fv tn tw th tk kt kn xt xn) ++ (wM cA g0 b1 b2 b3 b4 b5 b6 b7 b8 b9 N T X nw fv tn tw th tk kt kn xt xn)) H) (hD : va_D (fun q : Nat => s.heap.size ≤ q) ((wX cA h0 a1 a2 a3 a4 a5 a6 a7 a8 a9 N T X nw fv tn tw th tk kt kn xt xn) ++ (wM cA g0 b1 b2 b3 b4 b5 b6 b7 b8 b9 N T X nw fv tn tw th tk kt kn xt xn))) (hS : va_S (fun q : Nat => s.heap.size ≤ q) s.heap H locs) (hl : lv_has ls 4 [(3, .int (nI i)), (0, .ref b), (1, .ref h0), (2, .ref g0)]) : W p l e room_1 s m #[Value.ref b] below meth c H locs 20 9595 (lw_Z below #[Value.ref b] s) (F0 m 313 ls []) := by
  obtain ⟨hx, hb, hr, hml, hown0, hts, hX, hbl, hlocks, hgv⟩ := id C0
  have hown : s.vm.findClass RL = some m.cls := hown0
  have hA : ∀ q : Nat, s.heap.size ≤ q → (fun q : Nat => s.heap.size ≤ q) q := fun _ h => h
  have hbA : ¬ (fun q : Nat => s.heap.size ≤ q) b := Nat.not_le.mpr hbl
  obtain ⟨hN, hT, hX32, htr, hgx⟩ := id hG
  refine lv_aload_n hx hb dL_law_313 rfl (lv_at hl 2 rfl) ?_
  refine lv_aload_n hx hb dL_law_314 rfl (lv_at hl 1 rfl) ?_
  refine lv_iload_n hx hb dL_law_315 rfl (lv_at hl 0 rfl) ?_
  refine lv_iconst (v := (nI 1)) hx hb dL_law_316 (by decide) ?_
  refine lv_iadd hx hb dL_law_317 ?_
  refine tp_i (y := nI (i + 1)) (nI_add i 1) ?_
  refine va_sld hx hb hX hbl hbA hS (vp_in_nI (n := i + 1) (by omega) (by omega)) dL_law_318 ?_
  refine tp_i (y := (xs (i + 1))) (by rw [nI_clamp (by omega)]) ?_
  have hPc := hP.sub (ws' := (wX cA h0 a1 a2 a3 a4 a5 a6 a7 a8 a9 N T X nw fv tn tw th tk kt kn xt xn)) [0, 1, 2, 3, 4, 5, 6, 7, 8, 9] rfl
  refine vp_callSi (W.runV (C := RX0) (As := [.int (xs (i + 1))]) (rest := []) ⟨hx, hb, hml, hown, hts⟩ (cx_count l dC dI cA h0 a1 a2 a3 a4 a5 a6 a7 a8 a9 N T X nw fv tn tw th tk kt kn xt xn (xs (i + 1)) hT) (cwV 1 hts gL_law_X0_count rfl rfl rfl (by decide +kernel) ⟨Nat.le_of_ble_eq_true rfl, Nat.le_of_ble_eq_true rfl⟩) ⟨fun a U g mk q => ⟨q.1, q.2.1, va_K.moved (u := U) (U := U.calling g mk a) (Vm.Alike.refl U.vm) q.2.2⟩, va_recv hK hPc (ci := 0) (q0 := 0) rfl rfl, fun U hU hW => ⟨rfl, by rw [hU]; exact hPc, va_K.moved hW.alike hK⟩⟩ rfl rfl hl.1 rfl (lv_room (Nat.le_of_ble_eq_true rfl)) dL_law_319 ⟨Nat.le_of_ble_eq_true rfl, Nat.le_of_ble_eq_true rfl⟩) (fun r1 h_r1 => ?_)
  clear hPc
  refine lv_aload_n hx hb dL_law_322 rfl (lv_at hl 3 rfl) ?_
  refine lv_aload_n hx hb dL_law_323 rfl (lv_at hl 1 rfl) ?_
  refine lv_iload_n hx hb dL_law_324 rfl (lv_at hl 0 rfl) ?_
  refine lv_iconst (v := (nI 1)) hx hb dL_law_325 (by decide) ?_
  refine lv_iadd hx hb dL_law_326 ?_
  refine tp_i (y := nI (i + 1)) (nI_add i 1) ?_
  refine va_sld hx hb hX hbl hbA hS (vp_in_nI (n := i + 1) (by omega) (by omega)) dL_law_327 ?_
  refine tp_i (y := (xs (i + 1))) (by rw [nI_clamp (by omega)]) ?_
  have hPc := hP.sub (ws' := (wM cA g0 b1 b2 b3 b4 b5 b6 b7 b8 b9 N T X nw fv tn tw th tk kt kn xt xn)) [10, 11, 12, 13, 14, 15, 16, 17, 18, 19] rfl
  have hDc := hD.sub (ws' := (wM cA g0 b1 b2 b3 b4 b5 b6 b7 b8 b9 N T X nw fv tn tw th tk kt kn xt xn)) [10, 11, 12, 13, 14, 15, 16, 17, 18, 19] (by decide) rfl
  have hFc := va_free (wc := (wM cA g0 b1 b2 b3 b4 b5 b6 b7 b8 b9 N T X nw fv tn tw th tk kt kn xt xn)) hD hS hA [10, 11, 12, 13, 14, 15, 16, 17, 18, 19] rfl
  refine va_calli (va_runV (C := RX1) (As := [.int (xs (i + 1))]) (rest := [.int r1]) ⟨hx, hb, hml, hown, hts⟩ (cm_count l dC dI cA g0 b1 b2 b3 b4 b5 b6 b7 b8 b9 N T X nw fv tn tw th tk kt kn xt xn H.size (xs (i + 1)) hT) (cwV 1 hts gL_law_X1_count rfl rfl rfl (by decide +kernel) ⟨Nat.le_of_ble_eq_true rfl, Nat.le_of_ble_eq_true rfl⟩) ⟨fun a U g mk q => by obtain ⟨q0, q1, qP, qK, qD⟩ := q; exact ⟨q0, q1, qP, va_K.moved (u := U) (U := U.calling g mk a) (Vm.Alike.refl U.vm) qK, qD⟩, va_recv hK hPc (ci := 1) (q0 := 0) rfl rfl, fun U hU hW => ⟨rfl, by rw [hU], by rw [hU]; exact hPc, va_K.moved hW.alike hK, hDc.weaken (fun _ _ _ _ => trivial)⟩⟩ rfl rfl hl.1 rfl (lv_room (Nat.le_of_ble_eq_true rfl)) dL_law_328 ⟨Nat.le_of_ble_eq_true rfl, Nat.le_of_ble_eq_true rfl⟩) hS (fun q _ h => hFc q h) hFc (fun r2 u2 t9 H1 locs ht9 hvm h_r2 hB hz1 hk1 hS => ?_)
  obtain ⟨hP1, hK1, hD1⟩ := hB
  rw [ht9] at hP1
  obtain ⟨hP2, hD2⟩ := va_join (wr := (wX cA h0 a1 a2 a3 a4 a5 a6 a7 a8 a9 N T X nw fv tn tw th tk kt kn xt xn)) (w1 := (wM cA g0 b1 b2 b3 b4 b5 b6 b7 b8 b9 N T X nw fv tn tw th tk kt kn xt xn)) hP hD [10, 11, 12, 13, 14, 15, 16, 17, 18, 19] [0, 1, 2, 3, 4, 5, 6, 7, 8, 9] rfl rfl (by decide) (by decide) hk1 hFc hP1 hD1
  clear hP hD hP1 hD1 hPc hDc hFc hk1 hz1 ht9 hvm hK1
  generalize H1 = H at hP2 hS ⊢
  have hP : va_P (dC, dI) vwCl ((wX cA h0 a1 a2 a3 a4 a5 a6 a7 a8 a9 N T X nw fv tn tw th tk kt kn xt xn) ++ (wM cA g0 b1 b2 b3 b4 b5 b6 b7 b8 b9 N T X nw fv tn tw th tk kt kn xt xn)) H := hP2
  have hD : va_D (fun q : Nat => s.heap.size ≤ q) ((wX cA h0 a1 a2 a3 a4 a5 a6 a7 a8 a9 N T X nw fv tn tw th tk kt kn xt xn) ++ (wM cA g0 b1 b2 b3 b4 b5 b6 b7 b8 b9 N T X nw fv tn tw th tk kt kn xt xn)) := hD2
  clear hP2 hD2
  have hr12 := h_r1.trans h_r2.symm
  refine lv_icmp_eq (tgt := 380) hx hb dL_law_331 (by decide) (fun c1 => ?_) (fun c1 => ?_)
  · skip
    have c1 := c1
    exact hC T X nw fv tn tw th tk kt kn xt xn H locs ls hG hP hD hS hl
  · skip
    have c1 := c1
    exact absurd hr12 c1
set_option maxHeartbeats 4000000 in
set_option maxRecDepth 100000 in
/-- the law's case 6: about -/
theorem law_c6 {p : Program} {e : Env} {s : State} {m : MethodId} {below : List Frame} {meth : Method} {c : Code} (l : Launch) {b L : Nat} {xs : Nat → Int32} (hL : L ≤ 3073) (C0 : lw_At p s m meth c b L xs) (dC : Nat → ClassId) (dI : Nat → Nat → Nat) (cA : ClassId) (hK : va_K (dC, dI) vwCl [(cA, .int)] s) (h0 a1 a2 a3 a4 a5 a6 a7 a8 a9 g0 b1 b2 b3 b4 b5 b6 b7 b8 b9 N i : Nat) (hi : i + 6 ≤ L) (hC : lw_C p l e s m below meth c b dC dI cA h0 a1 a2 a3 a4 a5 a6 a7 a8 a9 g0 b1 b2 b3 b4 b5 b6 b7 b8 b9 N i) (T X : Nat) (nw : Int32) (fv tn tw th tk kt kn xt xn : Nat → Int32) (H : Heap) (locs : List Loc) (ls : Array Slot) (hG : iG N T X tn tw th tk kt xt) (hP : va_P (dC, dI) vwCl ((wX cA h0 a1 a2 a3 a4 a5 a6 a7 a8 a9 N T X nw fv tn tw th tk kt kn xt xn) ++ (wM cA g0 b1 b2 b3 b4 b5 b6 b7 b8 b9 N T X nw fv tn tw th tk kt kn xt xn)) H) (hD : va_D (fun q : Nat => s.heap.size ≤ q) ((wX cA h0 a1 a2 a3 a4 a5 a6 a7 a8 a9 N T X nw fv tn tw th tk kt kn xt xn) ++ (wM cA g0 b1 b2 b3 b4 b5 b6 b7 b8 b9 N T X nw fv tn tw th tk kt kn xt xn))) (hS : va_S (fun q : Nat => s.heap.size ≤ q) s.heap H locs) (hl : lv_has ls 4 [(3, .int (nI i)), (0, .ref b), (1, .ref h0), (2, .ref g0)]) : W p l e room_1 s m #[Value.ref b] below meth c H locs 20 9595 (lw_Z below #[Value.ref b] s) (F0 m 336 ls []) := by
  obtain ⟨hx, hb, hr, hml, hown0, hts, hX, hbl, hlocks, hgv⟩ := id C0
  have hown : s.vm.findClass RL = some m.cls := hown0
  have hA : ∀ q : Nat, s.heap.size ≤ q → (fun q : Nat => s.heap.size ≤ q) q := fun _ h => h
  have hbA : ¬ (fun q : Nat => s.heap.size ≤ q) b := Nat.not_le.mpr hbl
  obtain ⟨hN, hT, hX32, htr, hgx⟩ := id hG
  refine lv_aload_n hx hb dL_law_336 rfl (lv_at hl 2 rfl) ?_
  refine lv_aload_n hx hb dL_law_337 rfl (lv_at hl 1 rfl) ?_
  refine lv_iload_n hx hb dL_law_338 rfl (lv_at hl 0 rfl) ?_
  refine lv_iconst (v := (nI 1)) hx hb dL_law_339 (by decide) ?_
  refine lv_iadd hx hb dL_law_340 ?_
  refine tp_i (y := nI (i + 1)) (nI_add i 1) ?_
  refine va_sld hx hb hX hbl hbA hS (vp_in_nI (n := i + 1) (by omega) (by omega)) dL_law_341 ?_
  refine tp_i (y := (xs (i + 1))) (by rw [nI_clamp (by omega)]) ?_
  refine lv_aload_n hx hb dL_law_342 rfl (lv_at hl 1 rfl) ?_
  refine lv_iload_n hx hb dL_law_343 rfl (lv_at hl 0 rfl) ?_
  refine lv_iconst (v := (nI 2)) hx hb dL_law_344 (by decide) ?_
  refine lv_iadd hx hb dL_law_345 ?_
  refine tp_i (y := nI (i + 2)) (nI_add i 2) ?_
  refine va_sld hx hb hX hbl hbA hS (vp_in_nI (n := i + 2) (by omega) (by omega)) dL_law_346 ?_
  refine tp_i (y := (xs (i + 2))) (by rw [nI_clamp (by omega)]) ?_
  have hPc := hP.sub (ws' := (wX cA h0 a1 a2 a3 a4 a5 a6 a7 a8 a9 N T X nw fv tn tw th tk kt kn xt xn)) [0, 1, 2, 3, 4, 5, 6, 7, 8, 9] rfl
  refine vp_callSi (W.runV (C := RX0) (As := [.int (xs (i + 1)), .int (xs (i + 2))]) (rest := []) ⟨hx, hb, hml, hown, hts⟩ (cx_about l dC dI cA h0 a1 a2 a3 a4 a5 a6 a7 a8 a9 N T X nw fv tn tw th tk kt kn xt xn (xs (i + 1)) (xs (i + 2)) hT) (cwV 2 hts gL_law_X0_about rfl rfl rfl (by decide +kernel) ⟨Nat.le_of_ble_eq_true rfl, Nat.le_of_ble_eq_true rfl⟩) ⟨fun a U g mk q => ⟨q.1, q.2.1, va_K.moved (u := U) (U := U.calling g mk a) (Vm.Alike.refl U.vm) q.2.2⟩, va_recv hK hPc (ci := 0) (q0 := 0) rfl rfl, fun U hU hW => ⟨rfl, by rw [hU]; exact hPc, va_K.moved hW.alike hK⟩⟩ rfl rfl hl.1 rfl (lv_room (Nat.le_of_ble_eq_true rfl)) dL_law_347 ⟨Nat.le_of_ble_eq_true rfl, Nat.le_of_ble_eq_true rfl⟩) (fun r1 h_r1 => ?_)
  clear hPc
  refine lv_aload_n hx hb dL_law_350 rfl (lv_at hl 3 rfl) ?_
  refine lv_aload_n hx hb dL_law_351 rfl (lv_at hl 1 rfl) ?_
  refine lv_iload_n hx hb dL_law_352 rfl (lv_at hl 0 rfl) ?_
  refine lv_iconst (v := (nI 1)) hx hb dL_law_353 (by decide) ?_
  refine lv_iadd hx hb dL_law_354 ?_
  refine tp_i (y := nI (i + 1)) (nI_add i 1) ?_
  refine va_sld hx hb hX hbl hbA hS (vp_in_nI (n := i + 1) (by omega) (by omega)) dL_law_355 ?_
  refine tp_i (y := (xs (i + 1))) (by rw [nI_clamp (by omega)]) ?_
  refine lv_aload_n hx hb dL_law_356 rfl (lv_at hl 1 rfl) ?_
  refine lv_iload_n hx hb dL_law_357 rfl (lv_at hl 0 rfl) ?_
  refine lv_iconst (v := (nI 2)) hx hb dL_law_358 (by decide) ?_
  refine lv_iadd hx hb dL_law_359 ?_
  refine tp_i (y := nI (i + 2)) (nI_add i 2) ?_
  refine va_sld hx hb hX hbl hbA hS (vp_in_nI (n := i + 2) (by omega) (by omega)) dL_law_360 ?_
  refine tp_i (y := (xs (i + 2))) (by rw [nI_clamp (by omega)]) ?_
  have hPc := hP.sub (ws' := (wM cA g0 b1 b2 b3 b4 b5 b6 b7 b8 b9 N T X nw fv tn tw th tk kt kn xt xn)) [10, 11, 12, 13, 14, 15, 16, 17, 18, 19] rfl
  have hDc := hD.sub (ws' := (wM cA g0 b1 b2 b3 b4 b5 b6 b7 b8 b9 N T X nw fv tn tw th tk kt kn xt xn)) [10, 11, 12, 13, 14, 15, 16, 17, 18, 19] (by decide) rfl
  have hFc := va_free (wc := (wM cA g0 b1 b2 b3 b4 b5 b6 b7 b8 b9 N T X nw fv tn tw th tk kt kn xt xn)) hD hS hA [10, 11, 12, 13, 14, 15, 16, 17, 18, 19] rfl
  refine va_calli (va_runV (C := RX1) (As := [.int (xs (i + 1)), .int (xs (i + 2))]) (rest := [.int r1]) ⟨hx, hb, hml, hown, hts⟩ (cm_about l dC dI cA g0 b1 b2 b3 b4 b5 b6 b7 b8 b9 N T X nw fv tn tw th tk kt kn xt xn H.size (xs (i + 1)) (xs (i + 2)) hT) (cwV 2 hts gL_law_X1_about rfl rfl rfl (by decide +kernel) ⟨Nat.le_of_ble_eq_true rfl, Nat.le_of_ble_eq_true rfl⟩) ⟨fun a U g mk q => by obtain ⟨q0, q1, qP, qK, qD⟩ := q; exact ⟨q0, q1, qP, va_K.moved (u := U) (U := U.calling g mk a) (Vm.Alike.refl U.vm) qK, qD⟩, va_recv hK hPc (ci := 1) (q0 := 0) rfl rfl, fun U hU hW => ⟨rfl, by rw [hU], by rw [hU]; exact hPc, va_K.moved hW.alike hK, hDc.weaken (fun _ _ _ _ => trivial)⟩⟩ rfl rfl hl.1 rfl (lv_room (Nat.le_of_ble_eq_true rfl)) dL_law_361 ⟨Nat.le_of_ble_eq_true rfl, Nat.le_of_ble_eq_true rfl⟩) hS (fun q _ h => hFc q h) hFc (fun r2 u2 t9 H1 locs ht9 hvm h_r2 hB hz1 hk1 hS => ?_)
  obtain ⟨hP1, hK1, hD1⟩ := hB
  rw [ht9] at hP1
  obtain ⟨hP2, hD2⟩ := va_join (wr := (wX cA h0 a1 a2 a3 a4 a5 a6 a7 a8 a9 N T X nw fv tn tw th tk kt kn xt xn)) (w1 := (wM cA g0 b1 b2 b3 b4 b5 b6 b7 b8 b9 N T X nw fv tn tw th tk kt kn xt xn)) hP hD [10, 11, 12, 13, 14, 15, 16, 17, 18, 19] [0, 1, 2, 3, 4, 5, 6, 7, 8, 9] rfl rfl (by decide) (by decide) hk1 hFc hP1 hD1
  clear hP hD hP1 hD1 hPc hDc hFc hk1 hz1 ht9 hvm hK1
  generalize H1 = H at hP2 hS ⊢
  have hP : va_P (dC, dI) vwCl ((wX cA h0 a1 a2 a3 a4 a5 a6 a7 a8 a9 N T X nw fv tn tw th tk kt kn xt xn) ++ (wM cA g0 b1 b2 b3 b4 b5 b6 b7 b8 b9 N T X nw fv tn tw th tk kt kn xt xn)) H := hP2
  have hD : va_D (fun q : Nat => s.heap.size ≤ q) ((wX cA h0 a1 a2 a3 a4 a5 a6 a7 a8 a9 N T X nw fv tn tw th tk kt kn xt xn) ++ (wM cA g0 b1 b2 b3 b4 b5 b6 b7 b8 b9 N T X nw fv tn tw th tk kt kn xt xn)) := hD2
  clear hP2 hD2
  have hr12 := same1 h_r1 h_r2
  refine lv_icmp_eq (tgt := 380) hx hb dL_law_364 (by decide) (fun c1 => ?_) (fun c1 => ?_)
  · skip
    have c1 := c1
    exact hC T X nw fv tn tw th tk kt kn xt xn H locs ls hG hP hD hS hl
  · skip
    have c1 := c1
    exact absurd hr12 c1
set_option maxHeartbeats 4000000 in
set_option maxRecDepth 100000 in
/-- the law's case 7: clear -/
theorem law_c7 {p : Program} {e : Env} {s : State} {m : MethodId} {below : List Frame} {meth : Method} {c : Code} (l : Launch) {b L : Nat} {xs : Nat → Int32} (hL : L ≤ 3073) (C0 : lw_At p s m meth c b L xs) (dC : Nat → ClassId) (dI : Nat → Nat → Nat) (cA : ClassId) (hK : va_K (dC, dI) vwCl [(cA, .int)] s) (h0 a1 a2 a3 a4 a5 a6 a7 a8 a9 g0 b1 b2 b3 b4 b5 b6 b7 b8 b9 N i : Nat) (hi : i + 6 ≤ L) (hC : lw_C p l e s m below meth c b dC dI cA h0 a1 a2 a3 a4 a5 a6 a7 a8 a9 g0 b1 b2 b3 b4 b5 b6 b7 b8 b9 N i) (T X : Nat) (nw : Int32) (fv tn tw th tk kt kn xt xn : Nat → Int32) (H : Heap) (locs : List Loc) (ls : Array Slot) (hG : iG N T X tn tw th tk kt xt) (hP : va_P (dC, dI) vwCl ((wX cA h0 a1 a2 a3 a4 a5 a6 a7 a8 a9 N T X nw fv tn tw th tk kt kn xt xn) ++ (wM cA g0 b1 b2 b3 b4 b5 b6 b7 b8 b9 N T X nw fv tn tw th tk kt kn xt xn)) H) (hD : va_D (fun q : Nat => s.heap.size ≤ q) ((wX cA h0 a1 a2 a3 a4 a5 a6 a7 a8 a9 N T X nw fv tn tw th tk kt kn xt xn) ++ (wM cA g0 b1 b2 b3 b4 b5 b6 b7 b8 b9 N T X nw fv tn tw th tk kt kn xt xn))) (hS : va_S (fun q : Nat => s.heap.size ≤ q) s.heap H locs) (hl : lv_has ls 4 [(3, .int (nI i)), (0, .ref b), (1, .ref h0), (2, .ref g0)]) : W p l e room_1 s m #[Value.ref b] below meth c H locs 20 9595 (lw_Z below #[Value.ref b] s) (F0 m 369 ls []) := by
  obtain ⟨hx, hb, hr, hml, hown0, hts, hX, hbl, hlocks, hgv⟩ := id C0
  have hown : s.vm.findClass RL = some m.cls := hown0
  have hA : ∀ q : Nat, s.heap.size ≤ q → (fun q : Nat => s.heap.size ≤ q) q := fun _ h => h
  have hbA : ¬ (fun q : Nat => s.heap.size ≤ q) b := Nat.not_le.mpr hbl
  obtain ⟨hN, hT, hX32, htr, hgx⟩ := id hG
  refine lv_aload_n hx hb dL_law_369 rfl (lv_at hl 2 rfl) ?_
  have hPc := hP.sub (ws' := (wX cA h0 a1 a2 a3 a4 a5 a6 a7 a8 a9 N T X nw fv tn tw th tk kt kn xt xn)) [0, 1, 2, 3, 4, 5, 6, 7, 8, 9] rfl
  have hDc := hD.sub (ws' := (wX cA h0 a1 a2 a3 a4 a5 a6 a7 a8 a9 N T X nw fv tn tw th tk kt kn xt xn)) [0, 1, 2, 3, 4, 5, 6, 7, 8, 9] (by decide) rfl
  have hFc := va_free (wc := (wX cA h0 a1 a2 a3 a4 a5 a6 a7 a8 a9 N T X nw fv tn tw th tk kt kn xt xn)) hD hS hA [0, 1, 2, 3, 4, 5, 6, 7, 8, 9] rfl
  refine va_callv (va_runV (C := RX0) (As := []) (rest := []) ⟨hx, hb, hml, hown, hts⟩ (cx_clear l dC dI cA h0 a1 a2 a3 a4 a5 a6 a7 a8 a9 N T X nw fv tn tw th tk kt kn xt xn H.size) (cwV 0 hts gL_law_X0_clear rfl rfl rfl (by decide +kernel) ⟨Nat.le_of_ble_eq_true rfl, Nat.le_of_ble_eq_true rfl⟩) ⟨fun a U g mk q => by obtain ⟨q0, q1, qP, qK, qD⟩ := q; exact ⟨q0, q1, qP, va_K.moved (u := U) (U := U.calling g mk a) (Vm.Alike.refl U.vm) qK, qD⟩, va_recv hK hPc (ci := 0) (q0 := 0) rfl rfl, fun U hU hW => ⟨rfl, by rw [hU], by rw [hU]; exact hPc, va_K.moved hW.alike hK, hDc.weaken (fun _ _ _ _ => trivial)⟩⟩ rfl rfl hl.1 rfl (lv_room (Nat.le_of_ble_eq_true rfl)) dL_law_370 ⟨Nat.le_of_ble_eq_true rfl, Nat.le_of_ble_eq_true rfl⟩) hS (fun q _ h => hFc q h) hFc (fun u1 t9 H1 locs ht9 hvm h_r1 hB hz1 hk1 hS => ?_)
  obtain ⟨hP1, hK1, hD1⟩ := hB
  rw [ht9] at hP1
  obtain ⟨hP2, hD2⟩ := va_join (wr := (wM cA g0 b1 b2 b3 b4 b5 b6 b7 b8 b9 N T X nw fv tn tw th tk kt kn xt xn)) (w1 := (wX cA h0 a1 a2 a3 a4 a5 a6 a7 a8 a9 N 0 X nw fv tn tw th tk kt kn xt xn)) hP hD [0, 1, 2, 3, 4, 5, 6, 7, 8, 9] [10, 11, 12, 13, 14, 15, 16, 17, 18, 19] rfl rfl (by decide) (by decide) hk1 hFc hP1 hD1
  clear hP hD hP1 hD1 hPc hDc hFc hk1 hz1 ht9 hvm hK1
  generalize H1 = H at hP2 hS ⊢
  have hP : va_P (dC, dI) vwCl ((wM cA g0 b1 b2 b3 b4 b5 b6 b7 b8 b9 N T X nw fv tn tw th tk kt kn xt xn) ++ (wX cA h0 a1 a2 a3 a4 a5 a6 a7 a8 a9 N 0 X nw fv tn tw th tk kt kn xt xn)) H := hP2
  have hD : va_D (fun q : Nat => s.heap.size ≤ q) ((wM cA g0 b1 b2 b3 b4 b5 b6 b7 b8 b9 N T X nw fv tn tw th tk kt kn xt xn) ++ (wX cA h0 a1 a2 a3 a4 a5 a6 a7 a8 a9 N 0 X nw fv tn tw th tk kt kn xt xn)) := hD2
  clear hP2 hD2
  refine lv_aload_n hx hb dL_law_373 rfl (lv_at hl 3 rfl) ?_
  have hPc := hP.sub (ws' := (wM cA g0 b1 b2 b3 b4 b5 b6 b7 b8 b9 N T X nw fv tn tw th tk kt kn xt xn)) [0, 1, 2, 3, 4, 5, 6, 7, 8, 9] rfl
  have hDc := hD.sub (ws' := (wM cA g0 b1 b2 b3 b4 b5 b6 b7 b8 b9 N T X nw fv tn tw th tk kt kn xt xn)) [0, 1, 2, 3, 4, 5, 6, 7, 8, 9] (by decide) rfl
  have hFc := va_free (wc := (wM cA g0 b1 b2 b3 b4 b5 b6 b7 b8 b9 N T X nw fv tn tw th tk kt kn xt xn)) hD hS hA [0, 1, 2, 3, 4, 5, 6, 7, 8, 9] rfl
  refine va_callv (va_runV (C := RX1) (As := []) (rest := []) ⟨hx, hb, hml, hown, hts⟩ (cm_clear l dC dI cA g0 b1 b2 b3 b4 b5 b6 b7 b8 b9 N T X nw fv tn tw th tk kt kn xt xn H.size) (cwV 0 hts gL_law_X1_clear rfl rfl rfl (by decide +kernel) ⟨Nat.le_of_ble_eq_true rfl, Nat.le_of_ble_eq_true rfl⟩) ⟨fun a U g mk q => by obtain ⟨q0, q1, qP, qK, qD⟩ := q; exact ⟨q0, q1, qP, va_K.moved (u := U) (U := U.calling g mk a) (Vm.Alike.refl U.vm) qK, qD⟩, va_recv hK hPc (ci := 1) (q0 := 0) rfl rfl, fun U hU hW => ⟨rfl, by rw [hU], by rw [hU]; exact hPc, va_K.moved hW.alike hK, hDc.weaken (fun _ _ _ _ => trivial)⟩⟩ rfl rfl hl.1 rfl (lv_room (Nat.le_of_ble_eq_true rfl)) dL_law_374 ⟨Nat.le_of_ble_eq_true rfl, Nat.le_of_ble_eq_true rfl⟩) hS (fun q _ h => hFc q h) hFc (fun u2 t9 H1 locs ht9 hvm h_r2 hB hz1 hk1 hS => ?_)
  obtain ⟨hP1, hK1, hD1⟩ := hB
  rw [ht9] at hP1
  obtain ⟨hP2, hD2⟩ := va_join (wr := (wX cA h0 a1 a2 a3 a4 a5 a6 a7 a8 a9 N 0 X nw fv tn tw th tk kt kn xt xn)) (w1 := (wM cA g0 b1 b2 b3 b4 b5 b6 b7 b8 b9 N 0 X nw fv tn tw th tk kt kn xt xn)) hP hD [0, 1, 2, 3, 4, 5, 6, 7, 8, 9] [10, 11, 12, 13, 14, 15, 16, 17, 18, 19] rfl rfl (by decide) (by decide) hk1 hFc hP1 hD1
  clear hP hD hP1 hD1 hPc hDc hFc hk1 hz1 ht9 hvm hK1
  generalize H1 = H at hP2 hS ⊢
  have hP : va_P (dC, dI) vwCl ((wX cA h0 a1 a2 a3 a4 a5 a6 a7 a8 a9 N 0 X nw fv tn tw th tk kt kn xt xn) ++ (wM cA g0 b1 b2 b3 b4 b5 b6 b7 b8 b9 N 0 X nw fv tn tw th tk kt kn xt xn)) H := hP2
  have hD : va_D (fun q : Nat => s.heap.size ≤ q) ((wX cA h0 a1 a2 a3 a4 a5 a6 a7 a8 a9 N 0 X nw fv tn tw th tk kt kn xt xn) ++ (wM cA g0 b1 b2 b3 b4 b5 b6 b7 b8 b9 N 0 X nw fv tn tw th tk kt kn xt xn)) := hD2
  clear hP2 hD2
  refine lv_goto (tgt := 380) hx hb dL_law_377 (by decide) ?_
  exact hC 0 X nw fv tn tw th tk kt kn xt xn H locs ls (iG_clear hG) hP hD hS hl
end
section
set_option maxHeartbeats 4000000 in
set_option maxRecDepth 100000 in
/-- the law's loop -/
theorem law_loop {p : Program} {e : Env} {s : State} {m : MethodId} {below : List Frame} {meth : Method} {c : Code} (l : Launch) {b L : Nat} {xs : Nat → Int32} (hL : L ≤ 3073) (C0 : lw_At p s m meth c b L xs) (dC : Nat → ClassId) (dI : Nat → Nat → Nat) (cA : ClassId) (hK : va_K (dC, dI) vwCl [(cA, .int)] s) (h0 a1 a2 a3 a4 a5 a6 a7 a8 a9 g0 b1 b2 b3 b4 b5 b6 b7 b8 b9 N : Nat) : ∀ (n i : Nat), i ≤ 3080 → L + 1 ≤ i + n → ∀ (T X : Nat) (nw : Int32) (fv tn tw th tk kt kn xt xn : Nat → Int32) (H : Heap) (locs : List Loc) (ls : Array Slot), iG N T X tn tw th tk kt xt → va_P (dC, dI) vwCl ((wX cA h0 a1 a2 a3 a4 a5 a6 a7 a8 a9 N T X nw fv tn tw th tk kt kn xt xn) ++ (wM cA g0 b1 b2 b3 b4 b5 b6 b7 b8 b9 N T X nw fv tn tw th tk kt kn xt xn)) H → va_D (fun q : Nat => s.heap.size ≤ q) ((wX cA h0 a1 a2 a3 a4 a5 a6 a7 a8 a9 N T X nw fv tn tw th tk kt kn xt xn) ++ (wM cA g0 b1 b2 b3 b4 b5 b6 b7 b8 b9 N T X nw fv tn tw th tk kt kn xt xn)) → va_S (fun q : Nat => s.heap.size ≤ q) s.heap H locs → lv_has ls 4 [(3, .int (nI i)), (0, .ref b), (1, .ref h0), (2, .ref g0)] → W p l e room_1 s m #[Value.ref b] below meth c H locs 20 9595 (lw_Z below #[Value.ref b] s) (F0 m 28 ls []) := by
  obtain ⟨hx, hb, hr, hml, hown0, hts, hX, hbl, hlocks, hgv⟩ := id C0
  have hown : s.vm.findClass RL = some m.cls := hown0
  have hA : ∀ q : Nat, s.heap.size ≤ q → (fun q : Nat => s.heap.size ≤ q) q := fun _ h => h
  have hbA : ¬ (fun q : Nat => s.heap.size ≤ q) b := Nat.not_le.mpr hbl
  intro n
  induction n with
  | zero =>
    intro i hi3 hin T X nw fv tn tw th tk kt kn xt xn H locs ls hG hP hD hS hl
    have t1 : (nI i).toInt = i := nI_toInt (by omega)
    have t2 : (nI L - nI 6).toInt = (L : Int) - 6 := pk_sub_toInt (by omega) (by omega)
    refine lv_iload_n hx hb dL_law_28 rfl (lv_at hl 0 rfl) ?_
    refine lv_aload_n hx hb dL_law_29 rfl (lv_at hl 1 rfl) ?_
    refine va_slen hx hb hX hbl hbA hS dL_law_30 ?_
    refine tp_i (y := nI L) rfl ?_
    refine lv_bipush (v := (nI 6)) hx hb dL_law_31 (by decide) ?_
    refine lv_isub hx hb dL_law_33 ?_
    refine lv_icmp_gt (tgt := 386) hx hb dL_law_34 (by decide) (fun c1 => ?_) (fun c1 => ?_)
    · skip
      have c1 := zlt c1
      refine lv_iconst (v := 1) hx hb dL_law_386 (by decide) ?_
      refine va_forget hS.2.2 ?_
      refine W.widen (k := 600000) (n := 7302250) (by omega) (by omega) ?_
      exact lw_ret hx hb hr hlocks dL_law_387
    · skip
      have c1 := znlt c1
      exfalso; omega
  | succ n ih =>
    intro i hi3 hin T X nw fv tn tw th tk kt kn xt xn H locs ls hG hP hD hS hl
    have t1 : (nI i).toInt = i := nI_toInt (by omega)
    have t2 : (nI L - nI 6).toInt = (L : Int) - 6 := pk_sub_toInt (by omega) (by omega)
    refine lv_iload_n hx hb dL_law_28 rfl (lv_at hl 0 rfl) ?_
    refine lv_aload_n hx hb dL_law_29 rfl (lv_at hl 1 rfl) ?_
    refine va_slen hx hb hX hbl hbA hS dL_law_30 ?_
    refine tp_i (y := nI L) rfl ?_
    refine lv_bipush (v := (nI 6)) hx hb dL_law_31 (by decide) ?_
    refine lv_isub hx hb dL_law_33 ?_
    refine lv_icmp_gt (tgt := 386) hx hb dL_law_34 (by decide) (fun c2 => ?_) (fun c2 => ?_)
    · skip
      have c2 := zlt c2
      refine lv_iconst (v := 1) hx hb dL_law_386 (by decide) ?_
      refine va_forget hS.2.2 ?_
      refine W.widen (k := 600000) (n := 7302250) (by omega) (by omega) ?_
      exact lw_ret hx hb hr hlocks dL_law_387
    · skip
      have c2 := znlt c2
      have hi : i + 6 ≤ L := by omega
      refine lv_aload_n hx hb dL_law_37 rfl (lv_at hl 1 rfl) ?_
      refine lv_iload_n hx hb dL_law_38 rfl (lv_at hl 0 rfl) ?_
      refine va_sld hx hb hX hbl hbA hS (vp_in_nI (n := i) (by omega) (by omega)) dL_law_39 ?_
      refine tp_i (y := (xs i)) (by rw [nI_clamp (by omega)]) ?_
      refine lv_bipush (v := (nI 7)) hx hb dL_law_40 (by decide) ?_
      refine lv_iand hx hb dL_law_42 ?_
      obtain ⟨j, hj, ej⟩ := pk_andE (xs i) (m := nI 7) 3 (by decide)
      refine tp_i (y := nI j) ej ?_
      have hC : lw_C p l e s m below meth c b dC dI cA h0 a1 a2 a3 a4 a5 a6 a7 a8 a9 g0 b1 b2 b3 b4 b5 b6 b7 b8 b9 N i := by
        intro T X nw fv tn tw th tk kt kn xt xn H locs ls hG hP hD hS hl
        refine lv_iinc (v := nI (i + 6)) (lv' := [(3, .int (nI (i + 6))), (0, .ref b), (1, .ref h0), (2, .ref g0)]) hx hb dL_law_380 hl (k := 0) rfl (nI_add i 6) (by decide) rfl (fun ls hl => ?_)
        refine lv_goto (tgt := 28) hx hb dL_law_383 (by decide) ?_
        exact ih (i + 6) (by omega) (by omega) T X nw fv tn tw th tk kt kn xt xn H locs ls hG hP hD hS hl
      rcases (show j = 0 ∨ j = 1 ∨ j = 2 ∨ j = 3 ∨ j = 4 ∨ j = 5 ∨ j = 6 ∨ j = 7 by omega) with rfl | rfl | rfl | rfl | rfl | rfl | rfl | rfl
      · refine lv_tableIn (off := 45) (tgt := 88) hx hb dL_law_43 (by decide) (by decide) (by decide) (by decide) ?_
        exact law_c0 l hL C0 dC dI cA hK h0 a1 a2 a3 a4 a5 a6 a7 a8 a9 g0 b1 b2 b3 b4 b5 b6 b7 b8 b9 N i hi hC T X nw fv tn tw th tk kt kn xt xn H locs ls hG hP hD hS hl
      · refine lv_tableIn (off := 98) (tgt := 141) hx hb dL_law_43 (by decide) (by decide) (by decide) (by decide) ?_
        exact law_c1 l hL C0 dC dI cA hK h0 a1 a2 a3 a4 a5 a6 a7 a8 a9 g0 b1 b2 b3 b4 b5 b6 b7 b8 b9 N i hi hC T X nw fv tn tw th tk kt kn xt xn H locs ls hG hP hD hS hl
      · refine lv_tableIn (off := 141) (tgt := 184) hx hb dL_law_43 (by decide) (by decide) (by decide) (by decide) ?_
        exact law_c2 l hL C0 dC dI cA hK h0 a1 a2 a3 a4 a5 a6 a7 a8 a9 g0 b1 b2 b3 b4 b5 b6 b7 b8 b9 N i hi hC T X nw fv tn tw th tk kt kn xt xn H locs ls hG hP hD hS hl
      · refine lv_tableIn (off := 204) (tgt := 247) hx hb dL_law_43 (by decide) (by decide) (by decide) (by decide) ?_
        exact law_c3 l hL C0 dC dI cA hK h0 a1 a2 a3 a4 a5 a6 a7 a8 a9 g0 b1 b2 b3 b4 b5 b6 b7 b8 b9 N i hi hC T X nw fv tn tw th tk kt kn xt xn H locs ls hG hP hD hS hl
      · refine lv_tableIn (off := 227) (tgt := 270) hx hb dL_law_43 (by decide) (by decide) (by decide) (by decide) ?_
        exact law_c4 l hL C0 dC dI cA hK h0 a1 a2 a3 a4 a5 a6 a7 a8 a9 g0 b1 b2 b3 b4 b5 b6 b7 b8 b9 N i hi hC T X nw fv tn tw th tk kt kn xt xn H locs ls hG hP hD hS hl
      · refine lv_tableIn (off := 270) (tgt := 313) hx hb dL_law_43 (by decide) (by decide) (by decide) (by decide) ?_
        exact law_c5 l hL C0 dC dI cA hK h0 a1 a2 a3 a4 a5 a6 a7 a8 a9 g0 b1 b2 b3 b4 b5 b6 b7 b8 b9 N i hi hC T X nw fv tn tw th tk kt kn xt xn H locs ls hG hP hD hS hl
      · refine lv_tableIn (off := 293) (tgt := 336) hx hb dL_law_43 (by decide) (by decide) (by decide) (by decide) ?_
        exact law_c6 l hL C0 dC dI cA hK h0 a1 a2 a3 a4 a5 a6 a7 a8 a9 g0 b1 b2 b3 b4 b5 b6 b7 b8 b9 N i hi hC T X nw fv tn tw th tk kt kn xt xn H locs ls hG hP hD hS hl
      · refine lv_tableIn (off := 326) (tgt := 369) hx hb dL_law_43 (by decide) (by decide) (by decide) (by decide) ?_
        exact law_c7 l hL C0 dC dI cA hK h0 a1 a2 a3 a4 a5 a6 a7 a8 a9 g0 b1 b2 b3 b4 b5 b6 b7 b8 b9 N i hi hC T X nw fv tn tw th tk kt kn xt xn H locs ls hG hP hD hS hl
set_option maxHeartbeats 4000000 in
set_option maxRecDepth 100000 in
/-- cell(script, 0) -/
theorem cl_cell (l : Launch) (b L : Nat) (xs : Nat → Int32) (hL : L ≤ 3073) : Met l yL_cell wsL_cell ({ frames := 0, cells := 0, slots := 0, locals := 0 }) (va_Pc [.ref b, .int (nI 0)] (fun U => b < U.heap.size ∧ va_X b L xs U U.heap)) (vp_Si (fun r => r = if 0 < L then xs 0 else nI 0)) 0 0 (fun _ => False) := by
  refine Met.ofW (cc := cL_cell) (maxL := 2) (ret := (some .int)) (by decide) rfl ?_
  intro p e s m args below meth c s₁ B hml hv
  obtain ⟨rfl, hbl, hX⟩ := hv
  have hx := B.exec
  have hb := B.bytes
  have hr := B.returns
  have hts := atoms_spec (ws := wsL_cell) B.pre
  have hown : s.vm.findClass RL = some m.cls := findClass_of_methodNamed B.named
  have hlocks := B.notSynchronized
  have hl := lv_entry ([.ref b, .int (nI 0)]) (n := 2) (Nat.le_of_ble_eq_true rfl)
  rw [lg_entry_eq]
  generalize (lg_sl ([.ref b, .int (nI 0)]) ++ List.replicate (2 - (lg_sl ([.ref b, .int (nI 0)])).length) Slot.unset).toArray = ls at hl ⊢
  have hl : lv_has ls 2 [(0, .ref b), (1, .int (nI 0))] := hl
  have hbA : ¬ (fun _ : Nat => False) b := fun h => h
  have hS : va_S (fun _ => False) s.heap s.heap [] := va_S.rf
  have t0 : (nI 0).toInt = 0 := by decide
  have t1 : (nI L).toInt = L := nI_toInt (by omega)
  refine lv_iload_n hx hb dL_cell_0 rfl (lv_at hl 1 rfl) ?_
  refine lv_aload_n hx hb dL_cell_1 rfl (lv_at hl 0 rfl) ?_
  refine va_slen hx hb hX hbl hbA hS dL_cell_2 ?_
  refine tp_i (y := nI L) rfl ?_
  refine lv_icmp_ge (tgt := 12) hx hb dL_cell_3 (by decide) (fun c1 => ?_) (fun c1 => ?_)
  · skip
    have c1 := zle c1
    refine lv_iconst (v := (nI 0)) hx hb dL_cell_12 (by decide) ?_
    exact W.iret (v := (nI 0)) hx hb hr (fun t9 ht9 hW9 => ⟨_, rfl, by rw [if_neg (by omega)], ht9⟩) (fun q h => by cases h) dL_cell_13
  · skip
    have c1 := znle c1
    refine lv_aload_n hx hb dL_cell_6 rfl (lv_at hl 0 rfl) ?_
    refine lv_iload_n hx hb dL_cell_7 rfl (lv_at hl 1 rfl) ?_
    refine va_sld hx hb hX hbl hbA hS (vp_in_nI (n := 0) (by omega) (by omega)) dL_cell_8 ?_
    refine tp_i (y := (xs 0)) (by rw [nI_clamp (by omega)]) ?_
    refine lv_goto (tgt := 13) hx hb dL_cell_9 (by decide) ?_
    exact W.iret (v := (xs 0)) hx hb hr (fun t9 ht9 hW9 => ⟨_, rfl, by rw [if_pos (by omega)], ht9⟩) (fun q h => by cases h) dL_cell_13
set_option maxHeartbeats 4000000 in
set_option maxRecDepth 100000 in
/-- THE LAW, from its entry -/
theorem whole_start {p : Program} {e : Env} {s : State} {m : MethodId} {below : List Frame} {meth : Method} {c : Code} (l : Launch) {b L : Nat} {xs : Nat → Int32} (hL : L ≤ 3073) (C0 : lw_At p s m meth c b L xs) : W p l e room_1 s m #[Value.ref b] below meth c s.heap [] 0 0 (lw_Z below #[Value.ref b] s) (entryFrame m ([Value.ref b] : List Value).toArray 4) := by
  obtain ⟨hx, hb, hr, hml, hown0, hts, hX, hbl, hlocks, hgv⟩ := id C0
  have hown : s.vm.findClass RL = some m.cls := hown0
  have hA : ∀ q : Nat, s.heap.size ≤ q → (fun q : Nat => s.heap.size ≤ q) q := fun _ h => h
  have hbA : ¬ (fun q : Nat => s.heap.size ≤ q) b := Nat.not_le.mpr hbl
  obtain ⟨c0, iS0, hKn0⟩ := u_known (C := RX0) (T := TX0) (N := 13) (n := 13) hts inX0 (hts (.instantiable RX0 13) (by decide +kernel))
  obtain ⟨c1, iS1, hKn1⟩ := u_known (C := RX1) (T := TX1) (N := 14) (n := 14) hts inX1 (hts (.instantiable RX1 14) (by decide +kernel))
  obtain ⟨cA, hAr, hRA⟩ := arr_of (hts (.arrayClass .int) (by decide +kernel))
  obtain ⟨dC, dI, hKc⟩ : ∃ (dC : Nat → ClassId) (dI : Nat → Nat → Nat), ∀ (k : Nat) (q : vw_C), vwCl[k]? = some q → u_Kn s q.1 q.2.1 q.2.2 (dC k) (dI k) := by
    refine ⟨fun k => if k = 0 then c0 else c1, fun k => if k = 0 then iS0 else iS1, ?_⟩
    intro k q hq
    match k, hq with
    | 0, hq => cases hq; exact hKn0
    | 1, hq => cases hq; exact hKn1
    | k + 2, hq => simp [vwCl] at hq
  have hS : va_S (fun q : Nat => s.heap.size ≤ q) s.heap s.heap [] := va_S.rf
  have hK : va_K (dC, dI) vwCl [(cA, .int)] s := ⟨hKc, fun k q h => by
    match k, h with
    | 0, h => cases h; exact ⟨hAr, hRA⟩
    | k + 1, h => simp at h⟩
  have hP : va_P (dC, dI) vwCl [] s.heap := fun k q h => by simp at h
  have hD : va_D (fun q : Nat => s.heap.size ≤ q) [] := ⟨fun i j p q h => by simp at h, fun k q h => by simp at h⟩
  have hl := lv_entry ([.ref b]) (n := 4) (Nat.le_of_ble_eq_true rfl)
  rw [lg_entry_eq]
  generalize (lg_sl ([.ref b]) ++ List.replicate (4 - (lg_sl ([.ref b])).length) Slot.unset).toArray = ls at hl ⊢
  have hl : lv_has ls 4 [(0, .ref b)] := hl
  obtain ⟨N, eN⟩ : ∃ N, cl48 (if 0 < L then xs 0 else nI 0) = N := ⟨_, rfl⟩
  have hN := cl48_le (if 0 < L then xs 0 else nI 0)
  rw [eN] at hN
  refine va_new (ci := 0) (fs := [.int (nI 0), .null, .int (nI 0), .null, .null, .null, .null, .null, .null, .int (nI 0), .null, .null, .int (nI 0)]) (C := RX0) (T := TX0) (N := 13) hx hb hts inX0 tyX0 tyX0_ok hown (hts (.classLink RL 7 RX0) (by decide +kernel)) (hts (.instantiable RX0 13) (by decide +kernel)) (hts (.initialized RX0) (by decide +kernel)) hK hP hD hS hA rfl (fun j hj => by rcases (show j = 0 ∨ j = 1 ∨ j = 2 ∨ j = 3 ∨ j = 4 ∨ j = 5 ∨ j = 6 ∨ j = 7 ∨ j = 8 ∨ j = 9 ∨ j = 10 ∨ j = 11 ∨ j = 12 by omega) with rfl | rfl | rfl | rfl | rfl | rfl | rfl | rfl | rfl | rfl | rfl | rfl | rfl <;> rfl) (Nat.le_of_ble_eq_true rfl) (Nat.le_of_ble_eq_true rfl) dL_law_0 (fun h0 H hP hD hS => ?_)
  replace hP : va_P (dC, dI) vwCl [(h0, .inr (0, [.int (nI 0), .null, .int (nI 0), .null, .null, .null, .null, .null, .null, .int (nI 0), .null, .null, .int (nI 0)]))] H := hP
  replace hD : va_D (fun q : Nat => s.heap.size ≤ q) [(h0, .inr (0, [.int (nI 0), .null, .int (nI 0), .null, .null, .null, .null, .null, .null, .int (nI 0), .null, .null, .int (nI 0)]))] := hD
  refine W.widen (k := 1) (n := 13) (by omega) (by omega) ?_
  refine lv_dup hx hb dL_law_3 rfl ?_
  refine lv_aload_n hx hb dL_law_4 rfl (lv_at hl 0 rfl) ?_
  refine lv_iconst (v := nI 0) hx hb dL_law_5 (by decide) ?_
  have hXH : va_X b L xs s H := hX.kept (hS.2.1 b hbl hbA)
  have hbH : b < H.size := Nat.lt_of_lt_of_le hbl hS.1
  refine vp_callSi (W.runS (As := [.ref b, .int (nI 0)]) (rest := [.ref h0, .ref h0]) ⟨hx, hb, hml, hown, hts⟩ (cl_cell l b L xs hL) (va_cwS 2 hts gL_law_L_cell rfl rfl rfl (by decide +kernel) ⟨Nat.le_of_ble_eq_true rfl, Nat.le_of_ble_eq_true rfl⟩) ⟨fun a U g mk q => ⟨q.1, q.2.1, va_X.moved (u := U) (U := U.calling g mk a) (Vm.Alike.refl U.vm) q.2.2⟩, fun U hU hW => ⟨rfl, by rw [hU]; exact hbH, by rw [hU]; exact va_X.moved hW.alike hXH⟩⟩ rfl rfl hl.1 rfl (lv_room (Nat.le_of_ble_eq_true rfl)) dL_law_6 ⟨Nat.le_of_ble_eq_true rfl, Nat.le_of_ble_eq_true rfl⟩) (fun r1 h_r1 => ?_)
  clear hXH hbH
  have hPc := hP.sub (ws' := [(h0, .inr (0, [.int (nI 0), .null, .int (nI 0), .null, .null, .null, .null, .null, .null, .int (nI 0), .null, .null, .int (nI 0)]))]) [0] rfl
  have hDc := hD.sub (ws' := [(h0, .inr (0, [.int (nI 0), .null, .int (nI 0), .null, .null, .null, .null, .null, .null, .int (nI 0), .null, .null, .int (nI 0)]))]) [0] (by decide) rfl
  have hFc := va_free (wc := [(h0, .inr (0, [.int (nI 0), .null, .int (nI 0), .null, .null, .null, .null, .null, .null, .int (nI 0), .null, .null, .int (nI 0)]))]) hD hS hA [0] rfl
  refine va_callv (va_runI (As := [.int r1]) (rest := [.ref h0]) ⟨hx, hb, hml, hown, hts⟩ (cx_init l dC dI cA h0 N H.size r1 (by rw [h_r1]; exact eN)) (cwI 1 hts gL_law_X0_init rfl rfl rfl (hts (.initialized RX0) (by decide +kernel)) (hts (.methodLink RL 15 yX0_init) (by decide +kernel)) (hts (.instanceMethod yX0_init) (by decide +kernel)) rfl (by decide +kernel) ⟨Nat.le_of_ble_eq_true rfl, Nat.le_of_ble_eq_true rfl⟩) ⟨fun a U g mk q => by obtain ⟨q0, q1, qP, qK, qD⟩ := q; exact ⟨q0, q1, qP, va_K.moved (u := U) (U := U.calling g mk a) (Vm.Alike.refl U.vm) qK, qD⟩, fun U hU hW => ⟨rfl, by rw [hU], by rw [hU]; exact hPc, va_K.moved hW.alike hK, hDc.weaken (fun _ _ _ _ => trivial)⟩⟩ rfl rfl hl.1 rfl (lv_room (Nat.le_of_ble_eq_true rfl)) dL_law_9 ⟨Nat.le_of_ble_eq_true rfl, Nat.le_of_ble_eq_true rfl⟩) hS (fun q _ h => hFc q h) hFc (fun u9 t9 H1 locs ht9 hvm hw9 hB hz1 hk1 hS => ?_)
  obtain ⟨a1, a2, a3, a4, a5, a6, a7, a8, a9, hP1, hK1, hD1⟩ := hB
  rw [ht9] at hP1
  obtain ⟨hP2, hD2⟩ := va_join (wr := []) (w1 := (wX cA h0 a1 a2 a3 a4 a5 a6 a7 a8 a9 N 0 0 (nI 0) (ini N) (fun _ => 0) (fun _ => 0) (fun _ => 0) (fun _ => 0) (fun _ => 0) (fun _ => 0) (fun _ => 0) (fun _ => 0))) hP hD [0] [] rfl rfl (by decide) (by decide) hk1 hFc hP1 hD1
  clear hP hD hP1 hD1 hPc hDc hFc hk1 hz1 ht9 hvm hK1 hw9
  generalize H1 = H at hP2 hS ⊢
  have hP : va_P (dC, dI) vwCl (wX cA h0 a1 a2 a3 a4 a5 a6 a7 a8 a9 N 0 0 (nI 0) (ini N) (fun _ => 0) (fun _ => 0) (fun _ => 0) (fun _ => 0) (fun _ => 0) (fun _ => 0) (fun _ => 0) (fun _ => 0)) H := hP2
  have hD : va_D (fun q : Nat => s.heap.size ≤ q) (wX cA h0 a1 a2 a3 a4 a5 a6 a7 a8 a9 N 0 0 (nI 0) (ini N) (fun _ => 0) (fun _ => 0) (fun _ => 0) (fun _ => 0) (fun _ => 0) (fun _ => 0) (fun _ => 0) (fun _ => 0)) := hD2
  clear hP2 hD2
  refine W.widen (k := 10) (n := 4797) (by omega) (by omega) ?_
  refine lv_astore_n (lv' := [(1, .ref h0), (0, .ref b)]) hx hb dL_law_12 rfl hl (by decide) rfl (fun ls hl => ?_)
  refine va_new (ci := 1) (fs := [.int (nI 0), .int (nI 0), .null, .int (nI 0), .int (nI 0), .null, .null, .int (nI 0), .null, .null, .null, .null, .null, .null]) (C := RX1) (T := TX1) (N := 14) hx hb hts inX1 tyX1 tyX1_ok hown (hts (.classLink RL 18 RX1) (by decide +kernel)) (hts (.instantiable RX1 14) (by decide +kernel)) (hts (.initialized RX1) (by decide +kernel)) hK hP hD hS hA rfl (fun j hj => by rcases (show j = 0 ∨ j = 1 ∨ j = 2 ∨ j = 3 ∨ j = 4 ∨ j = 5 ∨ j = 6 ∨ j = 7 ∨ j = 8 ∨ j = 9 ∨ j = 10 ∨ j = 11 ∨ j = 12 ∨ j = 13 by omega) with rfl | rfl | rfl | rfl | rfl | rfl | rfl | rfl | rfl | rfl | rfl | rfl | rfl | rfl <;> rfl) (Nat.le_of_ble_eq_true rfl) (Nat.le_of_ble_eq_true rfl) dL_law_13 (fun g0 H hP hD hS => ?_)
  replace hP : va_P (dC, dI) vwCl ((wX cA h0 a1 a2 a3 a4 a5 a6 a7 a8 a9 N 0 0 (nI 0) (ini N) (fun _ => 0) (fun _ => 0) (fun _ => 0) (fun _ => 0) (fun _ => 0) (fun _ => 0) (fun _ => 0) (fun _ => 0)) ++ [(g0, .inr (1, [.int (nI 0), .int (nI 0), .null, .int (nI 0), .int (nI 0), .null, .null, .int (nI 0), .null, .null, .null, .null, .null, .null]))]) H := hP
  replace hD : va_D (fun q : Nat => s.heap.size ≤ q) ((wX cA h0 a1 a2 a3 a4 a5 a6 a7 a8 a9 N 0 0 (nI 0) (ini N) (fun _ => 0) (fun _ => 0) (fun _ => 0) (fun _ => 0) (fun _ => 0) (fun _ => 0) (fun _ => 0) (fun _ => 0)) ++ [(g0, .inr (1, [.int (nI 0), .int (nI 0), .null, .int (nI 0), .int (nI 0), .null, .null, .int (nI 0), .null, .null, .null, .null, .null, .null]))]) := hD
  refine W.widen (k := 11) (n := 4811) (by omega) (by omega) ?_
  refine lv_dup hx hb dL_law_16 rfl ?_
  refine lv_aload_n hx hb dL_law_17 rfl (lv_at hl 1 rfl) ?_
  refine lv_iconst (v := nI 0) hx hb dL_law_18 (by decide) ?_
  have hXH : va_X b L xs s H := hX.kept (hS.2.1 b hbl hbA)
  have hbH : b < H.size := Nat.lt_of_lt_of_le hbl hS.1
  refine vp_callSi (W.runS (As := [.ref b, .int (nI 0)]) (rest := [.ref g0, .ref g0]) ⟨hx, hb, hml, hown, hts⟩ (cl_cell l b L xs hL) (va_cwS 2 hts gL_law_L_cell rfl rfl rfl (by decide +kernel) ⟨Nat.le_of_ble_eq_true rfl, Nat.le_of_ble_eq_true rfl⟩) ⟨fun a U g mk q => ⟨q.1, q.2.1, va_X.moved (u := U) (U := U.calling g mk a) (Vm.Alike.refl U.vm) q.2.2⟩, fun U hU hW => ⟨rfl, by rw [hU]; exact hbH, by rw [hU]; exact va_X.moved hW.alike hXH⟩⟩ rfl rfl hl.1 rfl (lv_room (Nat.le_of_ble_eq_true rfl)) dL_law_19 ⟨Nat.le_of_ble_eq_true rfl, Nat.le_of_ble_eq_true rfl⟩) (fun r2 h_r2 => ?_)
  clear hXH hbH
  have hPc := hP.sub (ws' := [(g0, .inr (1, [.int (nI 0), .int (nI 0), .null, .int (nI 0), .int (nI 0), .null, .null, .int (nI 0), .null, .null, .null, .null, .null, .null]))]) [10] rfl
  have hDc := hD.sub (ws' := [(g0, .inr (1, [.int (nI 0), .int (nI 0), .null, .int (nI 0), .int (nI 0), .null, .null, .int (nI 0), .null, .null, .null, .null, .null, .null]))]) [10] (by decide) rfl
  have hFc := va_free (wc := [(g0, .inr (1, [.int (nI 0), .int (nI 0), .null, .int (nI 0), .int (nI 0), .null, .null, .int (nI 0), .null, .null, .null, .null, .null, .null]))]) hD hS hA [10] rfl
  refine va_callv (va_runI (As := [.int r2]) (rest := [.ref g0]) ⟨hx, hb, hml, hown, hts⟩ (cm_init l dC dI cA g0 N H.size r2 (by rw [h_r2]; exact eN)) (cwI 1 hts gL_law_X1_init rfl rfl rfl (hts (.initialized RX1) (by decide +kernel)) (hts (.methodLink RL 20 yX1_init) (by decide +kernel)) (hts (.instanceMethod yX1_init) (by decide +kernel)) rfl (by decide +kernel) ⟨Nat.le_of_ble_eq_true rfl, Nat.le_of_ble_eq_true rfl⟩) ⟨fun a U g mk q => by obtain ⟨q0, q1, qP, qK, qD⟩ := q; exact ⟨q0, q1, qP, va_K.moved (u := U) (U := U.calling g mk a) (Vm.Alike.refl U.vm) qK, qD⟩, fun U hU hW => ⟨rfl, by rw [hU], by rw [hU]; exact hPc, va_K.moved hW.alike hK, hDc.weaken (fun _ _ _ _ => trivial)⟩⟩ rfl rfl hl.1 rfl (lv_room (Nat.le_of_ble_eq_true rfl)) dL_law_22 ⟨Nat.le_of_ble_eq_true rfl, Nat.le_of_ble_eq_true rfl⟩) hS (fun q _ h => hFc q h) hFc (fun u9 t9 H1 locs ht9 hvm hw9 hB hz1 hk1 hS => ?_)
  obtain ⟨b1, b2, b3, b4, b5, b6, b7, b8, b9, hP1, hK1, hD1⟩ := hB
  rw [ht9] at hP1
  obtain ⟨hP2, hD2⟩ := va_join (wr := (wX cA h0 a1 a2 a3 a4 a5 a6 a7 a8 a9 N 0 0 (nI 0) (ini N) (fun _ => 0) (fun _ => 0) (fun _ => 0) (fun _ => 0) (fun _ => 0) (fun _ => 0) (fun _ => 0) (fun _ => 0))) (w1 := (wM cA g0 b1 b2 b3 b4 b5 b6 b7 b8 b9 N 0 0 (nI 0) (ini N) (fun _ => 0) (fun _ => 0) (fun _ => 0) (fun _ => 0) (fun _ => 0) (fun _ => 0) (fun _ => 0) (fun _ => 0))) hP hD [10] [0, 1, 2, 3, 4, 5, 6, 7, 8, 9] rfl rfl (by decide) (by decide) hk1 hFc hP1 hD1
  clear hP hD hP1 hD1 hPc hDc hFc hk1 hz1 ht9 hvm hK1 hw9
  generalize H1 = H at hP2 hS ⊢
  have hP : va_P (dC, dI) vwCl ((wX cA h0 a1 a2 a3 a4 a5 a6 a7 a8 a9 N 0 0 (nI 0) (ini N) (fun _ => 0) (fun _ => 0) (fun _ => 0) (fun _ => 0) (fun _ => 0) (fun _ => 0) (fun _ => 0) (fun _ => 0)) ++ (wM cA g0 b1 b2 b3 b4 b5 b6 b7 b8 b9 N 0 0 (nI 0) (ini N) (fun _ => 0) (fun _ => 0) (fun _ => 0) (fun _ => 0) (fun _ => 0) (fun _ => 0) (fun _ => 0) (fun _ => 0))) H := hP2
  have hD : va_D (fun q : Nat => s.heap.size ≤ q) ((wX cA h0 a1 a2 a3 a4 a5 a6 a7 a8 a9 N 0 0 (nI 0) (ini N) (fun _ => 0) (fun _ => 0) (fun _ => 0) (fun _ => 0) (fun _ => 0) (fun _ => 0) (fun _ => 0) (fun _ => 0)) ++ (wM cA g0 b1 b2 b3 b4 b5 b6 b7 b8 b9 N 0 0 (nI 0) (ini N) (fun _ => 0) (fun _ => 0) (fun _ => 0) (fun _ => 0) (fun _ => 0) (fun _ => 0) (fun _ => 0) (fun _ => 0))) := hD2
  clear hP2 hD2
  refine W.widen (k := 20) (n := 9595) (by omega) (by omega) ?_
  refine lv_astore_n (lv' := [(2, .ref g0), (1, .ref h0), (0, .ref b)]) hx hb dL_law_25 rfl hl (by decide) rfl (fun ls hl => ?_)
  refine lv_iconst (v := nI 1) hx hb dL_law_26 (by decide) ?_
  refine lv_istore_n (lv' := [(3, .int (nI 1)), (2, .ref g0), (1, .ref h0), (0, .ref b)]) hx hb dL_law_27 rfl hl (by decide) rfl (fun ls hl => ?_)
  exact law_loop l hL C0 dC dI cA hK h0 a1 a2 a3 a4 a5 a6 a7 a8 a9 g0 b1 b2 b3 b4 b5 b6 b7 b8 b9 N L 1 (by omega) (by omega) 0 0 (nI 0) (ini N) (fun _ => 0) (fun _ => 0) (fun _ => 0) (fun _ => 0) (fun _ => 0) (fun _ => 0) (fun _ => 0) (fun _ => 0) H locs ls (iG_0 hN) hP hD hS (lv_sub hl [0, 3, 2, 1] rfl)
end
section
-- ===== YOUR PART ENDS =====
set_option maxHeartbeats 4000000 in
theorem lw_walk (l : Launch) (b : Addr) (xs : List Int32) : MetFree l x (headSpec (Jvm.Cond.code x code maxLocals ret :: tables_1) room_1) (lw_P b xs) (fun _ _ _ _ _ => True) lw_Q := by
  refine MetFree.of_bodyS (code := code) (maxLocals := maxLocals) (ret := ret) (by decide) ?_ ?_
  · intro args s m h hn
    obtain ⟨meth, c, h1, h2, h3, h4, h5, h6, -, -⟩ := Cond.code_spec hn (atoms_spec (ws := Jvm.Cond.code x code maxLocals ret :: tables_1) h _ List.mem_cons_self)
    exact ⟨meth, c, h1, h2, h3, h4, h5, h6⟩
  · intro p e s m args below meth c s₁ B hml0 hP _
    obtain ⟨rfl, hx, hbd, hgv⟩ := hP
    obtain ⟨scr, harrAt, hlist, hof, hsmall⟩ := hx
    obtain ⟨hcb, hkn, -, -⟩ := State.arrayAt?_spec harrAt
    have hown : s.vm.findClass R_law = some m.cls := findClass_of_methodNamed B.named
    have hts0 : ∀ c ∈ (Jvm.Cond.code x code maxLocals ret :: tables_1), c.before #[Value.ref b] s = true := atoms_spec (ws := Jvm.Cond.code x code maxLocals ret :: tables_1) B.pre
    have hts : ∀ w ∈ lw_tbl, w.before #[Value.ref b] s = true := k2_hts_sels lw_privs (fun w hw => hts0 w (List.mem_cons_of_mem _ hw)) lw_privs_ok
    have hml : c.maxLocals = 4 := B.maxLocals_eq (hts0 _ List.mem_cons_self)
    have X₀ : Stand p l e room_1 s m #[Value.ref b] below meth c s₁ [] 0 0 := Stand.of_body B
    have hh0 : s₁.heap = s.heap := by rw [B.state]; rfl
    have hsz : scr.slots.size = xs.length := by rw [← Array.length_toList, hlist, List.length_map]
    have hval : ∀ j : Nat, j < xs.length → scr.slots[j]? = some (.int (xs.getD j 0)) := fun j hj => by
      rw [← Array.getElem?_toList, hlist]
      simp [hj]
    have hbl : b < s.heap.size := (Array.getElem?_eq_some_iff.mp hcb).1
    have hX : va_X b xs.length (fun j => xs.getD j 0) s s.heap := ⟨scr, hcb, hof, hkn, hsz, hval⟩
    have K : W p l e room_1 s m #[Value.ref b] below meth c s₁.heap [] 0 0 (lw_Z below #[Value.ref b] s) (entryFrame m ([Value.ref b] : List Value).toArray 4) := by
      rw [hh0]
      exact whole_start l hbd ⟨B.exec, B.bytes, B.returns, hml, hown, hts, hX, hbl, B.notSynchronized, hgv⟩
    obtain ⟨t, a1, o, b1, b2, b3⟩ := K s₁ rfl X₀
    exact ⟨t, o, a1, b1, b2, b3⟩
theorem lw_pre_spec {args : Array Value} {s : State} (h : (Jvm.Cond.and given_1 narrow_1).before args s = true) (hr : rest_1_c.before args s = true) : ∃ (b : Addr) (xs : List Int32), lw_P b xs args s := by
  have hs := flat_of_before _ h
  have hq := flat_of_before _ hr
  have hc : (Cond.count 1).before args s = true := hs _ (by decide +kernel)
  have harr : (Cond.arrayOf (.arg 0) .int).before args s = true := hs _ (by decide +kernel)
  have hle : (Cond.le (.length (.arg 0)) (.int 3073)).before args s = true := hs _ (by decide +kernel)
  have hlen : (Cond.isInt (.length (.arg 0))).before args s = true := hq _ (by decide +kernel)
  have hall : (Cond.all (.arg 0) (.isInt (.elem (.arg 0) (.index 0)))).before args s = true := hq _ (by decide +kernel)
  obtain ⟨b, xs, hb, hx⟩ := State.ints_of_pre rfl harr hlen hall
  have hsm : xs.length < 2 ^ 31 := hx.choose_spec.2.2.2
  have hev : (Term.length (.arg 0)).eval args s none [] s = some (.int xs.length.toInt32) := hx.length_eval hb
  have hv := Cond.le_ints hev (show (Term.int 3073).eval args s none [] s = some (.int 3073) from rfl)
  have hd : xs.length.toInt32 ≤ 3073 := by
    simpa [Cond.before, Cond.holds, hv] using hle
  have hN : xs.length ≤ 3073 := (Int32.ofNat_le_ofNat hsm (by decide)).mp (show Int32.ofNat xs.length ≤ Int32.ofNat 3073 from hd)
  exact ⟨b, xs, Cond.one_arg hc (show args[0]? = some (.ref b) from hb), hx, hN, h⟩
theorem lw_comes (l : Launch) : Comes l x (Jvm.Cond.code x code maxLocals ret :: tables_1) room_1 (fun tb e args s => Calls_1 tb e args s ∧ rest_1 tb e args s ∧ Pre_1 tb e args s)
    (fun _ _ args s o t => lw_Q args s o t) := by
  intro p e ha hc hk s m args below hf hfit hheap happ hpre
  obtain ⟨b, xs, hP⟩ := lw_pre_spec hpre.2.2 hpre.2.1
  obtain ⟨k, o, h1, h2, h3, hQ⟩ := lw_walk l b xs p e ha hc hk s m args below hf ((Spec.applies_iff_loose hf).mp happ).1 hP trivial
  exact ⟨k, o, h1, h2, h3, hQ⟩
theorem lw_frame {s t : State} {o : Outcome} {args : Array Value} (h : Framed s o t [] 600000 7302250) :
    Framed s o t (fieldLocs frame_1_writes args s ++ arrayLocs frame_1_arrays args s ++ staticLocs frame_1_statics s) 600000 7302250 := h
theorem lw_limb (L : Cond) (hL : ∀ (args : Array Value) (s t : State), L.after args s (.returned (some (.int 1))) t = true) :
    ArmFor flags0 classFile x code maxLocals ret World_1 tables_1 room_1 Calls_1 rest_1 Pre_1
      (fun tb e a s o t => postC L tb e a s o t ∧ Framed s o t (fieldLocs frame_1_writes a s ++ arrayLocs frame_1_arrays a s ++ staticLocs frame_1_statics s) 600000 7302250) := by
  intro l _ _ _ p e ha hc hk s m args below hf hfit hheap happ hpre
  obtain ⟨k, o, h1, h2, h3, rfl, hF⟩ := lw_comes l p e ha hc hk s m args below hf hfit hheap happ hpre
  exact ⟨k, _, h1, h2, h3, hL args s _, lw_frame hF⟩
theorem i_vc : Claimed_1_1 ∧ Claimed_1_2 := ⟨lw_limb limb_1_1 (fun args s t => by simp [limb_1_1, Cond.after, Cond.holds, Cond.value]), lw_limb limb_1_2 (fun args s t => Cond.after_iff.mpr (by
  first | (rw [show limb_1_2 = Cond.eq .result (.int 1) from rfl, Cond.eq_ints (x := 1) (y := 1) rfl rfl]; simp; done) | (simp [limb_1_2, Cond.value, Term.eval]; done)))⟩
end
