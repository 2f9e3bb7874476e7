-- ===== PART A: goes FIRST, ahead of the names: the tables' words, and 'selects' of the private methods out of them =====
/-- a private method of a class that the tables say can be made, by its rows of tables_1 -/
def lw_okq (q : MethodName × Nat) : Prop := (q.1.cls ≠ "java/lang/invoke/MethodHandle" ∧ q.1.cls ≠ "java/lang/invoke/VarHandle") ∧ Cond.instantiable q.1.cls q.2 ∈ tables_1 ∧ Cond.privateMethod q.1 ∈ tables_1 ∧ Cond.instanceMethod q.1 ∈ tables_1
theorem lw_p0 : lw_okq (⟨"MotionDesk", "isNode", "(I)Z"⟩, 13) := ⟨⟨by decide +kernel, by decide +kernel⟩, List.mem_of_getElem? (i := 6) (by decide +kernel), List.mem_of_getElem? (i := 88) (by decide +kernel), List.mem_of_getElem? (i := 89) (by decide +kernel)⟩
theorem lw_p1 : lw_okq (⟨"MotionDesk", "textFits", "(II)Z"⟩, 13) := ⟨⟨by decide +kernel, by decide +kernel⟩, List.mem_of_getElem? (i := 6) (by decide +kernel), List.mem_of_getElem? (i := 98) (by decide +kernel), List.mem_of_getElem? (i := 99) (by decide +kernel)⟩
theorem lw_p2 : lw_okq (⟨"MotionDesk", "play", "(I)V"⟩, 13) := ⟨⟨by decide +kernel, by decide +kernel⟩, List.mem_of_getElem? (i := 6) (by decide +kernel), List.mem_of_getElem? (i := 113) (by decide +kernel), List.mem_of_getElem? (i := 114) (by decide +kernel)⟩
theorem lw_p3 : lw_okq (⟨"MotionDesk", "keyInForce", "(II)I"⟩, 13) := ⟨⟨by decide +kernel, by decide +kernel⟩, List.mem_of_getElem? (i := 6) (by decide +kernel), List.mem_of_getElem? (i := 117) (by decide +kernel), List.mem_of_getElem? (i := 118) (by decide +kernel)⟩
theorem lw_p4 : lw_okq (⟨"MotionDesk", "between", "(III)I"⟩, 13) := ⟨⟨by decide +kernel, by decide +kernel⟩, List.mem_of_getElem? (i := 6) (by decide +kernel), List.mem_of_getElem? (i := 121) (by decide +kernel), List.mem_of_getElem? (i := 122) (by decide +kernel)⟩
theorem lw_p5 : lw_okq (⟨"MotionDesk", "keysOfAllTracks", "()I"⟩, 13) := ⟨⟨by decide +kernel, by decide +kernel⟩, List.mem_of_getElem? (i := 6) (by decide +kernel), List.mem_of_getElem? (i := 148) (by decide +kernel), List.mem_of_getElem? (i := 149) (by decide +kernel)⟩
theorem lw_p6 : lw_okq (⟨"MotionDeskModel", "there", "(II)Z"⟩, 14) := ⟨⟨by decide +kernel, by decide +kernel⟩, List.mem_of_getElem? (i := 163) (by decide +kernel), List.mem_of_getElem? (i := 227) (by decide +kernel), List.mem_of_getElem? (i := 228) (by decide +kernel)⟩
theorem lw_p7 : lw_okq (⟨"MotionDeskModel", "at", "(III)I"⟩, 14) := ⟨⟨by decide +kernel, by decide +kernel⟩, List.mem_of_getElem? (i := 163) (by decide +kernel), List.mem_of_getElem? (i := 239) (by decide +kernel), List.mem_of_getElem? (i := 240) (by decide +kernel)⟩
def lw_privs_1 : List (MethodName × Nat) := [(⟨"MotionDesk", "isNode", "(I)Z"⟩, 13), (⟨"MotionDesk", "textFits", "(II)Z"⟩, 13), (⟨"MotionDesk", "play", "(I)V"⟩, 13), (⟨"MotionDesk", "keyInForce", "(II)I"⟩, 13), (⟨"MotionDesk", "between", "(III)I"⟩, 13), (⟨"MotionDesk", "keysOfAllTracks", "()I"⟩, 13), (⟨"MotionDeskModel", "there", "(II)Z"⟩, 14), (⟨"MotionDeskModel", "at", "(III)I"⟩, 14)]
theorem lw_r1 : ∀ q ∈ lw_privs_1, lw_okq q := List.forall_mem_cons.mpr ⟨lw_p0, List.forall_mem_cons.mpr ⟨lw_p1, List.forall_mem_cons.mpr ⟨lw_p2, List.forall_mem_cons.mpr ⟨lw_p3, List.forall_mem_cons.mpr ⟨lw_p4, List.forall_mem_cons.mpr ⟨lw_p5, List.forall_mem_cons.mpr ⟨lw_p6, List.forall_mem_cons.mpr ⟨lw_p7, fun _ h => absurd h List.not_mem_nil⟩⟩⟩⟩⟩⟩⟩⟩
def lw_privs : List (MethodName × Nat) := lw_privs_1
def lw_tbl : List Cond := k2_sels lw_privs ++ tables_1
theorem lw_privs_ok : ∀ q ∈ lw_privs, lw_okq q := lw_r1

/-! ===== BEGIN words of one list among another's, by their places ===== -/
theorem goodIn_r {big : List Cond} (ws : List Cond) (ps : List Nat) (hp : ws = ps.filterMap (fun i => big[i]?)) (h : ws.all goodWord = true) : GoodIn big ws := by
  intro w hw
  have h1 := List.all_eq_true.mp h w hw
  rw [hp] at hw
  obtain ⟨i, -, hi⟩ := List.mem_filterMap.mp hw
  have hm : w ∈ big := by first | exact List.mem_of_getElem? hi | exact List.getElem?_mem hi
  exact ⟨hm, good_of_word h1⟩
theorem goodIn_app {big a b : List Cond} (ha : GoodIn big a) (hb : GoodIn big b) : GoodIn big (a ++ b) := fun w h => (List.mem_append.mp h).elim (ha w) (hb w)
theorem goodIn_ca {big a b : List Cond} {c : Cond} (ha : GoodIn big (c :: a)) (hb : GoodIn big b) : GoodIn big (c :: (a ++ b)) := fun w h => (List.mem_cons.mp h).elim (fun e => ha w (List.mem_cons.mpr (Or.inl e))) (fun h => (List.mem_append.mp h).elim (fun h => ha w (List.mem_cons.mpr (Or.inr h))) (hb w))
theorem goodIn_sub {big ws : List Cond} (hm : ∀ w ∈ ws, w ∈ big) (h : ws.all goodWord = true) : GoodIn big ws := fun w hw => ⟨hm w hw, good_of_word (List.all_eq_true.mp h w hw)⟩
/-! ===== END ===== -/

/-! ===== BEGIN printed: names, fields, word lists, decode rows ===== -/
def RX0 : String := "MotionDesk"
def TX0 : u_T := fun k => match k with
  | 0 => ("MotionDesk", "nodeCount", "I", true)
  | 1 => ("MotionDesk", "values", "[I", true)
  | 2 => ("MotionDesk", "trackCount", "I", false)
  | 3 => ("MotionDesk", "trackNode", "[I", true)
  | 4 => ("MotionDesk", "trackWhat", "[I", true)
  | 5 => ("MotionDesk", "trackHow", "[I", true)
  | 6 => ("MotionDesk", "trackKeys", "[I", true)
  | 7 => ("MotionDesk", "keyTimes", "[I", true)
  | 8 => ("MotionDesk", "keyNumbers", "[I", true)
  | 9 => ("MotionDesk", "textCount", "I", false)
  | 10 => ("MotionDesk", "textTimes", "[I", true)
  | 11 => ("MotionDesk", "textNumbers", "[I", true)
  | _ => ("MotionDesk", "now", "I", false)
def tyX0 : Nat → FieldType := fun k => match k with
  | 0 => .int
  | 1 => .array .int
  | 2 => .int
  | 3 => .array .int
  | 4 => .array .int
  | 5 => .array .int
  | 6 => .array .int
  | 7 => .array .int
  | 8 => .array .int
  | 9 => .int
  | 10 => .array .int
  | 11 => .array .int
  | _ => .int
abbrev wsX00 : List Cond := u_ws RX0 TX0 13
theorem nmX0 : ∀ a, a < 13 → ∀ b, b < 13 → a ≠ b → (TX0 a).2.1 ≠ (TX0 b).2.1 := by decide +kernel
theorem tyX0_ok : ∀ k, k < 13 → parseFieldDescriptor (TX0 k).2.2.1 = some (tyX0 k) := by decide +kernel
abbrev cX0_init : ByteArray := prog_1_method_1_code
def yX0_init : MethodName := ⟨RX0, "<init>", "(I)V"⟩
abbrev cX0_key : ByteArray := prog_1_method_2_code
def yX0_key : MethodName := ⟨RX0, "key", "(IIII)I"⟩
abbrev cX0_track : ByteArray := prog_1_method_3_code
def yX0_track : MethodName := ⟨RX0, "track", "(III)I"⟩
abbrev cX0_set : ByteArray := prog_1_method_4_code
def yX0_set : MethodName := ⟨RX0, "set", "(IIIII)Z"⟩
abbrev cX0_time : ByteArray := prog_1_method_5_code
def yX0_time : MethodName := ⟨RX0, "time", "(I)Z"⟩
abbrev cX0_value : ByteArray := prog_1_method_6_code
def yX0_value : MethodName := ⟨RX0, "value", "(III)I"⟩
abbrev cX0_count : ByteArray := prog_1_method_7_code
def yX0_count : MethodName := ⟨RX0, "count", "(I)I"⟩
abbrev cX0_about : ByteArray := prog_1_method_8_code
def yX0_about : MethodName := ⟨RX0, "about", "(II)I"⟩
abbrev cX0_clear : ByteArray := prog_1_method_9_code
def yX0_clear : MethodName := ⟨RX0, "clear", "()V"⟩
abbrev cX0_isNode : ByteArray := prog_1_method_10_code
def yX0_isNode : MethodName := ⟨RX0, "isNode", "(I)Z"⟩
abbrev cX0_isWhat : ByteArray := prog_1_method_11_code
def yX0_isWhat : MethodName := ⟨RX0, "isWhat", "(I)Z"⟩
abbrev cX0_isHow : ByteArray := prog_1_method_12_code
def yX0_isHow : MethodName := ⟨RX0, "isHow", "(I)Z"⟩
abbrev cX0_isTime : ByteArray := prog_1_method_13_code
def yX0_isTime : MethodName := ⟨RX0, "isTime", "(I)Z"⟩
abbrev cX0_canHave : ByteArray := prog_1_method_14_code
def yX0_canHave : MethodName := ⟨RX0, "canHave", "(IIII)Z"⟩
abbrev cX0_isWithin : ByteArray := prog_1_method_15_code
def yX0_isWithin : MethodName := ⟨RX0, "isWithin", "(II)Z"⟩
abbrev cX0_textFits : ByteArray := prog_1_method_16_code
def yX0_textFits : MethodName := ⟨RX0, "textFits", "(II)Z"⟩
abbrev cX0_placeOf : ByteArray := prog_1_method_17_code
def yX0_placeOf : MethodName := ⟨RX0, "placeOf", "(II)I"⟩
abbrev cX0_putThree : ByteArray := prog_1_method_18_code
def yX0_putThree : MethodName := ⟨RX0, "putThree", "([IIIII)V"⟩
abbrev cX0_keysOfAllTracks : ByteArray := prog_1_method_19_code
def yX0_keysOfAllTracks : MethodName := ⟨RX0, "keysOfAllTracks", "()I"⟩
abbrev cX0_play : ByteArray := prog_1_method_20_code
def yX0_play : MethodName := ⟨RX0, "play", "(I)V"⟩
abbrev cX0_keyInForce : ByteArray := prog_1_method_21_code
def yX0_keyInForce : MethodName := ⟨RX0, "keyInForce", "(II)I"⟩
abbrev cX0_between : ByteArray := prog_1_method_22_code
def yX0_between : MethodName := ⟨RX0, "between", "(III)I"⟩
abbrev cX0_smoothed : ByteArray := prog_1_method_23_code
def yX0_smoothed : MethodName := ⟨RX0, "smoothed", "(J)J"⟩
abbrev cX0_mul : ByteArray := prog_1_method_24_code
def yX0_mul : MethodName := ⟨RX0, "mul", "(JJ)J"⟩
abbrev cX0_div : ByteArray := prog_1_method_25_code
def yX0_div : MethodName := ⟨RX0, "div", "(JJ)J"⟩
def RX1 : String := "MotionDeskModel"
def TX1 : u_T := fun k => match k with
  | 0 => ("MotionDeskModel", "thrown", "I", false)
  | 1 => ("MotionDeskModel", "nodes", "I", true)
  | 2 => ("MotionDeskModel", "poses", "[I", true)
  | 3 => ("MotionDeskModel", "now", "I", false)
  | 4 => ("MotionDeskModel", "textKeys", "I", false)
  | 5 => ("MotionDeskModel", "textTimes", "[I", true)
  | 6 => ("MotionDeskModel", "textValues", "[I", true)
  | 7 => ("MotionDeskModel", "tracks", "I", false)
  | 8 => ("MotionDeskModel", "nodeOf", "[I", true)
  | 9 => ("MotionDeskModel", "whatOf", "[I", true)
  | 10 => ("MotionDeskModel", "howOf", "[I", true)
  | 11 => ("MotionDeskModel", "keysOf", "[I", true)
  | 12 => ("MotionDeskModel", "times", "[I", true)
  | _ => ("MotionDeskModel", "values", "[I", true)
def tyX1 : Nat → FieldType := fun k => match k with
  | 0 => .int
  | 1 => .int
  | 2 => .array .int
  | 3 => .int
  | 4 => .int
  | 5 => .array .int
  | 6 => .array .int
  | 7 => .int
  | 8 => .array .int
  | 9 => .array .int
  | 10 => .array .int
  | 11 => .array .int
  | 12 => .array .int
  | _ => .array .int
abbrev wsX10 : List Cond := u_ws RX1 TX1 14
theorem nmX1 : ∀ a, a < 14 → ∀ b, b < 14 → a ≠ b → (TX1 a).2.1 ≠ (TX1 b).2.1 := by decide +kernel
theorem tyX1_ok : ∀ k, k < 14 → parseFieldDescriptor (TX1 k).2.2.1 = some (tyX1 k) := by decide +kernel
def RJ9 : String := "java/lang/Math"
abbrev cJ9_floorDiv_f86c9 : ByteArray := prog_4_method_49_code
def yJ9_floorDiv_f86c9 : MethodName := ⟨RJ9, "floorDiv", "(JJ)J"⟩
abbrev cJ9_max_7cf53 : ByteArray := prog_4_method_65_code
def yJ9_max_7cf53 : MethodName := ⟨RJ9, "max", "(II)I"⟩
abbrev cJ9_min_7cf53 : ByteArray := prog_4_method_69_code
def yJ9_min_7cf53 : MethodName := ⟨RJ9, "min", "(II)I"⟩
def RJ10 : String := "java/lang/System"
def RL : String := "MotionDeskLaw"
abbrev cL_cell : ByteArray := method_2_code
def yL_cell : MethodName := ⟨RL, "cell", "([II)I"⟩
abbrev cL_law : ByteArray := code
def yL_law : MethodName := ⟨RL, "law", "([I)Z"⟩
def wsX0_placeOf : List Cond := .code yX0_placeOf cX0_placeOf 2 (some .int) :: ([])
def wsX0_init_r1 : List Cond := [Cond.methodLink RX0 1 objectInit, Cond.instanceMethod objectInit, Cond.code objectInit ⟨#[0xb1]⟩ 1 none, Cond.methodLink RX0 9 Lib.Math.min.name, Cond.static Lib.Math.min.name, Cond.initialized "java/lang/Math", Cond.code Lib.Math.min.name Lib.Math.min.code 2 (some .int), Cond.methodLink RX0 15 Lib.Math.max.name, Cond.static Lib.Math.max.name, Cond.code Lib.Math.max.name Lib.Math.max.code 2 (some .int), Cond.fieldLink RX0 18 "MotionDesk" "nodeCount" "I", Cond.arrayClass .int, Cond.fieldLink RX0 22 "MotionDesk" "values" "[I", Cond.constant RX0 29 (65536), Cond.fieldLink RX0 30 "MotionDesk" "trackNode" "[I", Cond.fieldLink RX0 33 "MotionDesk" "trackWhat" "[I", Cond.fieldLink RX0 36 "MotionDesk" "trackHow" "[I", Cond.fieldLink RX0 39 "MotionDesk" "trackKeys" "[I", Cond.fieldLink RX0 42 "MotionDesk" "keyTimes" "[I", Cond.fieldLink RX0 45 "MotionDesk" "keyNumbers" "[I", Cond.fieldLink RX0 48 "MotionDesk" "textTimes" "[I", Cond.fieldLink RX0 51 "MotionDesk" "textNumbers" "[I", Cond.methodLink RX0 26 yX0_placeOf, Cond.static yX0_placeOf]
def wsX0_init_r2 : List Cond := [Cond.initialized RX0, Cond.code yX0_placeOf cX0_placeOf 2 (some .int)]
def wsX0_init : List Cond := .code yX0_init cX0_init 4 none :: ((wsX0_init_r1 ++ wsX0_init_r2) ++ wsX00)
def wsX0_isTime : List Cond := .code yX0_isTime cX0_isTime 1 (some .boolean) :: ([.constant RX0 102 (1000000)])
def wsX0_isWithin : List Cond := .code yX0_isWithin cX0_isWithin 2 (some .boolean) :: ([])
def wsX0_canHave : List Cond := .code yX0_canHave cX0_canHave 5 (some .boolean) :: ([.constant RX0 103 (4194304), .constant RX0 104 (1048576), .methodLink RX0 105 yX0_isWithin, .static yX0_isWithin, .initialized RX0, .code yX0_isWithin cX0_isWithin 2 (some .boolean)])
def wsX0_putThree : List Cond := .code yX0_putThree cX0_putThree 5 none :: ([])
def wsX0_key : List Cond := .code yX0_key cX0_key 5 (some .int) :: ([.fieldLink RX0 54 "MotionDesk" "textCount" "I", .fieldLink RX0 48 "MotionDesk" "textTimes" "[I", .fieldLink RX0 51 "MotionDesk" "textNumbers" "[I", .methodLink RX0 57 yX0_isTime, .static yX0_isTime, .initialized RX0, .code yX0_isTime cX0_isTime 1 (some .boolean), .constant RX0 102 (1000000), .methodLink RX0 61 yX0_canHave, .static yX0_canHave, .code yX0_canHave cX0_canHave 5 (some .boolean), .constant RX0 103 (4194304), .constant RX0 104 (1048576), .methodLink RX0 105 yX0_isWithin, .static yX0_isWithin, .code yX0_isWithin cX0_isWithin 2 (some .boolean), .methodLink RX0 65 yX0_putThree, .static yX0_putThree, .code yX0_putThree cX0_putThree 5 none] ++ wsX00)
def wsX0_isNode : List Cond := .code yX0_isNode cX0_isNode 2 (some .boolean) :: ([.fieldLink RX0 18 "MotionDesk" "nodeCount" "I"] ++ wsX00)
def wsX0_isWhat : List Cond := .code yX0_isWhat cX0_isWhat 1 (some .boolean) :: ([])
def wsX0_isHow : List Cond := .code yX0_isHow cX0_isHow 1 (some .boolean) :: ([])
def wsX0_textFits : List Cond := .code yX0_textFits cX0_textFits 5 (some .boolean) :: ([.fieldLink RX0 51 "MotionDesk" "textNumbers" "[I", .methodLink RX0 61 yX0_canHave, .static yX0_canHave, .initialized RX0, .code yX0_canHave cX0_canHave 5 (some .boolean), .constant RX0 103 (4194304), .constant RX0 104 (1048576), .methodLink RX0 105 yX0_isWithin, .static yX0_isWithin, .code yX0_isWithin cX0_isWithin 2 (some .boolean)] ++ wsX00)
def wsX0_track_r1 : List Cond := [Cond.fieldLink RX0 54 "MotionDesk" "textCount" "I", Cond.fieldLink RX0 69 "MotionDesk" "trackCount" "I", Cond.fieldLink RX0 30 "MotionDesk" "trackNode" "[I", Cond.fieldLink RX0 33 "MotionDesk" "trackWhat" "[I", Cond.fieldLink RX0 36 "MotionDesk" "trackHow" "[I", Cond.fieldLink RX0 39 "MotionDesk" "trackKeys" "[I", Cond.fieldLink RX0 48 "MotionDesk" "textTimes" "[I", Cond.fieldLink RX0 42 "MotionDesk" "keyTimes" "[I", Cond.methodLink RX0 85 arraycopyName, Cond.native arraycopyName, Cond.static arraycopyName, Cond.initialized "java/lang/System", Cond.fieldLink RX0 51 "MotionDesk" "textNumbers" "[I", Cond.fieldLink RX0 45 "MotionDesk" "keyNumbers" "[I", Cond.methodLink RX0 72 yX0_isNode, Cond.instanceMethod yX0_isNode, Cond.selects RX0 yX0_isNode yX0_isNode, Cond.initialized RX0, Cond.code yX0_isNode cX0_isNode 2 (some .boolean), Cond.fieldLink RX0 18 "MotionDesk" "nodeCount" "I", Cond.methodLink RX0 75 yX0_isWhat, Cond.static yX0_isWhat, Cond.code yX0_isWhat cX0_isWhat 1 (some .boolean), Cond.methodLink RX0 78 yX0_isHow]
def wsX0_track_r2 : List Cond := [Cond.static yX0_isHow, Cond.code yX0_isHow cX0_isHow 1 (some .boolean), Cond.methodLink RX0 81 yX0_textFits, Cond.instanceMethod yX0_textFits, Cond.selects RX0 yX0_textFits yX0_textFits, Cond.code yX0_textFits cX0_textFits 5 (some .boolean), Cond.methodLink RX0 61 yX0_canHave, Cond.static yX0_canHave, Cond.code yX0_canHave cX0_canHave 5 (some .boolean), Cond.constant RX0 103 (4194304), Cond.constant RX0 104 (1048576), Cond.methodLink RX0 105 yX0_isWithin, Cond.static yX0_isWithin, Cond.code yX0_isWithin cX0_isWithin 2 (some .boolean)]
def wsX0_track : List Cond := .code yX0_track cX0_track 7 (some .int) :: ((wsX0_track_r1 ++ wsX0_track_r2) ++ wsX00)
def wsX0_set : List Cond := .code yX0_set cX0_set 6 (some .boolean) :: ([.fieldLink RX0 22 "MotionDesk" "values" "[I", .methodLink RX0 72 yX0_isNode, .instanceMethod yX0_isNode, .selects RX0 yX0_isNode yX0_isNode, .initialized RX0, .code yX0_isNode cX0_isNode 2 (some .boolean), .fieldLink RX0 18 "MotionDesk" "nodeCount" "I", .methodLink RX0 75 yX0_isWhat, .static yX0_isWhat, .code yX0_isWhat cX0_isWhat 1 (some .boolean), .methodLink RX0 61 yX0_canHave, .static yX0_canHave, .code yX0_canHave cX0_canHave 5 (some .boolean), .constant RX0 103 (4194304), .constant RX0 104 (1048576), .methodLink RX0 105 yX0_isWithin, .static yX0_isWithin, .code yX0_isWithin cX0_isWithin 2 (some .boolean), .methodLink RX0 26 yX0_placeOf, .static yX0_placeOf, .code yX0_placeOf cX0_placeOf 2 (some .int), .methodLink RX0 65 yX0_putThree, .static yX0_putThree, .code yX0_putThree cX0_putThree 5 none] ++ wsX00)
def wsX0_keyInForce : List Cond := .code yX0_keyInForce cX0_keyInForce 4 (some .int) :: ([.fieldLink RX0 42 "MotionDesk" "keyTimes" "[I", .fieldLink RX0 91 "MotionDesk" "now" "I"] ++ wsX00)
def wsJ9_floorDiv_f86c9 : List Cond := .code yJ9_floorDiv_f86c9 cJ9_floorDiv_f86c9 6 (some .long) :: ([])
def wsX0_div : List Cond := .code yX0_div cX0_div 4 (some .long) :: ([.methodLink RX0 132 yJ9_floorDiv_f86c9, .static yJ9_floorDiv_f86c9, .initialized RJ9, .code yJ9_floorDiv_f86c9 cJ9_floorDiv_f86c9 6 (some .long)])
def wsX0_mul : List Cond := .code yX0_mul cX0_mul 4 (some .long) :: ([.constantLong RX0 119 (65536), .methodLink RX0 115 yX0_div, .static yX0_div, .initialized RX0, .code yX0_div cX0_div 4 (some .long), .methodLink RX0 132 yJ9_floorDiv_f86c9, .static yJ9_floorDiv_f86c9, .initialized RJ9, .code yJ9_floorDiv_f86c9 cJ9_floorDiv_f86c9 6 (some .long)])
def wsX0_smoothed : List Cond := .code yX0_smoothed cX0_smoothed 2 (some .long) :: ([.constantLong RX0 128 (196608), .constantLong RX0 130 (2), .methodLink RX0 125 yX0_mul, .static yX0_mul, .initialized RX0, .code yX0_mul cX0_mul 4 (some .long), .constantLong RX0 119 (65536), .methodLink RX0 115 yX0_div, .static yX0_div, .code yX0_div cX0_div 4 (some .long), .methodLink RX0 132 yJ9_floorDiv_f86c9, .static yJ9_floorDiv_f86c9, .initialized RJ9, .code yJ9_floorDiv_f86c9 cJ9_floorDiv_f86c9 6 (some .long)])
def wsX0_between : List Cond := .code yX0_between cX0_between 12 (some .int) :: ([.fieldLink RX0 45 "MotionDesk" "keyNumbers" "[I", .fieldLink RX0 91 "MotionDesk" "now" "I", .fieldLink RX0 42 "MotionDesk" "keyTimes" "[I", .constantLong RX0 119 (65536), .methodLink RX0 115 yX0_div, .static yX0_div, .initialized RX0, .code yX0_div cX0_div 4 (some .long), .methodLink RX0 132 yJ9_floorDiv_f86c9, .static yJ9_floorDiv_f86c9, .initialized RJ9, .code yJ9_floorDiv_f86c9 cJ9_floorDiv_f86c9 6 (some .long), .methodLink RX0 121 yX0_smoothed, .static yX0_smoothed, .code yX0_smoothed cX0_smoothed 2 (some .long), .constantLong RX0 128 (196608), .constantLong RX0 130 (2), .methodLink RX0 125 yX0_mul, .static yX0_mul, .code yX0_mul cX0_mul 4 (some .long)] ++ wsX00)
def wsX0_play_r1 : List Cond := [Cond.fieldLink RX0 39 "MotionDesk" "trackKeys" "[I", Cond.fieldLink RX0 30 "MotionDesk" "trackNode" "[I", Cond.fieldLink RX0 33 "MotionDesk" "trackWhat" "[I", Cond.fieldLink RX0 91 "MotionDesk" "now" "I", Cond.fieldLink RX0 42 "MotionDesk" "keyTimes" "[I", Cond.fieldLink RX0 22 "MotionDesk" "values" "[I", Cond.fieldLink RX0 45 "MotionDesk" "keyNumbers" "[I", Cond.fieldLink RX0 36 "MotionDesk" "trackHow" "[I", Cond.methodLink RX0 108 yX0_keyInForce, Cond.instanceMethod yX0_keyInForce, Cond.selects RX0 yX0_keyInForce yX0_keyInForce, Cond.initialized RX0, Cond.code yX0_keyInForce cX0_keyInForce 4 (some .int), Cond.methodLink RX0 26 yX0_placeOf, Cond.static yX0_placeOf, Cond.code yX0_placeOf cX0_placeOf 2 (some .int), Cond.methodLink RX0 111 yX0_between, Cond.instanceMethod yX0_between, Cond.selects RX0 yX0_between yX0_between, Cond.code yX0_between cX0_between 12 (some .int), Cond.constantLong RX0 119 (65536), Cond.methodLink RX0 115 yX0_div, Cond.static yX0_div, Cond.code yX0_div cX0_div 4 (some .long)]
def wsX0_play_r2 : List Cond := [Cond.methodLink RX0 132 yJ9_floorDiv_f86c9, Cond.static yJ9_floorDiv_f86c9, Cond.initialized RJ9, Cond.code yJ9_floorDiv_f86c9 cJ9_floorDiv_f86c9 6 (some .long), Cond.methodLink RX0 121 yX0_smoothed, Cond.static yX0_smoothed, Cond.code yX0_smoothed cX0_smoothed 2 (some .long), Cond.constantLong RX0 128 (196608), Cond.constantLong RX0 130 (2), Cond.methodLink RX0 125 yX0_mul, Cond.static yX0_mul, Cond.code yX0_mul cX0_mul 4 (some .long)]
def wsX0_play : List Cond := .code yX0_play cX0_play 7 none :: ((wsX0_play_r1 ++ wsX0_play_r2) ++ wsX00)
def wsX0_time_r1 : List Cond := [Cond.fieldLink RX0 91 "MotionDesk" "now" "I", Cond.fieldLink RX0 69 "MotionDesk" "trackCount" "I", Cond.methodLink RX0 57 yX0_isTime, Cond.static yX0_isTime, Cond.initialized RX0, Cond.code yX0_isTime cX0_isTime 1 (some .boolean), Cond.constant RX0 102 (1000000), Cond.methodLink RX0 94 yX0_play, Cond.instanceMethod yX0_play, Cond.selects RX0 yX0_play yX0_play, Cond.code yX0_play cX0_play 7 none, Cond.fieldLink RX0 39 "MotionDesk" "trackKeys" "[I", Cond.fieldLink RX0 30 "MotionDesk" "trackNode" "[I", Cond.fieldLink RX0 33 "MotionDesk" "trackWhat" "[I", Cond.fieldLink RX0 42 "MotionDesk" "keyTimes" "[I", Cond.fieldLink RX0 22 "MotionDesk" "values" "[I", Cond.fieldLink RX0 45 "MotionDesk" "keyNumbers" "[I", Cond.fieldLink RX0 36 "MotionDesk" "trackHow" "[I", Cond.methodLink RX0 108 yX0_keyInForce, Cond.instanceMethod yX0_keyInForce, Cond.selects RX0 yX0_keyInForce yX0_keyInForce, Cond.code yX0_keyInForce cX0_keyInForce 4 (some .int), Cond.methodLink RX0 26 yX0_placeOf, Cond.static yX0_placeOf]
def wsX0_time_r2 : List Cond := [Cond.code yX0_placeOf cX0_placeOf 2 (some .int), Cond.methodLink RX0 111 yX0_between, Cond.instanceMethod yX0_between, Cond.selects RX0 yX0_between yX0_between, Cond.code yX0_between cX0_between 12 (some .int), Cond.constantLong RX0 119 (65536), Cond.methodLink RX0 115 yX0_div, Cond.static yX0_div, Cond.code yX0_div cX0_div 4 (some .long), Cond.methodLink RX0 132 yJ9_floorDiv_f86c9, Cond.static yJ9_floorDiv_f86c9, Cond.initialized RJ9, Cond.code yJ9_floorDiv_f86c9 cJ9_floorDiv_f86c9 6 (some .long), Cond.methodLink RX0 121 yX0_smoothed, Cond.static yX0_smoothed, Cond.code yX0_smoothed cX0_smoothed 2 (some .long), Cond.constantLong RX0 128 (196608), Cond.constantLong RX0 130 (2), Cond.methodLink RX0 125 yX0_mul, Cond.static yX0_mul, Cond.code yX0_mul cX0_mul 4 (some .long)]
def wsX0_time : List Cond := .code yX0_time cX0_time 3 (some .boolean) :: ((wsX0_time_r1 ++ wsX0_time_r2) ++ wsX00)
def wsX0_value : List Cond := .code yX0_value cX0_value 4 (some .int) :: ([.fieldLink RX0 22 "MotionDesk" "values" "[I", .methodLink RX0 72 yX0_isNode, .instanceMethod yX0_isNode, .selects RX0 yX0_isNode yX0_isNode, .initialized RX0, .code yX0_isNode cX0_isNode 2 (some .boolean), .fieldLink RX0 18 "MotionDesk" "nodeCount" "I", .methodLink RX0 75 yX0_isWhat, .static yX0_isWhat, .code yX0_isWhat cX0_isWhat 1 (some .boolean), .methodLink RX0 26 yX0_placeOf, .static yX0_placeOf, .code yX0_placeOf cX0_placeOf 2 (some .int)] ++ wsX00)
def wsX0_keysOfAllTracks : List Cond := .code yX0_keysOfAllTracks cX0_keysOfAllTracks 3 (some .int) :: ([.fieldLink RX0 69 "MotionDesk" "trackCount" "I", .fieldLink RX0 39 "MotionDesk" "trackKeys" "[I"] ++ wsX00)
def wsX0_count : List Cond := .code yX0_count cX0_count 2 (some .int) :: ([.fieldLink RX0 18 "MotionDesk" "nodeCount" "I", .fieldLink RX0 69 "MotionDesk" "trackCount" "I", .fieldLink RX0 91 "MotionDesk" "now" "I", .fieldLink RX0 54 "MotionDesk" "textCount" "I", .methodLink RX0 98 yX0_keysOfAllTracks, .instanceMethod yX0_keysOfAllTracks, .selects RX0 yX0_keysOfAllTracks yX0_keysOfAllTracks, .initialized RX0, .code yX0_keysOfAllTracks cX0_keysOfAllTracks 3 (some .int), .fieldLink RX0 39 "MotionDesk" "trackKeys" "[I"] ++ wsX00)
def wsX0_about : List Cond := .code yX0_about cX0_about 3 (some .int) :: ([.fieldLink RX0 69 "MotionDesk" "trackCount" "I", .fieldLink RX0 30 "MotionDesk" "trackNode" "[I", .fieldLink RX0 33 "MotionDesk" "trackWhat" "[I", .fieldLink RX0 36 "MotionDesk" "trackHow" "[I", .fieldLink RX0 39 "MotionDesk" "trackKeys" "[I"] ++ wsX00)
def wsX0_clear : List Cond := .code yX0_clear cX0_clear 1 none :: ([.fieldLink RX0 69 "MotionDesk" "trackCount" "I"] ++ wsX00)
def wsJ9_max_7cf53 : List Cond := .code yJ9_max_7cf53 cJ9_max_7cf53 2 (some .int) :: ([])
def wsJ9_min_7cf53 : List Cond := .code yJ9_min_7cf53 cJ9_min_7cf53 2 (some .int) :: ([])
def wsL_cell : List Cond := .code yL_cell cL_cell 2 (some .int) :: ([])
set_option maxRecDepth 20000 in
theorem ggX0_init_X0_placeOf : GoodIn wsX0_init wsX0_placeOf := goodIn_r _ [26] (by decide +kernel) (by decide +kernel)
set_option maxRecDepth 20000 in
theorem gX0_init_X0_placeOf : GoodIn wsX0_init (va_wsS RX0 26 yX0_placeOf wsX0_placeOf) := goodIn_app (goodIn_of _ (by decide +kernel)) ggX0_init_X0_placeOf
set_option maxRecDepth 20000 in
theorem ggX0_key_X0_isTime : GoodIn wsX0_key wsX0_isTime := goodIn_r _ [7, 8] (by decide +kernel) (by decide +kernel)
set_option maxRecDepth 20000 in
theorem gX0_key_X0_isTime : GoodIn wsX0_key (va_wsS RX0 57 yX0_isTime wsX0_isTime) := goodIn_app (goodIn_of _ (by decide +kernel)) ggX0_key_X0_isTime
set_option maxRecDepth 20000 in
theorem ggX0_key_X0_canHave : GoodIn wsX0_key wsX0_canHave := goodIn_r _ [11, 12, 13, 14, 15, 6, 16] (by decide +kernel) (by decide +kernel)
set_option maxRecDepth 20000 in
theorem gX0_key_X0_canHave : GoodIn wsX0_key (va_wsS RX0 61 yX0_canHave wsX0_canHave) := goodIn_app (goodIn_of _ (by decide +kernel)) ggX0_key_X0_canHave
set_option maxRecDepth 20000 in
theorem ggX0_key_X0_putThree : GoodIn wsX0_key wsX0_putThree := goodIn_r _ [19] (by decide +kernel) (by decide +kernel)
set_option maxRecDepth 20000 in
theorem gX0_key_X0_putThree : GoodIn wsX0_key (va_wsS RX0 65 yX0_putThree wsX0_putThree) := goodIn_app (goodIn_of _ (by decide +kernel)) ggX0_key_X0_putThree
set_option maxRecDepth 20000 in
theorem ggX0_track_X0_isNode : GoodIn wsX0_track wsX0_isNode := goodIn_r _ [19, 20, 39, 40, 41, 42, 43, 44, 45, 46, 47, 48, 49, 50, 51] (by decide +kernel) (by decide +kernel)
set_option maxRecDepth 20000 in
theorem gX0_track_X0_isNode : GoodIn wsX0_track (wsV RX0 72 RX0 yX0_isNode wsX0_isNode) := goodIn_app (goodIn_of _ (by decide +kernel)) ggX0_track_X0_isNode
set_option maxRecDepth 20000 in
theorem ggX0_track_X0_isWhat : GoodIn wsX0_track wsX0_isWhat := goodIn_r _ [23] (by decide +kernel) (by decide +kernel)
set_option maxRecDepth 20000 in
theorem gX0_track_X0_isWhat : GoodIn wsX0_track (va_wsS RX0 75 yX0_isWhat wsX0_isWhat) := goodIn_app (goodIn_of _ (by decide +kernel)) ggX0_track_X0_isWhat
set_option maxRecDepth 20000 in
theorem ggX0_track_X0_isHow : GoodIn wsX0_track wsX0_isHow := goodIn_r _ [26] (by decide +kernel) (by decide +kernel)
set_option maxRecDepth 20000 in
theorem gX0_track_X0_isHow : GoodIn wsX0_track (va_wsS RX0 78 yX0_isHow wsX0_isHow) := goodIn_app (goodIn_of _ (by decide +kernel)) ggX0_track_X0_isHow
set_option maxRecDepth 20000 in
theorem ggX0_track_X0_textFits : GoodIn wsX0_track wsX0_textFits := goodIn_r _ [30, 13, 31, 32, 18, 33, 34, 35, 36, 37, 38, 39, 40, 41, 42, 43, 44, 45, 46, 47, 48, 49, 50, 51] (by decide +kernel) (by decide +kernel)
set_option maxRecDepth 20000 in
theorem gX0_track_X0_textFits : GoodIn wsX0_track (wsV RX0 81 RX0 yX0_textFits wsX0_textFits) := goodIn_app (goodIn_of _ (by decide +kernel)) ggX0_track_X0_textFits
set_option maxRecDepth 20000 in
theorem ggX0_set_X0_isNode : GoodIn wsX0_set wsX0_isNode := goodIn_r _ [6, 7, 25, 26, 27, 28, 29, 30, 31, 32, 33, 34, 35, 36, 37] (by decide +kernel) (by decide +kernel)
set_option maxRecDepth 20000 in
theorem gX0_set_X0_isNode : GoodIn wsX0_set (wsV RX0 72 RX0 yX0_isNode wsX0_isNode) := goodIn_app (goodIn_of _ (by decide +kernel)) ggX0_set_X0_isNode
set_option maxRecDepth 20000 in
theorem ggX0_set_X0_isWhat : GoodIn wsX0_set wsX0_isWhat := goodIn_r _ [10] (by decide +kernel) (by decide +kernel)
set_option maxRecDepth 20000 in
theorem gX0_set_X0_isWhat : GoodIn wsX0_set (va_wsS RX0 75 yX0_isWhat wsX0_isWhat) := goodIn_app (goodIn_of _ (by decide +kernel)) ggX0_set_X0_isWhat
set_option maxRecDepth 20000 in
theorem ggX0_set_X0_canHave : GoodIn wsX0_set wsX0_canHave := goodIn_r _ [13, 14, 15, 16, 17, 5, 18] (by decide +kernel) (by decide +kernel)
set_option maxRecDepth 20000 in
theorem gX0_set_X0_canHave : GoodIn wsX0_set (va_wsS RX0 61 yX0_canHave wsX0_canHave) := goodIn_app (goodIn_of _ (by decide +kernel)) ggX0_set_X0_canHave
set_option maxRecDepth 20000 in
theorem ggX0_set_X0_placeOf : GoodIn wsX0_set wsX0_placeOf := goodIn_r _ [21] (by decide +kernel) (by decide +kernel)
set_option maxRecDepth 20000 in
theorem gX0_set_X0_placeOf : GoodIn wsX0_set (va_wsS RX0 26 yX0_placeOf wsX0_placeOf) := goodIn_app (goodIn_of _ (by decide +kernel)) ggX0_set_X0_placeOf
set_option maxRecDepth 20000 in
theorem ggX0_set_X0_putThree : GoodIn wsX0_set wsX0_putThree := goodIn_r _ [24] (by decide +kernel) (by decide +kernel)
set_option maxRecDepth 20000 in
theorem gX0_set_X0_putThree : GoodIn wsX0_set (va_wsS RX0 65 yX0_putThree wsX0_putThree) := goodIn_app (goodIn_of _ (by decide +kernel)) ggX0_set_X0_putThree
set_option maxRecDepth 20000 in
theorem ggX0_time_X0_isTime : GoodIn wsX0_time wsX0_isTime := goodIn_r _ [6, 7] (by decide +kernel) (by decide +kernel)
set_option maxRecDepth 20000 in
theorem gX0_time_X0_isTime : GoodIn wsX0_time (va_wsS RX0 57 yX0_isTime wsX0_isTime) := goodIn_app (goodIn_of _ (by decide +kernel)) ggX0_time_X0_isTime
set_option maxRecDepth 20000 in
theorem ggX0_time_X0_play : GoodIn wsX0_time wsX0_play := goodIn_r _ [11, 12, 13, 14, 1, 15, 16, 17, 18, 19, 20, 21, 5, 22, 23, 24, 25, 26, 27, 28, 29, 30, 31, 32, 33, 34, 35, 36, 37, 38, 39, 40, 41, 42, 43, 44, 45, 46, 47, 48, 49, 50, 51, 52, 53, 54, 55, 56, 57, 58] (by decide +kernel) (by decide +kernel)
set_option maxRecDepth 20000 in
theorem gX0_time_X0_play : GoodIn wsX0_time (wsV RX0 94 RX0 yX0_play wsX0_play) := goodIn_app (goodIn_of _ (by decide +kernel)) ggX0_time_X0_play
set_option maxRecDepth 20000 in
theorem ggX0_value_X0_isNode : GoodIn wsX0_value wsX0_isNode := goodIn_r _ [6, 7, 14, 15, 16, 17, 18, 19, 20, 21, 22, 23, 24, 25, 26] (by decide +kernel) (by decide +kernel)
set_option maxRecDepth 20000 in
theorem gX0_value_X0_isNode : GoodIn wsX0_value (wsV RX0 72 RX0 yX0_isNode wsX0_isNode) := goodIn_app (goodIn_of _ (by decide +kernel)) ggX0_value_X0_isNode
set_option maxRecDepth 20000 in
theorem ggX0_value_X0_isWhat : GoodIn wsX0_value wsX0_isWhat := goodIn_r _ [10] (by decide +kernel) (by decide +kernel)
set_option maxRecDepth 20000 in
theorem gX0_value_X0_isWhat : GoodIn wsX0_value (va_wsS RX0 75 yX0_isWhat wsX0_isWhat) := goodIn_app (goodIn_of _ (by decide +kernel)) ggX0_value_X0_isWhat
set_option maxRecDepth 20000 in
theorem ggX0_value_X0_placeOf : GoodIn wsX0_value wsX0_placeOf := goodIn_r _ [13] (by decide +kernel) (by decide +kernel)
set_option maxRecDepth 20000 in
theorem gX0_value_X0_placeOf : GoodIn wsX0_value (va_wsS RX0 26 yX0_placeOf wsX0_placeOf) := goodIn_app (goodIn_of _ (by decide +kernel)) ggX0_value_X0_placeOf
set_option maxRecDepth 20000 in
theorem ggX0_count_X0_keysOfAllTracks : GoodIn wsX0_count wsX0_keysOfAllTracks := goodIn_r _ [9, 2, 10, 11, 12, 13, 14, 15, 16, 17, 18, 19, 20, 21, 22, 23] (by decide +kernel) (by decide +kernel)
set_option maxRecDepth 20000 in
theorem gX0_count_X0_keysOfAllTracks : GoodIn wsX0_count (wsV RX0 98 RX0 yX0_keysOfAllTracks wsX0_keysOfAllTracks) := goodIn_app (goodIn_of _ (by decide +kernel)) ggX0_count_X0_keysOfAllTracks
set_option maxRecDepth 20000 in
theorem ggX0_canHave_X0_isWithin : GoodIn wsX0_canHave wsX0_isWithin := goodIn_r _ [6] (by decide +kernel) (by decide +kernel)
set_option maxRecDepth 20000 in
theorem gX0_canHave_X0_isWithin : GoodIn wsX0_canHave (va_wsS RX0 105 yX0_isWithin wsX0_isWithin) := goodIn_app (goodIn_of _ (by decide +kernel)) ggX0_canHave_X0_isWithin
set_option maxRecDepth 20000 in
theorem ggX0_textFits_X0_canHave : GoodIn wsX0_textFits wsX0_canHave := goodIn_r _ [5, 6, 7, 8, 9, 4, 10] (by decide +kernel) (by decide +kernel)
set_option maxRecDepth 20000 in
theorem gX0_textFits_X0_canHave : GoodIn wsX0_textFits (va_wsS RX0 61 yX0_canHave wsX0_canHave) := goodIn_app (goodIn_of _ (by decide +kernel)) ggX0_textFits_X0_canHave
set_option maxRecDepth 20000 in
theorem ggX0_play_X0_keyInForce : GoodIn wsX0_play wsX0_keyInForce := goodIn_r _ [13, 5, 4, 37, 38, 39, 40, 41, 42, 43, 44, 45, 46, 47, 48, 49] (by decide +kernel) (by decide +kernel)
set_option maxRecDepth 20000 in
theorem gX0_play_X0_keyInForce : GoodIn wsX0_play (wsV RX0 108 RX0 yX0_keyInForce wsX0_keyInForce) := goodIn_app (goodIn_of _ (by decide +kernel)) ggX0_play_X0_keyInForce
set_option maxRecDepth 20000 in
theorem ggX0_play_X0_placeOf : GoodIn wsX0_play wsX0_placeOf := goodIn_r _ [16] (by decide +kernel) (by decide +kernel)
set_option maxRecDepth 20000 in
theorem gX0_play_X0_placeOf : GoodIn wsX0_play (va_wsS RX0 26 yX0_placeOf wsX0_placeOf) := goodIn_app (goodIn_of _ (by decide +kernel)) ggX0_play_X0_placeOf
set_option maxRecDepth 20000 in
theorem ggX0_play_X0_between : GoodIn wsX0_play wsX0_between := goodIn_r _ [20, 7, 4, 5, 21, 22, 23, 12, 24, 25, 26, 27, 28, 29, 30, 31, 32, 33, 34, 35, 36, 37, 38, 39, 40, 41, 42, 43, 44, 45, 46, 47, 48, 49] (by decide +kernel) (by decide +kernel)
set_option maxRecDepth 20000 in
theorem gX0_play_X0_between : GoodIn wsX0_play (wsV RX0 111 RX0 yX0_between wsX0_between) := goodIn_app (goodIn_of _ (by decide +kernel)) ggX0_play_X0_between
set_option maxRecDepth 20000 in
theorem ggX0_between_X0_div : GoodIn wsX0_between wsX0_div := goodIn_r _ [8, 9, 10, 11, 12] (by decide +kernel) (by decide +kernel)
set_option maxRecDepth 20000 in
theorem gX0_between_X0_div : GoodIn wsX0_between (va_wsS RX0 115 yX0_div wsX0_div) := goodIn_app (goodIn_of _ (by decide +kernel)) ggX0_between_X0_div
set_option maxRecDepth 20000 in
theorem ggX0_between_X0_smoothed : GoodIn wsX0_between wsX0_smoothed := goodIn_r _ [15, 16, 17, 18, 19, 7, 20, 4, 5, 6, 8, 9, 10, 11, 12] (by decide +kernel) (by decide +kernel)
set_option maxRecDepth 20000 in
theorem gX0_between_X0_smoothed : GoodIn wsX0_between (va_wsS RX0 121 yX0_smoothed wsX0_smoothed) := goodIn_app (goodIn_of _ (by decide +kernel)) ggX0_between_X0_smoothed
set_option maxRecDepth 20000 in
theorem ggX0_between_X0_mul : GoodIn wsX0_between wsX0_mul := goodIn_r _ [20, 4, 5, 6, 7, 8, 9, 10, 11, 12] (by decide +kernel) (by decide +kernel)
set_option maxRecDepth 20000 in
theorem gX0_between_X0_mul : GoodIn wsX0_between (va_wsS RX0 125 yX0_mul wsX0_mul) := goodIn_app (goodIn_of _ (by decide +kernel)) ggX0_between_X0_mul
set_option maxRecDepth 20000 in
theorem ggX0_smoothed_X0_mul : GoodIn wsX0_smoothed wsX0_mul := goodIn_r _ [6, 7, 8, 9, 5, 10, 11, 12, 13, 14] (by decide +kernel) (by decide +kernel)
set_option maxRecDepth 20000 in
theorem gX0_smoothed_X0_mul : GoodIn wsX0_smoothed (va_wsS RX0 125 yX0_mul wsX0_mul) := goodIn_app (goodIn_of _ (by decide +kernel)) ggX0_smoothed_X0_mul
set_option maxRecDepth 20000 in
theorem ggX0_mul_X0_div : GoodIn wsX0_mul wsX0_div := goodIn_r _ [5, 6, 7, 8, 9] (by decide +kernel) (by decide +kernel)
set_option maxRecDepth 20000 in
theorem gX0_mul_X0_div : GoodIn wsX0_mul (va_wsS RX0 115 yX0_div wsX0_div) := goodIn_app (goodIn_of _ (by decide +kernel)) ggX0_mul_X0_div
set_option maxRecDepth 20000 in
theorem ggX0_div_J9_floorDiv_f86c9 : GoodIn wsX0_div wsJ9_floorDiv_f86c9 := goodIn_r _ [4] (by decide +kernel) (by decide +kernel)
set_option maxRecDepth 20000 in
theorem gX0_div_J9_floorDiv_f86c9 : GoodIn wsX0_div (va_wsS RX0 132 yJ9_floorDiv_f86c9 wsJ9_floorDiv_f86c9) := goodIn_app (goodIn_of _ (by decide +kernel)) ggX0_div_J9_floorDiv_f86c9

abbrev cX1_init : ByteArray := prog_3_method_1_code
def yX1_init : MethodName := ⟨RX1, "<init>", "(I)V"⟩
abbrev cX1_key : ByteArray := prog_3_method_5_code
def yX1_key : MethodName := ⟨RX1, "key", "(IIII)I"⟩
abbrev cX1_fits : ByteArray := prog_3_method_3_code
def yX1_fits : MethodName := ⟨RX1, "fits", "(II)Z"⟩
abbrev cX1_track : ByteArray := prog_3_method_6_code
def yX1_track : MethodName := ⟨RX1, "track", "(III)I"⟩
abbrev cX1_there : ByteArray := prog_3_method_4_code
def yX1_there : MethodName := ⟨RX1, "there", "(II)Z"⟩
abbrev cX1_set : ByteArray := prog_3_method_7_code
def yX1_set : MethodName := ⟨RX1, "set", "(IIIII)Z"⟩
abbrev cX1_time : ByteArray := prog_3_method_11_code
def yX1_time : MethodName := ⟨RX1, "time", "(I)Z"⟩
abbrev cX1_at : ByteArray := prog_3_method_10_code
def yX1_at : MethodName := ⟨RX1, "at", "(III)I"⟩
abbrev cX1_div : ByteArray := prog_3_method_8_code
def yX1_div : MethodName := ⟨RX1, "div", "(JJ)J"⟩
abbrev cX1_mul : ByteArray := prog_3_method_9_code
def yX1_mul : MethodName := ⟨RX1, "mul", "(JJ)J"⟩
abbrev cX1_value : ByteArray := prog_3_method_12_code
def yX1_value : MethodName := ⟨RX1, "value", "(III)I"⟩
abbrev cX1_count : ByteArray := prog_3_method_13_code
def yX1_count : MethodName := ⟨RX1, "count", "(I)I"⟩
abbrev cX1_about : ByteArray := prog_3_method_14_code
def yX1_about : MethodName := ⟨RX1, "about", "(II)I"⟩
abbrev cX1_clear : ByteArray := prog_3_method_15_code
def yX1_clear : MethodName := ⟨RX1, "clear", "()V"⟩
def wsX1_init : List Cond := .code yX1_init cX1_init 4 none :: ([.methodLink RX1 1 objectInit, .instanceMethod objectInit, .code objectInit ⟨#[0xb1]⟩ 1 none, .arrayClass .int, .fieldLink RX1 7 "MotionDeskModel" "poses" "[I", .fieldLink RX1 13 "MotionDeskModel" "textTimes" "[I", .fieldLink RX1 16 "MotionDeskModel" "textValues" "[I", .fieldLink RX1 19 "MotionDeskModel" "nodeOf" "[I", .fieldLink RX1 22 "MotionDeskModel" "whatOf" "[I", .fieldLink RX1 25 "MotionDeskModel" "howOf" "[I", .fieldLink RX1 28 "MotionDeskModel" "keysOf" "[I", .fieldLink RX1 31 "MotionDeskModel" "times" "[I", .fieldLink RX1 34 "MotionDeskModel" "values" "[I", .fieldLink RX1 37 "MotionDeskModel" "nodes" "I", .constant RX1 41 (65536)] ++ wsX10)
def wsX1_key : List Cond := .code yX1_key cX1_key 6 (some .int) :: ([.fieldLink RX1 42 "MotionDeskModel" "thrown" "I", .constant RX1 47 (1000000), .fieldLink RX1 48 "MotionDeskModel" "textKeys" "I", .fieldLink RX1 13 "MotionDeskModel" "textTimes" "[I", .fieldLink RX1 16 "MotionDeskModel" "textValues" "[I", .methodLink RX1 51 yX1_fits, .static yX1_fits, .initialized RX1, .code yX1_fits cX1_fits 3 (some .boolean), .constant RX1 45 (4194304), .constant RX1 46 (1048576)] ++ wsX10)
def wsX1_fits : List Cond := .code yX1_fits cX1_fits 3 (some .boolean) :: ([.constant RX1 45 (4194304), .constant RX1 46 (1048576)])
def wsX1_track : List Cond := .code yX1_track cX1_track 7 (some .int) :: ([.fieldLink RX1 42 "MotionDeskModel" "thrown" "I", .fieldLink RX1 48 "MotionDeskModel" "textKeys" "I", .fieldLink RX1 58 "MotionDeskModel" "tracks" "I", .fieldLink RX1 16 "MotionDeskModel" "textValues" "[I", .fieldLink RX1 19 "MotionDeskModel" "nodeOf" "[I", .fieldLink RX1 22 "MotionDeskModel" "whatOf" "[I", .fieldLink RX1 25 "MotionDeskModel" "howOf" "[I", .fieldLink RX1 28 "MotionDeskModel" "keysOf" "[I", .fieldLink RX1 31 "MotionDeskModel" "times" "[I", .fieldLink RX1 13 "MotionDeskModel" "textTimes" "[I", .fieldLink RX1 34 "MotionDeskModel" "values" "[I", .methodLink RX1 55 yX1_there, .instanceMethod yX1_there, .selects RX1 yX1_there yX1_there, .initialized RX1, .code yX1_there cX1_there 3 (some .boolean), .fieldLink RX1 37 "MotionDeskModel" "nodes" "I", .methodLink RX1 51 yX1_fits, .static yX1_fits, .code yX1_fits cX1_fits 3 (some .boolean), .constant RX1 45 (4194304), .constant RX1 46 (1048576)] ++ wsX10)
def wsX1_there : List Cond := .code yX1_there cX1_there 3 (some .boolean) :: ([.fieldLink RX1 37 "MotionDeskModel" "nodes" "I"] ++ wsX10)
def wsX1_set : List Cond := .code yX1_set cX1_set 6 (some .boolean) :: ([.fieldLink RX1 42 "MotionDeskModel" "thrown" "I", .fieldLink RX1 7 "MotionDeskModel" "poses" "[I", .methodLink RX1 55 yX1_there, .instanceMethod yX1_there, .selects RX1 yX1_there yX1_there, .initialized RX1, .code yX1_there cX1_there 3 (some .boolean), .fieldLink RX1 37 "MotionDeskModel" "nodes" "I", .methodLink RX1 51 yX1_fits, .static yX1_fits, .code yX1_fits cX1_fits 3 (some .boolean), .constant RX1 45 (4194304), .constant RX1 46 (1048576)] ++ wsX10)
def wsX1_time : List Cond := .code yX1_time cX1_time 4 (some .boolean) :: ([.fieldLink RX1 42 "MotionDeskModel" "thrown" "I", .constant RX1 47 (1000000), .fieldLink RX1 74 "MotionDeskModel" "now" "I", .fieldLink RX1 58 "MotionDeskModel" "tracks" "I", .fieldLink RX1 7 "MotionDeskModel" "poses" "[I", .fieldLink RX1 19 "MotionDeskModel" "nodeOf" "[I", .fieldLink RX1 22 "MotionDeskModel" "whatOf" "[I", .methodLink RX1 77 yX1_at, .instanceMethod yX1_at, .selects RX1 yX1_at yX1_at, .initialized RX1, .code yX1_at cX1_at 19 (some .int), .fieldLink RX1 28 "MotionDeskModel" "keysOf" "[I", .fieldLink RX1 31 "MotionDeskModel" "times" "[I", .fieldLink RX1 34 "MotionDeskModel" "values" "[I", .fieldLink RX1 25 "MotionDeskModel" "howOf" "[I", .constantLong RX1 61 (65536), .constantLong RX1 70 (196608), .constantLong RX1 72 (2), .methodLink RX1 63 yX1_div, .static yX1_div, .code yX1_div cX1_div 6 (some .long), .methodLink RX1 67 yX1_mul, .static yX1_mul, .code yX1_mul cX1_mul 4 (some .long)] ++ wsX10)
def wsX1_at : List Cond := .code yX1_at cX1_at 19 (some .int) :: ([.fieldLink RX1 28 "MotionDeskModel" "keysOf" "[I", .fieldLink RX1 31 "MotionDeskModel" "times" "[I", .fieldLink RX1 34 "MotionDeskModel" "values" "[I", .fieldLink RX1 25 "MotionDeskModel" "howOf" "[I", .constantLong RX1 61 (65536), .constantLong RX1 70 (196608), .constantLong RX1 72 (2), .methodLink RX1 63 yX1_div, .static yX1_div, .initialized RX1, .code yX1_div cX1_div 6 (some .long), .methodLink RX1 67 yX1_mul, .static yX1_mul, .code yX1_mul cX1_mul 4 (some .long)] ++ wsX10)
def wsX1_div : List Cond := .code yX1_div cX1_div 6 (some .long) :: ([])
def wsX1_mul : List Cond := .code yX1_mul cX1_mul 4 (some .long) :: ([.constantLong RX1 61 (65536), .methodLink RX1 63 yX1_div, .static yX1_div, .initialized RX1, .code yX1_div cX1_div 6 (some .long)])
def wsX1_value : List Cond := .code yX1_value cX1_value 4 (some .int) :: ([.fieldLink RX1 42 "MotionDeskModel" "thrown" "I", .fieldLink RX1 7 "MotionDeskModel" "poses" "[I", .methodLink RX1 55 yX1_there, .instanceMethod yX1_there, .selects RX1 yX1_there yX1_there, .initialized RX1, .code yX1_there cX1_there 3 (some .boolean), .fieldLink RX1 37 "MotionDeskModel" "nodes" "I"] ++ wsX10)
def wsX1_count : List Cond := .code yX1_count cX1_count 4 (some .int) :: ([.fieldLink RX1 42 "MotionDeskModel" "thrown" "I", .fieldLink RX1 58 "MotionDeskModel" "tracks" "I", .fieldLink RX1 28 "MotionDeskModel" "keysOf" "[I", .fieldLink RX1 37 "MotionDeskModel" "nodes" "I", .fieldLink RX1 74 "MotionDeskModel" "now" "I", .fieldLink RX1 48 "MotionDeskModel" "textKeys" "I"] ++ wsX10)
def wsX1_about : List Cond := .code yX1_about cX1_about 3 (some .int) :: ([.fieldLink RX1 42 "MotionDeskModel" "thrown" "I", .fieldLink RX1 58 "MotionDeskModel" "tracks" "I", .fieldLink RX1 19 "MotionDeskModel" "nodeOf" "[I", .fieldLink RX1 22 "MotionDeskModel" "whatOf" "[I", .fieldLink RX1 25 "MotionDeskModel" "howOf" "[I", .fieldLink RX1 28 "MotionDeskModel" "keysOf" "[I"] ++ wsX10)
def wsX1_clear : List Cond := .code yX1_clear cX1_clear 1 none :: ([.fieldLink RX1 42 "MotionDeskModel" "thrown" "I", .fieldLink RX1 58 "MotionDeskModel" "tracks" "I"] ++ wsX10)
set_option maxRecDepth 20000 in
theorem gX1_key_X1_fits : GoodIn wsX1_key (va_wsS RX1 51 yX1_fits wsX1_fits) := goodIn_p _ [9] rfl (by decide +kernel)
set_option maxRecDepth 20000 in
theorem gX1_track_X1_there : GoodIn wsX1_track (wsV RX1 55 RX1 yX1_there wsX1_there) := goodIn_p _ [16] rfl (by decide +kernel)
set_option maxRecDepth 20000 in
theorem gX1_track_X1_fits : GoodIn wsX1_track (va_wsS RX1 51 yX1_fits wsX1_fits) := goodIn_p _ [20] rfl (by decide +kernel)
set_option maxRecDepth 20000 in
theorem gX1_set_X1_there : GoodIn wsX1_set (wsV RX1 55 RX1 yX1_there wsX1_there) := goodIn_p _ [7] rfl (by decide +kernel)
set_option maxRecDepth 20000 in
theorem gX1_set_X1_fits : GoodIn wsX1_set (va_wsS RX1 51 yX1_fits wsX1_fits) := goodIn_p _ [11] rfl (by decide +kernel)
set_option maxRecDepth 20000 in
theorem gX1_time_X1_at : GoodIn wsX1_time (wsV RX1 77 RX1 yX1_at wsX1_at) := goodIn_p _ [12, 22, 25] rfl (by decide +kernel)
set_option maxRecDepth 20000 in
theorem gX1_at_X1_div : GoodIn wsX1_at (va_wsS RX1 63 yX1_div wsX1_div) := goodIn_p _ [11] rfl (by decide +kernel)
set_option maxRecDepth 20000 in
theorem gX1_at_X1_mul : GoodIn wsX1_at (va_wsS RX1 67 yX1_mul wsX1_mul) := goodIn_p _ [14, 11] rfl (by decide +kernel)
set_option maxRecDepth 20000 in
theorem gX1_mul_X1_div : GoodIn wsX1_mul (va_wsS RX1 63 yX1_div wsX1_div) := goodIn_p _ [5] rfl (by decide +kernel)
set_option maxRecDepth 20000 in
theorem gX1_value_X1_there : GoodIn wsX1_value (wsV RX1 55 RX1 yX1_there wsX1_there) := goodIn_p _ [7] rfl (by decide +kernel)
abbrev vwCl : List vw_C := [(RX0, TX0, 13), (RX1, TX1, 14)]
theorem inX0 : ∀ w ∈ wsX00, w ∈ lw_tbl := by decide +kernel
theorem inX1 : ∀ w ∈ wsX10, w ∈ lw_tbl := by decide +kernel
set_option maxRecDepth 20000 in
theorem gL_law_L_cell : GoodIn lw_tbl (va_wsS RL 9 yL_cell wsL_cell) := goodIn_p _ [169] rfl (by decide +kernel)
set_option maxRecDepth 20000 in
theorem gL_law_X0_init : GoodIn lw_tbl (wsX0_init) := goodIn_p _ [17, 20, 23, 26, 29] rfl (by decide +kernel)
set_option maxRecDepth 20000 in
theorem gL_law_X1_init : GoodIn lw_tbl (wsX1_init) := goodIn_p _ [174, 20] rfl (by decide +kernel)
set_option maxRecDepth 20000 in
theorem gL_law_X0_key : GoodIn lw_tbl (wsV RL 21 RX0 yX0_key wsX0_key) := goodIn_p _ [75, 78, 82, 87, 90] rfl (by decide +kernel)
set_option maxRecDepth 20000 in
theorem gL_law_X1_key : GoodIn lw_tbl (wsV RL 25 RX1 yX1_key wsX1_key) := goodIn_p _ [223, 227] rfl (by decide +kernel)
set_option maxRecDepth 20000 in
theorem gL_law_X0_track : GoodIn lw_tbl (wsV RL 26 RX0 yX0_track wsX0_track) := goodIn_p _ [94, 98, 101, 104, 108, 82, 87] rfl (by decide +kernel)
set_option maxRecDepth 20000 in
theorem gL_law_X1_track : GoodIn lw_tbl (wsV RL 30 RX1 yX1_track wsX1_track) := goodIn_p _ [233, 237, 227] rfl (by decide +kernel)
set_option maxRecDepth 20000 in
theorem gL_law_X0_set : GoodIn lw_tbl (wsV RL 31 RX0 yX0_set wsX0_set) := goodIn_p _ [115, 98, 101, 82, 87, 29, 90] rfl (by decide +kernel)
set_option maxRecDepth 20000 in
theorem gL_law_X1_set : GoodIn lw_tbl (wsV RL 35 RX1 yX1_set wsX1_set) := goodIn_p _ [241, 237, 227] rfl (by decide +kernel)
set_option maxRecDepth 20000 in
theorem gL_law_X0_time : GoodIn lw_tbl (wsV RL 36 RX0 yX0_time wsX0_time) := goodIn_p _ [119, 78, 123, 127, 29, 131, 134, 137, 141, 144] rfl (by decide +kernel)
set_option maxRecDepth 20000 in
theorem gL_law_X1_time : GoodIn lw_tbl (wsV RL 40 RX1 yX1_time wsX1_time) := goodIn_p _ [245, 249, 252, 256] rfl (by decide +kernel)
set_option maxRecDepth 20000 in
theorem gL_law_X0_value : GoodIn lw_tbl (wsV RL 41 RX0 yX0_value wsX0_value) := goodIn_p _ [150, 98, 101, 29] rfl (by decide +kernel)
set_option maxRecDepth 20000 in
theorem gL_law_X1_value : GoodIn lw_tbl (wsV RL 44 RX1 yX1_value wsX1_value) := goodIn_p _ [262, 237] rfl (by decide +kernel)
set_option maxRecDepth 20000 in
theorem gL_law_X0_count : GoodIn lw_tbl (wsV RL 45 RX0 yX0_count wsX0_count) := goodIn_p _ [154, 158] rfl (by decide +kernel)
set_option maxRecDepth 20000 in
theorem gL_law_X1_count : GoodIn lw_tbl (wsV RL 49 RX1 yX1_count wsX1_count) := goodIn_p _ [266] rfl (by decide +kernel)
set_option maxRecDepth 20000 in
theorem gL_law_X0_about : GoodIn lw_tbl (wsV RL 50 RX0 yX0_about wsX0_about) := goodIn_p _ [162] rfl (by decide +kernel)
set_option maxRecDepth 20000 in
theorem gL_law_X1_about : GoodIn lw_tbl (wsV RL 54 RX1 yX1_about wsX1_about) := goodIn_p _ [270] rfl (by decide +kernel)
set_option maxRecDepth 20000 in
theorem gL_law_X0_clear : GoodIn lw_tbl (wsV RL 55 RX0 yX0_clear wsX0_clear) := goodIn_p _ [166] rfl (by decide +kernel)
set_option maxRecDepth 20000 in
theorem gL_law_X1_clear : GoodIn lw_tbl (wsV RL 58 RX1 yX1_clear wsX1_clear) := goodIn_p _ [274] rfl (by decide +kernel)

