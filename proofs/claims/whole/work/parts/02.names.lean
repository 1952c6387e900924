/-! ===== BEGIN words of one list among another's, by their places ===== -/
theorem goodIn_r {big : List Cond} (ws : List Cond) (ps : List Nat) (hp : ws = ps.filterMap (fun i => big[i]?)) (h : ws.all goodWord = true) : GoodIn big ws := by
  intro w hw
  have h1 := List.all_eq_true.mp h w hw
  rw [hp] at hw
  obtain ⟨i, -, hi⟩ := List.mem_filterMap.mp hw
  have hm : w ∈ big := by first | exact List.mem_of_getElem? hi | exact List.getElem?_mem hi
  exact ⟨hm, good_of_word h1⟩
theorem goodIn_app {big a b : List Cond} (ha : GoodIn big a) (hb : GoodIn big b) : GoodIn big (a ++ b) := fun w h => (List.mem_append.mp h).elim (ha w) (hb w)
theorem goodIn_ca {big a b : List Cond} {c : Cond} (ha : GoodIn big (c :: a)) (hb : GoodIn big b) : GoodIn big (c :: (a ++ b)) := fun w h => (List.mem_cons.mp h).elim (fun e => ha w (List.mem_cons.mpr (Or.inl e))) (fun h => (List.mem_append.mp h).elim (fun h => ha w (List.mem_cons.mpr (Or.inr h))) (hb w))
theorem goodIn_sub {big ws : List Cond} (hm : ∀ w ∈ ws, w ∈ big) (h : ws.all goodWord = true) : GoodIn big ws := fun w hw => ⟨hm w hw, good_of_word (List.all_eq_true.mp h w hw)⟩
/-! ===== END ===== -/

/-! ===== BEGIN printed: names, fields, word lists, decode rows ===== -/
def RX0 : String := "PointerBuckets"
def TX0 : u_T := fun k => match k with
  | 0 => ("PointerBuckets", "base", "I", true)
  | 1 => ("PointerBuckets", "cap", "I", true)
  | 2 => ("PointerBuckets", "pageLimit", "I", true)
  | 3 => ("PointerBuckets", "bucketLimit", "I", true)
  | 4 => ("PointerBuckets", "keys", "[I", true)
  | 5 => ("PointerBuckets", "values", "[I", true)
  | 6 => ("PointerBuckets", "count", "I", false)
  | 7 => ("PointerBuckets", "level", "I", false)
  | 8 => ("PointerBuckets", "pointer", "I", false)
  | _ => ("PointerBuckets", "rowLengths", "[I", true)
def tyX0 : Nat → FieldType := fun k => match k with
  | 0 => .int
  | 1 => .int
  | 2 => .int
  | 3 => .int
  | 4 => .array .int
  | 5 => .array .int
  | 6 => .int
  | 7 => .int
  | 8 => .int
  | _ => .array .int
abbrev wsX00 : List Cond := u_ws RX0 TX0 10
theorem nmX0 : ∀ a, a < 10 → ∀ b, b < 10 → a ≠ b → (TX0 a).2.1 ≠ (TX0 b).2.1 := by decide +kernel
theorem tyX0_ok : ∀ k, k < 10 → parseFieldDescriptor (TX0 k).2.2.1 = some (tyX0 k) := by decide +kernel
abbrev cX0_init : ByteArray := prog_1_method_1_code
def yX0_init : MethodName := ⟨RX0, "<init>", "(IIII)V"⟩
abbrev cX0_put : ByteArray := prog_1_method_2_code
def yX0_put : MethodName := ⟨RX0, "put", "(II)I"⟩
abbrev cX0_get : ByteArray := prog_1_method_3_code
def yX0_get : MethodName := ⟨RX0, "get", "(I)I"⟩
abbrev cX0_has : ByteArray := prog_1_method_4_code
def yX0_has : MethodName := ⟨RX0, "has", "(I)Z"⟩
abbrev cX0_remove : ByteArray := prog_1_method_5_code
def yX0_remove : MethodName := ⟨RX0, "remove", "(I)Z"⟩
abbrev cX0_size : ByteArray := prog_1_method_6_code
def yX0_size : MethodName := ⟨RX0, "size", "()I"⟩
abbrev cX0_buckets : ByteArray := prog_1_method_7_code
def yX0_buckets : MethodName := ⟨RX0, "buckets", "()I"⟩
abbrev cX0_level : ByteArray := prog_1_method_8_code
def yX0_level : MethodName := ⟨RX0, "level", "()I"⟩
abbrev cX0_pointer : ByteArray := prog_1_method_9_code
def yX0_pointer : MethodName := ⟨RX0, "pointer", "()I"⟩
abbrev cX0_bucketOf : ByteArray := prog_1_method_10_code
def yX0_bucketOf : MethodName := ⟨RX0, "bucketOf", "(I)I"⟩
abbrev cX0_pages : ByteArray := prog_1_method_11_code
def yX0_pages : MethodName := ⟨RX0, "pages", "(I)I"⟩
abbrev cX0_free : ByteArray := prog_1_method_12_code
def yX0_free : MethodName := ⟨RX0, "free", "()I"⟩
abbrev cX0_key : ByteArray := prog_1_method_13_code
def yX0_key : MethodName := ⟨RX0, "key", "(II)I"⟩
abbrev cX0_clear : ByteArray := prog_1_method_14_code
def yX0_clear : MethodName := ⟨RX0, "clear", "()V"⟩
abbrev cX0_within : ByteArray := prog_1_method_15_code
def yX0_within : MethodName := ⟨RX0, "within", "(III)I"⟩
abbrev cX0_bucketsAtLevelStart : ByteArray := prog_1_method_16_code
def yX0_bucketsAtLevelStart : MethodName := ⟨RX0, "bucketsAtLevelStart", "()I"⟩
abbrev cX0_isBucket : ByteArray := prog_1_method_17_code
def yX0_isBucket : MethodName := ⟨RX0, "isBucket", "(I)Z"⟩
abbrev cX0_isCrowded : ByteArray := prog_1_method_18_code
def yX0_isCrowded : MethodName := ⟨RX0, "isCrowded", "()Z"⟩
abbrev cX0_isSparse : ByteArray := prog_1_method_19_code
def yX0_isSparse : MethodName := ⟨RX0, "isSparse", "()Z"⟩
abbrev cX0_placeOf : ByteArray := prog_1_method_20_code
def yX0_placeOf : MethodName := ⟨RX0, "placeOf", "(I)I"⟩
abbrev cX0_lastPlaceOfBucket : ByteArray := prog_1_method_21_code
def yX0_lastPlaceOfBucket : MethodName := ⟨RX0, "lastPlaceOfBucket", "(I)I"⟩
abbrev cX0_putNew : ByteArray := prog_1_method_22_code
def yX0_putNew : MethodName := ⟨RX0, "putNew", "(II)I"⟩
abbrev cX0_part : ByteArray := prog_1_method_23_code
def yX0_part : MethodName := ⟨RX0, "part", "()V"⟩
abbrev cX0_join : ByteArray := prog_1_method_24_code
def yX0_join : MethodName := ⟨RX0, "join", "()V"⟩
abbrev cX0_takeOut : ByteArray := prog_1_method_25_code
def yX0_takeOut : MethodName := ⟨RX0, "takeOut", "(I)V"⟩
abbrev cX0_moveBucketToEnd : ByteArray := prog_1_method_26_code
def yX0_moveBucketToEnd : MethodName := ⟨RX0, "moveBucketToEnd", "(I)V"⟩
abbrev cX0_moveToEnd : ByteArray := prog_1_method_27_code
def yX0_moveToEnd : MethodName := ⟨RX0, "moveToEnd", "(I)V"⟩
abbrev cX0_pagesFor : ByteArray := prog_1_method_28_code
def yX0_pagesFor : MethodName := ⟨RX0, "pagesFor", "(I)I"⟩
abbrev cX0_pagesNeeded : ByteArray := prog_1_method_29_code
def yX0_pagesNeeded : MethodName := ⟨RX0, "pagesNeeded", "()I"⟩
def RX1 : String := "PointerBucketsModel"
def TX1 : u_T := fun k => match k with
  | 0 => ("PointerBucketsModel", "base", "I", true)
  | 1 => ("PointerBucketsModel", "cap", "I", true)
  | 2 => ("PointerBucketsModel", "most", "I", true)
  | 3 => ("PointerBucketsModel", "mostBuckets", "I", true)
  | 4 => ("PointerBucketsModel", "size", "I", false)
  | 5 => ("PointerBucketsModel", "keys", "[I", true)
  | 6 => ("PointerBucketsModel", "values", "[I", true)
  | 7 => ("PointerBucketsModel", "homes", "[I", true)
  | 8 => ("PointerBucketsModel", "level", "I", false)
  | 9 => ("PointerBucketsModel", "pointer", "I", false)
  | _ => ("PointerBucketsModel", "counts", "[I", true)
def tyX1 : Nat → FieldType := fun k => match k with
  | 0 => .int
  | 1 => .int
  | 2 => .int
  | 3 => .int
  | 4 => .int
  | 5 => .array .int
  | 6 => .array .int
  | 7 => .array .int
  | 8 => .int
  | 9 => .int
  | _ => .array .int
abbrev wsX10 : List Cond := u_ws RX1 TX1 11
theorem nmX1 : ∀ a, a < 11 → ∀ b, b < 11 → a ≠ b → (TX1 a).2.1 ≠ (TX1 b).2.1 := by decide +kernel
theorem tyX1_ok : ∀ k, k < 11 → parseFieldDescriptor (TX1 k).2.2.1 = some (tyX1 k) := by decide +kernel
abbrev cX1_init : ByteArray := prog_3_method_1_code
def yX1_init : MethodName := ⟨RX1, "<init>", "(IIII)V"⟩
abbrev cX1_round : ByteArray := prog_3_method_2_code
def yX1_round : MethodName := ⟨RX1, "round", "()I"⟩
abbrev cX1_buckets : ByteArray := prog_3_method_3_code
def yX1_buckets : MethodName := ⟨RX1, "buckets", "()I"⟩
abbrev cX1_bucketOf : ByteArray := prog_3_method_4_code
def yX1_bucketOf : MethodName := ⟨RX1, "bucketOf", "(I)I"⟩
abbrev cX1_find : ByteArray := prog_3_method_5_code
def yX1_find : MethodName := ⟨RX1, "find", "(I)I"⟩
abbrev cX1_count : ByteArray := prog_3_method_6_code
def yX1_count : MethodName := ⟨RX1, "count", "()V"⟩
abbrev cX1_pagesFor : ByteArray := prog_3_method_7_code
def yX1_pagesFor : MethodName := ⟨RX1, "pagesFor", "(I)I"⟩
abbrev cX1_needed : ByteArray := prog_3_method_8_code
def yX1_needed : MethodName := ⟨RX1, "needed", "()I"⟩
abbrev cX1_settle : ByteArray := prog_3_method_9_code
def yX1_settle : MethodName := ⟨RX1, "settle", "()V"⟩
abbrev cX1_forth : ByteArray := prog_3_method_10_code
def yX1_forth : MethodName := ⟨RX1, "forth", "()V"⟩
abbrev cX1_back : ByteArray := prog_3_method_11_code
def yX1_back : MethodName := ⟨RX1, "back", "()V"⟩
abbrev cX1_put : ByteArray := prog_3_method_12_code
def yX1_put : MethodName := ⟨RX1, "put", "(II)I"⟩
abbrev cX1_get : ByteArray := prog_3_method_13_code
def yX1_get : MethodName := ⟨RX1, "get", "(I)I"⟩
abbrev cX1_has : ByteArray := prog_3_method_14_code
def yX1_has : MethodName := ⟨RX1, "has", "(I)Z"⟩
abbrev cX1_cut : ByteArray := prog_3_method_15_code
def yX1_cut : MethodName := ⟨RX1, "cut", "(I)V"⟩
abbrev cX1_toEnd : ByteArray := prog_3_method_16_code
def yX1_toEnd : MethodName := ⟨RX1, "toEnd", "(I)V"⟩
abbrev cX1_remove : ByteArray := prog_3_method_17_code
def yX1_remove : MethodName := ⟨RX1, "remove", "(I)Z"⟩
abbrev cX1_size : ByteArray := prog_3_method_18_code
def yX1_size : MethodName := ⟨RX1, "size", "()I"⟩
abbrev cX1_level : ByteArray := prog_3_method_19_code
def yX1_level : MethodName := ⟨RX1, "level", "()I"⟩
abbrev cX1_pointer : ByteArray := prog_3_method_20_code
def yX1_pointer : MethodName := ⟨RX1, "pointer", "()I"⟩
abbrev cX1_pages : ByteArray := prog_3_method_21_code
def yX1_pages : MethodName := ⟨RX1, "pages", "(I)I"⟩
abbrev cX1_free : ByteArray := prog_3_method_22_code
def yX1_free : MethodName := ⟨RX1, "free", "()I"⟩
abbrev cX1_key : ByteArray := prog_3_method_23_code
def yX1_key : MethodName := ⟨RX1, "key", "(II)I"⟩
abbrev cX1_clear : ByteArray := prog_3_method_24_code
def yX1_clear : MethodName := ⟨RX1, "clear", "()V"⟩
def RJ9 : String := "java/lang/Math"
def TJ9 : u_T := fun k => match k with
  | _ => ("", "", "", false)
def tyJ9 : Nat → FieldType := fun k => match k with
  | _ => .int
abbrev wsJ90 : List Cond := u_ws RJ9 TJ9 0
theorem nmJ9 : ∀ a, a < 0 → ∀ b, b < 0 → a ≠ b → (TJ9 a).2.1 ≠ (TJ9 b).2.1 := by decide +kernel
theorem tyJ9_ok : ∀ k, k < 0 → parseFieldDescriptor (TJ9 k).2.2.1 = some (tyJ9 k) := by decide +kernel
abbrev cJ9_max_7cf53 : ByteArray := prog_4_method_65_code
def yJ9_max_7cf53 : MethodName := ⟨RJ9, "max", "(II)I"⟩
abbrev cJ9_min_7cf53 : ByteArray := prog_4_method_69_code
def yJ9_min_7cf53 : MethodName := ⟨RJ9, "min", "(II)I"⟩
def RL : String := "PointerBucketsLaw"
abbrev cL_cell : ByteArray := method_2_code
def yL_cell : MethodName := ⟨RL, "cell", "([II)I"⟩
abbrev cL_law : ByteArray := code
def yL_law : MethodName := ⟨RL, "law", "([I)Z"⟩
def wsX0_within : List Cond := .code yX0_within cX0_within 3 (some .int) :: ([.methodLink RX0 26 Lib.Math.min.name, .static Lib.Math.min.name, .initialized "java/lang/Math", .code Lib.Math.min.name Lib.Math.min.code 2 (some .int), .methodLink RX0 90 Lib.Math.max.name, .static Lib.Math.max.name, .code Lib.Math.max.name Lib.Math.max.code 2 (some .int)])
def wsX0_init : List Cond := .code yX0_init cX0_init 6 none :: ([.methodLink RX0 1 objectInit, .instanceMethod objectInit, .code objectInit ⟨#[0xb1]⟩ 1 none, .fieldLink RX0 13 "PointerBuckets" "base" "I", .fieldLink RX0 17 "PointerBuckets" "cap" "I", .fieldLink RX0 20 "PointerBuckets" "pageLimit" "I", .fieldLink RX0 23 "PointerBuckets" "bucketLimit" "I", .methodLink RX0 26 Lib.Math.min.name, .static Lib.Math.min.name, .initialized "java/lang/Math", .code Lib.Math.min.name Lib.Math.min.code 2 (some .int), .arrayClass .int, .fieldLink RX0 32 "PointerBuckets" "keys" "[I", .fieldLink RX0 36 "PointerBuckets" "values" "[I", .fieldLink RX0 39 "PointerBuckets" "rowLengths" "[I", .methodLink RX0 7 yX0_within, .static yX0_within, .initialized RX0, .code yX0_within cX0_within 3 (some .int), .methodLink RX0 90 Lib.Math.max.name, .static Lib.Math.max.name, .code Lib.Math.max.name Lib.Math.max.code 2 (some .int)] ++ wsX00)
def wsX0_placeOf : List Cond := .code yX0_placeOf cX0_placeOf 3 (some .int) :: ([.fieldLink RX0 46 "PointerBuckets" "count" "I", .fieldLink RX0 32 "PointerBuckets" "keys" "[I"] ++ wsX00)
def wsX0_bucketsAtLevelStart : List Cond := .code yX0_bucketsAtLevelStart cX0_bucketsAtLevelStart 1 (some .int) :: ([.fieldLink RX0 13 "PointerBuckets" "base" "I", .fieldLink RX0 73 "PointerBuckets" "level" "I"] ++ wsX00)
def wsX0_buckets : List Cond := .code yX0_buckets cX0_buckets 1 (some .int) :: ([.fieldLink RX0 70 "PointerBuckets" "pointer" "I", .methodLink RX0 67 yX0_bucketsAtLevelStart, .instanceMethod yX0_bucketsAtLevelStart, .selects RX0 yX0_bucketsAtLevelStart yX0_bucketsAtLevelStart, .initialized RX0, .code yX0_bucketsAtLevelStart cX0_bucketsAtLevelStart 1 (some .int), .fieldLink RX0 13 "PointerBuckets" "base" "I", .fieldLink RX0 73 "PointerBuckets" "level" "I"] ++ wsX00)
def wsX0_isCrowded : List Cond := .code yX0_isCrowded cX0_isCrowded 1 (some .boolean) :: ([.fieldLink RX0 46 "PointerBuckets" "count" "I", .fieldLink RX0 17 "PointerBuckets" "cap" "I", .methodLink RX0 60 yX0_buckets, .instanceMethod yX0_buckets, .selects RX0 yX0_buckets yX0_buckets, .initialized RX0, .code yX0_buckets cX0_buckets 1 (some .int), .fieldLink RX0 70 "PointerBuckets" "pointer" "I", .methodLink RX0 67 yX0_bucketsAtLevelStart, .instanceMethod yX0_bucketsAtLevelStart, .selects RX0 yX0_bucketsAtLevelStart yX0_bucketsAtLevelStart, .code yX0_bucketsAtLevelStart cX0_bucketsAtLevelStart 1 (some .int), .fieldLink RX0 13 "PointerBuckets" "base" "I", .fieldLink RX0 73 "PointerBuckets" "level" "I"] ++ wsX00)
def wsX0_part : List Cond := .code yX0_part cX0_part 1 none :: ([.fieldLink RX0 70 "PointerBuckets" "pointer" "I", .fieldLink RX0 73 "PointerBuckets" "level" "I", .methodLink RX0 67 yX0_bucketsAtLevelStart, .instanceMethod yX0_bucketsAtLevelStart, .selects RX0 yX0_bucketsAtLevelStart yX0_bucketsAtLevelStart, .initialized RX0, .code yX0_bucketsAtLevelStart cX0_bucketsAtLevelStart 1 (some .int), .fieldLink RX0 13 "PointerBuckets" "base" "I"] ++ wsX00)
def wsX0_bucketOf : List Cond := .code yX0_bucketOf cX0_bucketOf 4 (some .int) :: ([.constant RX0 76 (2147483647), .fieldLink RX0 70 "PointerBuckets" "pointer" "I", .methodLink RX0 67 yX0_bucketsAtLevelStart, .instanceMethod yX0_bucketsAtLevelStart, .selects RX0 yX0_bucketsAtLevelStart yX0_bucketsAtLevelStart, .initialized RX0, .code yX0_bucketsAtLevelStart cX0_bucketsAtLevelStart 1 (some .int), .fieldLink RX0 13 "PointerBuckets" "base" "I", .fieldLink RX0 73 "PointerBuckets" "level" "I"] ++ wsX00)
def wsX0_pagesFor : List Cond := .code yX0_pagesFor cX0_pagesFor 2 (some .int) :: ([.fieldLink RX0 17 "PointerBuckets" "cap" "I", .methodLink RX0 90 Lib.Math.max.name, .static Lib.Math.max.name, .initialized "java/lang/Math", .code Lib.Math.max.name Lib.Math.max.code 2 (some .int)] ++ wsX00)
def wsX0_pagesNeeded_r1 : List Cond := [Cond.fieldLink RX0 39 "PointerBuckets" "rowLengths" "[I", Cond.fieldLink RX0 46 "PointerBuckets" "count" "I", Cond.fieldLink RX0 32 "PointerBuckets" "keys" "[I", Cond.methodLink RX0 60 yX0_buckets, Cond.instanceMethod yX0_buckets, Cond.selects RX0 yX0_buckets yX0_buckets, Cond.initialized RX0, Cond.code yX0_buckets cX0_buckets 1 (some .int), Cond.fieldLink RX0 70 "PointerBuckets" "pointer" "I", Cond.methodLink RX0 67 yX0_bucketsAtLevelStart, Cond.instanceMethod yX0_bucketsAtLevelStart, Cond.selects RX0 yX0_bucketsAtLevelStart yX0_bucketsAtLevelStart, Cond.code yX0_bucketsAtLevelStart cX0_bucketsAtLevelStart 1 (some .int), Cond.fieldLink RX0 13 "PointerBuckets" "base" "I", Cond.fieldLink RX0 73 "PointerBuckets" "level" "I", Cond.methodLink RX0 81 yX0_bucketOf, Cond.instanceMethod yX0_bucketOf, Cond.selects RX0 yX0_bucketOf yX0_bucketOf, Cond.code yX0_bucketOf cX0_bucketOf 4 (some .int), Cond.constant RX0 76 (2147483647), Cond.methodLink RX0 84 yX0_pagesFor, Cond.instanceMethod yX0_pagesFor, Cond.selects RX0 yX0_pagesFor yX0_pagesFor, Cond.code yX0_pagesFor cX0_pagesFor 2 (some .int)]
def wsX0_pagesNeeded_r2 : List Cond := [Cond.fieldLink RX0 17 "PointerBuckets" "cap" "I", Cond.methodLink RX0 90 Lib.Math.max.name, Cond.static Lib.Math.max.name, Cond.initialized "java/lang/Math", Cond.code Lib.Math.max.name Lib.Math.max.code 2 (some .int)]
def wsX0_pagesNeeded : List Cond := .code yX0_pagesNeeded cX0_pagesNeeded 4 (some .int) :: ((wsX0_pagesNeeded_r1 ++ wsX0_pagesNeeded_r2) ++ wsX00)
def wsX0_putNew_r1 : List Cond := [Cond.fieldLink RX0 73 "PointerBuckets" "level" "I", Cond.fieldLink RX0 70 "PointerBuckets" "pointer" "I", Cond.fieldLink RX0 32 "PointerBuckets" "keys" "[I", Cond.fieldLink RX0 46 "PointerBuckets" "count" "I", Cond.fieldLink RX0 36 "PointerBuckets" "values" "[I", Cond.fieldLink RX0 23 "PointerBuckets" "bucketLimit" "I", Cond.fieldLink RX0 20 "PointerBuckets" "pageLimit" "I", Cond.methodLink RX0 93 yX0_isCrowded, Cond.instanceMethod yX0_isCrowded, Cond.selects RX0 yX0_isCrowded yX0_isCrowded, Cond.initialized RX0, Cond.code yX0_isCrowded cX0_isCrowded 1 (some .boolean), Cond.fieldLink RX0 17 "PointerBuckets" "cap" "I", Cond.methodLink RX0 60 yX0_buckets, Cond.instanceMethod yX0_buckets, Cond.selects RX0 yX0_buckets yX0_buckets, Cond.code yX0_buckets cX0_buckets 1 (some .int), Cond.methodLink RX0 67 yX0_bucketsAtLevelStart, Cond.instanceMethod yX0_bucketsAtLevelStart, Cond.selects RX0 yX0_bucketsAtLevelStart yX0_bucketsAtLevelStart, Cond.code yX0_bucketsAtLevelStart cX0_bucketsAtLevelStart 1 (some .int), Cond.fieldLink RX0 13 "PointerBuckets" "base" "I", Cond.methodLink RX0 96 yX0_part, Cond.instanceMethod yX0_part]
def wsX0_putNew_r2 : List Cond := [Cond.selects RX0 yX0_part yX0_part, Cond.code yX0_part cX0_part 1 none, Cond.methodLink RX0 87 yX0_pagesNeeded, Cond.instanceMethod yX0_pagesNeeded, Cond.selects RX0 yX0_pagesNeeded yX0_pagesNeeded, Cond.code yX0_pagesNeeded cX0_pagesNeeded 4 (some .int), Cond.fieldLink RX0 39 "PointerBuckets" "rowLengths" "[I", Cond.methodLink RX0 81 yX0_bucketOf, Cond.instanceMethod yX0_bucketOf, Cond.selects RX0 yX0_bucketOf yX0_bucketOf, Cond.code yX0_bucketOf cX0_bucketOf 4 (some .int), Cond.constant RX0 76 (2147483647), Cond.methodLink RX0 84 yX0_pagesFor, Cond.instanceMethod yX0_pagesFor, Cond.selects RX0 yX0_pagesFor yX0_pagesFor, Cond.code yX0_pagesFor cX0_pagesFor 2 (some .int), Cond.methodLink RX0 90 Lib.Math.max.name, Cond.static Lib.Math.max.name, Cond.initialized "java/lang/Math", Cond.code Lib.Math.max.name Lib.Math.max.code 2 (some .int)]
def wsX0_putNew : List Cond := .code yX0_putNew cX0_putNew 5 (some .int) :: ((wsX0_putNew_r1 ++ wsX0_putNew_r2) ++ wsX00)
def wsX0_put_r1 : List Cond := [Cond.fieldLink RX0 36 "PointerBuckets" "values" "[I", Cond.fieldLink RX0 46 "PointerBuckets" "count" "I", Cond.fieldLink RX0 32 "PointerBuckets" "keys" "[I", Cond.methodLink RX0 42 yX0_placeOf, Cond.instanceMethod yX0_placeOf, Cond.selects RX0 yX0_placeOf yX0_placeOf, Cond.initialized RX0, Cond.code yX0_placeOf cX0_placeOf 3 (some .int), Cond.methodLink RX0 49 yX0_putNew, Cond.instanceMethod yX0_putNew, Cond.selects RX0 yX0_putNew yX0_putNew, Cond.code yX0_putNew cX0_putNew 5 (some .int), Cond.fieldLink RX0 73 "PointerBuckets" "level" "I", Cond.fieldLink RX0 70 "PointerBuckets" "pointer" "I", Cond.fieldLink RX0 23 "PointerBuckets" "bucketLimit" "I", Cond.fieldLink RX0 20 "PointerBuckets" "pageLimit" "I", Cond.methodLink RX0 93 yX0_isCrowded, Cond.instanceMethod yX0_isCrowded, Cond.selects RX0 yX0_isCrowded yX0_isCrowded, Cond.code yX0_isCrowded cX0_isCrowded 1 (some .boolean), Cond.fieldLink RX0 17 "PointerBuckets" "cap" "I", Cond.methodLink RX0 60 yX0_buckets, Cond.instanceMethod yX0_buckets, Cond.selects RX0 yX0_buckets yX0_buckets]
def wsX0_put_r2 : List Cond := [Cond.code yX0_buckets cX0_buckets 1 (some .int), Cond.methodLink RX0 67 yX0_bucketsAtLevelStart, Cond.instanceMethod yX0_bucketsAtLevelStart, Cond.selects RX0 yX0_bucketsAtLevelStart yX0_bucketsAtLevelStart, Cond.code yX0_bucketsAtLevelStart cX0_bucketsAtLevelStart 1 (some .int), Cond.fieldLink RX0 13 "PointerBuckets" "base" "I", Cond.methodLink RX0 96 yX0_part, Cond.instanceMethod yX0_part, Cond.selects RX0 yX0_part yX0_part, Cond.code yX0_part cX0_part 1 none, Cond.methodLink RX0 87 yX0_pagesNeeded, Cond.instanceMethod yX0_pagesNeeded, Cond.selects RX0 yX0_pagesNeeded yX0_pagesNeeded, Cond.code yX0_pagesNeeded cX0_pagesNeeded 4 (some .int), Cond.fieldLink RX0 39 "PointerBuckets" "rowLengths" "[I", Cond.methodLink RX0 81 yX0_bucketOf, Cond.instanceMethod yX0_bucketOf, Cond.selects RX0 yX0_bucketOf yX0_bucketOf, Cond.code yX0_bucketOf cX0_bucketOf 4 (some .int), Cond.constant RX0 76 (2147483647), Cond.methodLink RX0 84 yX0_pagesFor, Cond.instanceMethod yX0_pagesFor, Cond.selects RX0 yX0_pagesFor yX0_pagesFor, Cond.code yX0_pagesFor cX0_pagesFor 2 (some .int)]
def wsX0_put_r3 : List Cond := [Cond.methodLink RX0 90 Lib.Math.max.name, Cond.static Lib.Math.max.name, Cond.initialized "java/lang/Math", Cond.code Lib.Math.max.name Lib.Math.max.code 2 (some .int)]
def wsX0_put : List Cond := .code yX0_put cX0_put 4 (some .int) :: ((wsX0_put_r1 ++ (wsX0_put_r2 ++ wsX0_put_r3)) ++ wsX00)
def wsX0_get : List Cond := .code yX0_get cX0_get 3 (some .int) :: ([.fieldLink RX0 36 "PointerBuckets" "values" "[I", .methodLink RX0 42 yX0_placeOf, .instanceMethod yX0_placeOf, .selects RX0 yX0_placeOf yX0_placeOf, .initialized RX0, .code yX0_placeOf cX0_placeOf 3 (some .int), .fieldLink RX0 46 "PointerBuckets" "count" "I", .fieldLink RX0 32 "PointerBuckets" "keys" "[I"] ++ wsX00)
def wsX0_has : List Cond := .code yX0_has cX0_has 2 (some .boolean) :: ([.methodLink RX0 42 yX0_placeOf, .instanceMethod yX0_placeOf, .selects RX0 yX0_placeOf yX0_placeOf, .initialized RX0, .code yX0_placeOf cX0_placeOf 3 (some .int), .fieldLink RX0 46 "PointerBuckets" "count" "I", .fieldLink RX0 32 "PointerBuckets" "keys" "[I"] ++ wsX00)
def wsX0_lastPlaceOfBucket : List Cond := .code yX0_lastPlaceOfBucket cX0_lastPlaceOfBucket 3 (some .int) :: ([.fieldLink RX0 46 "PointerBuckets" "count" "I", .fieldLink RX0 32 "PointerBuckets" "keys" "[I", .methodLink RX0 81 yX0_bucketOf, .instanceMethod yX0_bucketOf, .selects RX0 yX0_bucketOf yX0_bucketOf, .initialized RX0, .code yX0_bucketOf cX0_bucketOf 4 (some .int), .constant RX0 76 (2147483647), .fieldLink RX0 70 "PointerBuckets" "pointer" "I", .methodLink RX0 67 yX0_bucketsAtLevelStart, .instanceMethod yX0_bucketsAtLevelStart, .selects RX0 yX0_bucketsAtLevelStart yX0_bucketsAtLevelStart, .code yX0_bucketsAtLevelStart cX0_bucketsAtLevelStart 1 (some .int), .fieldLink RX0 13 "PointerBuckets" "base" "I", .fieldLink RX0 73 "PointerBuckets" "level" "I"] ++ wsX00)
def wsX0_moveToEnd : List Cond := .code yX0_moveToEnd cX0_moveToEnd 5 none :: ([.fieldLink RX0 32 "PointerBuckets" "keys" "[I", .fieldLink RX0 36 "PointerBuckets" "values" "[I", .fieldLink RX0 46 "PointerBuckets" "count" "I"] ++ wsX00)
def wsX0_takeOut : List Cond := .code yX0_takeOut cX0_takeOut 3 none :: ([.fieldLink RX0 32 "PointerBuckets" "keys" "[I", .fieldLink RX0 36 "PointerBuckets" "values" "[I", .fieldLink RX0 46 "PointerBuckets" "count" "I", .methodLink RX0 81 yX0_bucketOf, .instanceMethod yX0_bucketOf, .selects RX0 yX0_bucketOf yX0_bucketOf, .initialized RX0, .code yX0_bucketOf cX0_bucketOf 4 (some .int), .constant RX0 76 (2147483647), .fieldLink RX0 70 "PointerBuckets" "pointer" "I", .methodLink RX0 67 yX0_bucketsAtLevelStart, .instanceMethod yX0_bucketsAtLevelStart, .selects RX0 yX0_bucketsAtLevelStart yX0_bucketsAtLevelStart, .code yX0_bucketsAtLevelStart cX0_bucketsAtLevelStart 1 (some .int), .fieldLink RX0 13 "PointerBuckets" "base" "I", .fieldLink RX0 73 "PointerBuckets" "level" "I", .methodLink RX0 102 yX0_lastPlaceOfBucket, .instanceMethod yX0_lastPlaceOfBucket, .selects RX0 yX0_lastPlaceOfBucket yX0_lastPlaceOfBucket, .code yX0_lastPlaceOfBucket cX0_lastPlaceOfBucket 3 (some .int), .methodLink RX0 105 yX0_moveToEnd, .instanceMethod yX0_moveToEnd, .selects RX0 yX0_moveToEnd yX0_moveToEnd, .code yX0_moveToEnd cX0_moveToEnd 5 none] ++ wsX00)
def wsX0_isSparse : List Cond := .code yX0_isSparse cX0_isSparse 1 (some .boolean) :: ([.fieldLink RX0 46 "PointerBuckets" "count" "I", .fieldLink RX0 17 "PointerBuckets" "cap" "I", .methodLink RX0 60 yX0_buckets, .instanceMethod yX0_buckets, .selects RX0 yX0_buckets yX0_buckets, .initialized RX0, .code yX0_buckets cX0_buckets 1 (some .int), .fieldLink RX0 70 "PointerBuckets" "pointer" "I", .methodLink RX0 67 yX0_bucketsAtLevelStart, .instanceMethod yX0_bucketsAtLevelStart, .selects RX0 yX0_bucketsAtLevelStart yX0_bucketsAtLevelStart, .code yX0_bucketsAtLevelStart cX0_bucketsAtLevelStart 1 (some .int), .fieldLink RX0 13 "PointerBuckets" "base" "I", .fieldLink RX0 73 "PointerBuckets" "level" "I"] ++ wsX00)
def wsX0_moveBucketToEnd : List Cond := .code yX0_moveBucketToEnd cX0_moveBucketToEnd 4 none :: ([.fieldLink RX0 46 "PointerBuckets" "count" "I", .fieldLink RX0 32 "PointerBuckets" "keys" "[I", .methodLink RX0 81 yX0_bucketOf, .instanceMethod yX0_bucketOf, .selects RX0 yX0_bucketOf yX0_bucketOf, .initialized RX0, .code yX0_bucketOf cX0_bucketOf 4 (some .int), .constant RX0 76 (2147483647), .fieldLink RX0 70 "PointerBuckets" "pointer" "I", .methodLink RX0 67 yX0_bucketsAtLevelStart, .instanceMethod yX0_bucketsAtLevelStart, .selects RX0 yX0_bucketsAtLevelStart yX0_bucketsAtLevelStart, .code yX0_bucketsAtLevelStart cX0_bucketsAtLevelStart 1 (some .int), .fieldLink RX0 13 "PointerBuckets" "base" "I", .fieldLink RX0 73 "PointerBuckets" "level" "I", .methodLink RX0 105 yX0_moveToEnd, .instanceMethod yX0_moveToEnd, .selects RX0 yX0_moveToEnd yX0_moveToEnd, .code yX0_moveToEnd cX0_moveToEnd 5 none, .fieldLink RX0 36 "PointerBuckets" "values" "[I"] ++ wsX00)
def wsX0_join_r1 : List Cond := [Cond.fieldLink RX0 70 "PointerBuckets" "pointer" "I", Cond.fieldLink RX0 73 "PointerBuckets" "level" "I", Cond.methodLink RX0 60 yX0_buckets, Cond.instanceMethod yX0_buckets, Cond.selects RX0 yX0_buckets yX0_buckets, Cond.initialized RX0, Cond.code yX0_buckets cX0_buckets 1 (some .int), Cond.methodLink RX0 67 yX0_bucketsAtLevelStart, Cond.instanceMethod yX0_bucketsAtLevelStart, Cond.selects RX0 yX0_bucketsAtLevelStart yX0_bucketsAtLevelStart, Cond.code yX0_bucketsAtLevelStart cX0_bucketsAtLevelStart 1 (some .int), Cond.fieldLink RX0 13 "PointerBuckets" "base" "I", Cond.methodLink RX0 99 yX0_moveBucketToEnd, Cond.instanceMethod yX0_moveBucketToEnd, Cond.selects RX0 yX0_moveBucketToEnd yX0_moveBucketToEnd, Cond.code yX0_moveBucketToEnd cX0_moveBucketToEnd 4 none, Cond.fieldLink RX0 46 "PointerBuckets" "count" "I", Cond.fieldLink RX0 32 "PointerBuckets" "keys" "[I", Cond.methodLink RX0 81 yX0_bucketOf, Cond.instanceMethod yX0_bucketOf, Cond.selects RX0 yX0_bucketOf yX0_bucketOf, Cond.code yX0_bucketOf cX0_bucketOf 4 (some .int), Cond.constant RX0 76 (2147483647), Cond.methodLink RX0 105 yX0_moveToEnd]
def wsX0_join_r2 : List Cond := [Cond.instanceMethod yX0_moveToEnd, Cond.selects RX0 yX0_moveToEnd yX0_moveToEnd, Cond.code yX0_moveToEnd cX0_moveToEnd 5 none, Cond.fieldLink RX0 36 "PointerBuckets" "values" "[I"]
def wsX0_join : List Cond := .code yX0_join cX0_join 1 none :: ((wsX0_join_r1 ++ wsX0_join_r2) ++ wsX00)
def wsX0_remove_r1 : List Cond := [Cond.fieldLink RX0 13 "PointerBuckets" "base" "I", Cond.methodLink RX0 42 yX0_placeOf, Cond.instanceMethod yX0_placeOf, Cond.selects RX0 yX0_placeOf yX0_placeOf, Cond.initialized RX0, Cond.code yX0_placeOf cX0_placeOf 3 (some .int), Cond.fieldLink RX0 46 "PointerBuckets" "count" "I", Cond.fieldLink RX0 32 "PointerBuckets" "keys" "[I", Cond.methodLink RX0 52 yX0_takeOut, Cond.instanceMethod yX0_takeOut, Cond.selects RX0 yX0_takeOut yX0_takeOut, Cond.code yX0_takeOut cX0_takeOut 3 none, Cond.fieldLink RX0 36 "PointerBuckets" "values" "[I", Cond.methodLink RX0 81 yX0_bucketOf, Cond.instanceMethod yX0_bucketOf, Cond.selects RX0 yX0_bucketOf yX0_bucketOf, Cond.code yX0_bucketOf cX0_bucketOf 4 (some .int), Cond.constant RX0 76 (2147483647), Cond.fieldLink RX0 70 "PointerBuckets" "pointer" "I", Cond.methodLink RX0 67 yX0_bucketsAtLevelStart, Cond.instanceMethod yX0_bucketsAtLevelStart, Cond.selects RX0 yX0_bucketsAtLevelStart yX0_bucketsAtLevelStart, Cond.code yX0_bucketsAtLevelStart cX0_bucketsAtLevelStart 1 (some .int), Cond.fieldLink RX0 73 "PointerBuckets" "level" "I"]
def wsX0_remove_r2 : List Cond := [Cond.methodLink RX0 102 yX0_lastPlaceOfBucket, Cond.instanceMethod yX0_lastPlaceOfBucket, Cond.selects RX0 yX0_lastPlaceOfBucket yX0_lastPlaceOfBucket, Cond.code yX0_lastPlaceOfBucket cX0_lastPlaceOfBucket 3 (some .int), Cond.methodLink RX0 105 yX0_moveToEnd, Cond.instanceMethod yX0_moveToEnd, Cond.selects RX0 yX0_moveToEnd yX0_moveToEnd, Cond.code yX0_moveToEnd cX0_moveToEnd 5 none, Cond.methodLink RX0 56 yX0_isSparse, Cond.instanceMethod yX0_isSparse, Cond.selects RX0 yX0_isSparse yX0_isSparse, Cond.code yX0_isSparse cX0_isSparse 1 (some .boolean), Cond.fieldLink RX0 17 "PointerBuckets" "cap" "I", Cond.methodLink RX0 60 yX0_buckets, Cond.instanceMethod yX0_buckets, Cond.selects RX0 yX0_buckets yX0_buckets, Cond.code yX0_buckets cX0_buckets 1 (some .int), Cond.methodLink RX0 64 yX0_join, Cond.instanceMethod yX0_join, Cond.selects RX0 yX0_join yX0_join, Cond.code yX0_join cX0_join 1 none, Cond.methodLink RX0 99 yX0_moveBucketToEnd, Cond.instanceMethod yX0_moveBucketToEnd, Cond.selects RX0 yX0_moveBucketToEnd yX0_moveBucketToEnd]
def wsX0_remove_r3 : List Cond := [Cond.code yX0_moveBucketToEnd cX0_moveBucketToEnd 4 none]
def wsX0_remove : List Cond := .code yX0_remove cX0_remove 3 (some .boolean) :: ((wsX0_remove_r1 ++ (wsX0_remove_r2 ++ wsX0_remove_r3)) ++ wsX00)
def wsX0_size : List Cond := .code yX0_size cX0_size 1 (some .int) :: ([.fieldLink RX0 46 "PointerBuckets" "count" "I"] ++ wsX00)
def wsX0_level : List Cond := .code yX0_level cX0_level 1 (some .int) :: ([.fieldLink RX0 73 "PointerBuckets" "level" "I"] ++ wsX00)
def wsX0_pointer : List Cond := .code yX0_pointer cX0_pointer 1 (some .int) :: ([.fieldLink RX0 70 "PointerBuckets" "pointer" "I"] ++ wsX00)
def wsX0_isBucket : List Cond := .code yX0_isBucket cX0_isBucket 2 (some .boolean) :: ([.methodLink RX0 60 yX0_buckets, .instanceMethod yX0_buckets, .selects RX0 yX0_buckets yX0_buckets, .initialized RX0, .code yX0_buckets cX0_buckets 1 (some .int), .fieldLink RX0 70 "PointerBuckets" "pointer" "I", .methodLink RX0 67 yX0_bucketsAtLevelStart, .instanceMethod yX0_bucketsAtLevelStart, .selects RX0 yX0_bucketsAtLevelStart yX0_bucketsAtLevelStart, .code yX0_bucketsAtLevelStart cX0_bucketsAtLevelStart 1 (some .int), .fieldLink RX0 13 "PointerBuckets" "base" "I", .fieldLink RX0 73 "PointerBuckets" "level" "I"] ++ wsX00)
def wsX0_pages_r1 : List Cond := [Cond.fieldLink RX0 46 "PointerBuckets" "count" "I", Cond.fieldLink RX0 32 "PointerBuckets" "keys" "[I", Cond.methodLink RX0 77 yX0_isBucket, Cond.instanceMethod yX0_isBucket, Cond.selects RX0 yX0_isBucket yX0_isBucket, Cond.initialized RX0, Cond.code yX0_isBucket cX0_isBucket 2 (some .boolean), Cond.methodLink RX0 60 yX0_buckets, Cond.instanceMethod yX0_buckets, Cond.selects RX0 yX0_buckets yX0_buckets, Cond.code yX0_buckets cX0_buckets 1 (some .int), Cond.fieldLink RX0 70 "PointerBuckets" "pointer" "I", Cond.methodLink RX0 67 yX0_bucketsAtLevelStart, Cond.instanceMethod yX0_bucketsAtLevelStart, Cond.selects RX0 yX0_bucketsAtLevelStart yX0_bucketsAtLevelStart, Cond.code yX0_bucketsAtLevelStart cX0_bucketsAtLevelStart 1 (some .int), Cond.fieldLink RX0 13 "PointerBuckets" "base" "I", Cond.fieldLink RX0 73 "PointerBuckets" "level" "I", Cond.methodLink RX0 81 yX0_bucketOf, Cond.instanceMethod yX0_bucketOf, Cond.selects RX0 yX0_bucketOf yX0_bucketOf, Cond.code yX0_bucketOf cX0_bucketOf 4 (some .int), Cond.constant RX0 76 (2147483647), Cond.methodLink RX0 84 yX0_pagesFor]
def wsX0_pages_r2 : List Cond := [Cond.instanceMethod yX0_pagesFor, Cond.selects RX0 yX0_pagesFor yX0_pagesFor, Cond.code yX0_pagesFor cX0_pagesFor 2 (some .int), Cond.fieldLink RX0 17 "PointerBuckets" "cap" "I", Cond.methodLink RX0 90 Lib.Math.max.name, Cond.static Lib.Math.max.name, Cond.initialized "java/lang/Math", Cond.code Lib.Math.max.name Lib.Math.max.code 2 (some .int)]
def wsX0_pages : List Cond := .code yX0_pages cX0_pages 4 (some .int) :: ((wsX0_pages_r1 ++ wsX0_pages_r2) ++ wsX00)
def wsX0_free_r1 : List Cond := [Cond.fieldLink RX0 20 "PointerBuckets" "pageLimit" "I", Cond.methodLink RX0 87 yX0_pagesNeeded, Cond.instanceMethod yX0_pagesNeeded, Cond.selects RX0 yX0_pagesNeeded yX0_pagesNeeded, Cond.initialized RX0, Cond.code yX0_pagesNeeded cX0_pagesNeeded 4 (some .int), Cond.fieldLink RX0 39 "PointerBuckets" "rowLengths" "[I", Cond.fieldLink RX0 46 "PointerBuckets" "count" "I", Cond.fieldLink RX0 32 "PointerBuckets" "keys" "[I", Cond.methodLink RX0 60 yX0_buckets, Cond.instanceMethod yX0_buckets, Cond.selects RX0 yX0_buckets yX0_buckets, Cond.code yX0_buckets cX0_buckets 1 (some .int), Cond.fieldLink RX0 70 "PointerBuckets" "pointer" "I", Cond.methodLink RX0 67 yX0_bucketsAtLevelStart, Cond.instanceMethod yX0_bucketsAtLevelStart, Cond.selects RX0 yX0_bucketsAtLevelStart yX0_bucketsAtLevelStart, Cond.code yX0_bucketsAtLevelStart cX0_bucketsAtLevelStart 1 (some .int), Cond.fieldLink RX0 13 "PointerBuckets" "base" "I", Cond.fieldLink RX0 73 "PointerBuckets" "level" "I", Cond.methodLink RX0 81 yX0_bucketOf, Cond.instanceMethod yX0_bucketOf, Cond.selects RX0 yX0_bucketOf yX0_bucketOf, Cond.code yX0_bucketOf cX0_bucketOf 4 (some .int)]
def wsX0_free_r2 : List Cond := [Cond.constant RX0 76 (2147483647), Cond.methodLink RX0 84 yX0_pagesFor, Cond.instanceMethod yX0_pagesFor, Cond.selects RX0 yX0_pagesFor yX0_pagesFor, Cond.code yX0_pagesFor cX0_pagesFor 2 (some .int), Cond.fieldLink RX0 17 "PointerBuckets" "cap" "I", Cond.methodLink RX0 90 Lib.Math.max.name, Cond.static Lib.Math.max.name, Cond.initialized "java/lang/Math", Cond.code Lib.Math.max.name Lib.Math.max.code 2 (some .int)]
def wsX0_free : List Cond := .code yX0_free cX0_free 1 (some .int) :: ((wsX0_free_r1 ++ wsX0_free_r2) ++ wsX00)
def wsX0_key : List Cond := .code yX0_key cX0_key 5 (some .int) :: ([.fieldLink RX0 46 "PointerBuckets" "count" "I", .fieldLink RX0 32 "PointerBuckets" "keys" "[I", .methodLink RX0 77 yX0_isBucket, .instanceMethod yX0_isBucket, .selects RX0 yX0_isBucket yX0_isBucket, .initialized RX0, .code yX0_isBucket cX0_isBucket 2 (some .boolean), .methodLink RX0 60 yX0_buckets, .instanceMethod yX0_buckets, .selects RX0 yX0_buckets yX0_buckets, .code yX0_buckets cX0_buckets 1 (some .int), .fieldLink RX0 70 "PointerBuckets" "pointer" "I", .methodLink RX0 67 yX0_bucketsAtLevelStart, .instanceMethod yX0_bucketsAtLevelStart, .selects RX0 yX0_bucketsAtLevelStart yX0_bucketsAtLevelStart, .code yX0_bucketsAtLevelStart cX0_bucketsAtLevelStart 1 (some .int), .fieldLink RX0 13 "PointerBuckets" "base" "I", .fieldLink RX0 73 "PointerBuckets" "level" "I", .methodLink RX0 81 yX0_bucketOf, .instanceMethod yX0_bucketOf, .selects RX0 yX0_bucketOf yX0_bucketOf, .code yX0_bucketOf cX0_bucketOf 4 (some .int), .constant RX0 76 (2147483647)] ++ wsX00)
def wsX0_clear : List Cond := .code yX0_clear cX0_clear 1 none :: ([.fieldLink RX0 46 "PointerBuckets" "count" "I", .fieldLink RX0 73 "PointerBuckets" "level" "I", .fieldLink RX0 70 "PointerBuckets" "pointer" "I"] ++ wsX00)
def wsX1_init : List Cond := .code yX1_init cX1_init 5 none :: ([.methodLink RX1 1 objectInit, .instanceMethod objectInit, .code objectInit ⟨#[0xb1]⟩ 1 none, .arrayClass .int, .fieldLink RX1 7 "PointerBucketsModel" "keys" "[I", .fieldLink RX1 13 "PointerBucketsModel" "values" "[I", .fieldLink RX1 16 "PointerBucketsModel" "homes" "[I", .fieldLink RX1 19 "PointerBucketsModel" "counts" "[I", .fieldLink RX1 22 "PointerBucketsModel" "base" "I", .fieldLink RX1 26 "PointerBucketsModel" "cap" "I", .fieldLink RX1 29 "PointerBucketsModel" "most" "I", .fieldLink RX1 32 "PointerBucketsModel" "mostBuckets" "I"] ++ wsX10)
def wsX1_round : List Cond := .code yX1_round cX1_round 3 (some .int) :: ([.fieldLink RX1 22 "PointerBucketsModel" "base" "I", .fieldLink RX1 35 "PointerBucketsModel" "level" "I"] ++ wsX10)
def wsX1_buckets : List Cond := .code yX1_buckets cX1_buckets 1 (some .int) :: ([.fieldLink RX1 42 "PointerBucketsModel" "pointer" "I", .methodLink RX1 38 yX1_round, .instanceMethod yX1_round, .selects RX1 yX1_round yX1_round, .initialized RX1, .code yX1_round cX1_round 3 (some .int), .fieldLink RX1 22 "PointerBucketsModel" "base" "I", .fieldLink RX1 35 "PointerBucketsModel" "level" "I"] ++ wsX10)
def wsX1_bucketOf : List Cond := .code yX1_bucketOf cX1_bucketOf 4 (some .int) :: ([.constant RX1 45 (2147483647), .fieldLink RX1 42 "PointerBucketsModel" "pointer" "I", .methodLink RX1 38 yX1_round, .instanceMethod yX1_round, .selects RX1 yX1_round yX1_round, .initialized RX1, .code yX1_round cX1_round 3 (some .int), .fieldLink RX1 22 "PointerBucketsModel" "base" "I", .fieldLink RX1 35 "PointerBucketsModel" "level" "I"] ++ wsX10)
def wsX1_find : List Cond := .code yX1_find cX1_find 4 (some .int) :: ([.fieldLink RX1 46 "PointerBucketsModel" "size" "I", .fieldLink RX1 7 "PointerBucketsModel" "keys" "[I"] ++ wsX10)
def wsX1_count : List Cond := .code yX1_count cX1_count 2 none :: ([.fieldLink RX1 19 "PointerBucketsModel" "counts" "[I", .fieldLink RX1 46 "PointerBucketsModel" "size" "I", .fieldLink RX1 16 "PointerBucketsModel" "homes" "[I"] ++ wsX10)
def wsX1_pagesFor : List Cond := .code yX1_pagesFor cX1_pagesFor 2 (some .int) :: ([.fieldLink RX1 26 "PointerBucketsModel" "cap" "I"] ++ wsX10)
def wsX1_needed : List Cond := .code yX1_needed cX1_needed 3 (some .int) :: ([.fieldLink RX1 19 "PointerBucketsModel" "counts" "[I", .methodLink RX1 49 yX1_count, .instanceMethod yX1_count, .selects RX1 yX1_count yX1_count, .initialized RX1, .code yX1_count cX1_count 2 none, .fieldLink RX1 46 "PointerBucketsModel" "size" "I", .fieldLink RX1 16 "PointerBucketsModel" "homes" "[I", .methodLink RX1 52 yX1_buckets, .instanceMethod yX1_buckets, .selects RX1 yX1_buckets yX1_buckets, .code yX1_buckets cX1_buckets 1 (some .int), .fieldLink RX1 42 "PointerBucketsModel" "pointer" "I", .methodLink RX1 38 yX1_round, .instanceMethod yX1_round, .selects RX1 yX1_round yX1_round, .code yX1_round cX1_round 3 (some .int), .fieldLink RX1 22 "PointerBucketsModel" "base" "I", .fieldLink RX1 35 "PointerBucketsModel" "level" "I", .methodLink RX1 55 yX1_pagesFor, .instanceMethod yX1_pagesFor, .selects RX1 yX1_pagesFor yX1_pagesFor, .code yX1_pagesFor cX1_pagesFor 2 (some .int), .fieldLink RX1 26 "PointerBucketsModel" "cap" "I"] ++ wsX10)
def wsX1_settle : List Cond := .code yX1_settle cX1_settle 2 none :: ([.fieldLink RX1 46 "PointerBucketsModel" "size" "I", .fieldLink RX1 16 "PointerBucketsModel" "homes" "[I", .fieldLink RX1 7 "PointerBucketsModel" "keys" "[I", .methodLink RX1 59 yX1_bucketOf, .instanceMethod yX1_bucketOf, .selects RX1 yX1_bucketOf yX1_bucketOf, .initialized RX1, .code yX1_bucketOf cX1_bucketOf 4 (some .int), .constant RX1 45 (2147483647), .fieldLink RX1 42 "PointerBucketsModel" "pointer" "I", .methodLink RX1 38 yX1_round, .instanceMethod yX1_round, .selects RX1 yX1_round yX1_round, .code yX1_round cX1_round 3 (some .int), .fieldLink RX1 22 "PointerBucketsModel" "base" "I", .fieldLink RX1 35 "PointerBucketsModel" "level" "I"] ++ wsX10)
def wsX1_forth : List Cond := .code yX1_forth cX1_forth 1 none :: ([.fieldLink RX1 42 "PointerBucketsModel" "pointer" "I", .fieldLink RX1 35 "PointerBucketsModel" "level" "I", .methodLink RX1 38 yX1_round, .instanceMethod yX1_round, .selects RX1 yX1_round yX1_round, .initialized RX1, .code yX1_round cX1_round 3 (some .int), .fieldLink RX1 22 "PointerBucketsModel" "base" "I"] ++ wsX10)
def wsX1_back : List Cond := .code yX1_back cX1_back 1 none :: ([.fieldLink RX1 42 "PointerBucketsModel" "pointer" "I", .fieldLink RX1 35 "PointerBucketsModel" "level" "I", .methodLink RX1 38 yX1_round, .instanceMethod yX1_round, .selects RX1 yX1_round yX1_round, .initialized RX1, .code yX1_round cX1_round 3 (some .int), .fieldLink RX1 22 "PointerBucketsModel" "base" "I"] ++ wsX10)
def wsX1_put_r1 : List Cond := [Cond.fieldLink RX1 13 "PointerBucketsModel" "values" "[I", Cond.fieldLink RX1 7 "PointerBucketsModel" "keys" "[I", Cond.fieldLink RX1 46 "PointerBucketsModel" "size" "I", Cond.fieldLink RX1 26 "PointerBucketsModel" "cap" "I", Cond.fieldLink RX1 32 "PointerBucketsModel" "mostBuckets" "I", Cond.fieldLink RX1 29 "PointerBucketsModel" "most" "I", Cond.methodLink RX1 62 yX1_find, Cond.instanceMethod yX1_find, Cond.selects RX1 yX1_find yX1_find, Cond.initialized RX1, Cond.code yX1_find cX1_find 4 (some .int), Cond.methodLink RX1 52 yX1_buckets, Cond.instanceMethod yX1_buckets, Cond.selects RX1 yX1_buckets yX1_buckets, Cond.code yX1_buckets cX1_buckets 1 (some .int), Cond.fieldLink RX1 42 "PointerBucketsModel" "pointer" "I", Cond.methodLink RX1 38 yX1_round, Cond.instanceMethod yX1_round, Cond.selects RX1 yX1_round yX1_round, Cond.code yX1_round cX1_round 3 (some .int), Cond.fieldLink RX1 22 "PointerBucketsModel" "base" "I", Cond.fieldLink RX1 35 "PointerBucketsModel" "level" "I", Cond.methodLink RX1 65 yX1_forth, Cond.instanceMethod yX1_forth]
def wsX1_put_r2 : List Cond := [Cond.selects RX1 yX1_forth yX1_forth, Cond.code yX1_forth cX1_forth 1 none, Cond.methodLink RX1 68 yX1_settle, Cond.instanceMethod yX1_settle, Cond.selects RX1 yX1_settle yX1_settle, Cond.code yX1_settle cX1_settle 2 none, Cond.fieldLink RX1 16 "PointerBucketsModel" "homes" "[I", Cond.methodLink RX1 59 yX1_bucketOf, Cond.instanceMethod yX1_bucketOf, Cond.selects RX1 yX1_bucketOf yX1_bucketOf, Cond.code yX1_bucketOf cX1_bucketOf 4 (some .int), Cond.constant RX1 45 (2147483647), Cond.methodLink RX1 71 yX1_needed, Cond.instanceMethod yX1_needed, Cond.selects RX1 yX1_needed yX1_needed, Cond.code yX1_needed cX1_needed 3 (some .int), Cond.fieldLink RX1 19 "PointerBucketsModel" "counts" "[I", Cond.methodLink RX1 49 yX1_count, Cond.instanceMethod yX1_count, Cond.selects RX1 yX1_count yX1_count, Cond.code yX1_count cX1_count 2 none, Cond.methodLink RX1 55 yX1_pagesFor, Cond.instanceMethod yX1_pagesFor, Cond.selects RX1 yX1_pagesFor yX1_pagesFor]
def wsX1_put_r3 : List Cond := [Cond.code yX1_pagesFor cX1_pagesFor 2 (some .int), Cond.methodLink RX1 74 yX1_back, Cond.instanceMethod yX1_back, Cond.selects RX1 yX1_back yX1_back, Cond.code yX1_back cX1_back 1 none]
def wsX1_put : List Cond := .code yX1_put cX1_put 5 (some .int) :: ((wsX1_put_r1 ++ (wsX1_put_r2 ++ wsX1_put_r3)) ++ wsX10)
def wsX1_get : List Cond := .code yX1_get cX1_get 3 (some .int) :: ([.fieldLink RX1 13 "PointerBucketsModel" "values" "[I", .methodLink RX1 62 yX1_find, .instanceMethod yX1_find, .selects RX1 yX1_find yX1_find, .initialized RX1, .code yX1_find cX1_find 4 (some .int), .fieldLink RX1 46 "PointerBucketsModel" "size" "I", .fieldLink RX1 7 "PointerBucketsModel" "keys" "[I"] ++ wsX10)
def wsX1_has : List Cond := .code yX1_has cX1_has 2 (some .boolean) :: ([.methodLink RX1 62 yX1_find, .instanceMethod yX1_find, .selects RX1 yX1_find yX1_find, .initialized RX1, .code yX1_find cX1_find 4 (some .int), .fieldLink RX1 46 "PointerBucketsModel" "size" "I", .fieldLink RX1 7 "PointerBucketsModel" "keys" "[I"] ++ wsX10)
def wsX1_cut : List Cond := .code yX1_cut cX1_cut 3 none :: ([.fieldLink RX1 46 "PointerBucketsModel" "size" "I", .fieldLink RX1 7 "PointerBucketsModel" "keys" "[I", .fieldLink RX1 13 "PointerBucketsModel" "values" "[I", .fieldLink RX1 16 "PointerBucketsModel" "homes" "[I"] ++ wsX10)
def wsX1_toEnd : List Cond := .code yX1_toEnd cX1_toEnd 6 none :: ([.fieldLink RX1 46 "PointerBucketsModel" "size" "I", .fieldLink RX1 16 "PointerBucketsModel" "homes" "[I", .fieldLink RX1 7 "PointerBucketsModel" "keys" "[I", .fieldLink RX1 13 "PointerBucketsModel" "values" "[I", .methodLink RX1 77 yX1_cut, .instanceMethod yX1_cut, .selects RX1 yX1_cut yX1_cut, .initialized RX1, .code yX1_cut cX1_cut 3 none] ++ wsX10)
def wsX1_remove_r1 : List Cond := [Cond.fieldLink RX1 46 "PointerBucketsModel" "size" "I", Cond.fieldLink RX1 16 "PointerBucketsModel" "homes" "[I", Cond.fieldLink RX1 7 "PointerBucketsModel" "keys" "[I", Cond.fieldLink RX1 13 "PointerBucketsModel" "values" "[I", Cond.fieldLink RX1 26 "PointerBucketsModel" "cap" "I", Cond.fieldLink RX1 22 "PointerBucketsModel" "base" "I", Cond.methodLink RX1 62 yX1_find, Cond.instanceMethod yX1_find, Cond.selects RX1 yX1_find yX1_find, Cond.initialized RX1, Cond.code yX1_find cX1_find 4 (some .int), Cond.methodLink RX1 77 yX1_cut, Cond.instanceMethod yX1_cut, Cond.selects RX1 yX1_cut yX1_cut, Cond.code yX1_cut cX1_cut 3 none, Cond.methodLink RX1 52 yX1_buckets, Cond.instanceMethod yX1_buckets, Cond.selects RX1 yX1_buckets yX1_buckets, Cond.code yX1_buckets cX1_buckets 1 (some .int), Cond.fieldLink RX1 42 "PointerBucketsModel" "pointer" "I", Cond.methodLink RX1 38 yX1_round, Cond.instanceMethod yX1_round, Cond.selects RX1 yX1_round yX1_round, Cond.code yX1_round cX1_round 3 (some .int)]
def wsX1_remove_r2 : List Cond := [Cond.fieldLink RX1 35 "PointerBucketsModel" "level" "I", Cond.methodLink RX1 81 yX1_toEnd, Cond.instanceMethod yX1_toEnd, Cond.selects RX1 yX1_toEnd yX1_toEnd, Cond.code yX1_toEnd cX1_toEnd 6 none, Cond.methodLink RX1 74 yX1_back, Cond.instanceMethod yX1_back, Cond.selects RX1 yX1_back yX1_back, Cond.code yX1_back cX1_back 1 none, Cond.methodLink RX1 68 yX1_settle, Cond.instanceMethod yX1_settle, Cond.selects RX1 yX1_settle yX1_settle, Cond.code yX1_settle cX1_settle 2 none, Cond.methodLink RX1 59 yX1_bucketOf, Cond.instanceMethod yX1_bucketOf, Cond.selects RX1 yX1_bucketOf yX1_bucketOf, Cond.code yX1_bucketOf cX1_bucketOf 4 (some .int), Cond.constant RX1 45 (2147483647)]
def wsX1_remove : List Cond := .code yX1_remove cX1_remove 5 (some .boolean) :: ((wsX1_remove_r1 ++ wsX1_remove_r2) ++ wsX10)
def wsX1_size : List Cond := .code yX1_size cX1_size 1 (some .int) :: ([.fieldLink RX1 46 "PointerBucketsModel" "size" "I"] ++ wsX10)
def wsX1_level : List Cond := .code yX1_level cX1_level 1 (some .int) :: ([.fieldLink RX1 35 "PointerBucketsModel" "level" "I"] ++ wsX10)
def wsX1_pointer : List Cond := .code yX1_pointer cX1_pointer 1 (some .int) :: ([.fieldLink RX1 42 "PointerBucketsModel" "pointer" "I"] ++ wsX10)
def wsX1_pages : List Cond := .code yX1_pages cX1_pages 2 (some .int) :: ([.fieldLink RX1 19 "PointerBucketsModel" "counts" "[I", .methodLink RX1 52 yX1_buckets, .instanceMethod yX1_buckets, .selects RX1 yX1_buckets yX1_buckets, .initialized RX1, .code yX1_buckets cX1_buckets 1 (some .int), .fieldLink RX1 42 "PointerBucketsModel" "pointer" "I", .methodLink RX1 38 yX1_round, .instanceMethod yX1_round, .selects RX1 yX1_round yX1_round, .code yX1_round cX1_round 3 (some .int), .fieldLink RX1 22 "PointerBucketsModel" "base" "I", .fieldLink RX1 35 "PointerBucketsModel" "level" "I", .methodLink RX1 49 yX1_count, .instanceMethod yX1_count, .selects RX1 yX1_count yX1_count, .code yX1_count cX1_count 2 none, .fieldLink RX1 46 "PointerBucketsModel" "size" "I", .fieldLink RX1 16 "PointerBucketsModel" "homes" "[I", .methodLink RX1 55 yX1_pagesFor, .instanceMethod yX1_pagesFor, .selects RX1 yX1_pagesFor yX1_pagesFor, .code yX1_pagesFor cX1_pagesFor 2 (some .int), .fieldLink RX1 26 "PointerBucketsModel" "cap" "I"] ++ wsX10)
def wsX1_free_r1 : List Cond := [Cond.fieldLink RX1 29 "PointerBucketsModel" "most" "I", Cond.methodLink RX1 71 yX1_needed, Cond.instanceMethod yX1_needed, Cond.selects RX1 yX1_needed yX1_needed, Cond.initialized RX1, Cond.code yX1_needed cX1_needed 3 (some .int), Cond.fieldLink RX1 19 "PointerBucketsModel" "counts" "[I", Cond.methodLink RX1 49 yX1_count, Cond.instanceMethod yX1_count, Cond.selects RX1 yX1_count yX1_count, Cond.code yX1_count cX1_count 2 none, Cond.fieldLink RX1 46 "PointerBucketsModel" "size" "I", Cond.fieldLink RX1 16 "PointerBucketsModel" "homes" "[I", Cond.methodLink RX1 52 yX1_buckets, Cond.instanceMethod yX1_buckets, Cond.selects RX1 yX1_buckets yX1_buckets, Cond.code yX1_buckets cX1_buckets 1 (some .int), Cond.fieldLink RX1 42 "PointerBucketsModel" "pointer" "I", Cond.methodLink RX1 38 yX1_round, Cond.instanceMethod yX1_round, Cond.selects RX1 yX1_round yX1_round, Cond.code yX1_round cX1_round 3 (some .int), Cond.fieldLink RX1 22 "PointerBucketsModel" "base" "I", Cond.fieldLink RX1 35 "PointerBucketsModel" "level" "I"]
def wsX1_free_r2 : List Cond := [Cond.methodLink RX1 55 yX1_pagesFor, Cond.instanceMethod yX1_pagesFor, Cond.selects RX1 yX1_pagesFor yX1_pagesFor, Cond.code yX1_pagesFor cX1_pagesFor 2 (some .int), Cond.fieldLink RX1 26 "PointerBucketsModel" "cap" "I"]
def wsX1_free : List Cond := .code yX1_free cX1_free 1 (some .int) :: ((wsX1_free_r1 ++ wsX1_free_r2) ++ wsX10)
def wsX1_key : List Cond := .code yX1_key cX1_key 5 (some .int) :: ([.fieldLink RX1 46 "PointerBucketsModel" "size" "I", .fieldLink RX1 16 "PointerBucketsModel" "homes" "[I", .fieldLink RX1 7 "PointerBucketsModel" "keys" "[I", .methodLink RX1 52 yX1_buckets, .instanceMethod yX1_buckets, .selects RX1 yX1_buckets yX1_buckets, .initialized RX1, .code yX1_buckets cX1_buckets 1 (some .int), .fieldLink RX1 42 "PointerBucketsModel" "pointer" "I", .methodLink RX1 38 yX1_round, .instanceMethod yX1_round, .selects RX1 yX1_round yX1_round, .code yX1_round cX1_round 3 (some .int), .fieldLink RX1 22 "PointerBucketsModel" "base" "I", .fieldLink RX1 35 "PointerBucketsModel" "level" "I"] ++ wsX10)
def wsX1_clear : List Cond := .code yX1_clear cX1_clear 1 none :: ([.fieldLink RX1 46 "PointerBucketsModel" "size" "I", .fieldLink RX1 35 "PointerBucketsModel" "level" "I", .fieldLink RX1 42 "PointerBucketsModel" "pointer" "I"] ++ wsX10)
def wsJ9_max_7cf53 : List Cond := .code yJ9_max_7cf53 cJ9_max_7cf53 2 (some .int) :: ([])
def wsJ9_min_7cf53 : List Cond := .code yJ9_min_7cf53 cJ9_min_7cf53 2 (some .int) :: ([])
def wsL_cell : List Cond := .code yL_cell cL_cell 2 (some .int) :: ([])
def wsL_law_r1 : List Cond := [Cond.classLink RL 7 RX0, Cond.instantiable RX0 10, Cond.initialized RX0, Cond.classLink RL 18 RX1, Cond.instantiable RX1 11, Cond.initialized RX1, Cond.methodLink RL 9 yL_cell, Cond.static yL_cell, Cond.initialized RL, Cond.code yL_cell cL_cell 2 (some .int), Cond.methodLink RL 15 yX0_init, Cond.instanceMethod yX0_init, Cond.code yX0_init cX0_init 6 none, Cond.methodLink RX0 1 objectInit, Cond.instanceMethod objectInit, Cond.code objectInit ⟨#[0xb1]⟩ 1 none, Cond.fieldLink RX0 13 "PointerBuckets" "base" "I", Cond.fieldLink RX0 17 "PointerBuckets" "cap" "I", Cond.fieldLink RX0 20 "PointerBuckets" "pageLimit" "I", Cond.fieldLink RX0 23 "PointerBuckets" "bucketLimit" "I", Cond.methodLink RX0 26 Lib.Math.min.name, Cond.static Lib.Math.min.name, Cond.initialized "java/lang/Math", Cond.code Lib.Math.min.name Lib.Math.min.code 2 (some .int)]
def wsL_law_r2 : List Cond := [Cond.arrayClass .int, Cond.fieldLink RX0 32 "PointerBuckets" "keys" "[I", Cond.fieldLink RX0 36 "PointerBuckets" "values" "[I", Cond.fieldLink RX0 39 "PointerBuckets" "rowLengths" "[I", Cond.methodLink RX0 7 yX0_within, Cond.static yX0_within, Cond.code yX0_within cX0_within 3 (some .int), Cond.methodLink RX0 90 Lib.Math.max.name, Cond.static Lib.Math.max.name, Cond.code Lib.Math.max.name Lib.Math.max.code 2 (some .int), Cond.methodLink RL 20 yX1_init, Cond.instanceMethod yX1_init, Cond.code yX1_init cX1_init 5 none, Cond.methodLink RX1 1 objectInit, Cond.fieldLink RX1 7 "PointerBucketsModel" "keys" "[I", Cond.fieldLink RX1 13 "PointerBucketsModel" "values" "[I", Cond.fieldLink RX1 16 "PointerBucketsModel" "homes" "[I", Cond.fieldLink RX1 19 "PointerBucketsModel" "counts" "[I", Cond.fieldLink RX1 22 "PointerBucketsModel" "base" "I", Cond.fieldLink RX1 26 "PointerBucketsModel" "cap" "I", Cond.fieldLink RX1 29 "PointerBucketsModel" "most" "I", Cond.fieldLink RX1 32 "PointerBucketsModel" "mostBuckets" "I", Cond.methodLink RL 21 yX0_put, Cond.instanceMethod yX0_put]
def wsL_law_r3 : List Cond := [Cond.selects RX0 yX0_put yX0_put, Cond.code yX0_put cX0_put 4 (some .int), Cond.fieldLink RX0 46 "PointerBuckets" "count" "I", Cond.methodLink RX0 42 yX0_placeOf, Cond.instanceMethod yX0_placeOf, Cond.selects RX0 yX0_placeOf yX0_placeOf, Cond.code yX0_placeOf cX0_placeOf 3 (some .int), Cond.methodLink RX0 49 yX0_putNew, Cond.instanceMethod yX0_putNew, Cond.selects RX0 yX0_putNew yX0_putNew, Cond.code yX0_putNew cX0_putNew 5 (some .int), Cond.fieldLink RX0 73 "PointerBuckets" "level" "I", Cond.fieldLink RX0 70 "PointerBuckets" "pointer" "I", Cond.methodLink RX0 93 yX0_isCrowded, Cond.instanceMethod yX0_isCrowded, Cond.selects RX0 yX0_isCrowded yX0_isCrowded, Cond.code yX0_isCrowded cX0_isCrowded 1 (some .boolean), Cond.methodLink RX0 60 yX0_buckets, Cond.instanceMethod yX0_buckets, Cond.selects RX0 yX0_buckets yX0_buckets, Cond.code yX0_buckets cX0_buckets 1 (some .int), Cond.methodLink RX0 67 yX0_bucketsAtLevelStart, Cond.instanceMethod yX0_bucketsAtLevelStart, Cond.selects RX0 yX0_bucketsAtLevelStart yX0_bucketsAtLevelStart]
def wsL_law_r4 : List Cond := [Cond.code yX0_bucketsAtLevelStart cX0_bucketsAtLevelStart 1 (some .int), Cond.methodLink RX0 96 yX0_part, Cond.instanceMethod yX0_part, Cond.selects RX0 yX0_part yX0_part, Cond.code yX0_part cX0_part 1 none, Cond.methodLink RX0 87 yX0_pagesNeeded, Cond.instanceMethod yX0_pagesNeeded, Cond.selects RX0 yX0_pagesNeeded yX0_pagesNeeded, Cond.code yX0_pagesNeeded cX0_pagesNeeded 4 (some .int), Cond.methodLink RX0 81 yX0_bucketOf, Cond.instanceMethod yX0_bucketOf, Cond.selects RX0 yX0_bucketOf yX0_bucketOf, Cond.code yX0_bucketOf cX0_bucketOf 4 (some .int), Cond.constant RX0 76 (2147483647), Cond.methodLink RX0 84 yX0_pagesFor, Cond.instanceMethod yX0_pagesFor, Cond.selects RX0 yX0_pagesFor yX0_pagesFor, Cond.code yX0_pagesFor cX0_pagesFor 2 (some .int), Cond.methodLink RL 25 yX1_put, Cond.instanceMethod yX1_put, Cond.selects RX1 yX1_put yX1_put, Cond.code yX1_put cX1_put 5 (some .int), Cond.fieldLink RX1 46 "PointerBucketsModel" "size" "I", Cond.methodLink RX1 62 yX1_find]
def wsL_law_r5 : List Cond := [Cond.instanceMethod yX1_find, Cond.selects RX1 yX1_find yX1_find, Cond.code yX1_find cX1_find 4 (some .int), Cond.methodLink RX1 52 yX1_buckets, Cond.instanceMethod yX1_buckets, Cond.selects RX1 yX1_buckets yX1_buckets, Cond.code yX1_buckets cX1_buckets 1 (some .int), Cond.fieldLink RX1 42 "PointerBucketsModel" "pointer" "I", Cond.methodLink RX1 38 yX1_round, Cond.instanceMethod yX1_round, Cond.selects RX1 yX1_round yX1_round, Cond.code yX1_round cX1_round 3 (some .int), Cond.fieldLink RX1 35 "PointerBucketsModel" "level" "I", Cond.methodLink RX1 65 yX1_forth, Cond.instanceMethod yX1_forth, Cond.selects RX1 yX1_forth yX1_forth, Cond.code yX1_forth cX1_forth 1 none, Cond.methodLink RX1 68 yX1_settle, Cond.instanceMethod yX1_settle, Cond.selects RX1 yX1_settle yX1_settle, Cond.code yX1_settle cX1_settle 2 none, Cond.methodLink RX1 59 yX1_bucketOf, Cond.instanceMethod yX1_bucketOf, Cond.selects RX1 yX1_bucketOf yX1_bucketOf]
def wsL_law_r6 : List Cond := [Cond.code yX1_bucketOf cX1_bucketOf 4 (some .int), Cond.constant RX1 45 (2147483647), Cond.methodLink RX1 71 yX1_needed, Cond.instanceMethod yX1_needed, Cond.selects RX1 yX1_needed yX1_needed, Cond.code yX1_needed cX1_needed 3 (some .int), Cond.methodLink RX1 49 yX1_count, Cond.instanceMethod yX1_count, Cond.selects RX1 yX1_count yX1_count, Cond.code yX1_count cX1_count 2 none, Cond.methodLink RX1 55 yX1_pagesFor, Cond.instanceMethod yX1_pagesFor, Cond.selects RX1 yX1_pagesFor yX1_pagesFor, Cond.code yX1_pagesFor cX1_pagesFor 2 (some .int), Cond.methodLink RX1 74 yX1_back, Cond.instanceMethod yX1_back, Cond.selects RX1 yX1_back yX1_back, Cond.code yX1_back cX1_back 1 none, Cond.methodLink RL 26 yX0_get, Cond.instanceMethod yX0_get, Cond.selects RX0 yX0_get yX0_get, Cond.code yX0_get cX0_get 3 (some .int), Cond.methodLink RL 30 yX1_get, Cond.instanceMethod yX1_get]
def wsL_law_r7 : List Cond := [Cond.selects RX1 yX1_get yX1_get, Cond.code yX1_get cX1_get 3 (some .int), Cond.methodLink RL 31 yX0_has, Cond.instanceMethod yX0_has, Cond.selects RX0 yX0_has yX0_has, Cond.code yX0_has cX0_has 2 (some .boolean), Cond.methodLink RL 35 yX1_has, Cond.instanceMethod yX1_has, Cond.selects RX1 yX1_has yX1_has, Cond.code yX1_has cX1_has 2 (some .boolean), Cond.methodLink RL 36 yX0_remove, Cond.instanceMethod yX0_remove, Cond.selects RX0 yX0_remove yX0_remove, Cond.code yX0_remove cX0_remove 3 (some .boolean), Cond.methodLink RX0 52 yX0_takeOut, Cond.instanceMethod yX0_takeOut, Cond.selects RX0 yX0_takeOut yX0_takeOut, Cond.code yX0_takeOut cX0_takeOut 3 none, Cond.methodLink RX0 102 yX0_lastPlaceOfBucket, Cond.instanceMethod yX0_lastPlaceOfBucket, Cond.selects RX0 yX0_lastPlaceOfBucket yX0_lastPlaceOfBucket, Cond.code yX0_lastPlaceOfBucket cX0_lastPlaceOfBucket 3 (some .int), Cond.methodLink RX0 105 yX0_moveToEnd, Cond.instanceMethod yX0_moveToEnd]
def wsL_law_r8 : List Cond := [Cond.selects RX0 yX0_moveToEnd yX0_moveToEnd, Cond.code yX0_moveToEnd cX0_moveToEnd 5 none, Cond.methodLink RX0 56 yX0_isSparse, Cond.instanceMethod yX0_isSparse, Cond.selects RX0 yX0_isSparse yX0_isSparse, Cond.code yX0_isSparse cX0_isSparse 1 (some .boolean), Cond.methodLink RX0 64 yX0_join, Cond.instanceMethod yX0_join, Cond.selects RX0 yX0_join yX0_join, Cond.code yX0_join cX0_join 1 none, Cond.methodLink RX0 99 yX0_moveBucketToEnd, Cond.instanceMethod yX0_moveBucketToEnd, Cond.selects RX0 yX0_moveBucketToEnd yX0_moveBucketToEnd, Cond.code yX0_moveBucketToEnd cX0_moveBucketToEnd 4 none, Cond.methodLink RL 39 yX1_remove, Cond.instanceMethod yX1_remove, Cond.selects RX1 yX1_remove yX1_remove, Cond.code yX1_remove cX1_remove 5 (some .boolean), Cond.methodLink RX1 77 yX1_cut, Cond.instanceMethod yX1_cut, Cond.selects RX1 yX1_cut yX1_cut, Cond.code yX1_cut cX1_cut 3 none, Cond.methodLink RX1 81 yX1_toEnd, Cond.instanceMethod yX1_toEnd]
def wsL_law_r9 : List Cond := [Cond.selects RX1 yX1_toEnd yX1_toEnd, Cond.code yX1_toEnd cX1_toEnd 6 none, Cond.methodLink RL 40 yX0_size, Cond.instanceMethod yX0_size, Cond.selects RX0 yX0_size yX0_size, Cond.code yX0_size cX0_size 1 (some .int), Cond.methodLink RL 44 yX1_size, Cond.instanceMethod yX1_size, Cond.selects RX1 yX1_size yX1_size, Cond.code yX1_size cX1_size 1 (some .int), Cond.methodLink RL 45 yX0_buckets, Cond.methodLink RL 48 yX1_buckets, Cond.methodLink RL 49 yX0_level, Cond.instanceMethod yX0_level, Cond.selects RX0 yX0_level yX0_level, Cond.code yX0_level cX0_level 1 (some .int), Cond.methodLink RL 52 yX1_level, Cond.instanceMethod yX1_level, Cond.selects RX1 yX1_level yX1_level, Cond.code yX1_level cX1_level 1 (some .int), Cond.methodLink RL 53 yX0_pointer, Cond.instanceMethod yX0_pointer, Cond.selects RX0 yX0_pointer yX0_pointer, Cond.code yX0_pointer cX0_pointer 1 (some .int)]
def wsL_law_r10 : List Cond := [Cond.methodLink RL 56 yX1_pointer, Cond.instanceMethod yX1_pointer, Cond.selects RX1 yX1_pointer yX1_pointer, Cond.code yX1_pointer cX1_pointer 1 (some .int), Cond.methodLink RL 57 yX0_bucketOf, Cond.methodLink RL 60 yX1_bucketOf, Cond.methodLink RL 61 yX0_pages, Cond.instanceMethod yX0_pages, Cond.selects RX0 yX0_pages yX0_pages, Cond.code yX0_pages cX0_pages 4 (some .int), Cond.methodLink RX0 77 yX0_isBucket, Cond.instanceMethod yX0_isBucket, Cond.selects RX0 yX0_isBucket yX0_isBucket, Cond.code yX0_isBucket cX0_isBucket 2 (some .boolean), Cond.methodLink RL 64 yX1_pages, Cond.instanceMethod yX1_pages, Cond.selects RX1 yX1_pages yX1_pages, Cond.code yX1_pages cX1_pages 2 (some .int), Cond.methodLink RL 65 yX0_free, Cond.instanceMethod yX0_free, Cond.selects RX0 yX0_free yX0_free, Cond.code yX0_free cX0_free 1 (some .int), Cond.methodLink RL 68 yX1_free, Cond.instanceMethod yX1_free]
def wsL_law_r11 : List Cond := [Cond.selects RX1 yX1_free yX1_free, Cond.code yX1_free cX1_free 1 (some .int), Cond.methodLink RL 69 yX0_key, Cond.instanceMethod yX0_key, Cond.selects RX0 yX0_key yX0_key, Cond.code yX0_key cX0_key 5 (some .int), Cond.methodLink RL 72 yX1_key, Cond.instanceMethod yX1_key, Cond.selects RX1 yX1_key yX1_key, Cond.code yX1_key cX1_key 5 (some .int), Cond.methodLink RL 73 yX0_clear, Cond.instanceMethod yX0_clear, Cond.selects RX0 yX0_clear yX0_clear, Cond.code yX0_clear cX0_clear 1 none, Cond.methodLink RL 76 yX1_clear, Cond.instanceMethod yX1_clear, Cond.selects RX1 yX1_clear yX1_clear, Cond.code yX1_clear cX1_clear 1 none]
def wsL_law : List Cond := (wsL_law_r1 ++ (wsL_law_r2 ++ (wsL_law_r3 ++ (wsL_law_r4 ++ (wsL_law_r5 ++ (wsL_law_r6 ++ (wsL_law_r7 ++ (wsL_law_r8 ++ (wsL_law_r9 ++ (wsL_law_r10 ++ wsL_law_r11)))))))))) ++ wsX00 ++ wsX10 ++ ([] : List Cond)
set_option maxRecDepth 20000 in
theorem wsL_law_in : ∀ w ∈ wsL_law, w ∈ lw_tbl := fun w h => (goodIn_p wsL_law [190, 32, 35, 41, 38, 44, 195, 80, 84, 88, 92, 96, 100, 104, 108, 112, 117, 247, 251, 234, 238, 256, 260, 242, 265, 269, 273, 277, 121, 281, 125, 285, 129, 133, 137, 141, 145, 149, 153, 289, 293, 297, 157, 301, 162, 305, 166, 309, 171, 175, 313, 179, 317, 183, 321, 187, 325] (by decide +kernel) (by decide +kernel) w h).1
theorem inlX0 : ∀ w ∈ wsX00, w ∈ wsL_law := fun _ h => List.mem_append_left _ (List.mem_append_left _ (List.mem_append_right _ h))
theorem inX0 : ∀ w ∈ wsX00, w ∈ lw_tbl := fun w h => wsL_law_in w (inlX0 w h)
theorem inlX1 : ∀ w ∈ wsX10, w ∈ wsL_law := fun _ h => List.mem_append_left _ (List.mem_append_right _ h)
theorem inX1 : ∀ w ∈ wsX10, w ∈ lw_tbl := fun w h => wsL_law_in w (inlX1 w h)
theorem inJ9 : ∀ w ∈ wsJ90, w ∈ lw_tbl := by decide +kernel
set_option maxRecDepth 20000 in
theorem ggX0_init_X0_within : GoodIn wsX0_init wsX0_within := goodIn_r _ [19, 8, 9, 10, 11, 20, 21, 22] (by decide +kernel) (by decide +kernel)
set_option maxRecDepth 20000 in
theorem gX0_init_X0_within : GoodIn wsX0_init (va_wsS RX0 7 yX0_within wsX0_within) := goodIn_app (goodIn_of _ (by decide +kernel)) ggX0_init_X0_within
theorem dX0_init_0 : decode cX0_init 0 = .ok (.aload_n 0, 1) := by decide +kernel
theorem dX0_init_1 : decode cX0_init 1 = .ok (.invokespecial 1, 3) := by decide +kernel
theorem dX0_init_4 : decode cX0_init 4 = .ok (.aload_n 0, 1) := by decide +kernel
theorem dX0_init_5 : decode cX0_init 5 = .ok (.iload_n 1, 1) := by decide +kernel
theorem dX0_init_6 : decode cX0_init 6 = .ok (.iconst 1, 1) := by decide +kernel
theorem dX0_init_7 : decode cX0_init 7 = .ok (.bipush 8, 2) := by decide +kernel
theorem dX0_init_9 : decode cX0_init 9 = .ok (.invokestatic 7, 3) := by decide +kernel
theorem dX0_init_12 : decode cX0_init 12 = .ok (.putfield 13, 3) := by decide +kernel
theorem dX0_init_15 : decode cX0_init 15 = .ok (.aload_n 0, 1) := by decide +kernel
theorem dX0_init_16 : decode cX0_init 16 = .ok (.iload_n 2, 1) := by decide +kernel
theorem dX0_init_17 : decode cX0_init 17 = .ok (.iconst 1, 1) := by decide +kernel
theorem dX0_init_18 : decode cX0_init 18 = .ok (.bipush 8, 2) := by decide +kernel
theorem dX0_init_20 : decode cX0_init 20 = .ok (.invokestatic 7, 3) := by decide +kernel
theorem dX0_init_23 : decode cX0_init 23 = .ok (.putfield 17, 3) := by decide +kernel
theorem dX0_init_26 : decode cX0_init 26 = .ok (.aload_n 0, 1) := by decide +kernel
theorem dX0_init_27 : decode cX0_init 27 = .ok (.iload_n 3, 1) := by decide +kernel
theorem dX0_init_28 : decode cX0_init 28 = .ok (.bipush 8, 2) := by decide +kernel
theorem dX0_init_30 : decode cX0_init 30 = .ok (.sipush 300, 3) := by decide +kernel
theorem dX0_init_33 : decode cX0_init 33 = .ok (.invokestatic 7, 3) := by decide +kernel
theorem dX0_init_36 : decode cX0_init 36 = .ok (.putfield 20, 3) := by decide +kernel
theorem dX0_init_39 : decode cX0_init 39 = .ok (.aload_n 0, 1) := by decide +kernel
theorem dX0_init_40 : decode cX0_init 40 = .ok (.iload 4, 2) := by decide +kernel
theorem dX0_init_42 : decode cX0_init 42 = .ok (.aload_n 0, 1) := by decide +kernel
theorem dX0_init_43 : decode cX0_init 43 = .ok (.getfield 13, 3) := by decide +kernel
theorem dX0_init_46 : decode cX0_init 46 = .ok (.sipush 200, 3) := by decide +kernel
theorem dX0_init_49 : decode cX0_init 49 = .ok (.invokestatic 7, 3) := by decide +kernel
theorem dX0_init_52 : decode cX0_init 52 = .ok (.putfield 23, 3) := by decide +kernel
theorem dX0_init_55 : decode cX0_init 55 = .ok (.aload_n 0, 1) := by decide +kernel
theorem dX0_init_56 : decode cX0_init 56 = .ok (.getfield 20, 3) := by decide +kernel
theorem dX0_init_59 : decode cX0_init 59 = .ok (.aload_n 0, 1) := by decide +kernel
theorem dX0_init_60 : decode cX0_init 60 = .ok (.getfield 17, 3) := by decide +kernel
theorem dX0_init_63 : decode cX0_init 63 = .ok (.imul, 1) := by decide +kernel
theorem dX0_init_64 : decode cX0_init 64 = .ok (.sipush 512, 3) := by decide +kernel
theorem dX0_init_67 : decode cX0_init 67 = .ok (.invokestatic 26, 3) := by decide +kernel
theorem dX0_init_70 : decode cX0_init 70 = .ok (.istore 5, 2) := by decide +kernel
theorem dX0_init_72 : decode cX0_init 72 = .ok (.aload_n 0, 1) := by decide +kernel
theorem dX0_init_73 : decode cX0_init 73 = .ok (.iload 5, 2) := by decide +kernel
theorem dX0_init_75 : decode cX0_init 75 = .ok (.newarray .int, 2) := by decide +kernel
theorem dX0_init_77 : decode cX0_init 77 = .ok (.putfield 32, 3) := by decide +kernel
theorem dX0_init_80 : decode cX0_init 80 = .ok (.aload_n 0, 1) := by decide +kernel
theorem dX0_init_81 : decode cX0_init 81 = .ok (.iload 5, 2) := by decide +kernel
theorem dX0_init_83 : decode cX0_init 83 = .ok (.newarray .int, 2) := by decide +kernel
theorem dX0_init_85 : decode cX0_init 85 = .ok (.putfield 36, 3) := by decide +kernel
theorem dX0_init_88 : decode cX0_init 88 = .ok (.aload_n 0, 1) := by decide +kernel
theorem dX0_init_89 : decode cX0_init 89 = .ok (.aload_n 0, 1) := by decide +kernel
theorem dX0_init_90 : decode cX0_init 90 = .ok (.getfield 23, 3) := by decide +kernel
theorem dX0_init_93 : decode cX0_init 93 = .ok (.newarray .int, 2) := by decide +kernel
theorem dX0_init_95 : decode cX0_init 95 = .ok (.putfield 39, 3) := by decide +kernel
theorem dX0_init_98 : decode cX0_init 98 = .ok (.return_, 1) := by decide +kernel
set_option maxRecDepth 20000 in
theorem ggX0_put_X0_placeOf : GoodIn wsX0_put wsX0_placeOf := goodIn_r _ [8, 2, 3, 53, 54, 55, 56, 57, 58, 59, 60, 61, 62] (by decide +kernel) (by decide +kernel)
set_option maxRecDepth 20000 in
theorem gX0_put_X0_placeOf : GoodIn wsX0_put (wsV RX0 42 RX0 yX0_placeOf wsX0_placeOf) := goodIn_app (goodIn_of _ (by decide +kernel)) ggX0_put_X0_placeOf
set_option maxRecDepth 20000 in
theorem ggX0_put_X0_putNew : GoodIn wsX0_put wsX0_putNew := goodIn_r _ [12, 13, 14, 3, 2, 1, 15, 16, 17, 18, 19, 7, 20, 21, 22, 23, 24, 25, 26, 27, 28, 29, 30, 31, 32, 33, 34, 35, 36, 37, 38, 39, 40, 41, 42, 43, 44, 45, 46, 47, 48, 49, 50, 51, 52, 53, 54, 55, 56, 57, 58, 59, 60, 61, 62] (by decide +kernel) (by decide +kernel)
set_option maxRecDepth 20000 in
theorem gX0_put_X0_putNew : GoodIn wsX0_put (wsV RX0 49 RX0 yX0_putNew wsX0_putNew) := goodIn_app (goodIn_of _ (by decide +kernel)) ggX0_put_X0_putNew
theorem dX0_put_0 : decode cX0_put 0 = .ok (.aload_n 0, 1) := by decide +kernel
theorem dX0_put_1 : decode cX0_put 1 = .ok (.iload_n 1, 1) := by decide +kernel
theorem dX0_put_2 : decode cX0_put 2 = .ok (.invokevirtual 42, 3) := by decide +kernel
theorem dX0_put_5 : decode cX0_put 5 = .ok (.istore_n 3, 1) := by decide +kernel
theorem dX0_put_6 : decode cX0_put 6 = .ok (.iload_n 3, 1) := by decide +kernel
theorem dX0_put_7 : decode cX0_put 7 = .ok (.iconst (-1), 1) := by decide +kernel
theorem dX0_put_8 : decode cX0_put 8 = .ok (.if_icmp .eq 12, 3) := by decide +kernel
theorem dX0_put_11 : decode cX0_put 11 = .ok (.aload_n 0, 1) := by decide +kernel
theorem dX0_put_12 : decode cX0_put 12 = .ok (.getfield 36, 3) := by decide +kernel
theorem dX0_put_15 : decode cX0_put 15 = .ok (.iload_n 3, 1) := by decide +kernel
theorem dX0_put_16 : decode cX0_put 16 = .ok (.iload_n 2, 1) := by decide +kernel
theorem dX0_put_17 : decode cX0_put 17 = .ok (.iastore, 1) := by decide +kernel
theorem dX0_put_18 : decode cX0_put 18 = .ok (.iconst 1, 1) := by decide +kernel
theorem dX0_put_19 : decode cX0_put 19 = .ok (.ireturn, 1) := by decide +kernel
theorem dX0_put_20 : decode cX0_put 20 = .ok (.aload_n 0, 1) := by decide +kernel
theorem dX0_put_21 : decode cX0_put 21 = .ok (.getfield 46, 3) := by decide +kernel
theorem dX0_put_24 : decode cX0_put 24 = .ok (.aload_n 0, 1) := by decide +kernel
theorem dX0_put_25 : decode cX0_put 25 = .ok (.getfield 32, 3) := by decide +kernel
theorem dX0_put_28 : decode cX0_put 28 = .ok (.arraylength, 1) := by decide +kernel
theorem dX0_put_29 : decode cX0_put 29 = .ok (.if_icmp .lt 5, 3) := by decide +kernel
theorem dX0_put_32 : decode cX0_put 32 = .ok (.iconst 2, 1) := by decide +kernel
theorem dX0_put_33 : decode cX0_put 33 = .ok (.ireturn, 1) := by decide +kernel
theorem dX0_put_34 : decode cX0_put 34 = .ok (.aload_n 0, 1) := by decide +kernel
theorem dX0_put_35 : decode cX0_put 35 = .ok (.iload_n 1, 1) := by decide +kernel
theorem dX0_put_36 : decode cX0_put 36 = .ok (.iload_n 2, 1) := by decide +kernel
theorem dX0_put_37 : decode cX0_put 37 = .ok (.invokevirtual 49, 3) := by decide +kernel
theorem dX0_put_40 : decode cX0_put 40 = .ok (.ireturn, 1) := by decide +kernel
set_option maxRecDepth 20000 in
theorem ggX0_get_X0_placeOf : GoodIn wsX0_get wsX0_placeOf := goodIn_r _ [6, 7, 8, 9, 10, 11, 12, 13, 14, 15, 16, 17, 18] (by decide +kernel) (by decide +kernel)
set_option maxRecDepth 20000 in
theorem gX0_get_X0_placeOf : GoodIn wsX0_get (wsV RX0 42 RX0 yX0_placeOf wsX0_placeOf) := goodIn_app (goodIn_of _ (by decide +kernel)) ggX0_get_X0_placeOf
theorem dX0_get_0 : decode cX0_get 0 = .ok (.aload_n 0, 1) := by decide +kernel
theorem dX0_get_1 : decode cX0_get 1 = .ok (.iload_n 1, 1) := by decide +kernel
theorem dX0_get_2 : decode cX0_get 2 = .ok (.invokevirtual 42, 3) := by decide +kernel
theorem dX0_get_5 : decode cX0_get 5 = .ok (.istore_n 2, 1) := by decide +kernel
theorem dX0_get_6 : decode cX0_get 6 = .ok (.iload_n 2, 1) := by decide +kernel
theorem dX0_get_7 : decode cX0_get 7 = .ok (.iconst (-1), 1) := by decide +kernel
theorem dX0_get_8 : decode cX0_get 8 = .ok (.if_icmp .ne 7, 3) := by decide +kernel
theorem dX0_get_11 : decode cX0_get 11 = .ok (.iconst 0, 1) := by decide +kernel
theorem dX0_get_12 : decode cX0_get 12 = .ok (.goto 9, 3) := by decide +kernel
theorem dX0_get_15 : decode cX0_get 15 = .ok (.aload_n 0, 1) := by decide +kernel
theorem dX0_get_16 : decode cX0_get 16 = .ok (.getfield 36, 3) := by decide +kernel
theorem dX0_get_19 : decode cX0_get 19 = .ok (.iload_n 2, 1) := by decide +kernel
theorem dX0_get_20 : decode cX0_get 20 = .ok (.iaload, 1) := by decide +kernel
theorem dX0_get_21 : decode cX0_get 21 = .ok (.ireturn, 1) := by decide +kernel
set_option maxRecDepth 20000 in
theorem ggX0_has_X0_placeOf : GoodIn wsX0_has wsX0_placeOf := goodIn_r _ [5, 6, 7, 8, 9, 10, 11, 12, 13, 14, 15, 16, 17] (by decide +kernel) (by decide +kernel)
set_option maxRecDepth 20000 in
theorem gX0_has_X0_placeOf : GoodIn wsX0_has (wsV RX0 42 RX0 yX0_placeOf wsX0_placeOf) := goodIn_app (goodIn_of _ (by decide +kernel)) ggX0_has_X0_placeOf
theorem dX0_has_0 : decode cX0_has 0 = .ok (.aload_n 0, 1) := by decide +kernel
theorem dX0_has_1 : decode cX0_has 1 = .ok (.iload_n 1, 1) := by decide +kernel
theorem dX0_has_2 : decode cX0_has 2 = .ok (.invokevirtual 42, 3) := by decide +kernel
theorem dX0_has_5 : decode cX0_has 5 = .ok (.iconst (-1), 1) := by decide +kernel
theorem dX0_has_6 : decode cX0_has 6 = .ok (.if_icmp .eq 7, 3) := by decide +kernel
theorem dX0_has_9 : decode cX0_has 9 = .ok (.iconst 1, 1) := by decide +kernel
theorem dX0_has_10 : decode cX0_has 10 = .ok (.goto 4, 3) := by decide +kernel
theorem dX0_has_13 : decode cX0_has 13 = .ok (.iconst 0, 1) := by decide +kernel
theorem dX0_has_14 : decode cX0_has 14 = .ok (.ireturn, 1) := by decide +kernel
set_option maxRecDepth 20000 in
theorem ggX0_remove_X0_placeOf : GoodIn wsX0_remove wsX0_placeOf := goodIn_r _ [6, 7, 8, 50, 51, 52, 53, 54, 55, 56, 57, 58, 59] (by decide +kernel) (by decide +kernel)
set_option maxRecDepth 20000 in
theorem gX0_remove_X0_placeOf : GoodIn wsX0_remove (wsV RX0 42 RX0 yX0_placeOf wsX0_placeOf) := goodIn_app (goodIn_of _ (by decide +kernel)) ggX0_remove_X0_placeOf
set_option maxRecDepth 20000 in
theorem ggX0_remove_X0_takeOut : GoodIn wsX0_remove wsX0_takeOut := goodIn_r _ [12, 8, 13, 7, 14, 15, 16, 5, 17, 18, 19, 20, 21, 22, 23, 1, 24, 25, 26, 27, 28, 29, 30, 31, 32, 50, 51, 52, 53, 54, 55, 56, 57, 58, 59] (by decide +kernel) (by decide +kernel)
set_option maxRecDepth 20000 in
theorem gX0_remove_X0_takeOut : GoodIn wsX0_remove (wsV RX0 52 RX0 yX0_takeOut wsX0_takeOut) := goodIn_app (goodIn_of _ (by decide +kernel)) ggX0_remove_X0_takeOut
set_option maxRecDepth 20000 in
theorem ggX0_remove_X0_isSparse : GoodIn wsX0_remove wsX0_isSparse := goodIn_r _ [36, 7, 37, 38, 39, 40, 5, 41, 19, 20, 21, 22, 23, 1, 24, 50, 51, 52, 53, 54, 55, 56, 57, 58, 59] (by decide +kernel) (by decide +kernel)
set_option maxRecDepth 20000 in
theorem gX0_remove_X0_isSparse : GoodIn wsX0_remove (wsV RX0 56 RX0 yX0_isSparse wsX0_isSparse) := goodIn_app (goodIn_of _ (by decide +kernel)) ggX0_remove_X0_isSparse
set_option maxRecDepth 20000 in
theorem ggX0_remove_X0_buckets : GoodIn wsX0_remove wsX0_buckets := goodIn_r _ [41, 19, 20, 21, 22, 5, 23, 1, 24, 50, 51, 52, 53, 54, 55, 56, 57, 58, 59] (by decide +kernel) (by decide +kernel)
set_option maxRecDepth 20000 in
theorem gX0_remove_X0_buckets : GoodIn wsX0_remove (wsV RX0 60 RX0 yX0_buckets wsX0_buckets) := goodIn_app (goodIn_of _ (by decide +kernel)) ggX0_remove_X0_buckets
set_option maxRecDepth 20000 in
theorem ggX0_remove_X0_join : GoodIn wsX0_remove wsX0_join := goodIn_r _ [45, 19, 24, 38, 39, 40, 5, 41, 20, 21, 22, 23, 1, 46, 47, 48, 49, 7, 8, 14, 15, 16, 17, 18, 29, 30, 31, 32, 13, 50, 51, 52, 53, 54, 55, 56, 57, 58, 59] (by decide +kernel) (by decide +kernel)
set_option maxRecDepth 20000 in
theorem gX0_remove_X0_join : GoodIn wsX0_remove (wsV RX0 64 RX0 yX0_join wsX0_join) := goodIn_app (goodIn_of _ (by decide +kernel)) ggX0_remove_X0_join
theorem dX0_remove_0 : decode cX0_remove 0 = .ok (.aload_n 0, 1) := by decide +kernel
theorem dX0_remove_1 : decode cX0_remove 1 = .ok (.iload_n 1, 1) := by decide +kernel
theorem dX0_remove_2 : decode cX0_remove 2 = .ok (.invokevirtual 42, 3) := by decide +kernel
theorem dX0_remove_5 : decode cX0_remove 5 = .ok (.istore_n 2, 1) := by decide +kernel
theorem dX0_remove_6 : decode cX0_remove 6 = .ok (.iload_n 2, 1) := by decide +kernel
theorem dX0_remove_7 : decode cX0_remove 7 = .ok (.iconst (-1), 1) := by decide +kernel
theorem dX0_remove_8 : decode cX0_remove 8 = .ok (.if_icmp .ne 5, 3) := by decide +kernel
theorem dX0_remove_11 : decode cX0_remove 11 = .ok (.iconst 0, 1) := by decide +kernel
theorem dX0_remove_12 : decode cX0_remove 12 = .ok (.ireturn, 1) := by decide +kernel
theorem dX0_remove_13 : decode cX0_remove 13 = .ok (.aload_n 0, 1) := by decide +kernel
theorem dX0_remove_14 : decode cX0_remove 14 = .ok (.iload_n 2, 1) := by decide +kernel
theorem dX0_remove_15 : decode cX0_remove 15 = .ok (.invokevirtual 52, 3) := by decide +kernel
theorem dX0_remove_18 : decode cX0_remove 18 = .ok (.aload_n 0, 1) := by decide +kernel
theorem dX0_remove_19 : decode cX0_remove 19 = .ok (.invokevirtual 56, 3) := by decide +kernel
theorem dX0_remove_22 : decode cX0_remove 22 = .ok (.ifCond .eq 18, 3) := by decide +kernel
theorem dX0_remove_25 : decode cX0_remove 25 = .ok (.aload_n 0, 1) := by decide +kernel
theorem dX0_remove_26 : decode cX0_remove 26 = .ok (.invokevirtual 60, 3) := by decide +kernel
theorem dX0_remove_29 : decode cX0_remove 29 = .ok (.aload_n 0, 1) := by decide +kernel
theorem dX0_remove_30 : decode cX0_remove 30 = .ok (.getfield 13, 3) := by decide +kernel
theorem dX0_remove_33 : decode cX0_remove 33 = .ok (.if_icmp .le 7, 3) := by decide +kernel
theorem dX0_remove_36 : decode cX0_remove 36 = .ok (.aload_n 0, 1) := by decide +kernel
theorem dX0_remove_37 : decode cX0_remove 37 = .ok (.invokevirtual 64, 3) := by decide +kernel
theorem dX0_remove_40 : decode cX0_remove 40 = .ok (.iconst 1, 1) := by decide +kernel
theorem dX0_remove_41 : decode cX0_remove 41 = .ok (.ireturn, 1) := by decide +kernel
theorem dX0_size_0 : decode cX0_size 0 = .ok (.aload_n 0, 1) := by decide +kernel
theorem dX0_size_1 : decode cX0_size 1 = .ok (.getfield 46, 3) := by decide +kernel
theorem dX0_size_4 : decode cX0_size 4 = .ok (.ireturn, 1) := by decide +kernel
set_option maxRecDepth 20000 in
theorem ggX0_buckets_X0_bucketsAtLevelStart : GoodIn wsX0_buckets wsX0_bucketsAtLevelStart := goodIn_r _ [6, 7, 8, 9, 10, 11, 12, 13, 14, 15, 16, 17, 18] (by decide +kernel) (by decide +kernel)
set_option maxRecDepth 20000 in
theorem gX0_buckets_X0_bucketsAtLevelStart : GoodIn wsX0_buckets (wsV RX0 67 RX0 yX0_bucketsAtLevelStart wsX0_bucketsAtLevelStart) := goodIn_app (goodIn_of _ (by decide +kernel)) ggX0_buckets_X0_bucketsAtLevelStart
theorem dX0_buckets_0 : decode cX0_buckets 0 = .ok (.aload_n 0, 1) := by decide +kernel
theorem dX0_buckets_1 : decode cX0_buckets 1 = .ok (.invokevirtual 67, 3) := by decide +kernel
theorem dX0_buckets_4 : decode cX0_buckets 4 = .ok (.aload_n 0, 1) := by decide +kernel
theorem dX0_buckets_5 : decode cX0_buckets 5 = .ok (.getfield 70, 3) := by decide +kernel
theorem dX0_buckets_8 : decode cX0_buckets 8 = .ok (.iadd, 1) := by decide +kernel
theorem dX0_buckets_9 : decode cX0_buckets 9 = .ok (.ireturn, 1) := by decide +kernel
theorem dX0_level_0 : decode cX0_level 0 = .ok (.aload_n 0, 1) := by decide +kernel
theorem dX0_level_1 : decode cX0_level 1 = .ok (.getfield 73, 3) := by decide +kernel
theorem dX0_level_4 : decode cX0_level 4 = .ok (.ireturn, 1) := by decide +kernel
theorem dX0_pointer_0 : decode cX0_pointer 0 = .ok (.aload_n 0, 1) := by decide +kernel
theorem dX0_pointer_1 : decode cX0_pointer 1 = .ok (.getfield 70, 3) := by decide +kernel
theorem dX0_pointer_4 : decode cX0_pointer 4 = .ok (.ireturn, 1) := by decide +kernel
set_option maxRecDepth 20000 in
theorem ggX0_bucketOf_X0_bucketsAtLevelStart : GoodIn wsX0_bucketOf wsX0_bucketsAtLevelStart := goodIn_r _ [7, 8, 9, 10, 11, 12, 13, 14, 15, 16, 17, 18, 19] (by decide +kernel) (by decide +kernel)
set_option maxRecDepth 20000 in
theorem gX0_bucketOf_X0_bucketsAtLevelStart : GoodIn wsX0_bucketOf (wsV RX0 67 RX0 yX0_bucketsAtLevelStart wsX0_bucketsAtLevelStart) := goodIn_app (goodIn_of _ (by decide +kernel)) ggX0_bucketOf_X0_bucketsAtLevelStart
theorem dX0_bucketOf_0 : decode cX0_bucketOf 0 = .ok (.iload_n 1, 1) := by decide +kernel
theorem dX0_bucketOf_1 : decode cX0_bucketOf 1 = .ok (.ldc 76, 2) := by decide +kernel
theorem dX0_bucketOf_3 : decode cX0_bucketOf 3 = .ok (.iand, 1) := by decide +kernel
theorem dX0_bucketOf_4 : decode cX0_bucketOf 4 = .ok (.istore_n 2, 1) := by decide +kernel
theorem dX0_bucketOf_5 : decode cX0_bucketOf 5 = .ok (.iload_n 2, 1) := by decide +kernel
theorem dX0_bucketOf_6 : decode cX0_bucketOf 6 = .ok (.aload_n 0, 1) := by decide +kernel
theorem dX0_bucketOf_7 : decode cX0_bucketOf 7 = .ok (.invokevirtual 67, 3) := by decide +kernel
theorem dX0_bucketOf_10 : decode cX0_bucketOf 10 = .ok (.irem, 1) := by decide +kernel
theorem dX0_bucketOf_11 : decode cX0_bucketOf 11 = .ok (.istore_n 3, 1) := by decide +kernel
theorem dX0_bucketOf_12 : decode cX0_bucketOf 12 = .ok (.iload_n 3, 1) := by decide +kernel
theorem dX0_bucketOf_13 : decode cX0_bucketOf 13 = .ok (.aload_n 0, 1) := by decide +kernel
theorem dX0_bucketOf_14 : decode cX0_bucketOf 14 = .ok (.getfield 70, 3) := by decide +kernel
theorem dX0_bucketOf_17 : decode cX0_bucketOf 17 = .ok (.if_icmp .ge 14, 3) := by decide +kernel
theorem dX0_bucketOf_20 : decode cX0_bucketOf 20 = .ok (.iload_n 2, 1) := by decide +kernel
theorem dX0_bucketOf_21 : decode cX0_bucketOf 21 = .ok (.iconst 2, 1) := by decide +kernel
theorem dX0_bucketOf_22 : decode cX0_bucketOf 22 = .ok (.aload_n 0, 1) := by decide +kernel
theorem dX0_bucketOf_23 : decode cX0_bucketOf 23 = .ok (.invokevirtual 67, 3) := by decide +kernel
theorem dX0_bucketOf_26 : decode cX0_bucketOf 26 = .ok (.imul, 1) := by decide +kernel
theorem dX0_bucketOf_27 : decode cX0_bucketOf 27 = .ok (.irem, 1) := by decide +kernel
theorem dX0_bucketOf_28 : decode cX0_bucketOf 28 = .ok (.goto 4, 3) := by decide +kernel
theorem dX0_bucketOf_31 : decode cX0_bucketOf 31 = .ok (.iload_n 3, 1) := by decide +kernel
theorem dX0_bucketOf_32 : decode cX0_bucketOf 32 = .ok (.ireturn, 1) := by decide +kernel
set_option maxRecDepth 20000 in
theorem ggX0_pages_X0_isBucket : GoodIn wsX0_pages wsX0_isBucket := goodIn_r _ [7, 8, 9, 10, 6, 11, 12, 13, 14, 15, 16, 17, 18, 33, 34, 35, 36, 37, 38, 39, 40, 41, 42] (by decide +kernel) (by decide +kernel)
set_option maxRecDepth 20000 in
theorem gX0_pages_X0_isBucket : GoodIn wsX0_pages (wsV RX0 77 RX0 yX0_isBucket wsX0_isBucket) := goodIn_app (goodIn_of _ (by decide +kernel)) ggX0_pages_X0_isBucket
set_option maxRecDepth 20000 in
theorem ggX0_pages_X0_bucketOf : GoodIn wsX0_pages wsX0_bucketOf := goodIn_r _ [22, 23, 12, 13, 14, 15, 6, 16, 17, 18, 33, 34, 35, 36, 37, 38, 39, 40, 41, 42] (by decide +kernel) (by decide +kernel)
set_option maxRecDepth 20000 in
theorem gX0_pages_X0_bucketOf : GoodIn wsX0_pages (wsV RX0 81 RX0 yX0_bucketOf wsX0_bucketOf) := goodIn_app (goodIn_of _ (by decide +kernel)) ggX0_pages_X0_bucketOf
set_option maxRecDepth 20000 in
theorem ggX0_pages_X0_pagesFor : GoodIn wsX0_pages wsX0_pagesFor := goodIn_r _ [27, 28, 29, 30, 31, 32, 33, 34, 35, 36, 37, 38, 39, 40, 41, 42] (by decide +kernel) (by decide +kernel)
set_option maxRecDepth 20000 in
theorem gX0_pages_X0_pagesFor : GoodIn wsX0_pages (wsV RX0 84 RX0 yX0_pagesFor wsX0_pagesFor) := goodIn_app (goodIn_of _ (by decide +kernel)) ggX0_pages_X0_pagesFor
theorem dX0_pages_0 : decode cX0_pages 0 = .ok (.aload_n 0, 1) := by decide +kernel
theorem dX0_pages_1 : decode cX0_pages 1 = .ok (.iload_n 1, 1) := by decide +kernel
theorem dX0_pages_2 : decode cX0_pages 2 = .ok (.invokevirtual 77, 3) := by decide +kernel
theorem dX0_pages_5 : decode cX0_pages 5 = .ok (.ifCond .ne 5, 3) := by decide +kernel
theorem dX0_pages_8 : decode cX0_pages 8 = .ok (.iconst (-1), 1) := by decide +kernel
theorem dX0_pages_9 : decode cX0_pages 9 = .ok (.ireturn, 1) := by decide +kernel
theorem dX0_pages_10 : decode cX0_pages 10 = .ok (.iconst 0, 1) := by decide +kernel
theorem dX0_pages_11 : decode cX0_pages 11 = .ok (.istore_n 2, 1) := by decide +kernel
theorem dX0_pages_12 : decode cX0_pages 12 = .ok (.iconst 0, 1) := by decide +kernel
theorem dX0_pages_13 : decode cX0_pages 13 = .ok (.istore_n 3, 1) := by decide +kernel
theorem dX0_pages_14 : decode cX0_pages 14 = .ok (.iload_n 3, 1) := by decide +kernel
theorem dX0_pages_15 : decode cX0_pages 15 = .ok (.aload_n 0, 1) := by decide +kernel
theorem dX0_pages_16 : decode cX0_pages 16 = .ok (.getfield 46, 3) := by decide +kernel
theorem dX0_pages_19 : decode cX0_pages 19 = .ok (.if_icmp .ge 26, 3) := by decide +kernel
theorem dX0_pages_22 : decode cX0_pages 22 = .ok (.aload_n 0, 1) := by decide +kernel
theorem dX0_pages_23 : decode cX0_pages 23 = .ok (.aload_n 0, 1) := by decide +kernel
theorem dX0_pages_24 : decode cX0_pages 24 = .ok (.getfield 32, 3) := by decide +kernel
theorem dX0_pages_27 : decode cX0_pages 27 = .ok (.iload_n 3, 1) := by decide +kernel
theorem dX0_pages_28 : decode cX0_pages 28 = .ok (.iaload, 1) := by decide +kernel
theorem dX0_pages_29 : decode cX0_pages 29 = .ok (.invokevirtual 81, 3) := by decide +kernel
theorem dX0_pages_32 : decode cX0_pages 32 = .ok (.iload_n 1, 1) := by decide +kernel
theorem dX0_pages_33 : decode cX0_pages 33 = .ok (.if_icmp .ne 6, 3) := by decide +kernel
theorem dX0_pages_36 : decode cX0_pages 36 = .ok (.iinc 2 1, 3) := by decide +kernel
theorem dX0_pages_39 : decode cX0_pages 39 = .ok (.iinc 3 1, 3) := by decide +kernel
theorem dX0_pages_42 : decode cX0_pages 42 = .ok (.goto (-28), 3) := by decide +kernel
theorem dX0_pages_45 : decode cX0_pages 45 = .ok (.aload_n 0, 1) := by decide +kernel
theorem dX0_pages_46 : decode cX0_pages 46 = .ok (.iload_n 2, 1) := by decide +kernel
theorem dX0_pages_47 : decode cX0_pages 47 = .ok (.invokevirtual 84, 3) := by decide +kernel
theorem dX0_pages_50 : decode cX0_pages 50 = .ok (.ireturn, 1) := by decide +kernel
set_option maxRecDepth 20000 in
theorem ggX0_free_X0_pagesNeeded : GoodIn wsX0_free wsX0_pagesNeeded := goodIn_r _ [6, 7, 8, 9, 10, 11, 12, 5, 13, 14, 15, 16, 17, 18, 19, 20, 21, 22, 23, 24, 25, 26, 27, 28, 29, 30, 31, 32, 33, 34, 35, 36, 37, 38, 39, 40, 41, 42, 43, 44] (by decide +kernel) (by decide +kernel)
set_option maxRecDepth 20000 in
theorem gX0_free_X0_pagesNeeded : GoodIn wsX0_free (wsV RX0 87 RX0 yX0_pagesNeeded wsX0_pagesNeeded) := goodIn_app (goodIn_of _ (by decide +kernel)) ggX0_free_X0_pagesNeeded
theorem dX0_free_0 : decode cX0_free 0 = .ok (.aload_n 0, 1) := by decide +kernel
theorem dX0_free_1 : decode cX0_free 1 = .ok (.getfield 20, 3) := by decide +kernel
theorem dX0_free_4 : decode cX0_free 4 = .ok (.aload_n 0, 1) := by decide +kernel
theorem dX0_free_5 : decode cX0_free 5 = .ok (.invokevirtual 87, 3) := by decide +kernel
theorem dX0_free_8 : decode cX0_free 8 = .ok (.isub, 1) := by decide +kernel
theorem dX0_free_9 : decode cX0_free 9 = .ok (.ireturn, 1) := by decide +kernel
set_option maxRecDepth 20000 in
theorem ggX0_key_X0_isBucket : GoodIn wsX0_key wsX0_isBucket := goodIn_r _ [7, 8, 9, 10, 6, 11, 12, 13, 14, 15, 16, 17, 18, 24, 25, 26, 27, 28, 29, 30, 31, 32, 33] (by decide +kernel) (by decide +kernel)
set_option maxRecDepth 20000 in
theorem gX0_key_X0_isBucket : GoodIn wsX0_key (wsV RX0 77 RX0 yX0_isBucket wsX0_isBucket) := goodIn_app (goodIn_of _ (by decide +kernel)) ggX0_key_X0_isBucket
set_option maxRecDepth 20000 in
theorem ggX0_key_X0_bucketOf : GoodIn wsX0_key wsX0_bucketOf := goodIn_r _ [22, 23, 12, 13, 14, 15, 6, 16, 17, 18, 24, 25, 26, 27, 28, 29, 30, 31, 32, 33] (by decide +kernel) (by decide +kernel)
set_option maxRecDepth 20000 in
theorem gX0_key_X0_bucketOf : GoodIn wsX0_key (wsV RX0 81 RX0 yX0_bucketOf wsX0_bucketOf) := goodIn_app (goodIn_of _ (by decide +kernel)) ggX0_key_X0_bucketOf
theorem dX0_key_0 : decode cX0_key 0 = .ok (.aload_n 0, 1) := by decide +kernel
theorem dX0_key_1 : decode cX0_key 1 = .ok (.iload_n 1, 1) := by decide +kernel
theorem dX0_key_2 : decode cX0_key 2 = .ok (.invokevirtual 77, 3) := by decide +kernel
theorem dX0_key_5 : decode cX0_key 5 = .ok (.ifCond .eq 7, 3) := by decide +kernel
theorem dX0_key_8 : decode cX0_key 8 = .ok (.iload_n 2, 1) := by decide +kernel
theorem dX0_key_9 : decode cX0_key 9 = .ok (.ifCond .ge 5, 3) := by decide +kernel
theorem dX0_key_12 : decode cX0_key 12 = .ok (.iconst (-1), 1) := by decide +kernel
theorem dX0_key_13 : decode cX0_key 13 = .ok (.ireturn, 1) := by decide +kernel
theorem dX0_key_14 : decode cX0_key 14 = .ok (.iconst 0, 1) := by decide +kernel
theorem dX0_key_15 : decode cX0_key 15 = .ok (.istore_n 3, 1) := by decide +kernel
theorem dX0_key_16 : decode cX0_key 16 = .ok (.iconst 0, 1) := by decide +kernel
theorem dX0_key_17 : decode cX0_key 17 = .ok (.istore 4, 2) := by decide +kernel
theorem dX0_key_19 : decode cX0_key 19 = .ok (.iload 4, 2) := by decide +kernel
theorem dX0_key_21 : decode cX0_key 21 = .ok (.aload_n 0, 1) := by decide +kernel
theorem dX0_key_22 : decode cX0_key 22 = .ok (.getfield 46, 3) := by decide +kernel
theorem dX0_key_25 : decode cX0_key 25 = .ok (.if_icmp .ge 40, 3) := by decide +kernel
theorem dX0_key_28 : decode cX0_key 28 = .ok (.aload_n 0, 1) := by decide +kernel
theorem dX0_key_29 : decode cX0_key 29 = .ok (.aload_n 0, 1) := by decide +kernel
theorem dX0_key_30 : decode cX0_key 30 = .ok (.getfield 32, 3) := by decide +kernel
theorem dX0_key_33 : decode cX0_key 33 = .ok (.iload 4, 2) := by decide +kernel
theorem dX0_key_35 : decode cX0_key 35 = .ok (.iaload, 1) := by decide +kernel
theorem dX0_key_36 : decode cX0_key 36 = .ok (.invokevirtual 81, 3) := by decide +kernel
theorem dX0_key_39 : decode cX0_key 39 = .ok (.iload_n 1, 1) := by decide +kernel
theorem dX0_key_40 : decode cX0_key 40 = .ok (.if_icmp .ne 19, 3) := by decide +kernel
theorem dX0_key_43 : decode cX0_key 43 = .ok (.iload_n 3, 1) := by decide +kernel
theorem dX0_key_44 : decode cX0_key 44 = .ok (.iload_n 2, 1) := by decide +kernel
theorem dX0_key_45 : decode cX0_key 45 = .ok (.if_icmp .ne 11, 3) := by decide +kernel
theorem dX0_key_48 : decode cX0_key 48 = .ok (.aload_n 0, 1) := by decide +kernel
theorem dX0_key_49 : decode cX0_key 49 = .ok (.getfield 32, 3) := by decide +kernel
theorem dX0_key_52 : decode cX0_key 52 = .ok (.iload 4, 2) := by decide +kernel
theorem dX0_key_54 : decode cX0_key 54 = .ok (.iaload, 1) := by decide +kernel
theorem dX0_key_55 : decode cX0_key 55 = .ok (.ireturn, 1) := by decide +kernel
theorem dX0_key_56 : decode cX0_key 56 = .ok (.iinc 3 1, 3) := by decide +kernel
theorem dX0_key_59 : decode cX0_key 59 = .ok (.iinc 4 1, 3) := by decide +kernel
theorem dX0_key_62 : decode cX0_key 62 = .ok (.goto (-43), 3) := by decide +kernel
theorem dX0_key_65 : decode cX0_key 65 = .ok (.iconst (-1), 1) := by decide +kernel
theorem dX0_key_66 : decode cX0_key 66 = .ok (.ireturn, 1) := by decide +kernel
theorem dX0_clear_0 : decode cX0_clear 0 = .ok (.aload_n 0, 1) := by decide +kernel
theorem dX0_clear_1 : decode cX0_clear 1 = .ok (.iconst 0, 1) := by decide +kernel
theorem dX0_clear_2 : decode cX0_clear 2 = .ok (.putfield 46, 3) := by decide +kernel
theorem dX0_clear_5 : decode cX0_clear 5 = .ok (.aload_n 0, 1) := by decide +kernel
theorem dX0_clear_6 : decode cX0_clear 6 = .ok (.iconst 0, 1) := by decide +kernel
theorem dX0_clear_7 : decode cX0_clear 7 = .ok (.putfield 73, 3) := by decide +kernel
theorem dX0_clear_10 : decode cX0_clear 10 = .ok (.aload_n 0, 1) := by decide +kernel
theorem dX0_clear_11 : decode cX0_clear 11 = .ok (.iconst 0, 1) := by decide +kernel
theorem dX0_clear_12 : decode cX0_clear 12 = .ok (.putfield 70, 3) := by decide +kernel
theorem dX0_clear_15 : decode cX0_clear 15 = .ok (.return_, 1) := by decide +kernel
theorem dX0_within_0 : decode cX0_within 0 = .ok (.iload_n 1, 1) := by decide +kernel
theorem dX0_within_1 : decode cX0_within 1 = .ok (.iload_n 2, 1) := by decide +kernel
theorem dX0_within_2 : decode cX0_within 2 = .ok (.iload_n 0, 1) := by decide +kernel
theorem dX0_within_3 : decode cX0_within 3 = .ok (.invokestatic 26, 3) := by decide +kernel
theorem dX0_within_6 : decode cX0_within 6 = .ok (.invokestatic 90, 3) := by decide +kernel
theorem dX0_within_9 : decode cX0_within 9 = .ok (.ireturn, 1) := by decide +kernel
theorem dX0_bucketsAtLevelStart_0 : decode cX0_bucketsAtLevelStart 0 = .ok (.aload_n 0, 1) := by decide +kernel
theorem dX0_bucketsAtLevelStart_1 : decode cX0_bucketsAtLevelStart 1 = .ok (.getfield 13, 3) := by decide +kernel
theorem dX0_bucketsAtLevelStart_4 : decode cX0_bucketsAtLevelStart 4 = .ok (.aload_n 0, 1) := by decide +kernel
theorem dX0_bucketsAtLevelStart_5 : decode cX0_bucketsAtLevelStart 5 = .ok (.getfield 73, 3) := by decide +kernel
theorem dX0_bucketsAtLevelStart_8 : decode cX0_bucketsAtLevelStart 8 = .ok (.ishl, 1) := by decide +kernel
theorem dX0_bucketsAtLevelStart_9 : decode cX0_bucketsAtLevelStart 9 = .ok (.ireturn, 1) := by decide +kernel
set_option maxRecDepth 20000 in
theorem ggX0_isBucket_X0_buckets : GoodIn wsX0_isBucket wsX0_buckets := goodIn_r _ [5, 6, 7, 8, 9, 4, 10, 11, 12, 13, 14, 15, 16, 17, 18, 19, 20, 21, 22] (by decide +kernel) (by decide +kernel)
set_option maxRecDepth 20000 in
theorem gX0_isBucket_X0_buckets : GoodIn wsX0_isBucket (wsV RX0 60 RX0 yX0_buckets wsX0_buckets) := goodIn_app (goodIn_of _ (by decide +kernel)) ggX0_isBucket_X0_buckets
theorem dX0_isBucket_0 : decode cX0_isBucket 0 = .ok (.iload_n 1, 1) := by decide +kernel
theorem dX0_isBucket_1 : decode cX0_isBucket 1 = .ok (.ifCond .lt 15, 3) := by decide +kernel
theorem dX0_isBucket_4 : decode cX0_isBucket 4 = .ok (.iload_n 1, 1) := by decide +kernel
theorem dX0_isBucket_5 : decode cX0_isBucket 5 = .ok (.aload_n 0, 1) := by decide +kernel
theorem dX0_isBucket_6 : decode cX0_isBucket 6 = .ok (.invokevirtual 60, 3) := by decide +kernel
theorem dX0_isBucket_9 : decode cX0_isBucket 9 = .ok (.if_icmp .ge 7, 3) := by decide +kernel
theorem dX0_isBucket_12 : decode cX0_isBucket 12 = .ok (.iconst 1, 1) := by decide +kernel
theorem dX0_isBucket_13 : decode cX0_isBucket 13 = .ok (.goto 4, 3) := by decide +kernel
theorem dX0_isBucket_16 : decode cX0_isBucket 16 = .ok (.iconst 0, 1) := by decide +kernel
theorem dX0_isBucket_17 : decode cX0_isBucket 17 = .ok (.ireturn, 1) := by decide +kernel
set_option maxRecDepth 20000 in
theorem ggX0_isCrowded_X0_buckets : GoodIn wsX0_isCrowded wsX0_buckets := goodIn_r _ [7, 8, 9, 10, 11, 6, 12, 13, 14, 15, 16, 17, 18, 19, 20, 21, 22, 23, 24] (by decide +kernel) (by decide +kernel)
set_option maxRecDepth 20000 in
theorem gX0_isCrowded_X0_buckets : GoodIn wsX0_isCrowded (wsV RX0 60 RX0 yX0_buckets wsX0_buckets) := goodIn_app (goodIn_of _ (by decide +kernel)) ggX0_isCrowded_X0_buckets
theorem dX0_isCrowded_0 : decode cX0_isCrowded 0 = .ok (.iconst 4, 1) := by decide +kernel
theorem dX0_isCrowded_1 : decode cX0_isCrowded 1 = .ok (.aload_n 0, 1) := by decide +kernel
theorem dX0_isCrowded_2 : decode cX0_isCrowded 2 = .ok (.getfield 46, 3) := by decide +kernel
theorem dX0_isCrowded_5 : decode cX0_isCrowded 5 = .ok (.imul, 1) := by decide +kernel
theorem dX0_isCrowded_6 : decode cX0_isCrowded 6 = .ok (.iconst 3, 1) := by decide +kernel
theorem dX0_isCrowded_7 : decode cX0_isCrowded 7 = .ok (.aload_n 0, 1) := by decide +kernel
theorem dX0_isCrowded_8 : decode cX0_isCrowded 8 = .ok (.getfield 17, 3) := by decide +kernel
theorem dX0_isCrowded_11 : decode cX0_isCrowded 11 = .ok (.imul, 1) := by decide +kernel
theorem dX0_isCrowded_12 : decode cX0_isCrowded 12 = .ok (.aload_n 0, 1) := by decide +kernel
theorem dX0_isCrowded_13 : decode cX0_isCrowded 13 = .ok (.invokevirtual 60, 3) := by decide +kernel
theorem dX0_isCrowded_16 : decode cX0_isCrowded 16 = .ok (.imul, 1) := by decide +kernel
theorem dX0_isCrowded_17 : decode cX0_isCrowded 17 = .ok (.if_icmp .le 7, 3) := by decide +kernel
theorem dX0_isCrowded_20 : decode cX0_isCrowded 20 = .ok (.iconst 1, 1) := by decide +kernel
theorem dX0_isCrowded_21 : decode cX0_isCrowded 21 = .ok (.goto 4, 3) := by decide +kernel
theorem dX0_isCrowded_24 : decode cX0_isCrowded 24 = .ok (.iconst 0, 1) := by decide +kernel
theorem dX0_isCrowded_25 : decode cX0_isCrowded 25 = .ok (.ireturn, 1) := by decide +kernel
set_option maxRecDepth 20000 in
theorem ggX0_isSparse_X0_buckets : GoodIn wsX0_isSparse wsX0_buckets := goodIn_r _ [7, 8, 9, 10, 11, 6, 12, 13, 14, 15, 16, 17, 18, 19, 20, 21, 22, 23, 24] (by decide +kernel) (by decide +kernel)
set_option maxRecDepth 20000 in
theorem gX0_isSparse_X0_buckets : GoodIn wsX0_isSparse (wsV RX0 60 RX0 yX0_buckets wsX0_buckets) := goodIn_app (goodIn_of _ (by decide +kernel)) ggX0_isSparse_X0_buckets
theorem dX0_isSparse_0 : decode cX0_isSparse 0 = .ok (.iconst 4, 1) := by decide +kernel
theorem dX0_isSparse_1 : decode cX0_isSparse 1 = .ok (.aload_n 0, 1) := by decide +kernel
theorem dX0_isSparse_2 : decode cX0_isSparse 2 = .ok (.getfield 46, 3) := by decide +kernel
theorem dX0_isSparse_5 : decode cX0_isSparse 5 = .ok (.imul, 1) := by decide +kernel
theorem dX0_isSparse_6 : decode cX0_isSparse 6 = .ok (.aload_n 0, 1) := by decide +kernel
theorem dX0_isSparse_7 : decode cX0_isSparse 7 = .ok (.getfield 17, 3) := by decide +kernel
theorem dX0_isSparse_10 : decode cX0_isSparse 10 = .ok (.aload_n 0, 1) := by decide +kernel
theorem dX0_isSparse_11 : decode cX0_isSparse 11 = .ok (.invokevirtual 60, 3) := by decide +kernel
theorem dX0_isSparse_14 : decode cX0_isSparse 14 = .ok (.imul, 1) := by decide +kernel
theorem dX0_isSparse_15 : decode cX0_isSparse 15 = .ok (.if_icmp .ge 7, 3) := by decide +kernel
theorem dX0_isSparse_18 : decode cX0_isSparse 18 = .ok (.iconst 1, 1) := by decide +kernel
theorem dX0_isSparse_19 : decode cX0_isSparse 19 = .ok (.goto 4, 3) := by decide +kernel
theorem dX0_isSparse_22 : decode cX0_isSparse 22 = .ok (.iconst 0, 1) := by decide +kernel
theorem dX0_isSparse_23 : decode cX0_isSparse 23 = .ok (.ireturn, 1) := by decide +kernel
theorem dX0_placeOf_0 : decode cX0_placeOf 0 = .ok (.iconst 0, 1) := by decide +kernel
theorem dX0_placeOf_1 : decode cX0_placeOf 1 = .ok (.istore_n 2, 1) := by decide +kernel
theorem dX0_placeOf_2 : decode cX0_placeOf 2 = .ok (.iload_n 2, 1) := by decide +kernel
theorem dX0_placeOf_3 : decode cX0_placeOf 3 = .ok (.aload_n 0, 1) := by decide +kernel
theorem dX0_placeOf_4 : decode cX0_placeOf 4 = .ok (.getfield 46, 3) := by decide +kernel
theorem dX0_placeOf_7 : decode cX0_placeOf 7 = .ok (.if_icmp .ge 21, 3) := by decide +kernel
theorem dX0_placeOf_10 : decode cX0_placeOf 10 = .ok (.aload_n 0, 1) := by decide +kernel
theorem dX0_placeOf_11 : decode cX0_placeOf 11 = .ok (.getfield 32, 3) := by decide +kernel
theorem dX0_placeOf_14 : decode cX0_placeOf 14 = .ok (.iload_n 2, 1) := by decide +kernel
theorem dX0_placeOf_15 : decode cX0_placeOf 15 = .ok (.iaload, 1) := by decide +kernel
theorem dX0_placeOf_16 : decode cX0_placeOf 16 = .ok (.iload_n 1, 1) := by decide +kernel
theorem dX0_placeOf_17 : decode cX0_placeOf 17 = .ok (.if_icmp .ne 5, 3) := by decide +kernel
theorem dX0_placeOf_20 : decode cX0_placeOf 20 = .ok (.iload_n 2, 1) := by decide +kernel
theorem dX0_placeOf_21 : decode cX0_placeOf 21 = .ok (.ireturn, 1) := by decide +kernel
theorem dX0_placeOf_22 : decode cX0_placeOf 22 = .ok (.iinc 2 1, 3) := by decide +kernel
theorem dX0_placeOf_25 : decode cX0_placeOf 25 = .ok (.goto (-23), 3) := by decide +kernel
theorem dX0_placeOf_28 : decode cX0_placeOf 28 = .ok (.iconst (-1), 1) := by decide +kernel
theorem dX0_placeOf_29 : decode cX0_placeOf 29 = .ok (.ireturn, 1) := by decide +kernel
set_option maxRecDepth 20000 in
theorem ggX0_lastPlaceOfBucket_X0_bucketOf : GoodIn wsX0_lastPlaceOfBucket wsX0_bucketOf := goodIn_r _ [7, 8, 9, 10, 11, 12, 6, 13, 14, 15, 16, 17, 18, 19, 20, 21, 22, 23, 24, 25] (by decide +kernel) (by decide +kernel)
set_option maxRecDepth 20000 in
theorem gX0_lastPlaceOfBucket_X0_bucketOf : GoodIn wsX0_lastPlaceOfBucket (wsV RX0 81 RX0 yX0_bucketOf wsX0_bucketOf) := goodIn_app (goodIn_of _ (by decide +kernel)) ggX0_lastPlaceOfBucket_X0_bucketOf
theorem dX0_lastPlaceOfBucket_0 : decode cX0_lastPlaceOfBucket 0 = .ok (.aload_n 0, 1) := by decide +kernel
theorem dX0_lastPlaceOfBucket_1 : decode cX0_lastPlaceOfBucket 1 = .ok (.getfield 46, 3) := by decide +kernel
theorem dX0_lastPlaceOfBucket_4 : decode cX0_lastPlaceOfBucket 4 = .ok (.iconst 1, 1) := by decide +kernel
theorem dX0_lastPlaceOfBucket_5 : decode cX0_lastPlaceOfBucket 5 = .ok (.isub, 1) := by decide +kernel
theorem dX0_lastPlaceOfBucket_6 : decode cX0_lastPlaceOfBucket 6 = .ok (.istore_n 2, 1) := by decide +kernel
theorem dX0_lastPlaceOfBucket_7 : decode cX0_lastPlaceOfBucket 7 = .ok (.iload_n 2, 1) := by decide +kernel
theorem dX0_lastPlaceOfBucket_8 : decode cX0_lastPlaceOfBucket 8 = .ok (.ifCond .lt 25, 3) := by decide +kernel
theorem dX0_lastPlaceOfBucket_11 : decode cX0_lastPlaceOfBucket 11 = .ok (.aload_n 0, 1) := by decide +kernel
theorem dX0_lastPlaceOfBucket_12 : decode cX0_lastPlaceOfBucket 12 = .ok (.aload_n 0, 1) := by decide +kernel
theorem dX0_lastPlaceOfBucket_13 : decode cX0_lastPlaceOfBucket 13 = .ok (.getfield 32, 3) := by decide +kernel
theorem dX0_lastPlaceOfBucket_16 : decode cX0_lastPlaceOfBucket 16 = .ok (.iload_n 2, 1) := by decide +kernel
theorem dX0_lastPlaceOfBucket_17 : decode cX0_lastPlaceOfBucket 17 = .ok (.iaload, 1) := by decide +kernel
theorem dX0_lastPlaceOfBucket_18 : decode cX0_lastPlaceOfBucket 18 = .ok (.invokevirtual 81, 3) := by decide +kernel
theorem dX0_lastPlaceOfBucket_21 : decode cX0_lastPlaceOfBucket 21 = .ok (.iload_n 1, 1) := by decide +kernel
theorem dX0_lastPlaceOfBucket_22 : decode cX0_lastPlaceOfBucket 22 = .ok (.if_icmp .ne 5, 3) := by decide +kernel
theorem dX0_lastPlaceOfBucket_25 : decode cX0_lastPlaceOfBucket 25 = .ok (.iload_n 2, 1) := by decide +kernel
theorem dX0_lastPlaceOfBucket_26 : decode cX0_lastPlaceOfBucket 26 = .ok (.ireturn, 1) := by decide +kernel
theorem dX0_lastPlaceOfBucket_27 : decode cX0_lastPlaceOfBucket 27 = .ok (.iinc 2 (-1), 3) := by decide +kernel
theorem dX0_lastPlaceOfBucket_30 : decode cX0_lastPlaceOfBucket 30 = .ok (.goto (-23), 3) := by decide +kernel
theorem dX0_lastPlaceOfBucket_33 : decode cX0_lastPlaceOfBucket 33 = .ok (.iconst (-1), 1) := by decide +kernel
theorem dX0_lastPlaceOfBucket_34 : decode cX0_lastPlaceOfBucket 34 = .ok (.ireturn, 1) := by decide +kernel
set_option maxRecDepth 20000 in
theorem ggX0_putNew_X0_isCrowded : GoodIn wsX0_putNew wsX0_isCrowded := goodIn_r _ [12, 4, 13, 14, 15, 16, 11, 17, 2, 18, 19, 20, 21, 22, 1, 45, 46, 47, 48, 49, 50, 51, 52, 53, 54] (by decide +kernel) (by decide +kernel)
set_option maxRecDepth 20000 in
theorem gX0_putNew_X0_isCrowded : GoodIn wsX0_putNew (wsV RX0 93 RX0 yX0_isCrowded wsX0_isCrowded) := goodIn_app (goodIn_of _ (by decide +kernel)) ggX0_putNew_X0_isCrowded
set_option maxRecDepth 20000 in
theorem ggX0_putNew_X0_buckets : GoodIn wsX0_putNew wsX0_buckets := goodIn_r _ [17, 2, 18, 19, 20, 11, 21, 22, 1, 45, 46, 47, 48, 49, 50, 51, 52, 53, 54] (by decide +kernel) (by decide +kernel)
set_option maxRecDepth 20000 in
theorem gX0_putNew_X0_buckets : GoodIn wsX0_putNew (wsV RX0 60 RX0 yX0_buckets wsX0_buckets) := goodIn_app (goodIn_of _ (by decide +kernel)) ggX0_putNew_X0_buckets
set_option maxRecDepth 20000 in
theorem ggX0_putNew_X0_part : GoodIn wsX0_putNew wsX0_part := goodIn_r _ [26, 2, 1, 18, 19, 20, 11, 21, 22, 45, 46, 47, 48, 49, 50, 51, 52, 53, 54] (by decide +kernel) (by decide +kernel)
set_option maxRecDepth 20000 in
theorem gX0_putNew_X0_part : GoodIn wsX0_putNew (wsV RX0 96 RX0 yX0_part wsX0_part) := goodIn_app (goodIn_of _ (by decide +kernel)) ggX0_putNew_X0_part
set_option maxRecDepth 20000 in
theorem ggX0_putNew_X0_pagesNeeded : GoodIn wsX0_putNew wsX0_pagesNeeded := goodIn_r _ [30, 31, 4, 3, 14, 15, 16, 11, 17, 2, 18, 19, 20, 21, 22, 1, 32, 33, 34, 35, 36, 37, 38, 39, 40, 13, 41, 42, 43, 44, 45, 46, 47, 48, 49, 50, 51, 52, 53, 54] (by decide +kernel) (by decide +kernel)
set_option maxRecDepth 20000 in
theorem gX0_putNew_X0_pagesNeeded : GoodIn wsX0_putNew (wsV RX0 87 RX0 yX0_pagesNeeded wsX0_pagesNeeded) := goodIn_app (goodIn_of _ (by decide +kernel)) ggX0_putNew_X0_pagesNeeded
theorem dX0_putNew_0 : decode cX0_putNew 0 = .ok (.aload_n 0, 1) := by decide +kernel
theorem dX0_putNew_1 : decode cX0_putNew 1 = .ok (.getfield 73, 3) := by decide +kernel
theorem dX0_putNew_4 : decode cX0_putNew 4 = .ok (.istore_n 3, 1) := by decide +kernel
theorem dX0_putNew_5 : decode cX0_putNew 5 = .ok (.aload_n 0, 1) := by decide +kernel
theorem dX0_putNew_6 : decode cX0_putNew 6 = .ok (.getfield 70, 3) := by decide +kernel
theorem dX0_putNew_9 : decode cX0_putNew 9 = .ok (.istore 4, 2) := by decide +kernel
theorem dX0_putNew_11 : decode cX0_putNew 11 = .ok (.aload_n 0, 1) := by decide +kernel
theorem dX0_putNew_12 : decode cX0_putNew 12 = .ok (.getfield 32, 3) := by decide +kernel
theorem dX0_putNew_15 : decode cX0_putNew 15 = .ok (.aload_n 0, 1) := by decide +kernel
theorem dX0_putNew_16 : decode cX0_putNew 16 = .ok (.getfield 46, 3) := by decide +kernel
theorem dX0_putNew_19 : decode cX0_putNew 19 = .ok (.iload_n 1, 1) := by decide +kernel
theorem dX0_putNew_20 : decode cX0_putNew 20 = .ok (.iastore, 1) := by decide +kernel
theorem dX0_putNew_21 : decode cX0_putNew 21 = .ok (.aload_n 0, 1) := by decide +kernel
theorem dX0_putNew_22 : decode cX0_putNew 22 = .ok (.getfield 36, 3) := by decide +kernel
theorem dX0_putNew_25 : decode cX0_putNew 25 = .ok (.aload_n 0, 1) := by decide +kernel
theorem dX0_putNew_26 : decode cX0_putNew 26 = .ok (.getfield 46, 3) := by decide +kernel
theorem dX0_putNew_29 : decode cX0_putNew 29 = .ok (.iload_n 2, 1) := by decide +kernel
theorem dX0_putNew_30 : decode cX0_putNew 30 = .ok (.iastore, 1) := by decide +kernel
theorem dX0_putNew_31 : decode cX0_putNew 31 = .ok (.aload_n 0, 1) := by decide +kernel
theorem dX0_putNew_32 : decode cX0_putNew 32 = .ok (.dup, 1) := by decide +kernel
theorem dX0_putNew_33 : decode cX0_putNew 33 = .ok (.getfield 46, 3) := by decide +kernel
theorem dX0_putNew_36 : decode cX0_putNew 36 = .ok (.iconst 1, 1) := by decide +kernel
theorem dX0_putNew_37 : decode cX0_putNew 37 = .ok (.iadd, 1) := by decide +kernel
theorem dX0_putNew_38 : decode cX0_putNew 38 = .ok (.putfield 46, 3) := by decide +kernel
theorem dX0_putNew_41 : decode cX0_putNew 41 = .ok (.aload_n 0, 1) := by decide +kernel
theorem dX0_putNew_42 : decode cX0_putNew 42 = .ok (.invokevirtual 93, 3) := by decide +kernel
theorem dX0_putNew_45 : decode cX0_putNew 45 = .ok (.ifCond .eq 18, 3) := by decide +kernel
theorem dX0_putNew_48 : decode cX0_putNew 48 = .ok (.aload_n 0, 1) := by decide +kernel
theorem dX0_putNew_49 : decode cX0_putNew 49 = .ok (.invokevirtual 60, 3) := by decide +kernel
theorem dX0_putNew_52 : decode cX0_putNew 52 = .ok (.aload_n 0, 1) := by decide +kernel
theorem dX0_putNew_53 : decode cX0_putNew 53 = .ok (.getfield 23, 3) := by decide +kernel
theorem dX0_putNew_56 : decode cX0_putNew 56 = .ok (.if_icmp .ge 7, 3) := by decide +kernel
theorem dX0_putNew_59 : decode cX0_putNew 59 = .ok (.aload_n 0, 1) := by decide +kernel
theorem dX0_putNew_60 : decode cX0_putNew 60 = .ok (.invokevirtual 96, 3) := by decide +kernel
theorem dX0_putNew_63 : decode cX0_putNew 63 = .ok (.aload_n 0, 1) := by decide +kernel
theorem dX0_putNew_64 : decode cX0_putNew 64 = .ok (.invokevirtual 87, 3) := by decide +kernel
theorem dX0_putNew_67 : decode cX0_putNew 67 = .ok (.aload_n 0, 1) := by decide +kernel
theorem dX0_putNew_68 : decode cX0_putNew 68 = .ok (.getfield 20, 3) := by decide +kernel
theorem dX0_putNew_71 : decode cX0_putNew 71 = .ok (.if_icmp .le 26, 3) := by decide +kernel
theorem dX0_putNew_74 : decode cX0_putNew 74 = .ok (.aload_n 0, 1) := by decide +kernel
theorem dX0_putNew_75 : decode cX0_putNew 75 = .ok (.dup, 1) := by decide +kernel
theorem dX0_putNew_76 : decode cX0_putNew 76 = .ok (.getfield 46, 3) := by decide +kernel
theorem dX0_putNew_79 : decode cX0_putNew 79 = .ok (.iconst 1, 1) := by decide +kernel
theorem dX0_putNew_80 : decode cX0_putNew 80 = .ok (.isub, 1) := by decide +kernel
theorem dX0_putNew_81 : decode cX0_putNew 81 = .ok (.putfield 46, 3) := by decide +kernel
theorem dX0_putNew_84 : decode cX0_putNew 84 = .ok (.aload_n 0, 1) := by decide +kernel
theorem dX0_putNew_85 : decode cX0_putNew 85 = .ok (.iload_n 3, 1) := by decide +kernel
theorem dX0_putNew_86 : decode cX0_putNew 86 = .ok (.putfield 73, 3) := by decide +kernel
theorem dX0_putNew_89 : decode cX0_putNew 89 = .ok (.aload_n 0, 1) := by decide +kernel
theorem dX0_putNew_90 : decode cX0_putNew 90 = .ok (.iload 4, 2) := by decide +kernel
theorem dX0_putNew_92 : decode cX0_putNew 92 = .ok (.putfield 70, 3) := by decide +kernel
theorem dX0_putNew_95 : decode cX0_putNew 95 = .ok (.iconst 2, 1) := by decide +kernel
theorem dX0_putNew_96 : decode cX0_putNew 96 = .ok (.ireturn, 1) := by decide +kernel
theorem dX0_putNew_97 : decode cX0_putNew 97 = .ok (.iconst 0, 1) := by decide +kernel
theorem dX0_putNew_98 : decode cX0_putNew 98 = .ok (.ireturn, 1) := by decide +kernel
set_option maxRecDepth 20000 in
theorem ggX0_part_X0_bucketsAtLevelStart : GoodIn wsX0_part wsX0_bucketsAtLevelStart := goodIn_r _ [7, 8, 2, 9, 10, 11, 12, 13, 14, 15, 16, 17, 18] (by decide +kernel) (by decide +kernel)
set_option maxRecDepth 20000 in
theorem gX0_part_X0_bucketsAtLevelStart : GoodIn wsX0_part (wsV RX0 67 RX0 yX0_bucketsAtLevelStart wsX0_bucketsAtLevelStart) := goodIn_app (goodIn_of _ (by decide +kernel)) ggX0_part_X0_bucketsAtLevelStart
theorem dX0_part_0 : decode cX0_part 0 = .ok (.aload_n 0, 1) := by decide +kernel
theorem dX0_part_1 : decode cX0_part 1 = .ok (.dup, 1) := by decide +kernel
theorem dX0_part_2 : decode cX0_part 2 = .ok (.getfield 70, 3) := by decide +kernel
theorem dX0_part_5 : decode cX0_part 5 = .ok (.iconst 1, 1) := by decide +kernel
theorem dX0_part_6 : decode cX0_part 6 = .ok (.iadd, 1) := by decide +kernel
theorem dX0_part_7 : decode cX0_part 7 = .ok (.putfield 70, 3) := by decide +kernel
theorem dX0_part_10 : decode cX0_part 10 = .ok (.aload_n 0, 1) := by decide +kernel
theorem dX0_part_11 : decode cX0_part 11 = .ok (.getfield 70, 3) := by decide +kernel
theorem dX0_part_14 : decode cX0_part 14 = .ok (.aload_n 0, 1) := by decide +kernel
theorem dX0_part_15 : decode cX0_part 15 = .ok (.invokevirtual 67, 3) := by decide +kernel
theorem dX0_part_18 : decode cX0_part 18 = .ok (.if_icmp .ne 18, 3) := by decide +kernel
theorem dX0_part_21 : decode cX0_part 21 = .ok (.aload_n 0, 1) := by decide +kernel
theorem dX0_part_22 : decode cX0_part 22 = .ok (.iconst 0, 1) := by decide +kernel
theorem dX0_part_23 : decode cX0_part 23 = .ok (.putfield 70, 3) := by decide +kernel
theorem dX0_part_26 : decode cX0_part 26 = .ok (.aload_n 0, 1) := by decide +kernel
theorem dX0_part_27 : decode cX0_part 27 = .ok (.dup, 1) := by decide +kernel
theorem dX0_part_28 : decode cX0_part 28 = .ok (.getfield 73, 3) := by decide +kernel
theorem dX0_part_31 : decode cX0_part 31 = .ok (.iconst 1, 1) := by decide +kernel
theorem dX0_part_32 : decode cX0_part 32 = .ok (.iadd, 1) := by decide +kernel
theorem dX0_part_33 : decode cX0_part 33 = .ok (.putfield 73, 3) := by decide +kernel
theorem dX0_part_36 : decode cX0_part 36 = .ok (.return_, 1) := by decide +kernel
set_option maxRecDepth 20000 in
theorem ggX0_join_X0_buckets : GoodIn wsX0_join wsX0_buckets := goodIn_r _ [7, 1, 8, 9, 10, 6, 11, 12, 2, 29, 30, 31, 32, 33, 34, 35, 36, 37, 38] (by decide +kernel) (by decide +kernel)
set_option maxRecDepth 20000 in
theorem gX0_join_X0_buckets : GoodIn wsX0_join (wsV RX0 60 RX0 yX0_buckets wsX0_buckets) := goodIn_app (goodIn_of _ (by decide +kernel)) ggX0_join_X0_buckets
set_option maxRecDepth 20000 in
theorem ggX0_join_X0_moveBucketToEnd : GoodIn wsX0_join wsX0_moveBucketToEnd := goodIn_r _ [16, 17, 18, 19, 20, 21, 6, 22, 23, 1, 8, 9, 10, 11, 12, 2, 24, 25, 26, 27, 28, 29, 30, 31, 32, 33, 34, 35, 36, 37, 38] (by decide +kernel) (by decide +kernel)
set_option maxRecDepth 20000 in
theorem gX0_join_X0_moveBucketToEnd : GoodIn wsX0_join (wsV RX0 99 RX0 yX0_moveBucketToEnd wsX0_moveBucketToEnd) := goodIn_app (goodIn_of _ (by decide +kernel)) ggX0_join_X0_moveBucketToEnd
set_option maxRecDepth 20000 in
theorem ggX0_join_X0_bucketsAtLevelStart : GoodIn wsX0_join wsX0_bucketsAtLevelStart := goodIn_r _ [11, 12, 2, 29, 30, 31, 32, 33, 34, 35, 36, 37, 38] (by decide +kernel) (by decide +kernel)
set_option maxRecDepth 20000 in
theorem gX0_join_X0_bucketsAtLevelStart : GoodIn wsX0_join (wsV RX0 67 RX0 yX0_bucketsAtLevelStart wsX0_bucketsAtLevelStart) := goodIn_app (goodIn_of _ (by decide +kernel)) ggX0_join_X0_bucketsAtLevelStart
theorem dX0_join_0 : decode cX0_join 0 = .ok (.aload_n 0, 1) := by decide +kernel
theorem dX0_join_1 : decode cX0_join 1 = .ok (.aload_n 0, 1) := by decide +kernel
theorem dX0_join_2 : decode cX0_join 2 = .ok (.invokevirtual 60, 3) := by decide +kernel
theorem dX0_join_5 : decode cX0_join 5 = .ok (.iconst 1, 1) := by decide +kernel
theorem dX0_join_6 : decode cX0_join 6 = .ok (.isub, 1) := by decide +kernel
theorem dX0_join_7 : decode cX0_join 7 = .ok (.invokevirtual 99, 3) := by decide +kernel
theorem dX0_join_10 : decode cX0_join 10 = .ok (.aload_n 0, 1) := by decide +kernel
theorem dX0_join_11 : decode cX0_join 11 = .ok (.getfield 70, 3) := by decide +kernel
theorem dX0_join_14 : decode cX0_join 14 = .ok (.ifCond .ne 21, 3) := by decide +kernel
theorem dX0_join_17 : decode cX0_join 17 = .ok (.aload_n 0, 1) := by decide +kernel
theorem dX0_join_18 : decode cX0_join 18 = .ok (.dup, 1) := by decide +kernel
theorem dX0_join_19 : decode cX0_join 19 = .ok (.getfield 73, 3) := by decide +kernel
theorem dX0_join_22 : decode cX0_join 22 = .ok (.iconst 1, 1) := by decide +kernel
theorem dX0_join_23 : decode cX0_join 23 = .ok (.isub, 1) := by decide +kernel
theorem dX0_join_24 : decode cX0_join 24 = .ok (.putfield 73, 3) := by decide +kernel
theorem dX0_join_27 : decode cX0_join 27 = .ok (.aload_n 0, 1) := by decide +kernel
theorem dX0_join_28 : decode cX0_join 28 = .ok (.aload_n 0, 1) := by decide +kernel
theorem dX0_join_29 : decode cX0_join 29 = .ok (.invokevirtual 67, 3) := by decide +kernel
theorem dX0_join_32 : decode cX0_join 32 = .ok (.putfield 70, 3) := by decide +kernel
theorem dX0_join_35 : decode cX0_join 35 = .ok (.aload_n 0, 1) := by decide +kernel
theorem dX0_join_36 : decode cX0_join 36 = .ok (.dup, 1) := by decide +kernel
theorem dX0_join_37 : decode cX0_join 37 = .ok (.getfield 70, 3) := by decide +kernel
theorem dX0_join_40 : decode cX0_join 40 = .ok (.iconst 1, 1) := by decide +kernel
theorem dX0_join_41 : decode cX0_join 41 = .ok (.isub, 1) := by decide +kernel
theorem dX0_join_42 : decode cX0_join 42 = .ok (.putfield 70, 3) := by decide +kernel
theorem dX0_join_45 : decode cX0_join 45 = .ok (.return_, 1) := by decide +kernel
set_option maxRecDepth 20000 in
theorem ggX0_takeOut_X0_bucketOf : GoodIn wsX0_takeOut wsX0_bucketOf := goodIn_r _ [8, 9, 10, 11, 12, 13, 7, 14, 15, 16, 25, 26, 27, 28, 29, 30, 31, 32, 33, 34] (by decide +kernel) (by decide +kernel)
set_option maxRecDepth 20000 in
theorem gX0_takeOut_X0_bucketOf : GoodIn wsX0_takeOut (wsV RX0 81 RX0 yX0_bucketOf wsX0_bucketOf) := goodIn_app (goodIn_of _ (by decide +kernel)) ggX0_takeOut_X0_bucketOf
set_option maxRecDepth 20000 in
theorem ggX0_takeOut_X0_lastPlaceOfBucket : GoodIn wsX0_takeOut wsX0_lastPlaceOfBucket := goodIn_r _ [20, 3, 1, 4, 5, 6, 7, 8, 9, 10, 11, 12, 13, 14, 15, 16, 25, 26, 27, 28, 29, 30, 31, 32, 33, 34] (by decide +kernel) (by decide +kernel)
set_option maxRecDepth 20000 in
theorem gX0_takeOut_X0_lastPlaceOfBucket : GoodIn wsX0_takeOut (wsV RX0 102 RX0 yX0_lastPlaceOfBucket wsX0_lastPlaceOfBucket) := goodIn_app (goodIn_of _ (by decide +kernel)) ggX0_takeOut_X0_lastPlaceOfBucket
set_option maxRecDepth 20000 in
theorem ggX0_takeOut_X0_moveToEnd : GoodIn wsX0_takeOut wsX0_moveToEnd := goodIn_r _ [24, 1, 2, 3, 25, 26, 27, 28, 29, 30, 31, 32, 33, 34] (by decide +kernel) (by decide +kernel)
set_option maxRecDepth 20000 in
theorem gX0_takeOut_X0_moveToEnd : GoodIn wsX0_takeOut (wsV RX0 105 RX0 yX0_moveToEnd wsX0_moveToEnd) := goodIn_app (goodIn_of _ (by decide +kernel)) ggX0_takeOut_X0_moveToEnd
theorem dX0_takeOut_0 : decode cX0_takeOut 0 = .ok (.aload_n 0, 1) := by decide +kernel
theorem dX0_takeOut_1 : decode cX0_takeOut 1 = .ok (.aload_n 0, 1) := by decide +kernel
theorem dX0_takeOut_2 : decode cX0_takeOut 2 = .ok (.aload_n 0, 1) := by decide +kernel
theorem dX0_takeOut_3 : decode cX0_takeOut 3 = .ok (.getfield 32, 3) := by decide +kernel
theorem dX0_takeOut_6 : decode cX0_takeOut 6 = .ok (.iload_n 1, 1) := by decide +kernel
theorem dX0_takeOut_7 : decode cX0_takeOut 7 = .ok (.iaload, 1) := by decide +kernel
theorem dX0_takeOut_8 : decode cX0_takeOut 8 = .ok (.invokevirtual 81, 3) := by decide +kernel
theorem dX0_takeOut_11 : decode cX0_takeOut 11 = .ok (.invokevirtual 102, 3) := by decide +kernel
theorem dX0_takeOut_14 : decode cX0_takeOut 14 = .ok (.istore_n 2, 1) := by decide +kernel
theorem dX0_takeOut_15 : decode cX0_takeOut 15 = .ok (.iload_n 2, 1) := by decide +kernel
theorem dX0_takeOut_16 : decode cX0_takeOut 16 = .ok (.iconst (-1), 1) := by decide +kernel
theorem dX0_takeOut_17 : decode cX0_takeOut 17 = .ok (.if_icmp .ne 4, 3) := by decide +kernel
theorem dX0_takeOut_20 : decode cX0_takeOut 20 = .ok (.return_, 1) := by decide +kernel
theorem dX0_takeOut_21 : decode cX0_takeOut 21 = .ok (.aload_n 0, 1) := by decide +kernel
theorem dX0_takeOut_22 : decode cX0_takeOut 22 = .ok (.getfield 32, 3) := by decide +kernel
theorem dX0_takeOut_25 : decode cX0_takeOut 25 = .ok (.iload_n 1, 1) := by decide +kernel
theorem dX0_takeOut_26 : decode cX0_takeOut 26 = .ok (.aload_n 0, 1) := by decide +kernel
theorem dX0_takeOut_27 : decode cX0_takeOut 27 = .ok (.getfield 32, 3) := by decide +kernel
theorem dX0_takeOut_30 : decode cX0_takeOut 30 = .ok (.iload_n 2, 1) := by decide +kernel
theorem dX0_takeOut_31 : decode cX0_takeOut 31 = .ok (.iaload, 1) := by decide +kernel
theorem dX0_takeOut_32 : decode cX0_takeOut 32 = .ok (.iastore, 1) := by decide +kernel
theorem dX0_takeOut_33 : decode cX0_takeOut 33 = .ok (.aload_n 0, 1) := by decide +kernel
theorem dX0_takeOut_34 : decode cX0_takeOut 34 = .ok (.getfield 36, 3) := by decide +kernel
theorem dX0_takeOut_37 : decode cX0_takeOut 37 = .ok (.iload_n 1, 1) := by decide +kernel
theorem dX0_takeOut_38 : decode cX0_takeOut 38 = .ok (.aload_n 0, 1) := by decide +kernel
theorem dX0_takeOut_39 : decode cX0_takeOut 39 = .ok (.getfield 36, 3) := by decide +kernel
theorem dX0_takeOut_42 : decode cX0_takeOut 42 = .ok (.iload_n 2, 1) := by decide +kernel
theorem dX0_takeOut_43 : decode cX0_takeOut 43 = .ok (.iaload, 1) := by decide +kernel
theorem dX0_takeOut_44 : decode cX0_takeOut 44 = .ok (.iastore, 1) := by decide +kernel
theorem dX0_takeOut_45 : decode cX0_takeOut 45 = .ok (.aload_n 0, 1) := by decide +kernel
theorem dX0_takeOut_46 : decode cX0_takeOut 46 = .ok (.iload_n 2, 1) := by decide +kernel
theorem dX0_takeOut_47 : decode cX0_takeOut 47 = .ok (.invokevirtual 105, 3) := by decide +kernel
theorem dX0_takeOut_50 : decode cX0_takeOut 50 = .ok (.aload_n 0, 1) := by decide +kernel
theorem dX0_takeOut_51 : decode cX0_takeOut 51 = .ok (.dup, 1) := by decide +kernel
theorem dX0_takeOut_52 : decode cX0_takeOut 52 = .ok (.getfield 46, 3) := by decide +kernel
theorem dX0_takeOut_55 : decode cX0_takeOut 55 = .ok (.iconst 1, 1) := by decide +kernel
theorem dX0_takeOut_56 : decode cX0_takeOut 56 = .ok (.isub, 1) := by decide +kernel
theorem dX0_takeOut_57 : decode cX0_takeOut 57 = .ok (.putfield 46, 3) := by decide +kernel
theorem dX0_takeOut_60 : decode cX0_takeOut 60 = .ok (.return_, 1) := by decide +kernel
set_option maxRecDepth 20000 in
theorem ggX0_moveBucketToEnd_X0_bucketOf : GoodIn wsX0_moveBucketToEnd wsX0_bucketOf := goodIn_r _ [7, 8, 9, 10, 11, 12, 6, 13, 14, 15, 21, 22, 23, 24, 25, 26, 27, 28, 29, 30] (by decide +kernel) (by decide +kernel)
set_option maxRecDepth 20000 in
theorem gX0_moveBucketToEnd_X0_bucketOf : GoodIn wsX0_moveBucketToEnd (wsV RX0 81 RX0 yX0_bucketOf wsX0_bucketOf) := goodIn_app (goodIn_of _ (by decide +kernel)) ggX0_moveBucketToEnd_X0_bucketOf
set_option maxRecDepth 20000 in
theorem ggX0_moveBucketToEnd_X0_moveToEnd : GoodIn wsX0_moveBucketToEnd wsX0_moveToEnd := goodIn_r _ [19, 2, 20, 1, 21, 22, 23, 24, 25, 26, 27, 28, 29, 30] (by decide +kernel) (by decide +kernel)
set_option maxRecDepth 20000 in
theorem gX0_moveBucketToEnd_X0_moveToEnd : GoodIn wsX0_moveBucketToEnd (wsV RX0 105 RX0 yX0_moveToEnd wsX0_moveToEnd) := goodIn_app (goodIn_of _ (by decide +kernel)) ggX0_moveBucketToEnd_X0_moveToEnd
theorem dX0_moveBucketToEnd_0 : decode cX0_moveBucketToEnd 0 = .ok (.iconst 0, 1) := by decide +kernel
theorem dX0_moveBucketToEnd_1 : decode cX0_moveBucketToEnd 1 = .ok (.istore_n 2, 1) := by decide +kernel
theorem dX0_moveBucketToEnd_2 : decode cX0_moveBucketToEnd 2 = .ok (.iconst 0, 1) := by decide +kernel
theorem dX0_moveBucketToEnd_3 : decode cX0_moveBucketToEnd 3 = .ok (.istore_n 3, 1) := by decide +kernel
theorem dX0_moveBucketToEnd_4 : decode cX0_moveBucketToEnd 4 = .ok (.iload_n 3, 1) := by decide +kernel
theorem dX0_moveBucketToEnd_5 : decode cX0_moveBucketToEnd 5 = .ok (.aload_n 0, 1) := by decide +kernel
theorem dX0_moveBucketToEnd_6 : decode cX0_moveBucketToEnd 6 = .ok (.getfield 46, 3) := by decide +kernel
theorem dX0_moveBucketToEnd_9 : decode cX0_moveBucketToEnd 9 = .ok (.if_icmp .ge 34, 3) := by decide +kernel
theorem dX0_moveBucketToEnd_12 : decode cX0_moveBucketToEnd 12 = .ok (.aload_n 0, 1) := by decide +kernel
theorem dX0_moveBucketToEnd_13 : decode cX0_moveBucketToEnd 13 = .ok (.aload_n 0, 1) := by decide +kernel
theorem dX0_moveBucketToEnd_14 : decode cX0_moveBucketToEnd 14 = .ok (.getfield 32, 3) := by decide +kernel
theorem dX0_moveBucketToEnd_17 : decode cX0_moveBucketToEnd 17 = .ok (.iload_n 2, 1) := by decide +kernel
theorem dX0_moveBucketToEnd_18 : decode cX0_moveBucketToEnd 18 = .ok (.iaload, 1) := by decide +kernel
theorem dX0_moveBucketToEnd_19 : decode cX0_moveBucketToEnd 19 = .ok (.invokevirtual 81, 3) := by decide +kernel
theorem dX0_moveBucketToEnd_22 : decode cX0_moveBucketToEnd 22 = .ok (.iload_n 1, 1) := by decide +kernel
theorem dX0_moveBucketToEnd_23 : decode cX0_moveBucketToEnd 23 = .ok (.if_icmp .ne 11, 3) := by decide +kernel
theorem dX0_moveBucketToEnd_26 : decode cX0_moveBucketToEnd 26 = .ok (.aload_n 0, 1) := by decide +kernel
theorem dX0_moveBucketToEnd_27 : decode cX0_moveBucketToEnd 27 = .ok (.iload_n 2, 1) := by decide +kernel
theorem dX0_moveBucketToEnd_28 : decode cX0_moveBucketToEnd 28 = .ok (.invokevirtual 105, 3) := by decide +kernel
theorem dX0_moveBucketToEnd_31 : decode cX0_moveBucketToEnd 31 = .ok (.goto 6, 3) := by decide +kernel
theorem dX0_moveBucketToEnd_34 : decode cX0_moveBucketToEnd 34 = .ok (.iinc 2 1, 3) := by decide +kernel
theorem dX0_moveBucketToEnd_37 : decode cX0_moveBucketToEnd 37 = .ok (.iinc 3 1, 3) := by decide +kernel
theorem dX0_moveBucketToEnd_40 : decode cX0_moveBucketToEnd 40 = .ok (.goto (-36), 3) := by decide +kernel
theorem dX0_moveBucketToEnd_43 : decode cX0_moveBucketToEnd 43 = .ok (.return_, 1) := by decide +kernel
theorem dX0_moveToEnd_0 : decode cX0_moveToEnd 0 = .ok (.aload_n 0, 1) := by decide +kernel
theorem dX0_moveToEnd_1 : decode cX0_moveToEnd 1 = .ok (.getfield 32, 3) := by decide +kernel
theorem dX0_moveToEnd_4 : decode cX0_moveToEnd 4 = .ok (.iload_n 1, 1) := by decide +kernel
theorem dX0_moveToEnd_5 : decode cX0_moveToEnd 5 = .ok (.iaload, 1) := by decide +kernel
theorem dX0_moveToEnd_6 : decode cX0_moveToEnd 6 = .ok (.istore_n 2, 1) := by decide +kernel
theorem dX0_moveToEnd_7 : decode cX0_moveToEnd 7 = .ok (.aload_n 0, 1) := by decide +kernel
theorem dX0_moveToEnd_8 : decode cX0_moveToEnd 8 = .ok (.getfield 36, 3) := by decide +kernel
theorem dX0_moveToEnd_11 : decode cX0_moveToEnd 11 = .ok (.iload_n 1, 1) := by decide +kernel
theorem dX0_moveToEnd_12 : decode cX0_moveToEnd 12 = .ok (.iaload, 1) := by decide +kernel
theorem dX0_moveToEnd_13 : decode cX0_moveToEnd 13 = .ok (.istore_n 3, 1) := by decide +kernel
theorem dX0_moveToEnd_14 : decode cX0_moveToEnd 14 = .ok (.iload_n 1, 1) := by decide +kernel
theorem dX0_moveToEnd_15 : decode cX0_moveToEnd 15 = .ok (.istore 4, 2) := by decide +kernel
theorem dX0_moveToEnd_17 : decode cX0_moveToEnd 17 = .ok (.iload 4, 2) := by decide +kernel
theorem dX0_moveToEnd_19 : decode cX0_moveToEnd 19 = .ok (.aload_n 0, 1) := by decide +kernel
theorem dX0_moveToEnd_20 : decode cX0_moveToEnd 20 = .ok (.getfield 46, 3) := by decide +kernel
theorem dX0_moveToEnd_23 : decode cX0_moveToEnd 23 = .ok (.iconst 1, 1) := by decide +kernel
theorem dX0_moveToEnd_24 : decode cX0_moveToEnd 24 = .ok (.isub, 1) := by decide +kernel
theorem dX0_moveToEnd_25 : decode cX0_moveToEnd 25 = .ok (.if_icmp .ge 41, 3) := by decide +kernel
theorem dX0_moveToEnd_28 : decode cX0_moveToEnd 28 = .ok (.aload_n 0, 1) := by decide +kernel
theorem dX0_moveToEnd_29 : decode cX0_moveToEnd 29 = .ok (.getfield 32, 3) := by decide +kernel
theorem dX0_moveToEnd_32 : decode cX0_moveToEnd 32 = .ok (.iload 4, 2) := by decide +kernel
theorem dX0_moveToEnd_34 : decode cX0_moveToEnd 34 = .ok (.aload_n 0, 1) := by decide +kernel
theorem dX0_moveToEnd_35 : decode cX0_moveToEnd 35 = .ok (.getfield 32, 3) := by decide +kernel
theorem dX0_moveToEnd_38 : decode cX0_moveToEnd 38 = .ok (.iload 4, 2) := by decide +kernel
theorem dX0_moveToEnd_40 : decode cX0_moveToEnd 40 = .ok (.iconst 1, 1) := by decide +kernel
theorem dX0_moveToEnd_41 : decode cX0_moveToEnd 41 = .ok (.iadd, 1) := by decide +kernel
theorem dX0_moveToEnd_42 : decode cX0_moveToEnd 42 = .ok (.iaload, 1) := by decide +kernel
theorem dX0_moveToEnd_43 : decode cX0_moveToEnd 43 = .ok (.iastore, 1) := by decide +kernel
theorem dX0_moveToEnd_44 : decode cX0_moveToEnd 44 = .ok (.aload_n 0, 1) := by decide +kernel
theorem dX0_moveToEnd_45 : decode cX0_moveToEnd 45 = .ok (.getfield 36, 3) := by decide +kernel
theorem dX0_moveToEnd_48 : decode cX0_moveToEnd 48 = .ok (.iload 4, 2) := by decide +kernel
theorem dX0_moveToEnd_50 : decode cX0_moveToEnd 50 = .ok (.aload_n 0, 1) := by decide +kernel
theorem dX0_moveToEnd_51 : decode cX0_moveToEnd 51 = .ok (.getfield 36, 3) := by decide +kernel
theorem dX0_moveToEnd_54 : decode cX0_moveToEnd 54 = .ok (.iload 4, 2) := by decide +kernel
theorem dX0_moveToEnd_56 : decode cX0_moveToEnd 56 = .ok (.iconst 1, 1) := by decide +kernel
theorem dX0_moveToEnd_57 : decode cX0_moveToEnd 57 = .ok (.iadd, 1) := by decide +kernel
theorem dX0_moveToEnd_58 : decode cX0_moveToEnd 58 = .ok (.iaload, 1) := by decide +kernel
theorem dX0_moveToEnd_59 : decode cX0_moveToEnd 59 = .ok (.iastore, 1) := by decide +kernel
theorem dX0_moveToEnd_60 : decode cX0_moveToEnd 60 = .ok (.iinc 4 1, 3) := by decide +kernel
theorem dX0_moveToEnd_63 : decode cX0_moveToEnd 63 = .ok (.goto (-46), 3) := by decide +kernel
theorem dX0_moveToEnd_66 : decode cX0_moveToEnd 66 = .ok (.aload_n 0, 1) := by decide +kernel
theorem dX0_moveToEnd_67 : decode cX0_moveToEnd 67 = .ok (.getfield 32, 3) := by decide +kernel
theorem dX0_moveToEnd_70 : decode cX0_moveToEnd 70 = .ok (.aload_n 0, 1) := by decide +kernel
theorem dX0_moveToEnd_71 : decode cX0_moveToEnd 71 = .ok (.getfield 46, 3) := by decide +kernel
theorem dX0_moveToEnd_74 : decode cX0_moveToEnd 74 = .ok (.iconst 1, 1) := by decide +kernel
theorem dX0_moveToEnd_75 : decode cX0_moveToEnd 75 = .ok (.isub, 1) := by decide +kernel
theorem dX0_moveToEnd_76 : decode cX0_moveToEnd 76 = .ok (.iload_n 2, 1) := by decide +kernel
theorem dX0_moveToEnd_77 : decode cX0_moveToEnd 77 = .ok (.iastore, 1) := by decide +kernel
theorem dX0_moveToEnd_78 : decode cX0_moveToEnd 78 = .ok (.aload_n 0, 1) := by decide +kernel
theorem dX0_moveToEnd_79 : decode cX0_moveToEnd 79 = .ok (.getfield 36, 3) := by decide +kernel
theorem dX0_moveToEnd_82 : decode cX0_moveToEnd 82 = .ok (.aload_n 0, 1) := by decide +kernel
theorem dX0_moveToEnd_83 : decode cX0_moveToEnd 83 = .ok (.getfield 46, 3) := by decide +kernel
theorem dX0_moveToEnd_86 : decode cX0_moveToEnd 86 = .ok (.iconst 1, 1) := by decide +kernel
theorem dX0_moveToEnd_87 : decode cX0_moveToEnd 87 = .ok (.isub, 1) := by decide +kernel
theorem dX0_moveToEnd_88 : decode cX0_moveToEnd 88 = .ok (.iload_n 3, 1) := by decide +kernel
theorem dX0_moveToEnd_89 : decode cX0_moveToEnd 89 = .ok (.iastore, 1) := by decide +kernel
theorem dX0_moveToEnd_90 : decode cX0_moveToEnd 90 = .ok (.return_, 1) := by decide +kernel
theorem dX0_pagesFor_0 : decode cX0_pagesFor 0 = .ok (.iconst 1, 1) := by decide +kernel
theorem dX0_pagesFor_1 : decode cX0_pagesFor 1 = .ok (.iload_n 1, 1) := by decide +kernel
theorem dX0_pagesFor_2 : decode cX0_pagesFor 2 = .ok (.aload_n 0, 1) := by decide +kernel
theorem dX0_pagesFor_3 : decode cX0_pagesFor 3 = .ok (.getfield 17, 3) := by decide +kernel
theorem dX0_pagesFor_6 : decode cX0_pagesFor 6 = .ok (.iadd, 1) := by decide +kernel
theorem dX0_pagesFor_7 : decode cX0_pagesFor 7 = .ok (.iconst 1, 1) := by decide +kernel
theorem dX0_pagesFor_8 : decode cX0_pagesFor 8 = .ok (.isub, 1) := by decide +kernel
theorem dX0_pagesFor_9 : decode cX0_pagesFor 9 = .ok (.aload_n 0, 1) := by decide +kernel
theorem dX0_pagesFor_10 : decode cX0_pagesFor 10 = .ok (.getfield 17, 3) := by decide +kernel
theorem dX0_pagesFor_13 : decode cX0_pagesFor 13 = .ok (.idiv, 1) := by decide +kernel
theorem dX0_pagesFor_14 : decode cX0_pagesFor 14 = .ok (.invokestatic 90, 3) := by decide +kernel
theorem dX0_pagesFor_17 : decode cX0_pagesFor 17 = .ok (.ireturn, 1) := by decide +kernel
set_option maxRecDepth 20000 in
theorem ggX0_pagesNeeded_X0_buckets : GoodIn wsX0_pagesNeeded wsX0_buckets := goodIn_r _ [8, 9, 10, 11, 12, 7, 13, 14, 15, 30, 31, 32, 33, 34, 35, 36, 37, 38, 39] (by decide +kernel) (by decide +kernel)
set_option maxRecDepth 20000 in
theorem gX0_pagesNeeded_X0_buckets : GoodIn wsX0_pagesNeeded (wsV RX0 60 RX0 yX0_buckets wsX0_buckets) := goodIn_app (goodIn_of _ (by decide +kernel)) ggX0_pagesNeeded_X0_buckets
set_option maxRecDepth 20000 in
theorem ggX0_pagesNeeded_X0_bucketOf : GoodIn wsX0_pagesNeeded wsX0_bucketOf := goodIn_r _ [19, 20, 9, 10, 11, 12, 7, 13, 14, 15, 30, 31, 32, 33, 34, 35, 36, 37, 38, 39] (by decide +kernel) (by decide +kernel)
set_option maxRecDepth 20000 in
theorem gX0_pagesNeeded_X0_bucketOf : GoodIn wsX0_pagesNeeded (wsV RX0 81 RX0 yX0_bucketOf wsX0_bucketOf) := goodIn_app (goodIn_of _ (by decide +kernel)) ggX0_pagesNeeded_X0_bucketOf
set_option maxRecDepth 20000 in
theorem ggX0_pagesNeeded_X0_pagesFor : GoodIn wsX0_pagesNeeded wsX0_pagesFor := goodIn_r _ [24, 25, 26, 27, 28, 29, 30, 31, 32, 33, 34, 35, 36, 37, 38, 39] (by decide +kernel) (by decide +kernel)
set_option maxRecDepth 20000 in
theorem gX0_pagesNeeded_X0_pagesFor : GoodIn wsX0_pagesNeeded (wsV RX0 84 RX0 yX0_pagesFor wsX0_pagesFor) := goodIn_app (goodIn_of _ (by decide +kernel)) ggX0_pagesNeeded_X0_pagesFor
theorem dX0_pagesNeeded_0 : decode cX0_pagesNeeded 0 = .ok (.aload_n 0, 1) := by decide +kernel
theorem dX0_pagesNeeded_1 : decode cX0_pagesNeeded 1 = .ok (.invokevirtual 60, 3) := by decide +kernel
theorem dX0_pagesNeeded_4 : decode cX0_pagesNeeded 4 = .ok (.istore_n 1, 1) := by decide +kernel
theorem dX0_pagesNeeded_5 : decode cX0_pagesNeeded 5 = .ok (.iconst 0, 1) := by decide +kernel
theorem dX0_pagesNeeded_6 : decode cX0_pagesNeeded 6 = .ok (.istore_n 2, 1) := by decide +kernel
theorem dX0_pagesNeeded_7 : decode cX0_pagesNeeded 7 = .ok (.iload_n 2, 1) := by decide +kernel
theorem dX0_pagesNeeded_8 : decode cX0_pagesNeeded 8 = .ok (.iload_n 1, 1) := by decide +kernel
theorem dX0_pagesNeeded_9 : decode cX0_pagesNeeded 9 = .ok (.if_icmp .ge 16, 3) := by decide +kernel
theorem dX0_pagesNeeded_12 : decode cX0_pagesNeeded 12 = .ok (.aload_n 0, 1) := by decide +kernel
theorem dX0_pagesNeeded_13 : decode cX0_pagesNeeded 13 = .ok (.getfield 39, 3) := by decide +kernel
theorem dX0_pagesNeeded_16 : decode cX0_pagesNeeded 16 = .ok (.iload_n 2, 1) := by decide +kernel
theorem dX0_pagesNeeded_17 : decode cX0_pagesNeeded 17 = .ok (.iconst 0, 1) := by decide +kernel
theorem dX0_pagesNeeded_18 : decode cX0_pagesNeeded 18 = .ok (.iastore, 1) := by decide +kernel
theorem dX0_pagesNeeded_19 : decode cX0_pagesNeeded 19 = .ok (.iinc 2 1, 3) := by decide +kernel
theorem dX0_pagesNeeded_22 : decode cX0_pagesNeeded 22 = .ok (.goto (-15), 3) := by decide +kernel
theorem dX0_pagesNeeded_25 : decode cX0_pagesNeeded 25 = .ok (.iconst 0, 1) := by decide +kernel
theorem dX0_pagesNeeded_26 : decode cX0_pagesNeeded 26 = .ok (.istore_n 2, 1) := by decide +kernel
theorem dX0_pagesNeeded_27 : decode cX0_pagesNeeded 27 = .ok (.iload_n 2, 1) := by decide +kernel
theorem dX0_pagesNeeded_28 : decode cX0_pagesNeeded 28 = .ok (.aload_n 0, 1) := by decide +kernel
theorem dX0_pagesNeeded_29 : decode cX0_pagesNeeded 29 = .ok (.getfield 46, 3) := by decide +kernel
theorem dX0_pagesNeeded_32 : decode cX0_pagesNeeded 32 = .ok (.if_icmp .ge 28, 3) := by decide +kernel
theorem dX0_pagesNeeded_35 : decode cX0_pagesNeeded 35 = .ok (.aload_n 0, 1) := by decide +kernel
theorem dX0_pagesNeeded_36 : decode cX0_pagesNeeded 36 = .ok (.getfield 39, 3) := by decide +kernel
theorem dX0_pagesNeeded_39 : decode cX0_pagesNeeded 39 = .ok (.aload_n 0, 1) := by decide +kernel
theorem dX0_pagesNeeded_40 : decode cX0_pagesNeeded 40 = .ok (.aload_n 0, 1) := by decide +kernel
theorem dX0_pagesNeeded_41 : decode cX0_pagesNeeded 41 = .ok (.getfield 32, 3) := by decide +kernel
theorem dX0_pagesNeeded_44 : decode cX0_pagesNeeded 44 = .ok (.iload_n 2, 1) := by decide +kernel
theorem dX0_pagesNeeded_45 : decode cX0_pagesNeeded 45 = .ok (.iaload, 1) := by decide +kernel
theorem dX0_pagesNeeded_46 : decode cX0_pagesNeeded 46 = .ok (.invokevirtual 81, 3) := by decide +kernel
theorem dX0_pagesNeeded_49 : decode cX0_pagesNeeded 49 = .ok (.dup2, 1) := by decide +kernel
theorem dX0_pagesNeeded_50 : decode cX0_pagesNeeded 50 = .ok (.iaload, 1) := by decide +kernel
theorem dX0_pagesNeeded_51 : decode cX0_pagesNeeded 51 = .ok (.iconst 1, 1) := by decide +kernel
theorem dX0_pagesNeeded_52 : decode cX0_pagesNeeded 52 = .ok (.iadd, 1) := by decide +kernel
theorem dX0_pagesNeeded_53 : decode cX0_pagesNeeded 53 = .ok (.iastore, 1) := by decide +kernel
theorem dX0_pagesNeeded_54 : decode cX0_pagesNeeded 54 = .ok (.iinc 2 1, 3) := by decide +kernel
theorem dX0_pagesNeeded_57 : decode cX0_pagesNeeded 57 = .ok (.goto (-30), 3) := by decide +kernel
theorem dX0_pagesNeeded_60 : decode cX0_pagesNeeded 60 = .ok (.iconst 0, 1) := by decide +kernel
theorem dX0_pagesNeeded_61 : decode cX0_pagesNeeded 61 = .ok (.istore_n 2, 1) := by decide +kernel
theorem dX0_pagesNeeded_62 : decode cX0_pagesNeeded 62 = .ok (.iconst 0, 1) := by decide +kernel
theorem dX0_pagesNeeded_63 : decode cX0_pagesNeeded 63 = .ok (.istore_n 3, 1) := by decide +kernel
theorem dX0_pagesNeeded_64 : decode cX0_pagesNeeded 64 = .ok (.iload_n 3, 1) := by decide +kernel
theorem dX0_pagesNeeded_65 : decode cX0_pagesNeeded 65 = .ok (.iload_n 1, 1) := by decide +kernel
theorem dX0_pagesNeeded_66 : decode cX0_pagesNeeded 66 = .ok (.if_icmp .ge 22, 3) := by decide +kernel
theorem dX0_pagesNeeded_69 : decode cX0_pagesNeeded 69 = .ok (.iload_n 2, 1) := by decide +kernel
theorem dX0_pagesNeeded_70 : decode cX0_pagesNeeded 70 = .ok (.aload_n 0, 1) := by decide +kernel
theorem dX0_pagesNeeded_71 : decode cX0_pagesNeeded 71 = .ok (.aload_n 0, 1) := by decide +kernel
theorem dX0_pagesNeeded_72 : decode cX0_pagesNeeded 72 = .ok (.getfield 39, 3) := by decide +kernel
theorem dX0_pagesNeeded_75 : decode cX0_pagesNeeded 75 = .ok (.iload_n 3, 1) := by decide +kernel
theorem dX0_pagesNeeded_76 : decode cX0_pagesNeeded 76 = .ok (.iaload, 1) := by decide +kernel
theorem dX0_pagesNeeded_77 : decode cX0_pagesNeeded 77 = .ok (.invokevirtual 84, 3) := by decide +kernel
theorem dX0_pagesNeeded_80 : decode cX0_pagesNeeded 80 = .ok (.iadd, 1) := by decide +kernel
theorem dX0_pagesNeeded_81 : decode cX0_pagesNeeded 81 = .ok (.istore_n 2, 1) := by decide +kernel
theorem dX0_pagesNeeded_82 : decode cX0_pagesNeeded 82 = .ok (.iinc 3 1, 3) := by decide +kernel
theorem dX0_pagesNeeded_85 : decode cX0_pagesNeeded 85 = .ok (.goto (-21), 3) := by decide +kernel
theorem dX0_pagesNeeded_88 : decode cX0_pagesNeeded 88 = .ok (.iload_n 2, 1) := by decide +kernel
theorem dX0_pagesNeeded_89 : decode cX0_pagesNeeded 89 = .ok (.ireturn, 1) := by decide +kernel
theorem dX1_init_0 : decode cX1_init 0 = .ok (.aload_n 0, 1) := by decide +kernel
theorem dX1_init_1 : decode cX1_init 1 = .ok (.invokespecial 1, 3) := by decide +kernel
theorem dX1_init_4 : decode cX1_init 4 = .ok (.aload_n 0, 1) := by decide +kernel
theorem dX1_init_5 : decode cX1_init 5 = .ok (.sipush 2401, 3) := by decide +kernel
theorem dX1_init_8 : decode cX1_init 8 = .ok (.newarray .int, 2) := by decide +kernel
theorem dX1_init_10 : decode cX1_init 10 = .ok (.putfield 7, 3) := by decide +kernel
theorem dX1_init_13 : decode cX1_init 13 = .ok (.aload_n 0, 1) := by decide +kernel
theorem dX1_init_14 : decode cX1_init 14 = .ok (.sipush 2401, 3) := by decide +kernel
theorem dX1_init_17 : decode cX1_init 17 = .ok (.newarray .int, 2) := by decide +kernel
theorem dX1_init_19 : decode cX1_init 19 = .ok (.putfield 13, 3) := by decide +kernel
theorem dX1_init_22 : decode cX1_init 22 = .ok (.aload_n 0, 1) := by decide +kernel
theorem dX1_init_23 : decode cX1_init 23 = .ok (.sipush 2401, 3) := by decide +kernel
theorem dX1_init_26 : decode cX1_init 26 = .ok (.newarray .int, 2) := by decide +kernel
theorem dX1_init_28 : decode cX1_init 28 = .ok (.putfield 16, 3) := by decide +kernel
theorem dX1_init_31 : decode cX1_init 31 = .ok (.aload_n 0, 1) := by decide +kernel
theorem dX1_init_32 : decode cX1_init 32 = .ok (.sipush 200, 3) := by decide +kernel
theorem dX1_init_35 : decode cX1_init 35 = .ok (.newarray .int, 2) := by decide +kernel
theorem dX1_init_37 : decode cX1_init 37 = .ok (.putfield 19, 3) := by decide +kernel
theorem dX1_init_40 : decode cX1_init 40 = .ok (.aload_n 0, 1) := by decide +kernel
theorem dX1_init_41 : decode cX1_init 41 = .ok (.iload_n 1, 1) := by decide +kernel
theorem dX1_init_42 : decode cX1_init 42 = .ok (.iconst 1, 1) := by decide +kernel
theorem dX1_init_43 : decode cX1_init 43 = .ok (.if_icmp .ge 7, 3) := by decide +kernel
theorem dX1_init_46 : decode cX1_init 46 = .ok (.iconst 1, 1) := by decide +kernel
theorem dX1_init_47 : decode cX1_init 47 = .ok (.goto 15, 3) := by decide +kernel
theorem dX1_init_50 : decode cX1_init 50 = .ok (.iload_n 1, 1) := by decide +kernel
theorem dX1_init_51 : decode cX1_init 51 = .ok (.bipush 8, 2) := by decide +kernel
theorem dX1_init_53 : decode cX1_init 53 = .ok (.if_icmp .le 8, 3) := by decide +kernel
theorem dX1_init_56 : decode cX1_init 56 = .ok (.bipush 8, 2) := by decide +kernel
theorem dX1_init_58 : decode cX1_init 58 = .ok (.goto 4, 3) := by decide +kernel
theorem dX1_init_61 : decode cX1_init 61 = .ok (.iload_n 1, 1) := by decide +kernel
theorem dX1_init_62 : decode cX1_init 62 = .ok (.putfield 22, 3) := by decide +kernel
theorem dX1_init_65 : decode cX1_init 65 = .ok (.aload_n 0, 1) := by decide +kernel
theorem dX1_init_66 : decode cX1_init 66 = .ok (.iload_n 2, 1) := by decide +kernel
theorem dX1_init_67 : decode cX1_init 67 = .ok (.iconst 1, 1) := by decide +kernel
theorem dX1_init_68 : decode cX1_init 68 = .ok (.if_icmp .ge 7, 3) := by decide +kernel
theorem dX1_init_71 : decode cX1_init 71 = .ok (.iconst 1, 1) := by decide +kernel
theorem dX1_init_72 : decode cX1_init 72 = .ok (.goto 15, 3) := by decide +kernel
theorem dX1_init_75 : decode cX1_init 75 = .ok (.iload_n 2, 1) := by decide +kernel
theorem dX1_init_76 : decode cX1_init 76 = .ok (.bipush 8, 2) := by decide +kernel
theorem dX1_init_78 : decode cX1_init 78 = .ok (.if_icmp .le 8, 3) := by decide +kernel
theorem dX1_init_81 : decode cX1_init 81 = .ok (.bipush 8, 2) := by decide +kernel
theorem dX1_init_83 : decode cX1_init 83 = .ok (.goto 4, 3) := by decide +kernel
theorem dX1_init_86 : decode cX1_init 86 = .ok (.iload_n 2, 1) := by decide +kernel
theorem dX1_init_87 : decode cX1_init 87 = .ok (.putfield 26, 3) := by decide +kernel
theorem dX1_init_90 : decode cX1_init 90 = .ok (.aload_n 0, 1) := by decide +kernel
theorem dX1_init_91 : decode cX1_init 91 = .ok (.iload_n 3, 1) := by decide +kernel
theorem dX1_init_92 : decode cX1_init 92 = .ok (.bipush 8, 2) := by decide +kernel
theorem dX1_init_94 : decode cX1_init 94 = .ok (.if_icmp .ge 8, 3) := by decide +kernel
theorem dX1_init_97 : decode cX1_init 97 = .ok (.bipush 8, 2) := by decide +kernel
theorem dX1_init_99 : decode cX1_init 99 = .ok (.goto 17, 3) := by decide +kernel
theorem dX1_init_102 : decode cX1_init 102 = .ok (.iload_n 3, 1) := by decide +kernel
theorem dX1_init_103 : decode cX1_init 103 = .ok (.sipush 300, 3) := by decide +kernel
theorem dX1_init_106 : decode cX1_init 106 = .ok (.if_icmp .le 9, 3) := by decide +kernel
theorem dX1_init_109 : decode cX1_init 109 = .ok (.sipush 300, 3) := by decide +kernel
theorem dX1_init_112 : decode cX1_init 112 = .ok (.goto 4, 3) := by decide +kernel
theorem dX1_init_115 : decode cX1_init 115 = .ok (.iload_n 3, 1) := by decide +kernel
theorem dX1_init_116 : decode cX1_init 116 = .ok (.putfield 29, 3) := by decide +kernel
theorem dX1_init_119 : decode cX1_init 119 = .ok (.aload_n 0, 1) := by decide +kernel
theorem dX1_init_120 : decode cX1_init 120 = .ok (.iload 4, 2) := by decide +kernel
theorem dX1_init_122 : decode cX1_init 122 = .ok (.aload_n 0, 1) := by decide +kernel
theorem dX1_init_123 : decode cX1_init 123 = .ok (.getfield 22, 3) := by decide +kernel
theorem dX1_init_126 : decode cX1_init 126 = .ok (.if_icmp .ge 10, 3) := by decide +kernel
theorem dX1_init_129 : decode cX1_init 129 = .ok (.aload_n 0, 1) := by decide +kernel
theorem dX1_init_130 : decode cX1_init 130 = .ok (.getfield 22, 3) := by decide +kernel
theorem dX1_init_133 : decode cX1_init 133 = .ok (.goto 19, 3) := by decide +kernel
theorem dX1_init_136 : decode cX1_init 136 = .ok (.iload 4, 2) := by decide +kernel
theorem dX1_init_138 : decode cX1_init 138 = .ok (.sipush 200, 3) := by decide +kernel
theorem dX1_init_141 : decode cX1_init 141 = .ok (.if_icmp .le 9, 3) := by decide +kernel
theorem dX1_init_144 : decode cX1_init 144 = .ok (.sipush 200, 3) := by decide +kernel
theorem dX1_init_147 : decode cX1_init 147 = .ok (.goto 5, 3) := by decide +kernel
theorem dX1_init_150 : decode cX1_init 150 = .ok (.iload 4, 2) := by decide +kernel
theorem dX1_init_152 : decode cX1_init 152 = .ok (.putfield 32, 3) := by decide +kernel
theorem dX1_init_155 : decode cX1_init 155 = .ok (.return_, 1) := by decide +kernel
theorem dX1_round_0 : decode cX1_round 0 = .ok (.aload_n 0, 1) := by decide +kernel
theorem dX1_round_1 : decode cX1_round 1 = .ok (.getfield 22, 3) := by decide +kernel
theorem dX1_round_4 : decode cX1_round 4 = .ok (.istore_n 1, 1) := by decide +kernel
theorem dX1_round_5 : decode cX1_round 5 = .ok (.iconst 0, 1) := by decide +kernel
theorem dX1_round_6 : decode cX1_round 6 = .ok (.istore_n 2, 1) := by decide +kernel
theorem dX1_round_7 : decode cX1_round 7 = .ok (.iload_n 2, 1) := by decide +kernel
theorem dX1_round_8 : decode cX1_round 8 = .ok (.aload_n 0, 1) := by decide +kernel
theorem dX1_round_9 : decode cX1_round 9 = .ok (.getfield 35, 3) := by decide +kernel
theorem dX1_round_12 : decode cX1_round 12 = .ok (.if_icmp .ge 13, 3) := by decide +kernel
theorem dX1_round_15 : decode cX1_round 15 = .ok (.iconst 2, 1) := by decide +kernel
theorem dX1_round_16 : decode cX1_round 16 = .ok (.iload_n 1, 1) := by decide +kernel
theorem dX1_round_17 : decode cX1_round 17 = .ok (.imul, 1) := by decide +kernel
theorem dX1_round_18 : decode cX1_round 18 = .ok (.istore_n 1, 1) := by decide +kernel
theorem dX1_round_19 : decode cX1_round 19 = .ok (.iinc 2 1, 3) := by decide +kernel
theorem dX1_round_22 : decode cX1_round 22 = .ok (.goto (-15), 3) := by decide +kernel
theorem dX1_round_25 : decode cX1_round 25 = .ok (.iload_n 1, 1) := by decide +kernel
theorem dX1_round_26 : decode cX1_round 26 = .ok (.ireturn, 1) := by decide +kernel
set_option maxRecDepth 20000 in
theorem ggX1_buckets_X1_round : GoodIn wsX1_buckets wsX1_round := goodIn_r _ [6, 7, 8, 9, 10, 11, 12, 13, 14, 15, 16, 17, 18, 19] (by decide +kernel) (by decide +kernel)
set_option maxRecDepth 20000 in
theorem gX1_buckets_X1_round : GoodIn wsX1_buckets (wsV RX1 38 RX1 yX1_round wsX1_round) := goodIn_app (goodIn_of _ (by decide +kernel)) ggX1_buckets_X1_round
theorem dX1_buckets_0 : decode cX1_buckets 0 = .ok (.aload_n 0, 1) := by decide +kernel
theorem dX1_buckets_1 : decode cX1_buckets 1 = .ok (.invokevirtual 38, 3) := by decide +kernel
theorem dX1_buckets_4 : decode cX1_buckets 4 = .ok (.aload_n 0, 1) := by decide +kernel
theorem dX1_buckets_5 : decode cX1_buckets 5 = .ok (.getfield 42, 3) := by decide +kernel
theorem dX1_buckets_8 : decode cX1_buckets 8 = .ok (.iadd, 1) := by decide +kernel
theorem dX1_buckets_9 : decode cX1_buckets 9 = .ok (.ireturn, 1) := by decide +kernel
set_option maxRecDepth 20000 in
theorem ggX1_bucketOf_X1_round : GoodIn wsX1_bucketOf wsX1_round := goodIn_r _ [7, 8, 9, 10, 11, 12, 13, 14, 15, 16, 17, 18, 19, 20] (by decide +kernel) (by decide +kernel)
set_option maxRecDepth 20000 in
theorem gX1_bucketOf_X1_round : GoodIn wsX1_bucketOf (wsV RX1 38 RX1 yX1_round wsX1_round) := goodIn_app (goodIn_of _ (by decide +kernel)) ggX1_bucketOf_X1_round
theorem dX1_bucketOf_0 : decode cX1_bucketOf 0 = .ok (.iload_n 1, 1) := by decide +kernel
theorem dX1_bucketOf_1 : decode cX1_bucketOf 1 = .ok (.ldc 45, 2) := by decide +kernel
theorem dX1_bucketOf_3 : decode cX1_bucketOf 3 = .ok (.iand, 1) := by decide +kernel
theorem dX1_bucketOf_4 : decode cX1_bucketOf 4 = .ok (.istore_n 2, 1) := by decide +kernel
theorem dX1_bucketOf_5 : decode cX1_bucketOf 5 = .ok (.iload_n 2, 1) := by decide +kernel
theorem dX1_bucketOf_6 : decode cX1_bucketOf 6 = .ok (.aload_n 0, 1) := by decide +kernel
theorem dX1_bucketOf_7 : decode cX1_bucketOf 7 = .ok (.invokevirtual 38, 3) := by decide +kernel
theorem dX1_bucketOf_10 : decode cX1_bucketOf 10 = .ok (.irem, 1) := by decide +kernel
theorem dX1_bucketOf_11 : decode cX1_bucketOf 11 = .ok (.istore_n 3, 1) := by decide +kernel
theorem dX1_bucketOf_12 : decode cX1_bucketOf 12 = .ok (.iload_n 3, 1) := by decide +kernel
theorem dX1_bucketOf_13 : decode cX1_bucketOf 13 = .ok (.aload_n 0, 1) := by decide +kernel
theorem dX1_bucketOf_14 : decode cX1_bucketOf 14 = .ok (.getfield 42, 3) := by decide +kernel
theorem dX1_bucketOf_17 : decode cX1_bucketOf 17 = .ok (.if_icmp .ge 14, 3) := by decide +kernel
theorem dX1_bucketOf_20 : decode cX1_bucketOf 20 = .ok (.iload_n 2, 1) := by decide +kernel
theorem dX1_bucketOf_21 : decode cX1_bucketOf 21 = .ok (.iconst 2, 1) := by decide +kernel
theorem dX1_bucketOf_22 : decode cX1_bucketOf 22 = .ok (.aload_n 0, 1) := by decide +kernel
theorem dX1_bucketOf_23 : decode cX1_bucketOf 23 = .ok (.invokevirtual 38, 3) := by decide +kernel
theorem dX1_bucketOf_26 : decode cX1_bucketOf 26 = .ok (.imul, 1) := by decide +kernel
theorem dX1_bucketOf_27 : decode cX1_bucketOf 27 = .ok (.irem, 1) := by decide +kernel
theorem dX1_bucketOf_28 : decode cX1_bucketOf 28 = .ok (.goto 4, 3) := by decide +kernel
theorem dX1_bucketOf_31 : decode cX1_bucketOf 31 = .ok (.iload_n 3, 1) := by decide +kernel
theorem dX1_bucketOf_32 : decode cX1_bucketOf 32 = .ok (.ireturn, 1) := by decide +kernel
theorem dX1_find_0 : decode cX1_find 0 = .ok (.iconst (-1), 1) := by decide +kernel
theorem dX1_find_1 : decode cX1_find 1 = .ok (.istore_n 2, 1) := by decide +kernel
theorem dX1_find_2 : decode cX1_find 2 = .ok (.iconst 0, 1) := by decide +kernel
theorem dX1_find_3 : decode cX1_find 3 = .ok (.istore_n 3, 1) := by decide +kernel
theorem dX1_find_4 : decode cX1_find 4 = .ok (.iload_n 3, 1) := by decide +kernel
theorem dX1_find_5 : decode cX1_find 5 = .ok (.aload_n 0, 1) := by decide +kernel
theorem dX1_find_6 : decode cX1_find 6 = .ok (.getfield 46, 3) := by decide +kernel
theorem dX1_find_9 : decode cX1_find 9 = .ok (.if_icmp .ge 25, 3) := by decide +kernel
theorem dX1_find_12 : decode cX1_find 12 = .ok (.aload_n 0, 1) := by decide +kernel
theorem dX1_find_13 : decode cX1_find 13 = .ok (.getfield 7, 3) := by decide +kernel
theorem dX1_find_16 : decode cX1_find 16 = .ok (.iload_n 3, 1) := by decide +kernel
theorem dX1_find_17 : decode cX1_find 17 = .ok (.iaload, 1) := by decide +kernel
theorem dX1_find_18 : decode cX1_find 18 = .ok (.iload_n 1, 1) := by decide +kernel
theorem dX1_find_19 : decode cX1_find 19 = .ok (.if_icmp .ne 7, 3) := by decide +kernel
theorem dX1_find_22 : decode cX1_find 22 = .ok (.iload_n 3, 1) := by decide +kernel
theorem dX1_find_23 : decode cX1_find 23 = .ok (.goto 4, 3) := by decide +kernel
theorem dX1_find_26 : decode cX1_find 26 = .ok (.iload_n 2, 1) := by decide +kernel
theorem dX1_find_27 : decode cX1_find 27 = .ok (.istore_n 2, 1) := by decide +kernel
theorem dX1_find_28 : decode cX1_find 28 = .ok (.iinc 3 1, 3) := by decide +kernel
theorem dX1_find_31 : decode cX1_find 31 = .ok (.goto (-27), 3) := by decide +kernel
theorem dX1_find_34 : decode cX1_find 34 = .ok (.iload_n 2, 1) := by decide +kernel
theorem dX1_find_35 : decode cX1_find 35 = .ok (.ireturn, 1) := by decide +kernel
theorem dX1_count_0 : decode cX1_count 0 = .ok (.iconst 0, 1) := by decide +kernel
theorem dX1_count_1 : decode cX1_count 1 = .ok (.istore_n 1, 1) := by decide +kernel
theorem dX1_count_2 : decode cX1_count 2 = .ok (.iload_n 1, 1) := by decide +kernel
theorem dX1_count_3 : decode cX1_count 3 = .ok (.sipush 200, 3) := by decide +kernel
theorem dX1_count_6 : decode cX1_count 6 = .ok (.if_icmp .ge 16, 3) := by decide +kernel
theorem dX1_count_9 : decode cX1_count 9 = .ok (.aload_n 0, 1) := by decide +kernel
theorem dX1_count_10 : decode cX1_count 10 = .ok (.getfield 19, 3) := by decide +kernel
theorem dX1_count_13 : decode cX1_count 13 = .ok (.iload_n 1, 1) := by decide +kernel
theorem dX1_count_14 : decode cX1_count 14 = .ok (.iconst 0, 1) := by decide +kernel
theorem dX1_count_15 : decode cX1_count 15 = .ok (.iastore, 1) := by decide +kernel
theorem dX1_count_16 : decode cX1_count 16 = .ok (.iinc 1 1, 3) := by decide +kernel
theorem dX1_count_19 : decode cX1_count 19 = .ok (.goto (-17), 3) := by decide +kernel
theorem dX1_count_22 : decode cX1_count 22 = .ok (.iconst 0, 1) := by decide +kernel
theorem dX1_count_23 : decode cX1_count 23 = .ok (.istore_n 1, 1) := by decide +kernel
theorem dX1_count_24 : decode cX1_count 24 = .ok (.iload_n 1, 1) := by decide +kernel
theorem dX1_count_25 : decode cX1_count 25 = .ok (.aload_n 0, 1) := by decide +kernel
theorem dX1_count_26 : decode cX1_count 26 = .ok (.getfield 46, 3) := by decide +kernel
theorem dX1_count_29 : decode cX1_count 29 = .ok (.if_icmp .ge 24, 3) := by decide +kernel
theorem dX1_count_32 : decode cX1_count 32 = .ok (.aload_n 0, 1) := by decide +kernel
theorem dX1_count_33 : decode cX1_count 33 = .ok (.getfield 19, 3) := by decide +kernel
theorem dX1_count_36 : decode cX1_count 36 = .ok (.aload_n 0, 1) := by decide +kernel
theorem dX1_count_37 : decode cX1_count 37 = .ok (.getfield 16, 3) := by decide +kernel
theorem dX1_count_40 : decode cX1_count 40 = .ok (.iload_n 1, 1) := by decide +kernel
theorem dX1_count_41 : decode cX1_count 41 = .ok (.iaload, 1) := by decide +kernel
theorem dX1_count_42 : decode cX1_count 42 = .ok (.dup2, 1) := by decide +kernel
theorem dX1_count_43 : decode cX1_count 43 = .ok (.iaload, 1) := by decide +kernel
theorem dX1_count_44 : decode cX1_count 44 = .ok (.iconst 1, 1) := by decide +kernel
theorem dX1_count_45 : decode cX1_count 45 = .ok (.iadd, 1) := by decide +kernel
theorem dX1_count_46 : decode cX1_count 46 = .ok (.iastore, 1) := by decide +kernel
theorem dX1_count_47 : decode cX1_count 47 = .ok (.iinc 1 1, 3) := by decide +kernel
theorem dX1_count_50 : decode cX1_count 50 = .ok (.goto (-26), 3) := by decide +kernel
theorem dX1_count_53 : decode cX1_count 53 = .ok (.return_, 1) := by decide +kernel
theorem dX1_pagesFor_0 : decode cX1_pagesFor 0 = .ok (.iload_n 1, 1) := by decide +kernel
theorem dX1_pagesFor_1 : decode cX1_pagesFor 1 = .ok (.ifCond .ne 7, 3) := by decide +kernel
theorem dX1_pagesFor_4 : decode cX1_pagesFor 4 = .ok (.iconst 1, 1) := by decide +kernel
theorem dX1_pagesFor_5 : decode cX1_pagesFor 5 = .ok (.goto 16, 3) := by decide +kernel
theorem dX1_pagesFor_8 : decode cX1_pagesFor 8 = .ok (.iload_n 1, 1) := by decide +kernel
theorem dX1_pagesFor_9 : decode cX1_pagesFor 9 = .ok (.aload_n 0, 1) := by decide +kernel
theorem dX1_pagesFor_10 : decode cX1_pagesFor 10 = .ok (.getfield 26, 3) := by decide +kernel
theorem dX1_pagesFor_13 : decode cX1_pagesFor 13 = .ok (.iadd, 1) := by decide +kernel
theorem dX1_pagesFor_14 : decode cX1_pagesFor 14 = .ok (.iconst 1, 1) := by decide +kernel
theorem dX1_pagesFor_15 : decode cX1_pagesFor 15 = .ok (.isub, 1) := by decide +kernel
theorem dX1_pagesFor_16 : decode cX1_pagesFor 16 = .ok (.aload_n 0, 1) := by decide +kernel
theorem dX1_pagesFor_17 : decode cX1_pagesFor 17 = .ok (.getfield 26, 3) := by decide +kernel
theorem dX1_pagesFor_20 : decode cX1_pagesFor 20 = .ok (.idiv, 1) := by decide +kernel
theorem dX1_pagesFor_21 : decode cX1_pagesFor 21 = .ok (.ireturn, 1) := by decide +kernel
set_option maxRecDepth 20000 in
theorem ggX1_needed_X1_count : GoodIn wsX1_needed wsX1_count := goodIn_r _ [6, 1, 7, 8, 25, 26, 27, 28, 29, 30, 31, 32, 33, 34, 35] (by decide +kernel) (by decide +kernel)
set_option maxRecDepth 20000 in
theorem gX1_needed_X1_count : GoodIn wsX1_needed (wsV RX1 49 RX1 yX1_count wsX1_count) := goodIn_app (goodIn_of _ (by decide +kernel)) ggX1_needed_X1_count
set_option maxRecDepth 20000 in
theorem ggX1_needed_X1_buckets : GoodIn wsX1_needed wsX1_buckets := goodIn_r _ [12, 13, 14, 15, 16, 5, 17, 18, 19, 25, 26, 27, 28, 29, 30, 31, 32, 33, 34, 35] (by decide +kernel) (by decide +kernel)
set_option maxRecDepth 20000 in
theorem gX1_needed_X1_buckets : GoodIn wsX1_needed (wsV RX1 52 RX1 yX1_buckets wsX1_buckets) := goodIn_app (goodIn_of _ (by decide +kernel)) ggX1_needed_X1_buckets
set_option maxRecDepth 20000 in
theorem ggX1_needed_X1_pagesFor : GoodIn wsX1_needed wsX1_pagesFor := goodIn_r _ [23, 24, 25, 26, 27, 28, 29, 30, 31, 32, 33, 34, 35] (by decide +kernel) (by decide +kernel)
set_option maxRecDepth 20000 in
theorem gX1_needed_X1_pagesFor : GoodIn wsX1_needed (wsV RX1 55 RX1 yX1_pagesFor wsX1_pagesFor) := goodIn_app (goodIn_of _ (by decide +kernel)) ggX1_needed_X1_pagesFor
theorem dX1_needed_0 : decode cX1_needed 0 = .ok (.aload_n 0, 1) := by decide +kernel
theorem dX1_needed_1 : decode cX1_needed 1 = .ok (.invokevirtual 49, 3) := by decide +kernel
theorem dX1_needed_4 : decode cX1_needed 4 = .ok (.iconst 0, 1) := by decide +kernel
theorem dX1_needed_5 : decode cX1_needed 5 = .ok (.istore_n 1, 1) := by decide +kernel
theorem dX1_needed_6 : decode cX1_needed 6 = .ok (.iconst 0, 1) := by decide +kernel
theorem dX1_needed_7 : decode cX1_needed 7 = .ok (.istore_n 2, 1) := by decide +kernel
theorem dX1_needed_8 : decode cX1_needed 8 = .ok (.iload_n 2, 1) := by decide +kernel
theorem dX1_needed_9 : decode cX1_needed 9 = .ok (.aload_n 0, 1) := by decide +kernel
theorem dX1_needed_10 : decode cX1_needed 10 = .ok (.invokevirtual 52, 3) := by decide +kernel
theorem dX1_needed_13 : decode cX1_needed 13 = .ok (.if_icmp .ge 22, 3) := by decide +kernel
theorem dX1_needed_16 : decode cX1_needed 16 = .ok (.iload_n 1, 1) := by decide +kernel
theorem dX1_needed_17 : decode cX1_needed 17 = .ok (.aload_n 0, 1) := by decide +kernel
theorem dX1_needed_18 : decode cX1_needed 18 = .ok (.aload_n 0, 1) := by decide +kernel
theorem dX1_needed_19 : decode cX1_needed 19 = .ok (.getfield 19, 3) := by decide +kernel
theorem dX1_needed_22 : decode cX1_needed 22 = .ok (.iload_n 2, 1) := by decide +kernel
theorem dX1_needed_23 : decode cX1_needed 23 = .ok (.iaload, 1) := by decide +kernel
theorem dX1_needed_24 : decode cX1_needed 24 = .ok (.invokevirtual 55, 3) := by decide +kernel
theorem dX1_needed_27 : decode cX1_needed 27 = .ok (.iadd, 1) := by decide +kernel
theorem dX1_needed_28 : decode cX1_needed 28 = .ok (.istore_n 1, 1) := by decide +kernel
theorem dX1_needed_29 : decode cX1_needed 29 = .ok (.iinc 2 1, 3) := by decide +kernel
theorem dX1_needed_32 : decode cX1_needed 32 = .ok (.goto (-24), 3) := by decide +kernel
theorem dX1_needed_35 : decode cX1_needed 35 = .ok (.iload_n 1, 1) := by decide +kernel
theorem dX1_needed_36 : decode cX1_needed 36 = .ok (.ireturn, 1) := by decide +kernel
set_option maxRecDepth 20000 in
theorem ggX1_settle_X1_bucketOf : GoodIn wsX1_settle wsX1_bucketOf := goodIn_r _ [8, 9, 10, 11, 12, 13, 7, 14, 15, 16, 17, 18, 19, 20, 21, 22, 23, 24, 25, 26, 27] (by decide +kernel) (by decide +kernel)
set_option maxRecDepth 20000 in
theorem gX1_settle_X1_bucketOf : GoodIn wsX1_settle (wsV RX1 59 RX1 yX1_bucketOf wsX1_bucketOf) := goodIn_app (goodIn_of _ (by decide +kernel)) ggX1_settle_X1_bucketOf
theorem dX1_settle_0 : decode cX1_settle 0 = .ok (.iconst 0, 1) := by decide +kernel
theorem dX1_settle_1 : decode cX1_settle 1 = .ok (.istore_n 1, 1) := by decide +kernel
theorem dX1_settle_2 : decode cX1_settle 2 = .ok (.iload_n 1, 1) := by decide +kernel
theorem dX1_settle_3 : decode cX1_settle 3 = .ok (.aload_n 0, 1) := by decide +kernel
theorem dX1_settle_4 : decode cX1_settle 4 = .ok (.getfield 46, 3) := by decide +kernel
theorem dX1_settle_7 : decode cX1_settle 7 = .ok (.if_icmp .ge 25, 3) := by decide +kernel
theorem dX1_settle_10 : decode cX1_settle 10 = .ok (.aload_n 0, 1) := by decide +kernel
theorem dX1_settle_11 : decode cX1_settle 11 = .ok (.getfield 16, 3) := by decide +kernel
theorem dX1_settle_14 : decode cX1_settle 14 = .ok (.iload_n 1, 1) := by decide +kernel
theorem dX1_settle_15 : decode cX1_settle 15 = .ok (.aload_n 0, 1) := by decide +kernel
theorem dX1_settle_16 : decode cX1_settle 16 = .ok (.aload_n 0, 1) := by decide +kernel
theorem dX1_settle_17 : decode cX1_settle 17 = .ok (.getfield 7, 3) := by decide +kernel
theorem dX1_settle_20 : decode cX1_settle 20 = .ok (.iload_n 1, 1) := by decide +kernel
theorem dX1_settle_21 : decode cX1_settle 21 = .ok (.iaload, 1) := by decide +kernel
theorem dX1_settle_22 : decode cX1_settle 22 = .ok (.invokevirtual 59, 3) := by decide +kernel
theorem dX1_settle_25 : decode cX1_settle 25 = .ok (.iastore, 1) := by decide +kernel
theorem dX1_settle_26 : decode cX1_settle 26 = .ok (.iinc 1 1, 3) := by decide +kernel
theorem dX1_settle_29 : decode cX1_settle 29 = .ok (.goto (-27), 3) := by decide +kernel
theorem dX1_settle_32 : decode cX1_settle 32 = .ok (.return_, 1) := by decide +kernel
set_option maxRecDepth 20000 in
theorem ggX1_forth_X1_round : GoodIn wsX1_forth wsX1_round := goodIn_r _ [7, 8, 2, 9, 10, 11, 12, 13, 14, 15, 16, 17, 18, 19] (by decide +kernel) (by decide +kernel)
set_option maxRecDepth 20000 in
theorem gX1_forth_X1_round : GoodIn wsX1_forth (wsV RX1 38 RX1 yX1_round wsX1_round) := goodIn_app (goodIn_of _ (by decide +kernel)) ggX1_forth_X1_round
theorem dX1_forth_0 : decode cX1_forth 0 = .ok (.aload_n 0, 1) := by decide +kernel
theorem dX1_forth_1 : decode cX1_forth 1 = .ok (.dup, 1) := by decide +kernel
theorem dX1_forth_2 : decode cX1_forth 2 = .ok (.getfield 42, 3) := by decide +kernel
theorem dX1_forth_5 : decode cX1_forth 5 = .ok (.iconst 1, 1) := by decide +kernel
theorem dX1_forth_6 : decode cX1_forth 6 = .ok (.iadd, 1) := by decide +kernel
theorem dX1_forth_7 : decode cX1_forth 7 = .ok (.putfield 42, 3) := by decide +kernel
theorem dX1_forth_10 : decode cX1_forth 10 = .ok (.aload_n 0, 1) := by decide +kernel
theorem dX1_forth_11 : decode cX1_forth 11 = .ok (.getfield 42, 3) := by decide +kernel
theorem dX1_forth_14 : decode cX1_forth 14 = .ok (.aload_n 0, 1) := by decide +kernel
theorem dX1_forth_15 : decode cX1_forth 15 = .ok (.invokevirtual 38, 3) := by decide +kernel
theorem dX1_forth_18 : decode cX1_forth 18 = .ok (.if_icmp .ne 18, 3) := by decide +kernel
theorem dX1_forth_21 : decode cX1_forth 21 = .ok (.aload_n 0, 1) := by decide +kernel
theorem dX1_forth_22 : decode cX1_forth 22 = .ok (.iconst 0, 1) := by decide +kernel
theorem dX1_forth_23 : decode cX1_forth 23 = .ok (.putfield 42, 3) := by decide +kernel
theorem dX1_forth_26 : decode cX1_forth 26 = .ok (.aload_n 0, 1) := by decide +kernel
theorem dX1_forth_27 : decode cX1_forth 27 = .ok (.dup, 1) := by decide +kernel
theorem dX1_forth_28 : decode cX1_forth 28 = .ok (.getfield 35, 3) := by decide +kernel
theorem dX1_forth_31 : decode cX1_forth 31 = .ok (.iconst 1, 1) := by decide +kernel
theorem dX1_forth_32 : decode cX1_forth 32 = .ok (.iadd, 1) := by decide +kernel
theorem dX1_forth_33 : decode cX1_forth 33 = .ok (.putfield 35, 3) := by decide +kernel
theorem dX1_forth_36 : decode cX1_forth 36 = .ok (.return_, 1) := by decide +kernel
set_option maxRecDepth 20000 in
theorem ggX1_back_X1_round : GoodIn wsX1_back wsX1_round := goodIn_r _ [7, 8, 2, 9, 10, 11, 12, 13, 14, 15, 16, 17, 18, 19] (by decide +kernel) (by decide +kernel)
set_option maxRecDepth 20000 in
theorem gX1_back_X1_round : GoodIn wsX1_back (wsV RX1 38 RX1 yX1_round wsX1_round) := goodIn_app (goodIn_of _ (by decide +kernel)) ggX1_back_X1_round
theorem dX1_back_0 : decode cX1_back 0 = .ok (.aload_n 0, 1) := by decide +kernel
theorem dX1_back_1 : decode cX1_back 1 = .ok (.getfield 42, 3) := by decide +kernel
theorem dX1_back_4 : decode cX1_back 4 = .ok (.ifCond .ne 21, 3) := by decide +kernel
theorem dX1_back_7 : decode cX1_back 7 = .ok (.aload_n 0, 1) := by decide +kernel
theorem dX1_back_8 : decode cX1_back 8 = .ok (.dup, 1) := by decide +kernel
theorem dX1_back_9 : decode cX1_back 9 = .ok (.getfield 35, 3) := by decide +kernel
theorem dX1_back_12 : decode cX1_back 12 = .ok (.iconst 1, 1) := by decide +kernel
theorem dX1_back_13 : decode cX1_back 13 = .ok (.isub, 1) := by decide +kernel
theorem dX1_back_14 : decode cX1_back 14 = .ok (.putfield 35, 3) := by decide +kernel
theorem dX1_back_17 : decode cX1_back 17 = .ok (.aload_n 0, 1) := by decide +kernel
theorem dX1_back_18 : decode cX1_back 18 = .ok (.aload_n 0, 1) := by decide +kernel
theorem dX1_back_19 : decode cX1_back 19 = .ok (.invokevirtual 38, 3) := by decide +kernel
theorem dX1_back_22 : decode cX1_back 22 = .ok (.putfield 42, 3) := by decide +kernel
theorem dX1_back_25 : decode cX1_back 25 = .ok (.aload_n 0, 1) := by decide +kernel
theorem dX1_back_26 : decode cX1_back 26 = .ok (.dup, 1) := by decide +kernel
theorem dX1_back_27 : decode cX1_back 27 = .ok (.getfield 42, 3) := by decide +kernel
theorem dX1_back_30 : decode cX1_back 30 = .ok (.iconst 1, 1) := by decide +kernel
theorem dX1_back_31 : decode cX1_back 31 = .ok (.isub, 1) := by decide +kernel
theorem dX1_back_32 : decode cX1_back 32 = .ok (.putfield 42, 3) := by decide +kernel
theorem dX1_back_35 : decode cX1_back 35 = .ok (.return_, 1) := by decide +kernel
set_option maxRecDepth 20000 in
theorem ggX1_put_X1_find : GoodIn wsX1_put wsX1_find := goodIn_r _ [11, 3, 2, 54, 55, 56, 57, 58, 59, 60, 61, 62, 63, 64] (by decide +kernel) (by decide +kernel)
set_option maxRecDepth 20000 in
theorem gX1_put_X1_find : GoodIn wsX1_put (wsV RX1 62 RX1 yX1_find wsX1_find) := goodIn_app (goodIn_of _ (by decide +kernel)) ggX1_put_X1_find
set_option maxRecDepth 20000 in
theorem ggX1_put_X1_buckets : GoodIn wsX1_put wsX1_buckets := goodIn_r _ [15, 16, 17, 18, 19, 10, 20, 21, 22, 54, 55, 56, 57, 58, 59, 60, 61, 62, 63, 64] (by decide +kernel) (by decide +kernel)
set_option maxRecDepth 20000 in
theorem gX1_put_X1_buckets : GoodIn wsX1_put (wsV RX1 52 RX1 yX1_buckets wsX1_buckets) := goodIn_app (goodIn_of _ (by decide +kernel)) ggX1_put_X1_buckets
set_option maxRecDepth 20000 in
theorem ggX1_put_X1_forth : GoodIn wsX1_put wsX1_forth := goodIn_r _ [26, 16, 22, 17, 18, 19, 10, 20, 21, 54, 55, 56, 57, 58, 59, 60, 61, 62, 63, 64] (by decide +kernel) (by decide +kernel)
set_option maxRecDepth 20000 in
theorem gX1_put_X1_forth : GoodIn wsX1_put (wsV RX1 65 RX1 yX1_forth wsX1_forth) := goodIn_app (goodIn_of _ (by decide +kernel)) ggX1_put_X1_forth
set_option maxRecDepth 20000 in
theorem ggX1_put_X1_settle : GoodIn wsX1_put wsX1_settle := goodIn_r _ [30, 3, 31, 2, 32, 33, 34, 10, 35, 36, 16, 17, 18, 19, 20, 21, 22, 54, 55, 56, 57, 58, 59, 60, 61, 62, 63, 64] (by decide +kernel) (by decide +kernel)
set_option maxRecDepth 20000 in
theorem gX1_put_X1_settle : GoodIn wsX1_put (wsV RX1 68 RX1 yX1_settle wsX1_settle) := goodIn_app (goodIn_of _ (by decide +kernel)) ggX1_put_X1_settle
set_option maxRecDepth 20000 in
theorem ggX1_put_X1_needed : GoodIn wsX1_put wsX1_needed := goodIn_r _ [40, 41, 42, 43, 44, 10, 45, 3, 31, 12, 13, 14, 15, 16, 17, 18, 19, 20, 21, 22, 46, 47, 48, 49, 4, 54, 55, 56, 57, 58, 59, 60, 61, 62, 63, 64] (by decide +kernel) (by decide +kernel)
set_option maxRecDepth 20000 in
theorem gX1_put_X1_needed : GoodIn wsX1_put (wsV RX1 71 RX1 yX1_needed wsX1_needed) := goodIn_app (goodIn_of _ (by decide +kernel)) ggX1_put_X1_needed
set_option maxRecDepth 20000 in
theorem ggX1_put_X1_back : GoodIn wsX1_put wsX1_back := goodIn_r _ [53, 16, 22, 17, 18, 19, 10, 20, 21, 54, 55, 56, 57, 58, 59, 60, 61, 62, 63, 64] (by decide +kernel) (by decide +kernel)
set_option maxRecDepth 20000 in
theorem gX1_put_X1_back : GoodIn wsX1_put (wsV RX1 74 RX1 yX1_back wsX1_back) := goodIn_app (goodIn_of _ (by decide +kernel)) ggX1_put_X1_back
theorem dX1_put_0 : decode cX1_put 0 = .ok (.aload_n 0, 1) := by decide +kernel
theorem dX1_put_1 : decode cX1_put 1 = .ok (.iload_n 1, 1) := by decide +kernel
theorem dX1_put_2 : decode cX1_put 2 = .ok (.invokevirtual 62, 3) := by decide +kernel
theorem dX1_put_5 : decode cX1_put 5 = .ok (.istore_n 3, 1) := by decide +kernel
theorem dX1_put_6 : decode cX1_put 6 = .ok (.iload_n 3, 1) := by decide +kernel
theorem dX1_put_7 : decode cX1_put 7 = .ok (.ifCond .lt 12, 3) := by decide +kernel
theorem dX1_put_10 : decode cX1_put 10 = .ok (.aload_n 0, 1) := by decide +kernel
theorem dX1_put_11 : decode cX1_put 11 = .ok (.getfield 13, 3) := by decide +kernel
theorem dX1_put_14 : decode cX1_put 14 = .ok (.iload_n 3, 1) := by decide +kernel
theorem dX1_put_15 : decode cX1_put 15 = .ok (.iload_n 2, 1) := by decide +kernel
theorem dX1_put_16 : decode cX1_put 16 = .ok (.iastore, 1) := by decide +kernel
theorem dX1_put_17 : decode cX1_put 17 = .ok (.iconst 1, 1) := by decide +kernel
theorem dX1_put_18 : decode cX1_put 18 = .ok (.ireturn, 1) := by decide +kernel
theorem dX1_put_19 : decode cX1_put 19 = .ok (.aload_n 0, 1) := by decide +kernel
theorem dX1_put_20 : decode cX1_put 20 = .ok (.getfield 7, 3) := by decide +kernel
theorem dX1_put_23 : decode cX1_put 23 = .ok (.aload_n 0, 1) := by decide +kernel
theorem dX1_put_24 : decode cX1_put 24 = .ok (.getfield 46, 3) := by decide +kernel
theorem dX1_put_27 : decode cX1_put 27 = .ok (.iload_n 1, 1) := by decide +kernel
theorem dX1_put_28 : decode cX1_put 28 = .ok (.iastore, 1) := by decide +kernel
theorem dX1_put_29 : decode cX1_put 29 = .ok (.aload_n 0, 1) := by decide +kernel
theorem dX1_put_30 : decode cX1_put 30 = .ok (.getfield 13, 3) := by decide +kernel
theorem dX1_put_33 : decode cX1_put 33 = .ok (.aload_n 0, 1) := by decide +kernel
theorem dX1_put_34 : decode cX1_put 34 = .ok (.getfield 46, 3) := by decide +kernel
theorem dX1_put_37 : decode cX1_put 37 = .ok (.iload_n 2, 1) := by decide +kernel
theorem dX1_put_38 : decode cX1_put 38 = .ok (.iastore, 1) := by decide +kernel
theorem dX1_put_39 : decode cX1_put 39 = .ok (.aload_n 0, 1) := by decide +kernel
theorem dX1_put_40 : decode cX1_put 40 = .ok (.dup, 1) := by decide +kernel
theorem dX1_put_41 : decode cX1_put 41 = .ok (.getfield 46, 3) := by decide +kernel
theorem dX1_put_44 : decode cX1_put 44 = .ok (.iconst 1, 1) := by decide +kernel
theorem dX1_put_45 : decode cX1_put 45 = .ok (.iadd, 1) := by decide +kernel
theorem dX1_put_46 : decode cX1_put 46 = .ok (.putfield 46, 3) := by decide +kernel
theorem dX1_put_49 : decode cX1_put 49 = .ok (.iconst 4, 1) := by decide +kernel
theorem dX1_put_50 : decode cX1_put 50 = .ok (.aload_n 0, 1) := by decide +kernel
theorem dX1_put_51 : decode cX1_put 51 = .ok (.getfield 46, 3) := by decide +kernel
theorem dX1_put_54 : decode cX1_put 54 = .ok (.imul, 1) := by decide +kernel
theorem dX1_put_55 : decode cX1_put 55 = .ok (.iconst 3, 1) := by decide +kernel
theorem dX1_put_56 : decode cX1_put 56 = .ok (.aload_n 0, 1) := by decide +kernel
theorem dX1_put_57 : decode cX1_put 57 = .ok (.getfield 26, 3) := by decide +kernel
theorem dX1_put_60 : decode cX1_put 60 = .ok (.imul, 1) := by decide +kernel
theorem dX1_put_61 : decode cX1_put 61 = .ok (.aload_n 0, 1) := by decide +kernel
theorem dX1_put_62 : decode cX1_put 62 = .ok (.invokevirtual 52, 3) := by decide +kernel
theorem dX1_put_65 : decode cX1_put 65 = .ok (.imul, 1) := by decide +kernel
theorem dX1_put_66 : decode cX1_put 66 = .ok (.if_icmp .le 18, 3) := by decide +kernel
theorem dX1_put_69 : decode cX1_put 69 = .ok (.aload_n 0, 1) := by decide +kernel
theorem dX1_put_70 : decode cX1_put 70 = .ok (.invokevirtual 52, 3) := by decide +kernel
theorem dX1_put_73 : decode cX1_put 73 = .ok (.aload_n 0, 1) := by decide +kernel
theorem dX1_put_74 : decode cX1_put 74 = .ok (.getfield 32, 3) := by decide +kernel
theorem dX1_put_77 : decode cX1_put 77 = .ok (.if_icmp .ge 7, 3) := by decide +kernel
theorem dX1_put_80 : decode cX1_put 80 = .ok (.iconst 1, 1) := by decide +kernel
theorem dX1_put_81 : decode cX1_put 81 = .ok (.goto 4, 3) := by decide +kernel
theorem dX1_put_84 : decode cX1_put 84 = .ok (.iconst 0, 1) := by decide +kernel
theorem dX1_put_85 : decode cX1_put 85 = .ok (.istore 4, 2) := by decide +kernel
theorem dX1_put_87 : decode cX1_put 87 = .ok (.iload 4, 2) := by decide +kernel
theorem dX1_put_89 : decode cX1_put 89 = .ok (.ifCond .eq 7, 3) := by decide +kernel
theorem dX1_put_92 : decode cX1_put 92 = .ok (.aload_n 0, 1) := by decide +kernel
theorem dX1_put_93 : decode cX1_put 93 = .ok (.invokevirtual 65, 3) := by decide +kernel
theorem dX1_put_96 : decode cX1_put 96 = .ok (.aload_n 0, 1) := by decide +kernel
theorem dX1_put_97 : decode cX1_put 97 = .ok (.invokevirtual 68, 3) := by decide +kernel
theorem dX1_put_100 : decode cX1_put 100 = .ok (.aload_n 0, 1) := by decide +kernel
theorem dX1_put_101 : decode cX1_put 101 = .ok (.invokevirtual 71, 3) := by decide +kernel
theorem dX1_put_104 : decode cX1_put 104 = .ok (.aload_n 0, 1) := by decide +kernel
theorem dX1_put_105 : decode cX1_put 105 = .ok (.getfield 29, 3) := by decide +kernel
theorem dX1_put_108 : decode cX1_put 108 = .ok (.if_icmp .gt 5, 3) := by decide +kernel
theorem dX1_put_111 : decode cX1_put 111 = .ok (.iconst 0, 1) := by decide +kernel
theorem dX1_put_112 : decode cX1_put 112 = .ok (.ireturn, 1) := by decide +kernel
theorem dX1_put_113 : decode cX1_put 113 = .ok (.iload 4, 2) := by decide +kernel
theorem dX1_put_115 : decode cX1_put 115 = .ok (.ifCond .eq 7, 3) := by decide +kernel
theorem dX1_put_118 : decode cX1_put 118 = .ok (.aload_n 0, 1) := by decide +kernel
theorem dX1_put_119 : decode cX1_put 119 = .ok (.invokevirtual 74, 3) := by decide +kernel
theorem dX1_put_122 : decode cX1_put 122 = .ok (.aload_n 0, 1) := by decide +kernel
theorem dX1_put_123 : decode cX1_put 123 = .ok (.dup, 1) := by decide +kernel
theorem dX1_put_124 : decode cX1_put 124 = .ok (.getfield 46, 3) := by decide +kernel
theorem dX1_put_127 : decode cX1_put 127 = .ok (.iconst 1, 1) := by decide +kernel
theorem dX1_put_128 : decode cX1_put 128 = .ok (.isub, 1) := by decide +kernel
theorem dX1_put_129 : decode cX1_put 129 = .ok (.putfield 46, 3) := by decide +kernel
theorem dX1_put_132 : decode cX1_put 132 = .ok (.aload_n 0, 1) := by decide +kernel
theorem dX1_put_133 : decode cX1_put 133 = .ok (.invokevirtual 68, 3) := by decide +kernel
theorem dX1_put_136 : decode cX1_put 136 = .ok (.iconst 2, 1) := by decide +kernel
theorem dX1_put_137 : decode cX1_put 137 = .ok (.ireturn, 1) := by decide +kernel
set_option maxRecDepth 20000 in
theorem ggX1_get_X1_find : GoodIn wsX1_get wsX1_find := goodIn_r _ [6, 7, 8, 9, 10, 11, 12, 13, 14, 15, 16, 17, 18, 19] (by decide +kernel) (by decide +kernel)
set_option maxRecDepth 20000 in
theorem gX1_get_X1_find : GoodIn wsX1_get (wsV RX1 62 RX1 yX1_find wsX1_find) := goodIn_app (goodIn_of _ (by decide +kernel)) ggX1_get_X1_find
theorem dX1_get_0 : decode cX1_get 0 = .ok (.aload_n 0, 1) := by decide +kernel
theorem dX1_get_1 : decode cX1_get 1 = .ok (.iload_n 1, 1) := by decide +kernel
theorem dX1_get_2 : decode cX1_get 2 = .ok (.invokevirtual 62, 3) := by decide +kernel
theorem dX1_get_5 : decode cX1_get 5 = .ok (.istore_n 2, 1) := by decide +kernel
theorem dX1_get_6 : decode cX1_get 6 = .ok (.iload_n 2, 1) := by decide +kernel
theorem dX1_get_7 : decode cX1_get 7 = .ok (.ifCond .ge 7, 3) := by decide +kernel
theorem dX1_get_10 : decode cX1_get 10 = .ok (.iconst 0, 1) := by decide +kernel
theorem dX1_get_11 : decode cX1_get 11 = .ok (.goto 9, 3) := by decide +kernel
theorem dX1_get_14 : decode cX1_get 14 = .ok (.aload_n 0, 1) := by decide +kernel
theorem dX1_get_15 : decode cX1_get 15 = .ok (.getfield 13, 3) := by decide +kernel
theorem dX1_get_18 : decode cX1_get 18 = .ok (.iload_n 2, 1) := by decide +kernel
theorem dX1_get_19 : decode cX1_get 19 = .ok (.iaload, 1) := by decide +kernel
theorem dX1_get_20 : decode cX1_get 20 = .ok (.ireturn, 1) := by decide +kernel
set_option maxRecDepth 20000 in
theorem ggX1_has_X1_find : GoodIn wsX1_has wsX1_find := goodIn_r _ [5, 6, 7, 8, 9, 10, 11, 12, 13, 14, 15, 16, 17, 18] (by decide +kernel) (by decide +kernel)
set_option maxRecDepth 20000 in
theorem gX1_has_X1_find : GoodIn wsX1_has (wsV RX1 62 RX1 yX1_find wsX1_find) := goodIn_app (goodIn_of _ (by decide +kernel)) ggX1_has_X1_find
theorem dX1_has_0 : decode cX1_has 0 = .ok (.aload_n 0, 1) := by decide +kernel
theorem dX1_has_1 : decode cX1_has 1 = .ok (.iload_n 1, 1) := by decide +kernel
theorem dX1_has_2 : decode cX1_has 2 = .ok (.invokevirtual 62, 3) := by decide +kernel
theorem dX1_has_5 : decode cX1_has 5 = .ok (.ifCond .lt 7, 3) := by decide +kernel
theorem dX1_has_8 : decode cX1_has 8 = .ok (.iconst 1, 1) := by decide +kernel
theorem dX1_has_9 : decode cX1_has 9 = .ok (.goto 4, 3) := by decide +kernel
theorem dX1_has_12 : decode cX1_has 12 = .ok (.iconst 0, 1) := by decide +kernel
theorem dX1_has_13 : decode cX1_has 13 = .ok (.ireturn, 1) := by decide +kernel
theorem dX1_cut_0 : decode cX1_cut 0 = .ok (.aload_n 0, 1) := by decide +kernel
theorem dX1_cut_1 : decode cX1_cut 1 = .ok (.dup, 1) := by decide +kernel
theorem dX1_cut_2 : decode cX1_cut 2 = .ok (.getfield 46, 3) := by decide +kernel
theorem dX1_cut_5 : decode cX1_cut 5 = .ok (.iconst 1, 1) := by decide +kernel
theorem dX1_cut_6 : decode cX1_cut 6 = .ok (.isub, 1) := by decide +kernel
theorem dX1_cut_7 : decode cX1_cut 7 = .ok (.putfield 46, 3) := by decide +kernel
theorem dX1_cut_10 : decode cX1_cut 10 = .ok (.iload_n 1, 1) := by decide +kernel
theorem dX1_cut_11 : decode cX1_cut 11 = .ok (.istore_n 2, 1) := by decide +kernel
theorem dX1_cut_12 : decode cX1_cut 12 = .ok (.iload_n 2, 1) := by decide +kernel
theorem dX1_cut_13 : decode cX1_cut 13 = .ok (.aload_n 0, 1) := by decide +kernel
theorem dX1_cut_14 : decode cX1_cut 14 = .ok (.getfield 46, 3) := by decide +kernel
theorem dX1_cut_17 : decode cX1_cut 17 = .ok (.if_icmp .ge 51, 3) := by decide +kernel
theorem dX1_cut_20 : decode cX1_cut 20 = .ok (.aload_n 0, 1) := by decide +kernel
theorem dX1_cut_21 : decode cX1_cut 21 = .ok (.getfield 7, 3) := by decide +kernel
theorem dX1_cut_24 : decode cX1_cut 24 = .ok (.iload_n 2, 1) := by decide +kernel
theorem dX1_cut_25 : decode cX1_cut 25 = .ok (.aload_n 0, 1) := by decide +kernel
theorem dX1_cut_26 : decode cX1_cut 26 = .ok (.getfield 7, 3) := by decide +kernel
theorem dX1_cut_29 : decode cX1_cut 29 = .ok (.iload_n 2, 1) := by decide +kernel
theorem dX1_cut_30 : decode cX1_cut 30 = .ok (.iconst 1, 1) := by decide +kernel
theorem dX1_cut_31 : decode cX1_cut 31 = .ok (.iadd, 1) := by decide +kernel
theorem dX1_cut_32 : decode cX1_cut 32 = .ok (.iaload, 1) := by decide +kernel
theorem dX1_cut_33 : decode cX1_cut 33 = .ok (.iastore, 1) := by decide +kernel
theorem dX1_cut_34 : decode cX1_cut 34 = .ok (.aload_n 0, 1) := by decide +kernel
theorem dX1_cut_35 : decode cX1_cut 35 = .ok (.getfield 13, 3) := by decide +kernel
theorem dX1_cut_38 : decode cX1_cut 38 = .ok (.iload_n 2, 1) := by decide +kernel
theorem dX1_cut_39 : decode cX1_cut 39 = .ok (.aload_n 0, 1) := by decide +kernel
theorem dX1_cut_40 : decode cX1_cut 40 = .ok (.getfield 13, 3) := by decide +kernel
theorem dX1_cut_43 : decode cX1_cut 43 = .ok (.iload_n 2, 1) := by decide +kernel
theorem dX1_cut_44 : decode cX1_cut 44 = .ok (.iconst 1, 1) := by decide +kernel
theorem dX1_cut_45 : decode cX1_cut 45 = .ok (.iadd, 1) := by decide +kernel
theorem dX1_cut_46 : decode cX1_cut 46 = .ok (.iaload, 1) := by decide +kernel
theorem dX1_cut_47 : decode cX1_cut 47 = .ok (.iastore, 1) := by decide +kernel
theorem dX1_cut_48 : decode cX1_cut 48 = .ok (.aload_n 0, 1) := by decide +kernel
theorem dX1_cut_49 : decode cX1_cut 49 = .ok (.getfield 16, 3) := by decide +kernel
theorem dX1_cut_52 : decode cX1_cut 52 = .ok (.iload_n 2, 1) := by decide +kernel
theorem dX1_cut_53 : decode cX1_cut 53 = .ok (.aload_n 0, 1) := by decide +kernel
theorem dX1_cut_54 : decode cX1_cut 54 = .ok (.getfield 16, 3) := by decide +kernel
theorem dX1_cut_57 : decode cX1_cut 57 = .ok (.iload_n 2, 1) := by decide +kernel
theorem dX1_cut_58 : decode cX1_cut 58 = .ok (.iconst 1, 1) := by decide +kernel
theorem dX1_cut_59 : decode cX1_cut 59 = .ok (.iadd, 1) := by decide +kernel
theorem dX1_cut_60 : decode cX1_cut 60 = .ok (.iaload, 1) := by decide +kernel
theorem dX1_cut_61 : decode cX1_cut 61 = .ok (.iastore, 1) := by decide +kernel
theorem dX1_cut_62 : decode cX1_cut 62 = .ok (.iinc 2 1, 3) := by decide +kernel
theorem dX1_cut_65 : decode cX1_cut 65 = .ok (.goto (-53), 3) := by decide +kernel
theorem dX1_cut_68 : decode cX1_cut 68 = .ok (.return_, 1) := by decide +kernel
set_option maxRecDepth 20000 in
theorem ggX1_toEnd_X1_cut : GoodIn wsX1_toEnd wsX1_cut := goodIn_r _ [9, 1, 3, 4, 2, 10, 11, 12, 13, 14, 15, 16, 17, 18, 19, 20] (by decide +kernel) (by decide +kernel)
set_option maxRecDepth 20000 in
theorem gX1_toEnd_X1_cut : GoodIn wsX1_toEnd (wsV RX1 77 RX1 yX1_cut wsX1_cut) := goodIn_app (goodIn_of _ (by decide +kernel)) ggX1_toEnd_X1_cut
theorem dX1_toEnd_0 : decode cX1_toEnd 0 = .ok (.iconst 0, 1) := by decide +kernel
theorem dX1_toEnd_1 : decode cX1_toEnd 1 = .ok (.istore_n 2, 1) := by decide +kernel
theorem dX1_toEnd_2 : decode cX1_toEnd 2 = .ok (.aload_n 0, 1) := by decide +kernel
theorem dX1_toEnd_3 : decode cX1_toEnd 3 = .ok (.getfield 46, 3) := by decide +kernel
theorem dX1_toEnd_6 : decode cX1_toEnd 6 = .ok (.istore_n 3, 1) := by decide +kernel
theorem dX1_toEnd_7 : decode cX1_toEnd 7 = .ok (.iload_n 3, 1) := by decide +kernel
theorem dX1_toEnd_8 : decode cX1_toEnd 8 = .ok (.ifCond .le 88, 3) := by decide +kernel
theorem dX1_toEnd_11 : decode cX1_toEnd 11 = .ok (.aload_n 0, 1) := by decide +kernel
theorem dX1_toEnd_12 : decode cX1_toEnd 12 = .ok (.getfield 16, 3) := by decide +kernel
theorem dX1_toEnd_15 : decode cX1_toEnd 15 = .ok (.iload_n 2, 1) := by decide +kernel
theorem dX1_toEnd_16 : decode cX1_toEnd 16 = .ok (.iaload, 1) := by decide +kernel
theorem dX1_toEnd_17 : decode cX1_toEnd 17 = .ok (.iload_n 1, 1) := by decide +kernel
theorem dX1_toEnd_18 : decode cX1_toEnd 18 = .ok (.if_icmp .eq 9, 3) := by decide +kernel
theorem dX1_toEnd_21 : decode cX1_toEnd 21 = .ok (.iinc 2 1, 3) := by decide +kernel
theorem dX1_toEnd_24 : decode cX1_toEnd 24 = .ok (.goto 66, 3) := by decide +kernel
theorem dX1_toEnd_27 : decode cX1_toEnd 27 = .ok (.aload_n 0, 1) := by decide +kernel
theorem dX1_toEnd_28 : decode cX1_toEnd 28 = .ok (.getfield 7, 3) := by decide +kernel
theorem dX1_toEnd_31 : decode cX1_toEnd 31 = .ok (.iload_n 2, 1) := by decide +kernel
theorem dX1_toEnd_32 : decode cX1_toEnd 32 = .ok (.iaload, 1) := by decide +kernel
theorem dX1_toEnd_33 : decode cX1_toEnd 33 = .ok (.istore 4, 2) := by decide +kernel
theorem dX1_toEnd_35 : decode cX1_toEnd 35 = .ok (.aload_n 0, 1) := by decide +kernel
theorem dX1_toEnd_36 : decode cX1_toEnd 36 = .ok (.getfield 13, 3) := by decide +kernel
theorem dX1_toEnd_39 : decode cX1_toEnd 39 = .ok (.iload_n 2, 1) := by decide +kernel
theorem dX1_toEnd_40 : decode cX1_toEnd 40 = .ok (.iaload, 1) := by decide +kernel
theorem dX1_toEnd_41 : decode cX1_toEnd 41 = .ok (.istore 5, 2) := by decide +kernel
theorem dX1_toEnd_43 : decode cX1_toEnd 43 = .ok (.aload_n 0, 1) := by decide +kernel
theorem dX1_toEnd_44 : decode cX1_toEnd 44 = .ok (.iload_n 2, 1) := by decide +kernel
theorem dX1_toEnd_45 : decode cX1_toEnd 45 = .ok (.invokevirtual 77, 3) := by decide +kernel
theorem dX1_toEnd_48 : decode cX1_toEnd 48 = .ok (.aload_n 0, 1) := by decide +kernel
theorem dX1_toEnd_49 : decode cX1_toEnd 49 = .ok (.getfield 7, 3) := by decide +kernel
theorem dX1_toEnd_52 : decode cX1_toEnd 52 = .ok (.aload_n 0, 1) := by decide +kernel
theorem dX1_toEnd_53 : decode cX1_toEnd 53 = .ok (.getfield 46, 3) := by decide +kernel
theorem dX1_toEnd_56 : decode cX1_toEnd 56 = .ok (.iload 4, 2) := by decide +kernel
theorem dX1_toEnd_58 : decode cX1_toEnd 58 = .ok (.iastore, 1) := by decide +kernel
theorem dX1_toEnd_59 : decode cX1_toEnd 59 = .ok (.aload_n 0, 1) := by decide +kernel
theorem dX1_toEnd_60 : decode cX1_toEnd 60 = .ok (.getfield 13, 3) := by decide +kernel
theorem dX1_toEnd_63 : decode cX1_toEnd 63 = .ok (.aload_n 0, 1) := by decide +kernel
theorem dX1_toEnd_64 : decode cX1_toEnd 64 = .ok (.getfield 46, 3) := by decide +kernel
theorem dX1_toEnd_67 : decode cX1_toEnd 67 = .ok (.iload 5, 2) := by decide +kernel
theorem dX1_toEnd_69 : decode cX1_toEnd 69 = .ok (.iastore, 1) := by decide +kernel
theorem dX1_toEnd_70 : decode cX1_toEnd 70 = .ok (.aload_n 0, 1) := by decide +kernel
theorem dX1_toEnd_71 : decode cX1_toEnd 71 = .ok (.getfield 16, 3) := by decide +kernel
theorem dX1_toEnd_74 : decode cX1_toEnd 74 = .ok (.aload_n 0, 1) := by decide +kernel
theorem dX1_toEnd_75 : decode cX1_toEnd 75 = .ok (.getfield 46, 3) := by decide +kernel
theorem dX1_toEnd_78 : decode cX1_toEnd 78 = .ok (.iload_n 1, 1) := by decide +kernel
theorem dX1_toEnd_79 : decode cX1_toEnd 79 = .ok (.iastore, 1) := by decide +kernel
theorem dX1_toEnd_80 : decode cX1_toEnd 80 = .ok (.aload_n 0, 1) := by decide +kernel
theorem dX1_toEnd_81 : decode cX1_toEnd 81 = .ok (.dup, 1) := by decide +kernel
theorem dX1_toEnd_82 : decode cX1_toEnd 82 = .ok (.getfield 46, 3) := by decide +kernel
theorem dX1_toEnd_85 : decode cX1_toEnd 85 = .ok (.iconst 1, 1) := by decide +kernel
theorem dX1_toEnd_86 : decode cX1_toEnd 86 = .ok (.iadd, 1) := by decide +kernel
theorem dX1_toEnd_87 : decode cX1_toEnd 87 = .ok (.putfield 46, 3) := by decide +kernel
theorem dX1_toEnd_90 : decode cX1_toEnd 90 = .ok (.iinc 3 (-1), 3) := by decide +kernel
theorem dX1_toEnd_93 : decode cX1_toEnd 93 = .ok (.goto (-86), 3) := by decide +kernel
theorem dX1_toEnd_96 : decode cX1_toEnd 96 = .ok (.return_, 1) := by decide +kernel
set_option maxRecDepth 20000 in
theorem ggX1_remove_X1_find : GoodIn wsX1_remove wsX1_find := goodIn_r _ [11, 1, 3, 43, 44, 45, 46, 47, 48, 49, 50, 51, 52, 53] (by decide +kernel) (by decide +kernel)
set_option maxRecDepth 20000 in
theorem gX1_remove_X1_find : GoodIn wsX1_remove (wsV RX1 62 RX1 yX1_find wsX1_find) := goodIn_app (goodIn_of _ (by decide +kernel)) ggX1_remove_X1_find
set_option maxRecDepth 20000 in
theorem ggX1_remove_X1_cut : GoodIn wsX1_remove wsX1_cut := goodIn_r _ [15, 1, 3, 4, 2, 43, 44, 45, 46, 47, 48, 49, 50, 51, 52, 53] (by decide +kernel) (by decide +kernel)
set_option maxRecDepth 20000 in
theorem gX1_remove_X1_cut : GoodIn wsX1_remove (wsV RX1 77 RX1 yX1_cut wsX1_cut) := goodIn_app (goodIn_of _ (by decide +kernel)) ggX1_remove_X1_cut
set_option maxRecDepth 20000 in
theorem ggX1_remove_X1_buckets : GoodIn wsX1_remove wsX1_buckets := goodIn_r _ [19, 20, 21, 22, 23, 10, 24, 6, 25, 43, 44, 45, 46, 47, 48, 49, 50, 51, 52, 53] (by decide +kernel) (by decide +kernel)
set_option maxRecDepth 20000 in
theorem gX1_remove_X1_buckets : GoodIn wsX1_remove (wsV RX1 52 RX1 yX1_buckets wsX1_buckets) := goodIn_app (goodIn_of _ (by decide +kernel)) ggX1_remove_X1_buckets
set_option maxRecDepth 20000 in
theorem ggX1_remove_X1_toEnd : GoodIn wsX1_remove wsX1_toEnd := goodIn_r _ [29, 1, 2, 3, 4, 12, 13, 14, 10, 15, 43, 44, 45, 46, 47, 48, 49, 50, 51, 52, 53] (by decide +kernel) (by decide +kernel)
set_option maxRecDepth 20000 in
theorem gX1_remove_X1_toEnd : GoodIn wsX1_remove (wsV RX1 81 RX1 yX1_toEnd wsX1_toEnd) := goodIn_app (goodIn_of _ (by decide +kernel)) ggX1_remove_X1_toEnd
set_option maxRecDepth 20000 in
theorem ggX1_remove_X1_back : GoodIn wsX1_remove wsX1_back := goodIn_r _ [33, 20, 25, 21, 22, 23, 10, 24, 6, 43, 44, 45, 46, 47, 48, 49, 50, 51, 52, 53] (by decide +kernel) (by decide +kernel)
set_option maxRecDepth 20000 in
theorem gX1_remove_X1_back : GoodIn wsX1_remove (wsV RX1 74 RX1 yX1_back wsX1_back) := goodIn_app (goodIn_of _ (by decide +kernel)) ggX1_remove_X1_back
set_option maxRecDepth 20000 in
theorem ggX1_remove_X1_settle : GoodIn wsX1_remove wsX1_settle := goodIn_r _ [37, 1, 2, 3, 38, 39, 40, 10, 41, 42, 20, 21, 22, 23, 24, 6, 25, 43, 44, 45, 46, 47, 48, 49, 50, 51, 52, 53] (by decide +kernel) (by decide +kernel)
set_option maxRecDepth 20000 in
theorem gX1_remove_X1_settle : GoodIn wsX1_remove (wsV RX1 68 RX1 yX1_settle wsX1_settle) := goodIn_app (goodIn_of _ (by decide +kernel)) ggX1_remove_X1_settle
theorem dX1_remove_0 : decode cX1_remove 0 = .ok (.aload_n 0, 1) := by decide +kernel
theorem dX1_remove_1 : decode cX1_remove 1 = .ok (.iload_n 1, 1) := by decide +kernel
theorem dX1_remove_2 : decode cX1_remove 2 = .ok (.invokevirtual 62, 3) := by decide +kernel
theorem dX1_remove_5 : decode cX1_remove 5 = .ok (.istore_n 2, 1) := by decide +kernel
theorem dX1_remove_6 : decode cX1_remove 6 = .ok (.iload_n 2, 1) := by decide +kernel
theorem dX1_remove_7 : decode cX1_remove 7 = .ok (.ifCond .ge 5, 3) := by decide +kernel
theorem dX1_remove_10 : decode cX1_remove 10 = .ok (.iconst 0, 1) := by decide +kernel
theorem dX1_remove_11 : decode cX1_remove 11 = .ok (.ireturn, 1) := by decide +kernel
theorem dX1_remove_12 : decode cX1_remove 12 = .ok (.iload_n 2, 1) := by decide +kernel
theorem dX1_remove_13 : decode cX1_remove 13 = .ok (.istore_n 3, 1) := by decide +kernel
theorem dX1_remove_14 : decode cX1_remove 14 = .ok (.iload_n 2, 1) := by decide +kernel
theorem dX1_remove_15 : decode cX1_remove 15 = .ok (.istore 4, 2) := by decide +kernel
theorem dX1_remove_17 : decode cX1_remove 17 = .ok (.iload 4, 2) := by decide +kernel
theorem dX1_remove_19 : decode cX1_remove 19 = .ok (.aload_n 0, 1) := by decide +kernel
theorem dX1_remove_20 : decode cX1_remove 20 = .ok (.getfield 46, 3) := by decide +kernel
theorem dX1_remove_23 : decode cX1_remove 23 = .ok (.if_icmp .ge 32, 3) := by decide +kernel
theorem dX1_remove_26 : decode cX1_remove 26 = .ok (.aload_n 0, 1) := by decide +kernel
theorem dX1_remove_27 : decode cX1_remove 27 = .ok (.getfield 16, 3) := by decide +kernel
theorem dX1_remove_30 : decode cX1_remove 30 = .ok (.iload 4, 2) := by decide +kernel
theorem dX1_remove_32 : decode cX1_remove 32 = .ok (.iaload, 1) := by decide +kernel
theorem dX1_remove_33 : decode cX1_remove 33 = .ok (.aload_n 0, 1) := by decide +kernel
theorem dX1_remove_34 : decode cX1_remove 34 = .ok (.getfield 16, 3) := by decide +kernel
theorem dX1_remove_37 : decode cX1_remove 37 = .ok (.iload_n 2, 1) := by decide +kernel
theorem dX1_remove_38 : decode cX1_remove 38 = .ok (.iaload, 1) := by decide +kernel
theorem dX1_remove_39 : decode cX1_remove 39 = .ok (.if_icmp .ne 8, 3) := by decide +kernel
theorem dX1_remove_42 : decode cX1_remove 42 = .ok (.iload 4, 2) := by decide +kernel
theorem dX1_remove_44 : decode cX1_remove 44 = .ok (.goto 4, 3) := by decide +kernel
theorem dX1_remove_47 : decode cX1_remove 47 = .ok (.iload_n 3, 1) := by decide +kernel
theorem dX1_remove_48 : decode cX1_remove 48 = .ok (.istore_n 3, 1) := by decide +kernel
theorem dX1_remove_49 : decode cX1_remove 49 = .ok (.iinc 4 1, 3) := by decide +kernel
theorem dX1_remove_52 : decode cX1_remove 52 = .ok (.goto (-35), 3) := by decide +kernel
theorem dX1_remove_55 : decode cX1_remove 55 = .ok (.aload_n 0, 1) := by decide +kernel
theorem dX1_remove_56 : decode cX1_remove 56 = .ok (.getfield 7, 3) := by decide +kernel
theorem dX1_remove_59 : decode cX1_remove 59 = .ok (.iload_n 2, 1) := by decide +kernel
theorem dX1_remove_60 : decode cX1_remove 60 = .ok (.aload_n 0, 1) := by decide +kernel
theorem dX1_remove_61 : decode cX1_remove 61 = .ok (.getfield 7, 3) := by decide +kernel
theorem dX1_remove_64 : decode cX1_remove 64 = .ok (.iload_n 3, 1) := by decide +kernel
theorem dX1_remove_65 : decode cX1_remove 65 = .ok (.iaload, 1) := by decide +kernel
theorem dX1_remove_66 : decode cX1_remove 66 = .ok (.iastore, 1) := by decide +kernel
theorem dX1_remove_67 : decode cX1_remove 67 = .ok (.aload_n 0, 1) := by decide +kernel
theorem dX1_remove_68 : decode cX1_remove 68 = .ok (.getfield 13, 3) := by decide +kernel
theorem dX1_remove_71 : decode cX1_remove 71 = .ok (.iload_n 2, 1) := by decide +kernel
theorem dX1_remove_72 : decode cX1_remove 72 = .ok (.aload_n 0, 1) := by decide +kernel
theorem dX1_remove_73 : decode cX1_remove 73 = .ok (.getfield 13, 3) := by decide +kernel
theorem dX1_remove_76 : decode cX1_remove 76 = .ok (.iload_n 3, 1) := by decide +kernel
theorem dX1_remove_77 : decode cX1_remove 77 = .ok (.iaload, 1) := by decide +kernel
theorem dX1_remove_78 : decode cX1_remove 78 = .ok (.iastore, 1) := by decide +kernel
theorem dX1_remove_79 : decode cX1_remove 79 = .ok (.aload_n 0, 1) := by decide +kernel
theorem dX1_remove_80 : decode cX1_remove 80 = .ok (.iload_n 3, 1) := by decide +kernel
theorem dX1_remove_81 : decode cX1_remove 81 = .ok (.invokevirtual 77, 3) := by decide +kernel
theorem dX1_remove_84 : decode cX1_remove 84 = .ok (.iconst 4, 1) := by decide +kernel
theorem dX1_remove_85 : decode cX1_remove 85 = .ok (.aload_n 0, 1) := by decide +kernel
theorem dX1_remove_86 : decode cX1_remove 86 = .ok (.getfield 46, 3) := by decide +kernel
theorem dX1_remove_89 : decode cX1_remove 89 = .ok (.imul, 1) := by decide +kernel
theorem dX1_remove_90 : decode cX1_remove 90 = .ok (.aload_n 0, 1) := by decide +kernel
theorem dX1_remove_91 : decode cX1_remove 91 = .ok (.getfield 26, 3) := by decide +kernel
theorem dX1_remove_94 : decode cX1_remove 94 = .ok (.aload_n 0, 1) := by decide +kernel
theorem dX1_remove_95 : decode cX1_remove 95 = .ok (.invokevirtual 52, 3) := by decide +kernel
theorem dX1_remove_98 : decode cX1_remove 98 = .ok (.imul, 1) := by decide +kernel
theorem dX1_remove_99 : decode cX1_remove 99 = .ok (.if_icmp .ge 32, 3) := by decide +kernel
theorem dX1_remove_102 : decode cX1_remove 102 = .ok (.aload_n 0, 1) := by decide +kernel
theorem dX1_remove_103 : decode cX1_remove 103 = .ok (.invokevirtual 52, 3) := by decide +kernel
theorem dX1_remove_106 : decode cX1_remove 106 = .ok (.aload_n 0, 1) := by decide +kernel
theorem dX1_remove_107 : decode cX1_remove 107 = .ok (.getfield 22, 3) := by decide +kernel
theorem dX1_remove_110 : decode cX1_remove 110 = .ok (.if_icmp .le 21, 3) := by decide +kernel
theorem dX1_remove_113 : decode cX1_remove 113 = .ok (.aload_n 0, 1) := by decide +kernel
theorem dX1_remove_114 : decode cX1_remove 114 = .ok (.aload_n 0, 1) := by decide +kernel
theorem dX1_remove_115 : decode cX1_remove 115 = .ok (.invokevirtual 52, 3) := by decide +kernel
theorem dX1_remove_118 : decode cX1_remove 118 = .ok (.iconst 1, 1) := by decide +kernel
theorem dX1_remove_119 : decode cX1_remove 119 = .ok (.isub, 1) := by decide +kernel
theorem dX1_remove_120 : decode cX1_remove 120 = .ok (.invokevirtual 81, 3) := by decide +kernel
theorem dX1_remove_123 : decode cX1_remove 123 = .ok (.aload_n 0, 1) := by decide +kernel
theorem dX1_remove_124 : decode cX1_remove 124 = .ok (.invokevirtual 74, 3) := by decide +kernel
theorem dX1_remove_127 : decode cX1_remove 127 = .ok (.aload_n 0, 1) := by decide +kernel
theorem dX1_remove_128 : decode cX1_remove 128 = .ok (.invokevirtual 68, 3) := by decide +kernel
theorem dX1_remove_131 : decode cX1_remove 131 = .ok (.iconst 1, 1) := by decide +kernel
theorem dX1_remove_132 : decode cX1_remove 132 = .ok (.ireturn, 1) := by decide +kernel
theorem dX1_size_0 : decode cX1_size 0 = .ok (.aload_n 0, 1) := by decide +kernel
theorem dX1_size_1 : decode cX1_size 1 = .ok (.getfield 46, 3) := by decide +kernel
theorem dX1_size_4 : decode cX1_size 4 = .ok (.ireturn, 1) := by decide +kernel
theorem dX1_level_0 : decode cX1_level 0 = .ok (.aload_n 0, 1) := by decide +kernel
theorem dX1_level_1 : decode cX1_level 1 = .ok (.getfield 35, 3) := by decide +kernel
theorem dX1_level_4 : decode cX1_level 4 = .ok (.ireturn, 1) := by decide +kernel
theorem dX1_pointer_0 : decode cX1_pointer 0 = .ok (.aload_n 0, 1) := by decide +kernel
theorem dX1_pointer_1 : decode cX1_pointer 1 = .ok (.getfield 42, 3) := by decide +kernel
theorem dX1_pointer_4 : decode cX1_pointer 4 = .ok (.ireturn, 1) := by decide +kernel
set_option maxRecDepth 20000 in
theorem ggX1_pages_X1_buckets : GoodIn wsX1_pages wsX1_buckets := goodIn_r _ [6, 7, 8, 9, 10, 5, 11, 12, 13, 25, 26, 27, 28, 29, 30, 31, 32, 33, 34, 35] (by decide +kernel) (by decide +kernel)
set_option maxRecDepth 20000 in
theorem gX1_pages_X1_buckets : GoodIn wsX1_pages (wsV RX1 52 RX1 yX1_buckets wsX1_buckets) := goodIn_app (goodIn_of _ (by decide +kernel)) ggX1_pages_X1_buckets
set_option maxRecDepth 20000 in
theorem ggX1_pages_X1_count : GoodIn wsX1_pages wsX1_count := goodIn_r _ [17, 1, 18, 19, 25, 26, 27, 28, 29, 30, 31, 32, 33, 34, 35] (by decide +kernel) (by decide +kernel)
set_option maxRecDepth 20000 in
theorem gX1_pages_X1_count : GoodIn wsX1_pages (wsV RX1 49 RX1 yX1_count wsX1_count) := goodIn_app (goodIn_of _ (by decide +kernel)) ggX1_pages_X1_count
set_option maxRecDepth 20000 in
theorem ggX1_pages_X1_pagesFor : GoodIn wsX1_pages wsX1_pagesFor := goodIn_r _ [23, 24, 25, 26, 27, 28, 29, 30, 31, 32, 33, 34, 35] (by decide +kernel) (by decide +kernel)
set_option maxRecDepth 20000 in
theorem gX1_pages_X1_pagesFor : GoodIn wsX1_pages (wsV RX1 55 RX1 yX1_pagesFor wsX1_pagesFor) := goodIn_app (goodIn_of _ (by decide +kernel)) ggX1_pages_X1_pagesFor
theorem dX1_pages_0 : decode cX1_pages 0 = .ok (.iload_n 1, 1) := by decide +kernel
theorem dX1_pages_1 : decode cX1_pages 1 = .ok (.ifCond .lt 11, 3) := by decide +kernel
theorem dX1_pages_4 : decode cX1_pages 4 = .ok (.iload_n 1, 1) := by decide +kernel
theorem dX1_pages_5 : decode cX1_pages 5 = .ok (.aload_n 0, 1) := by decide +kernel
theorem dX1_pages_6 : decode cX1_pages 6 = .ok (.invokevirtual 52, 3) := by decide +kernel
theorem dX1_pages_9 : decode cX1_pages 9 = .ok (.if_icmp .lt 5, 3) := by decide +kernel
theorem dX1_pages_12 : decode cX1_pages 12 = .ok (.iconst (-1), 1) := by decide +kernel
theorem dX1_pages_13 : decode cX1_pages 13 = .ok (.ireturn, 1) := by decide +kernel
theorem dX1_pages_14 : decode cX1_pages 14 = .ok (.aload_n 0, 1) := by decide +kernel
theorem dX1_pages_15 : decode cX1_pages 15 = .ok (.invokevirtual 49, 3) := by decide +kernel
theorem dX1_pages_18 : decode cX1_pages 18 = .ok (.aload_n 0, 1) := by decide +kernel
theorem dX1_pages_19 : decode cX1_pages 19 = .ok (.aload_n 0, 1) := by decide +kernel
theorem dX1_pages_20 : decode cX1_pages 20 = .ok (.getfield 19, 3) := by decide +kernel
theorem dX1_pages_23 : decode cX1_pages 23 = .ok (.iload_n 1, 1) := by decide +kernel
theorem dX1_pages_24 : decode cX1_pages 24 = .ok (.iaload, 1) := by decide +kernel
theorem dX1_pages_25 : decode cX1_pages 25 = .ok (.invokevirtual 55, 3) := by decide +kernel
theorem dX1_pages_28 : decode cX1_pages 28 = .ok (.ireturn, 1) := by decide +kernel
set_option maxRecDepth 20000 in
theorem ggX1_free_X1_needed : GoodIn wsX1_free wsX1_needed := goodIn_r _ [6, 7, 8, 9, 10, 5, 11, 12, 13, 14, 15, 16, 17, 18, 19, 20, 21, 22, 23, 24, 25, 26, 27, 28, 29, 30, 31, 32, 33, 34, 35, 36, 37, 38, 39, 40] (by decide +kernel) (by decide +kernel)
set_option maxRecDepth 20000 in
theorem gX1_free_X1_needed : GoodIn wsX1_free (wsV RX1 71 RX1 yX1_needed wsX1_needed) := goodIn_app (goodIn_of _ (by decide +kernel)) ggX1_free_X1_needed
theorem dX1_free_0 : decode cX1_free 0 = .ok (.aload_n 0, 1) := by decide +kernel
theorem dX1_free_1 : decode cX1_free 1 = .ok (.getfield 29, 3) := by decide +kernel
theorem dX1_free_4 : decode cX1_free 4 = .ok (.aload_n 0, 1) := by decide +kernel
theorem dX1_free_5 : decode cX1_free 5 = .ok (.invokevirtual 71, 3) := by decide +kernel
theorem dX1_free_8 : decode cX1_free 8 = .ok (.isub, 1) := by decide +kernel
theorem dX1_free_9 : decode cX1_free 9 = .ok (.ireturn, 1) := by decide +kernel
set_option maxRecDepth 20000 in
theorem ggX1_key_X1_buckets : GoodIn wsX1_key wsX1_buckets := goodIn_r _ [8, 9, 10, 11, 12, 7, 13, 14, 15, 16, 17, 18, 19, 20, 21, 22, 23, 24, 25, 26] (by decide +kernel) (by decide +kernel)
set_option maxRecDepth 20000 in
theorem gX1_key_X1_buckets : GoodIn wsX1_key (wsV RX1 52 RX1 yX1_buckets wsX1_buckets) := goodIn_app (goodIn_of _ (by decide +kernel)) ggX1_key_X1_buckets
theorem dX1_key_0 : decode cX1_key 0 = .ok (.iload_n 1, 1) := by decide +kernel
theorem dX1_key_1 : decode cX1_key 1 = .ok (.ifCond .lt 15, 3) := by decide +kernel
theorem dX1_key_4 : decode cX1_key 4 = .ok (.iload_n 1, 1) := by decide +kernel
theorem dX1_key_5 : decode cX1_key 5 = .ok (.aload_n 0, 1) := by decide +kernel
theorem dX1_key_6 : decode cX1_key 6 = .ok (.invokevirtual 52, 3) := by decide +kernel
theorem dX1_key_9 : decode cX1_key 9 = .ok (.if_icmp .ge 7, 3) := by decide +kernel
theorem dX1_key_12 : decode cX1_key 12 = .ok (.iload_n 2, 1) := by decide +kernel
theorem dX1_key_13 : decode cX1_key 13 = .ok (.ifCond .ge 5, 3) := by decide +kernel
theorem dX1_key_16 : decode cX1_key 16 = .ok (.iconst (-1), 1) := by decide +kernel
theorem dX1_key_17 : decode cX1_key 17 = .ok (.ireturn, 1) := by decide +kernel
theorem dX1_key_18 : decode cX1_key 18 = .ok (.iload_n 2, 1) := by decide +kernel
theorem dX1_key_19 : decode cX1_key 19 = .ok (.istore_n 3, 1) := by decide +kernel
theorem dX1_key_20 : decode cX1_key 20 = .ok (.iconst 0, 1) := by decide +kernel
theorem dX1_key_21 : decode cX1_key 21 = .ok (.istore 4, 2) := by decide +kernel
theorem dX1_key_23 : decode cX1_key 23 = .ok (.iload 4, 2) := by decide +kernel
theorem dX1_key_25 : decode cX1_key 25 = .ok (.aload_n 0, 1) := by decide +kernel
theorem dX1_key_26 : decode cX1_key 26 = .ok (.getfield 46, 3) := by decide +kernel
theorem dX1_key_29 : decode cX1_key 29 = .ok (.if_icmp .ge 35, 3) := by decide +kernel
theorem dX1_key_32 : decode cX1_key 32 = .ok (.aload_n 0, 1) := by decide +kernel
theorem dX1_key_33 : decode cX1_key 33 = .ok (.getfield 16, 3) := by decide +kernel
theorem dX1_key_36 : decode cX1_key 36 = .ok (.iload 4, 2) := by decide +kernel
theorem dX1_key_38 : decode cX1_key 38 = .ok (.iaload, 1) := by decide +kernel
theorem dX1_key_39 : decode cX1_key 39 = .ok (.iload_n 1, 1) := by decide +kernel
theorem dX1_key_40 : decode cX1_key 40 = .ok (.if_icmp .ne 18, 3) := by decide +kernel
theorem dX1_key_43 : decode cX1_key 43 = .ok (.iload_n 3, 1) := by decide +kernel
theorem dX1_key_44 : decode cX1_key 44 = .ok (.ifCond .ne 11, 3) := by decide +kernel
theorem dX1_key_47 : decode cX1_key 47 = .ok (.aload_n 0, 1) := by decide +kernel
theorem dX1_key_48 : decode cX1_key 48 = .ok (.getfield 7, 3) := by decide +kernel
theorem dX1_key_51 : decode cX1_key 51 = .ok (.iload 4, 2) := by decide +kernel
theorem dX1_key_53 : decode cX1_key 53 = .ok (.iaload, 1) := by decide +kernel
theorem dX1_key_54 : decode cX1_key 54 = .ok (.ireturn, 1) := by decide +kernel
theorem dX1_key_55 : decode cX1_key 55 = .ok (.iinc 3 (-1), 3) := by decide +kernel
theorem dX1_key_58 : decode cX1_key 58 = .ok (.iinc 4 1, 3) := by decide +kernel
theorem dX1_key_61 : decode cX1_key 61 = .ok (.goto (-38), 3) := by decide +kernel
theorem dX1_key_64 : decode cX1_key 64 = .ok (.iconst (-1), 1) := by decide +kernel
theorem dX1_key_65 : decode cX1_key 65 = .ok (.ireturn, 1) := by decide +kernel
theorem dX1_clear_0 : decode cX1_clear 0 = .ok (.aload_n 0, 1) := by decide +kernel
theorem dX1_clear_1 : decode cX1_clear 1 = .ok (.iconst 0, 1) := by decide +kernel
theorem dX1_clear_2 : decode cX1_clear 2 = .ok (.putfield 46, 3) := by decide +kernel
theorem dX1_clear_5 : decode cX1_clear 5 = .ok (.aload_n 0, 1) := by decide +kernel
theorem dX1_clear_6 : decode cX1_clear 6 = .ok (.iconst 0, 1) := by decide +kernel
theorem dX1_clear_7 : decode cX1_clear 7 = .ok (.putfield 35, 3) := by decide +kernel
theorem dX1_clear_10 : decode cX1_clear 10 = .ok (.aload_n 0, 1) := by decide +kernel
theorem dX1_clear_11 : decode cX1_clear 11 = .ok (.iconst 0, 1) := by decide +kernel
theorem dX1_clear_12 : decode cX1_clear 12 = .ok (.putfield 42, 3) := by decide +kernel
theorem dX1_clear_15 : decode cX1_clear 15 = .ok (.return_, 1) := by decide +kernel
theorem dJ9_max_7cf53_0 : decode cJ9_max_7cf53 0 = .ok (.iload_n 0, 1) := by decide +kernel
theorem dJ9_max_7cf53_1 : decode cJ9_max_7cf53 1 = .ok (.iload_n 1, 1) := by decide +kernel
theorem dJ9_max_7cf53_2 : decode cJ9_max_7cf53 2 = .ok (.if_icmp .lt 7, 3) := by decide +kernel
theorem dJ9_max_7cf53_5 : decode cJ9_max_7cf53 5 = .ok (.iload_n 0, 1) := by decide +kernel
theorem dJ9_max_7cf53_6 : decode cJ9_max_7cf53 6 = .ok (.goto 4, 3) := by decide +kernel
theorem dJ9_max_7cf53_9 : decode cJ9_max_7cf53 9 = .ok (.iload_n 1, 1) := by decide +kernel
theorem dJ9_max_7cf53_10 : decode cJ9_max_7cf53 10 = .ok (.ireturn, 1) := by decide +kernel
theorem dJ9_min_7cf53_0 : decode cJ9_min_7cf53 0 = .ok (.iload_n 0, 1) := by decide +kernel
theorem dJ9_min_7cf53_1 : decode cJ9_min_7cf53 1 = .ok (.iload_n 1, 1) := by decide +kernel
theorem dJ9_min_7cf53_2 : decode cJ9_min_7cf53 2 = .ok (.if_icmp .gt 7, 3) := by decide +kernel
theorem dJ9_min_7cf53_5 : decode cJ9_min_7cf53 5 = .ok (.iload_n 0, 1) := by decide +kernel
theorem dJ9_min_7cf53_6 : decode cJ9_min_7cf53 6 = .ok (.goto 4, 3) := by decide +kernel
theorem dJ9_min_7cf53_9 : decode cJ9_min_7cf53 9 = .ok (.iload_n 1, 1) := by decide +kernel
theorem dJ9_min_7cf53_10 : decode cJ9_min_7cf53 10 = .ok (.ireturn, 1) := by decide +kernel
theorem dL_cell_0 : decode cL_cell 0 = .ok (.iload_n 1, 1) := by decide +kernel
theorem dL_cell_1 : decode cL_cell 1 = .ok (.aload_n 0, 1) := by decide +kernel
theorem dL_cell_2 : decode cL_cell 2 = .ok (.arraylength, 1) := by decide +kernel
theorem dL_cell_3 : decode cL_cell 3 = .ok (.if_icmp .ge 9, 3) := by decide +kernel
theorem dL_cell_6 : decode cL_cell 6 = .ok (.aload_n 0, 1) := by decide +kernel
theorem dL_cell_7 : decode cL_cell 7 = .ok (.iload_n 1, 1) := by decide +kernel
theorem dL_cell_8 : decode cL_cell 8 = .ok (.iaload, 1) := by decide +kernel
theorem dL_cell_9 : decode cL_cell 9 = .ok (.goto 4, 3) := by decide +kernel
theorem dL_cell_12 : decode cL_cell 12 = .ok (.iconst 0, 1) := by decide +kernel
theorem dL_cell_13 : decode cL_cell 13 = .ok (.ireturn, 1) := by decide +kernel
set_option maxRecDepth 20000 in
theorem ggL_law_L_cell : GoodIn wsL_law wsL_cell := goodIn_r _ [9] (by decide +kernel) (by decide +kernel)
set_option maxRecDepth 20000 in
theorem gL_law_L_cell : GoodIn wsL_law (va_wsS RL 9 yL_cell wsL_cell) := goodIn_app (goodIn_of _ (by decide +kernel)) ggL_law_L_cell
set_option maxRecDepth 20000 in
theorem ggL_law_X0_init : GoodIn wsL_law wsX0_init := goodIn_r _ [12, 13, 14, 15, 16, 17, 18, 19, 20, 21, 22, 23, 24, 25, 26, 27, 28, 29, 2, 30, 31, 32, 33, 258, 259, 260, 261, 262, 263, 264, 265, 266, 267] (by decide +kernel) (by decide +kernel)
set_option maxRecDepth 20000 in
theorem gL_law_X0_init : GoodIn wsL_law (wsX0_init) := ggL_law_X0_init
set_option maxRecDepth 20000 in
theorem ggL_law_X1_init : GoodIn wsL_law wsX1_init := goodIn_r _ [36, 37, 14, 15, 24, 38, 39, 40, 41, 42, 43, 44, 45, 268, 269, 270, 271, 272, 273, 274, 275, 276, 277, 278] (by decide +kernel) (by decide +kernel)
set_option maxRecDepth 20000 in
theorem gL_law_X1_init : GoodIn wsL_law (wsX1_init) := ggL_law_X1_init
set_option maxRecDepth 20000 in
theorem ggL_law_X0_put : GoodIn wsL_law wsX0_put := goodIn_r _ [49, 26, 50, 25, 51, 52, 53, 2, 54, 55, 56, 57, 58, 59, 60, 19, 18, 61, 62, 63, 64, 17, 65, 66, 67, 68, 69, 70, 71, 72, 16, 73, 74, 75, 76, 77, 78, 79, 80, 27, 81, 82, 83, 84, 85, 86, 87, 88, 89, 31, 32, 22, 33, 258, 259, 260, 261, 262, 263, 264, 265, 266, 267] (by decide +kernel) (by decide +kernel)
set_option maxRecDepth 20000 in
theorem gL_law_X0_put : GoodIn wsL_law (wsV RL 21 RX0 yX0_put wsX0_put) := goodIn_app (goodIn_of _ (by decide +kernel)) ggL_law_X0_put
set_option maxRecDepth 20000 in
theorem ggL_law_X1_put : GoodIn wsL_law wsX1_put := goodIn_r _ [93, 39, 38, 94, 43, 45, 44, 95, 96, 97, 5, 98, 99, 100, 101, 102, 103, 104, 105, 106, 107, 42, 108, 109, 110, 111, 112, 113, 114, 115, 116, 40, 117, 118, 119, 120, 121, 122, 123, 124, 125, 41, 126, 127, 128, 129, 130, 131, 132, 133, 134, 135, 136, 137, 268, 269, 270, 271, 272, 273, 274, 275, 276, 277, 278] (by decide +kernel) (by decide +kernel)
set_option maxRecDepth 20000 in
theorem gL_law_X1_put : GoodIn wsL_law (wsV RL 25 RX1 yX1_put wsX1_put) := goodIn_app (goodIn_of _ (by decide +kernel)) ggL_law_X1_put
set_option maxRecDepth 20000 in
theorem ggL_law_X0_get : GoodIn wsL_law wsX0_get := goodIn_r _ [141, 26, 51, 52, 53, 2, 54, 50, 25, 258, 259, 260, 261, 262, 263, 264, 265, 266, 267] (by decide +kernel) (by decide +kernel)
set_option maxRecDepth 20000 in
theorem gL_law_X0_get : GoodIn wsL_law (wsV RL 26 RX0 yX0_get wsX0_get) := goodIn_app (goodIn_of _ (by decide +kernel)) ggL_law_X0_get
set_option maxRecDepth 20000 in
theorem ggL_law_X1_get : GoodIn wsL_law wsX1_get := goodIn_r _ [145, 39, 95, 96, 97, 5, 98, 94, 38, 268, 269, 270, 271, 272, 273, 274, 275, 276, 277, 278] (by decide +kernel) (by decide +kernel)
set_option maxRecDepth 20000 in
theorem gL_law_X1_get : GoodIn wsL_law (wsV RL 30 RX1 yX1_get wsX1_get) := goodIn_app (goodIn_of _ (by decide +kernel)) ggL_law_X1_get
set_option maxRecDepth 20000 in
theorem ggL_law_X0_has : GoodIn wsL_law wsX0_has := goodIn_r _ [149, 51, 52, 53, 2, 54, 50, 25, 258, 259, 260, 261, 262, 263, 264, 265, 266, 267] (by decide +kernel) (by decide +kernel)
set_option maxRecDepth 20000 in
theorem gL_law_X0_has : GoodIn wsL_law (wsV RL 31 RX0 yX0_has wsX0_has) := goodIn_app (goodIn_of _ (by decide +kernel)) ggL_law_X0_has
set_option maxRecDepth 20000 in
theorem ggL_law_X1_has : GoodIn wsL_law wsX1_has := goodIn_r _ [153, 95, 96, 97, 5, 98, 94, 38, 268, 269, 270, 271, 272, 273, 274, 275, 276, 277, 278] (by decide +kernel) (by decide +kernel)
set_option maxRecDepth 20000 in
theorem gL_law_X1_has : GoodIn wsL_law (wsV RL 35 RX1 yX1_has wsX1_has) := goodIn_app (goodIn_of _ (by decide +kernel)) ggL_law_X1_has
set_option maxRecDepth 20000 in
theorem ggL_law_X0_remove : GoodIn wsL_law wsX0_remove := goodIn_r _ [157, 16, 51, 52, 53, 2, 54, 50, 25, 158, 159, 160, 161, 26, 81, 82, 83, 84, 85, 60, 69, 70, 71, 72, 59, 162, 163, 164, 165, 166, 167, 168, 169, 170, 171, 172, 173, 17, 65, 66, 67, 68, 174, 175, 176, 177, 178, 179, 180, 181, 258, 259, 260, 261, 262, 263, 264, 265, 266, 267] (by decide +kernel) (by decide +kernel)
set_option maxRecDepth 20000 in
theorem gL_law_X0_remove : GoodIn wsL_law (wsV RL 36 RX0 yX0_remove wsX0_remove) := goodIn_app (goodIn_of _ (by decide +kernel)) ggL_law_X0_remove
set_option maxRecDepth 20000 in
theorem ggL_law_X1_remove : GoodIn wsL_law wsX1_remove := goodIn_r _ [185, 94, 40, 38, 39, 43, 42, 95, 96, 97, 5, 98, 186, 187, 188, 189, 99, 100, 101, 102, 103, 104, 105, 106, 107, 108, 190, 191, 192, 193, 134, 135, 136, 137, 113, 114, 115, 116, 117, 118, 119, 120, 121, 268, 269, 270, 271, 272, 273, 274, 275, 276, 277, 278] (by decide +kernel) (by decide +kernel)
set_option maxRecDepth 20000 in
theorem gL_law_X1_remove : GoodIn wsL_law (wsV RL 39 RX1 yX1_remove wsX1_remove) := goodIn_app (goodIn_of _ (by decide +kernel)) ggL_law_X1_remove
set_option maxRecDepth 20000 in
theorem ggL_law_X0_size : GoodIn wsL_law wsX0_size := goodIn_r _ [197, 50, 258, 259, 260, 261, 262, 263, 264, 265, 266, 267] (by decide +kernel) (by decide +kernel)
set_option maxRecDepth 20000 in
theorem gL_law_X0_size : GoodIn wsL_law (wsV RL 40 RX0 yX0_size wsX0_size) := goodIn_app (goodIn_of _ (by decide +kernel)) ggL_law_X0_size
set_option maxRecDepth 20000 in
theorem ggL_law_X1_size : GoodIn wsL_law wsX1_size := goodIn_r _ [201, 94, 268, 269, 270, 271, 272, 273, 274, 275, 276, 277, 278] (by decide +kernel) (by decide +kernel)
set_option maxRecDepth 20000 in
theorem gL_law_X1_size : GoodIn wsL_law (wsV RL 44 RX1 yX1_size wsX1_size) := goodIn_app (goodIn_of _ (by decide +kernel)) ggL_law_X1_size
set_option maxRecDepth 20000 in
theorem ggL_law_X0_buckets : GoodIn wsL_law wsX0_buckets := goodIn_r _ [68, 60, 69, 70, 71, 2, 72, 16, 59, 258, 259, 260, 261, 262, 263, 264, 265, 266, 267] (by decide +kernel) (by decide +kernel)
set_option maxRecDepth 20000 in
theorem gL_law_X0_buckets : GoodIn wsL_law (wsV RL 45 RX0 yX0_buckets wsX0_buckets) := goodIn_app (goodIn_of _ (by decide +kernel)) ggL_law_X0_buckets
set_option maxRecDepth 20000 in
theorem ggL_law_X1_buckets : GoodIn wsL_law wsX1_buckets := goodIn_r _ [102, 103, 104, 105, 106, 5, 107, 42, 108, 268, 269, 270, 271, 272, 273, 274, 275, 276, 277, 278] (by decide +kernel) (by decide +kernel)
set_option maxRecDepth 20000 in
theorem gL_law_X1_buckets : GoodIn wsL_law (wsV RL 48 RX1 yX1_buckets wsX1_buckets) := goodIn_app (goodIn_of _ (by decide +kernel)) ggL_law_X1_buckets
set_option maxRecDepth 20000 in
theorem ggL_law_X0_level : GoodIn wsL_law wsX0_level := goodIn_r _ [207, 59, 258, 259, 260, 261, 262, 263, 264, 265, 266, 267] (by decide +kernel) (by decide +kernel)
set_option maxRecDepth 20000 in
theorem gL_law_X0_level : GoodIn wsL_law (wsV RL 49 RX0 yX0_level wsX0_level) := goodIn_app (goodIn_of _ (by decide +kernel)) ggL_law_X0_level
set_option maxRecDepth 20000 in
theorem ggL_law_X1_level : GoodIn wsL_law wsX1_level := goodIn_r _ [211, 108, 268, 269, 270, 271, 272, 273, 274, 275, 276, 277, 278] (by decide +kernel) (by decide +kernel)
set_option maxRecDepth 20000 in
theorem gL_law_X1_level : GoodIn wsL_law (wsV RL 52 RX1 yX1_level wsX1_level) := goodIn_app (goodIn_of _ (by decide +kernel)) ggL_law_X1_level
set_option maxRecDepth 20000 in
theorem ggL_law_X0_pointer : GoodIn wsL_law wsX0_pointer := goodIn_r _ [215, 60, 258, 259, 260, 261, 262, 263, 264, 265, 266, 267] (by decide +kernel) (by decide +kernel)
set_option maxRecDepth 20000 in
theorem gL_law_X0_pointer : GoodIn wsL_law (wsV RL 53 RX0 yX0_pointer wsX0_pointer) := goodIn_app (goodIn_of _ (by decide +kernel)) ggL_law_X0_pointer
set_option maxRecDepth 20000 in
theorem ggL_law_X1_pointer : GoodIn wsL_law wsX1_pointer := goodIn_r _ [219, 103, 268, 269, 270, 271, 272, 273, 274, 275, 276, 277, 278] (by decide +kernel) (by decide +kernel)
set_option maxRecDepth 20000 in
theorem gL_law_X1_pointer : GoodIn wsL_law (wsV RL 56 RX1 yX1_pointer wsX1_pointer) := goodIn_app (goodIn_of _ (by decide +kernel)) ggL_law_X1_pointer
set_option maxRecDepth 20000 in
theorem ggL_law_X0_bucketOf : GoodIn wsL_law wsX0_bucketOf := goodIn_r _ [84, 85, 60, 69, 70, 71, 2, 72, 16, 59, 258, 259, 260, 261, 262, 263, 264, 265, 266, 267] (by decide +kernel) (by decide +kernel)
set_option maxRecDepth 20000 in
theorem gL_law_X0_bucketOf : GoodIn wsL_law (wsV RL 57 RX0 yX0_bucketOf wsX0_bucketOf) := goodIn_app (goodIn_of _ (by decide +kernel)) ggL_law_X0_bucketOf
set_option maxRecDepth 20000 in
theorem ggL_law_X1_bucketOf : GoodIn wsL_law wsX1_bucketOf := goodIn_r _ [120, 121, 103, 104, 105, 106, 5, 107, 42, 108, 268, 269, 270, 271, 272, 273, 274, 275, 276, 277, 278] (by decide +kernel) (by decide +kernel)
set_option maxRecDepth 20000 in
theorem gL_law_X1_bucketOf : GoodIn wsL_law (wsV RL 60 RX1 yX1_bucketOf wsX1_bucketOf) := goodIn_app (goodIn_of _ (by decide +kernel)) ggL_law_X1_bucketOf
set_option maxRecDepth 20000 in
theorem ggL_law_X0_pages : GoodIn wsL_law wsX0_pages := goodIn_r _ [225, 50, 25, 226, 227, 228, 2, 229, 65, 66, 67, 68, 60, 69, 70, 71, 72, 16, 59, 81, 82, 83, 84, 85, 86, 87, 88, 89, 17, 31, 32, 22, 33, 258, 259, 260, 261, 262, 263, 264, 265, 266, 267] (by decide +kernel) (by decide +kernel)
set_option maxRecDepth 20000 in
theorem gL_law_X0_pages : GoodIn wsL_law (wsV RL 61 RX0 yX0_pages wsX0_pages) := goodIn_app (goodIn_of _ (by decide +kernel)) ggL_law_X0_pages
set_option maxRecDepth 20000 in
theorem ggL_law_X1_pages : GoodIn wsL_law wsX1_pages := goodIn_r _ [233, 41, 99, 100, 101, 5, 102, 103, 104, 105, 106, 107, 42, 108, 126, 127, 128, 129, 94, 40, 130, 131, 132, 133, 43, 268, 269, 270, 271, 272, 273, 274, 275, 276, 277, 278] (by decide +kernel) (by decide +kernel)
set_option maxRecDepth 20000 in
theorem gL_law_X1_pages : GoodIn wsL_law (wsV RL 64 RX1 yX1_pages wsX1_pages) := goodIn_app (goodIn_of _ (by decide +kernel)) ggL_law_X1_pages
set_option maxRecDepth 20000 in
theorem ggL_law_X0_free : GoodIn wsL_law wsX0_free := goodIn_r _ [237, 18, 77, 78, 79, 2, 80, 27, 50, 25, 65, 66, 67, 68, 60, 69, 70, 71, 72, 16, 59, 81, 82, 83, 84, 85, 86, 87, 88, 89, 17, 31, 32, 22, 33, 258, 259, 260, 261, 262, 263, 264, 265, 266, 267] (by decide +kernel) (by decide +kernel)
set_option maxRecDepth 20000 in
theorem gL_law_X0_free : GoodIn wsL_law (wsV RL 65 RX0 yX0_free wsX0_free) := goodIn_app (goodIn_of _ (by decide +kernel)) ggL_law_X0_free
set_option maxRecDepth 20000 in
theorem ggL_law_X1_free : GoodIn wsL_law wsX1_free := goodIn_r _ [241, 44, 122, 123, 124, 5, 125, 41, 126, 127, 128, 129, 94, 40, 99, 100, 101, 102, 103, 104, 105, 106, 107, 42, 108, 130, 131, 132, 133, 43, 268, 269, 270, 271, 272, 273, 274, 275, 276, 277, 278] (by decide +kernel) (by decide +kernel)
set_option maxRecDepth 20000 in
theorem gL_law_X1_free : GoodIn wsL_law (wsV RL 68 RX1 yX1_free wsX1_free) := goodIn_app (goodIn_of _ (by decide +kernel)) ggL_law_X1_free
set_option maxRecDepth 20000 in
theorem ggL_law_X0_key : GoodIn wsL_law wsX0_key := goodIn_r _ [245, 50, 25, 226, 227, 228, 2, 229, 65, 66, 67, 68, 60, 69, 70, 71, 72, 16, 59, 81, 82, 83, 84, 85, 258, 259, 260, 261, 262, 263, 264, 265, 266, 267] (by decide +kernel) (by decide +kernel)
set_option maxRecDepth 20000 in
theorem gL_law_X0_key : GoodIn wsL_law (wsV RL 69 RX0 yX0_key wsX0_key) := goodIn_app (goodIn_of _ (by decide +kernel)) ggL_law_X0_key
set_option maxRecDepth 20000 in
theorem ggL_law_X1_key : GoodIn wsL_law wsX1_key := goodIn_r _ [249, 94, 40, 38, 99, 100, 101, 5, 102, 103, 104, 105, 106, 107, 42, 108, 268, 269, 270, 271, 272, 273, 274, 275, 276, 277, 278] (by decide +kernel) (by decide +kernel)
set_option maxRecDepth 20000 in
theorem gL_law_X1_key : GoodIn wsL_law (wsV RL 72 RX1 yX1_key wsX1_key) := goodIn_app (goodIn_of _ (by decide +kernel)) ggL_law_X1_key
set_option maxRecDepth 20000 in
theorem ggL_law_X0_clear : GoodIn wsL_law wsX0_clear := goodIn_r _ [253, 50, 59, 60, 258, 259, 260, 261, 262, 263, 264, 265, 266, 267] (by decide +kernel) (by decide +kernel)
set_option maxRecDepth 20000 in
theorem gL_law_X0_clear : GoodIn wsL_law (wsV RL 73 RX0 yX0_clear wsX0_clear) := goodIn_app (goodIn_of _ (by decide +kernel)) ggL_law_X0_clear
set_option maxRecDepth 20000 in
theorem ggL_law_X1_clear : GoodIn wsL_law wsX1_clear := goodIn_r _ [257, 94, 108, 103, 268, 269, 270, 271, 272, 273, 274, 275, 276, 277, 278] (by decide +kernel) (by decide +kernel)
set_option maxRecDepth 20000 in
theorem gL_law_X1_clear : GoodIn wsL_law (wsV RL 76 RX1 yX1_clear wsX1_clear) := goodIn_app (goodIn_of _ (by decide +kernel)) ggL_law_X1_clear
theorem dL_law_0 : decode cL_law 0 = .ok (.new 7, 3) := by decide +kernel
theorem dL_law_3 : decode cL_law 3 = .ok (.dup, 1) := by decide +kernel
theorem dL_law_4 : decode cL_law 4 = .ok (.aload_n 0, 1) := by decide +kernel
theorem dL_law_5 : decode cL_law 5 = .ok (.iconst 0, 1) := by decide +kernel
theorem dL_law_6 : decode cL_law 6 = .ok (.invokestatic 9, 3) := by decide +kernel
theorem dL_law_9 : decode cL_law 9 = .ok (.aload_n 0, 1) := by decide +kernel
theorem dL_law_10 : decode cL_law 10 = .ok (.iconst 1, 1) := by decide +kernel
theorem dL_law_11 : decode cL_law 11 = .ok (.invokestatic 9, 3) := by decide +kernel
theorem dL_law_14 : decode cL_law 14 = .ok (.aload_n 0, 1) := by decide +kernel
theorem dL_law_15 : decode cL_law 15 = .ok (.iconst 2, 1) := by decide +kernel
theorem dL_law_16 : decode cL_law 16 = .ok (.invokestatic 9, 3) := by decide +kernel
theorem dL_law_19 : decode cL_law 19 = .ok (.aload_n 0, 1) := by decide +kernel
theorem dL_law_20 : decode cL_law 20 = .ok (.iconst 3, 1) := by decide +kernel
theorem dL_law_21 : decode cL_law 21 = .ok (.invokestatic 9, 3) := by decide +kernel
theorem dL_law_24 : decode cL_law 24 = .ok (.invokespecial 15, 3) := by decide +kernel
theorem dL_law_27 : decode cL_law 27 = .ok (.astore_n 1, 1) := by decide +kernel
theorem dL_law_28 : decode cL_law 28 = .ok (.new 18, 3) := by decide +kernel
theorem dL_law_31 : decode cL_law 31 = .ok (.dup, 1) := by decide +kernel
theorem dL_law_32 : decode cL_law 32 = .ok (.aload_n 0, 1) := by decide +kernel
theorem dL_law_33 : decode cL_law 33 = .ok (.iconst 0, 1) := by decide +kernel
theorem dL_law_34 : decode cL_law 34 = .ok (.invokestatic 9, 3) := by decide +kernel
theorem dL_law_37 : decode cL_law 37 = .ok (.aload_n 0, 1) := by decide +kernel
theorem dL_law_38 : decode cL_law 38 = .ok (.iconst 1, 1) := by decide +kernel
theorem dL_law_39 : decode cL_law 39 = .ok (.invokestatic 9, 3) := by decide +kernel
theorem dL_law_42 : decode cL_law 42 = .ok (.aload_n 0, 1) := by decide +kernel
theorem dL_law_43 : decode cL_law 43 = .ok (.iconst 2, 1) := by decide +kernel
theorem dL_law_44 : decode cL_law 44 = .ok (.invokestatic 9, 3) := by decide +kernel
theorem dL_law_47 : decode cL_law 47 = .ok (.aload_n 0, 1) := by decide +kernel
theorem dL_law_48 : decode cL_law 48 = .ok (.iconst 3, 1) := by decide +kernel
theorem dL_law_49 : decode cL_law 49 = .ok (.invokestatic 9, 3) := by decide +kernel
theorem dL_law_52 : decode cL_law 52 = .ok (.invokespecial 20, 3) := by decide +kernel
theorem dL_law_55 : decode cL_law 55 = .ok (.astore_n 2, 1) := by decide +kernel
theorem dL_law_56 : decode cL_law 56 = .ok (.iconst 4, 1) := by decide +kernel
theorem dL_law_57 : decode cL_law 57 = .ok (.istore_n 3, 1) := by decide +kernel
theorem dL_law_58 : decode cL_law 58 = .ok (.iload_n 3, 1) := by decide +kernel
theorem dL_law_59 : decode cL_law 59 = .ok (.aload_n 0, 1) := by decide +kernel
theorem dL_law_60 : decode cL_law 60 = .ok (.arraylength, 1) := by decide +kernel
theorem dL_law_61 : decode cL_law 61 = .ok (.iconst 3, 1) := by decide +kernel
theorem dL_law_62 : decode cL_law 62 = .ok (.isub, 1) := by decide +kernel
theorem dL_law_63 : decode cL_law 63 = .ok (.if_icmp .gt 340, 3) := by decide +kernel
theorem dL_law_66 : decode cL_law 66 = .ok (.aload_n 0, 1) := by decide +kernel
theorem dL_law_67 : decode cL_law 67 = .ok (.iload_n 3, 1) := by decide +kernel
theorem dL_law_68 : decode cL_law 68 = .ok (.iaload, 1) := by decide +kernel
theorem dL_law_69 : decode cL_law 69 = .ok (.bipush 15, 2) := by decide +kernel
theorem dL_law_71 : decode cL_law 71 = .ok (.iand, 1) := by decide +kernel
theorem dL_law_72 : decode cL_law 72 = .ok (.tableswitch 325 0 12 #[68, 101, 124, 147, 170, 183, 196, 209, 222, 245, 268, 281, 314], 68) := by decide +kernel
theorem dL_law_140 : decode cL_law 140 = .ok (.aload_n 1, 1) := by decide +kernel
theorem dL_law_141 : decode cL_law 141 = .ok (.aload_n 0, 1) := by decide +kernel
theorem dL_law_142 : decode cL_law 142 = .ok (.iload_n 3, 1) := by decide +kernel
theorem dL_law_143 : decode cL_law 143 = .ok (.iconst 1, 1) := by decide +kernel
theorem dL_law_144 : decode cL_law 144 = .ok (.iadd, 1) := by decide +kernel
theorem dL_law_145 : decode cL_law 145 = .ok (.iaload, 1) := by decide +kernel
theorem dL_law_146 : decode cL_law 146 = .ok (.aload_n 0, 1) := by decide +kernel
theorem dL_law_147 : decode cL_law 147 = .ok (.iload_n 3, 1) := by decide +kernel
theorem dL_law_148 : decode cL_law 148 = .ok (.iconst 2, 1) := by decide +kernel
theorem dL_law_149 : decode cL_law 149 = .ok (.iadd, 1) := by decide +kernel
theorem dL_law_150 : decode cL_law 150 = .ok (.iaload, 1) := by decide +kernel
theorem dL_law_151 : decode cL_law 151 = .ok (.invokevirtual 21, 3) := by decide +kernel
theorem dL_law_154 : decode cL_law 154 = .ok (.aload_n 2, 1) := by decide +kernel
theorem dL_law_155 : decode cL_law 155 = .ok (.aload_n 0, 1) := by decide +kernel
theorem dL_law_156 : decode cL_law 156 = .ok (.iload_n 3, 1) := by decide +kernel
theorem dL_law_157 : decode cL_law 157 = .ok (.iconst 1, 1) := by decide +kernel
theorem dL_law_158 : decode cL_law 158 = .ok (.iadd, 1) := by decide +kernel
theorem dL_law_159 : decode cL_law 159 = .ok (.iaload, 1) := by decide +kernel
theorem dL_law_160 : decode cL_law 160 = .ok (.aload_n 0, 1) := by decide +kernel
theorem dL_law_161 : decode cL_law 161 = .ok (.iload_n 3, 1) := by decide +kernel
theorem dL_law_162 : decode cL_law 162 = .ok (.iconst 2, 1) := by decide +kernel
theorem dL_law_163 : decode cL_law 163 = .ok (.iadd, 1) := by decide +kernel
theorem dL_law_164 : decode cL_law 164 = .ok (.iaload, 1) := by decide +kernel
theorem dL_law_165 : decode cL_law 165 = .ok (.invokevirtual 25, 3) := by decide +kernel
theorem dL_law_168 : decode cL_law 168 = .ok (.if_icmp .eq 229, 3) := by decide +kernel
theorem dL_law_171 : decode cL_law 171 = .ok (.iconst 0, 1) := by decide +kernel
theorem dL_law_172 : decode cL_law 172 = .ok (.ireturn, 1) := by decide +kernel
theorem dL_law_173 : decode cL_law 173 = .ok (.aload_n 1, 1) := by decide +kernel
theorem dL_law_174 : decode cL_law 174 = .ok (.aload_n 0, 1) := by decide +kernel
theorem dL_law_175 : decode cL_law 175 = .ok (.iload_n 3, 1) := by decide +kernel
theorem dL_law_176 : decode cL_law 176 = .ok (.iconst 1, 1) := by decide +kernel
theorem dL_law_177 : decode cL_law 177 = .ok (.iadd, 1) := by decide +kernel
theorem dL_law_178 : decode cL_law 178 = .ok (.iaload, 1) := by decide +kernel
theorem dL_law_179 : decode cL_law 179 = .ok (.invokevirtual 26, 3) := by decide +kernel
theorem dL_law_182 : decode cL_law 182 = .ok (.aload_n 2, 1) := by decide +kernel
theorem dL_law_183 : decode cL_law 183 = .ok (.aload_n 0, 1) := by decide +kernel
theorem dL_law_184 : decode cL_law 184 = .ok (.iload_n 3, 1) := by decide +kernel
theorem dL_law_185 : decode cL_law 185 = .ok (.iconst 1, 1) := by decide +kernel
theorem dL_law_186 : decode cL_law 186 = .ok (.iadd, 1) := by decide +kernel
theorem dL_law_187 : decode cL_law 187 = .ok (.iaload, 1) := by decide +kernel
theorem dL_law_188 : decode cL_law 188 = .ok (.invokevirtual 30, 3) := by decide +kernel
theorem dL_law_191 : decode cL_law 191 = .ok (.if_icmp .eq 206, 3) := by decide +kernel
theorem dL_law_194 : decode cL_law 194 = .ok (.iconst 0, 1) := by decide +kernel
theorem dL_law_195 : decode cL_law 195 = .ok (.ireturn, 1) := by decide +kernel
theorem dL_law_196 : decode cL_law 196 = .ok (.aload_n 1, 1) := by decide +kernel
theorem dL_law_197 : decode cL_law 197 = .ok (.aload_n 0, 1) := by decide +kernel
theorem dL_law_198 : decode cL_law 198 = .ok (.iload_n 3, 1) := by decide +kernel
theorem dL_law_199 : decode cL_law 199 = .ok (.iconst 1, 1) := by decide +kernel
theorem dL_law_200 : decode cL_law 200 = .ok (.iadd, 1) := by decide +kernel
theorem dL_law_201 : decode cL_law 201 = .ok (.iaload, 1) := by decide +kernel
theorem dL_law_202 : decode cL_law 202 = .ok (.invokevirtual 31, 3) := by decide +kernel
theorem dL_law_205 : decode cL_law 205 = .ok (.aload_n 2, 1) := by decide +kernel
theorem dL_law_206 : decode cL_law 206 = .ok (.aload_n 0, 1) := by decide +kernel
theorem dL_law_207 : decode cL_law 207 = .ok (.iload_n 3, 1) := by decide +kernel
theorem dL_law_208 : decode cL_law 208 = .ok (.iconst 1, 1) := by decide +kernel
theorem dL_law_209 : decode cL_law 209 = .ok (.iadd, 1) := by decide +kernel
theorem dL_law_210 : decode cL_law 210 = .ok (.iaload, 1) := by decide +kernel
theorem dL_law_211 : decode cL_law 211 = .ok (.invokevirtual 35, 3) := by decide +kernel
theorem dL_law_214 : decode cL_law 214 = .ok (.if_icmp .eq 183, 3) := by decide +kernel
theorem dL_law_217 : decode cL_law 217 = .ok (.iconst 0, 1) := by decide +kernel
theorem dL_law_218 : decode cL_law 218 = .ok (.ireturn, 1) := by decide +kernel
theorem dL_law_219 : decode cL_law 219 = .ok (.aload_n 1, 1) := by decide +kernel
theorem dL_law_220 : decode cL_law 220 = .ok (.aload_n 0, 1) := by decide +kernel
theorem dL_law_221 : decode cL_law 221 = .ok (.iload_n 3, 1) := by decide +kernel
theorem dL_law_222 : decode cL_law 222 = .ok (.iconst 1, 1) := by decide +kernel
theorem dL_law_223 : decode cL_law 223 = .ok (.iadd, 1) := by decide +kernel
theorem dL_law_224 : decode cL_law 224 = .ok (.iaload, 1) := by decide +kernel
theorem dL_law_225 : decode cL_law 225 = .ok (.invokevirtual 36, 3) := by decide +kernel
theorem dL_law_228 : decode cL_law 228 = .ok (.aload_n 2, 1) := by decide +kernel
theorem dL_law_229 : decode cL_law 229 = .ok (.aload_n 0, 1) := by decide +kernel
theorem dL_law_230 : decode cL_law 230 = .ok (.iload_n 3, 1) := by decide +kernel
theorem dL_law_231 : decode cL_law 231 = .ok (.iconst 1, 1) := by decide +kernel
theorem dL_law_232 : decode cL_law 232 = .ok (.iadd, 1) := by decide +kernel
theorem dL_law_233 : decode cL_law 233 = .ok (.iaload, 1) := by decide +kernel
theorem dL_law_234 : decode cL_law 234 = .ok (.invokevirtual 39, 3) := by decide +kernel
theorem dL_law_237 : decode cL_law 237 = .ok (.if_icmp .eq 160, 3) := by decide +kernel
theorem dL_law_240 : decode cL_law 240 = .ok (.iconst 0, 1) := by decide +kernel
theorem dL_law_241 : decode cL_law 241 = .ok (.ireturn, 1) := by decide +kernel
theorem dL_law_242 : decode cL_law 242 = .ok (.aload_n 1, 1) := by decide +kernel
theorem dL_law_243 : decode cL_law 243 = .ok (.invokevirtual 40, 3) := by decide +kernel
theorem dL_law_246 : decode cL_law 246 = .ok (.aload_n 2, 1) := by decide +kernel
theorem dL_law_247 : decode cL_law 247 = .ok (.invokevirtual 44, 3) := by decide +kernel
theorem dL_law_250 : decode cL_law 250 = .ok (.if_icmp .eq 147, 3) := by decide +kernel
theorem dL_law_253 : decode cL_law 253 = .ok (.iconst 0, 1) := by decide +kernel
theorem dL_law_254 : decode cL_law 254 = .ok (.ireturn, 1) := by decide +kernel
theorem dL_law_255 : decode cL_law 255 = .ok (.aload_n 1, 1) := by decide +kernel
theorem dL_law_256 : decode cL_law 256 = .ok (.invokevirtual 45, 3) := by decide +kernel
theorem dL_law_259 : decode cL_law 259 = .ok (.aload_n 2, 1) := by decide +kernel
theorem dL_law_260 : decode cL_law 260 = .ok (.invokevirtual 48, 3) := by decide +kernel
theorem dL_law_263 : decode cL_law 263 = .ok (.if_icmp .eq 134, 3) := by decide +kernel
theorem dL_law_266 : decode cL_law 266 = .ok (.iconst 0, 1) := by decide +kernel
theorem dL_law_267 : decode cL_law 267 = .ok (.ireturn, 1) := by decide +kernel
theorem dL_law_268 : decode cL_law 268 = .ok (.aload_n 1, 1) := by decide +kernel
theorem dL_law_269 : decode cL_law 269 = .ok (.invokevirtual 49, 3) := by decide +kernel
theorem dL_law_272 : decode cL_law 272 = .ok (.aload_n 2, 1) := by decide +kernel
theorem dL_law_273 : decode cL_law 273 = .ok (.invokevirtual 52, 3) := by decide +kernel
theorem dL_law_276 : decode cL_law 276 = .ok (.if_icmp .eq 121, 3) := by decide +kernel
theorem dL_law_279 : decode cL_law 279 = .ok (.iconst 0, 1) := by decide +kernel
theorem dL_law_280 : decode cL_law 280 = .ok (.ireturn, 1) := by decide +kernel
theorem dL_law_281 : decode cL_law 281 = .ok (.aload_n 1, 1) := by decide +kernel
theorem dL_law_282 : decode cL_law 282 = .ok (.invokevirtual 53, 3) := by decide +kernel
theorem dL_law_285 : decode cL_law 285 = .ok (.aload_n 2, 1) := by decide +kernel
theorem dL_law_286 : decode cL_law 286 = .ok (.invokevirtual 56, 3) := by decide +kernel
theorem dL_law_289 : decode cL_law 289 = .ok (.if_icmp .eq 108, 3) := by decide +kernel
theorem dL_law_292 : decode cL_law 292 = .ok (.iconst 0, 1) := by decide +kernel
theorem dL_law_293 : decode cL_law 293 = .ok (.ireturn, 1) := by decide +kernel
theorem dL_law_294 : decode cL_law 294 = .ok (.aload_n 1, 1) := by decide +kernel
theorem dL_law_295 : decode cL_law 295 = .ok (.aload_n 0, 1) := by decide +kernel
theorem dL_law_296 : decode cL_law 296 = .ok (.iload_n 3, 1) := by decide +kernel
theorem dL_law_297 : decode cL_law 297 = .ok (.iconst 1, 1) := by decide +kernel
theorem dL_law_298 : decode cL_law 298 = .ok (.iadd, 1) := by decide +kernel
theorem dL_law_299 : decode cL_law 299 = .ok (.iaload, 1) := by decide +kernel
theorem dL_law_300 : decode cL_law 300 = .ok (.invokevirtual 57, 3) := by decide +kernel
theorem dL_law_303 : decode cL_law 303 = .ok (.aload_n 2, 1) := by decide +kernel
theorem dL_law_304 : decode cL_law 304 = .ok (.aload_n 0, 1) := by decide +kernel
theorem dL_law_305 : decode cL_law 305 = .ok (.iload_n 3, 1) := by decide +kernel
theorem dL_law_306 : decode cL_law 306 = .ok (.iconst 1, 1) := by decide +kernel
theorem dL_law_307 : decode cL_law 307 = .ok (.iadd, 1) := by decide +kernel
theorem dL_law_308 : decode cL_law 308 = .ok (.iaload, 1) := by decide +kernel
theorem dL_law_309 : decode cL_law 309 = .ok (.invokevirtual 60, 3) := by decide +kernel
theorem dL_law_312 : decode cL_law 312 = .ok (.if_icmp .eq 85, 3) := by decide +kernel
theorem dL_law_315 : decode cL_law 315 = .ok (.iconst 0, 1) := by decide +kernel
theorem dL_law_316 : decode cL_law 316 = .ok (.ireturn, 1) := by decide +kernel
theorem dL_law_317 : decode cL_law 317 = .ok (.aload_n 1, 1) := by decide +kernel
theorem dL_law_318 : decode cL_law 318 = .ok (.aload_n 0, 1) := by decide +kernel
theorem dL_law_319 : decode cL_law 319 = .ok (.iload_n 3, 1) := by decide +kernel
theorem dL_law_320 : decode cL_law 320 = .ok (.iconst 1, 1) := by decide +kernel
theorem dL_law_321 : decode cL_law 321 = .ok (.iadd, 1) := by decide +kernel
theorem dL_law_322 : decode cL_law 322 = .ok (.iaload, 1) := by decide +kernel
theorem dL_law_323 : decode cL_law 323 = .ok (.invokevirtual 61, 3) := by decide +kernel
theorem dL_law_326 : decode cL_law 326 = .ok (.aload_n 2, 1) := by decide +kernel
theorem dL_law_327 : decode cL_law 327 = .ok (.aload_n 0, 1) := by decide +kernel
theorem dL_law_328 : decode cL_law 328 = .ok (.iload_n 3, 1) := by decide +kernel
theorem dL_law_329 : decode cL_law 329 = .ok (.iconst 1, 1) := by decide +kernel
theorem dL_law_330 : decode cL_law 330 = .ok (.iadd, 1) := by decide +kernel
theorem dL_law_331 : decode cL_law 331 = .ok (.iaload, 1) := by decide +kernel
theorem dL_law_332 : decode cL_law 332 = .ok (.invokevirtual 64, 3) := by decide +kernel
theorem dL_law_335 : decode cL_law 335 = .ok (.if_icmp .eq 62, 3) := by decide +kernel
theorem dL_law_338 : decode cL_law 338 = .ok (.iconst 0, 1) := by decide +kernel
theorem dL_law_339 : decode cL_law 339 = .ok (.ireturn, 1) := by decide +kernel
theorem dL_law_340 : decode cL_law 340 = .ok (.aload_n 1, 1) := by decide +kernel
theorem dL_law_341 : decode cL_law 341 = .ok (.invokevirtual 65, 3) := by decide +kernel
theorem dL_law_344 : decode cL_law 344 = .ok (.aload_n 2, 1) := by decide +kernel
theorem dL_law_345 : decode cL_law 345 = .ok (.invokevirtual 68, 3) := by decide +kernel
theorem dL_law_348 : decode cL_law 348 = .ok (.if_icmp .eq 49, 3) := by decide +kernel
theorem dL_law_351 : decode cL_law 351 = .ok (.iconst 0, 1) := by decide +kernel
theorem dL_law_352 : decode cL_law 352 = .ok (.ireturn, 1) := by decide +kernel
theorem dL_law_353 : decode cL_law 353 = .ok (.aload_n 1, 1) := by decide +kernel
theorem dL_law_354 : decode cL_law 354 = .ok (.aload_n 0, 1) := by decide +kernel
theorem dL_law_355 : decode cL_law 355 = .ok (.iload_n 3, 1) := by decide +kernel
theorem dL_law_356 : decode cL_law 356 = .ok (.iconst 1, 1) := by decide +kernel
theorem dL_law_357 : decode cL_law 357 = .ok (.iadd, 1) := by decide +kernel
theorem dL_law_358 : decode cL_law 358 = .ok (.iaload, 1) := by decide +kernel
theorem dL_law_359 : decode cL_law 359 = .ok (.aload_n 0, 1) := by decide +kernel
theorem dL_law_360 : decode cL_law 360 = .ok (.iload_n 3, 1) := by decide +kernel
theorem dL_law_361 : decode cL_law 361 = .ok (.iconst 2, 1) := by decide +kernel
theorem dL_law_362 : decode cL_law 362 = .ok (.iadd, 1) := by decide +kernel
theorem dL_law_363 : decode cL_law 363 = .ok (.iaload, 1) := by decide +kernel
theorem dL_law_364 : decode cL_law 364 = .ok (.invokevirtual 69, 3) := by decide +kernel
theorem dL_law_367 : decode cL_law 367 = .ok (.aload_n 2, 1) := by decide +kernel
theorem dL_law_368 : decode cL_law 368 = .ok (.aload_n 0, 1) := by decide +kernel
theorem dL_law_369 : decode cL_law 369 = .ok (.iload_n 3, 1) := by decide +kernel
theorem dL_law_370 : decode cL_law 370 = .ok (.iconst 1, 1) := by decide +kernel
theorem dL_law_371 : decode cL_law 371 = .ok (.iadd, 1) := by decide +kernel
theorem dL_law_372 : decode cL_law 372 = .ok (.iaload, 1) := by decide +kernel
theorem dL_law_373 : decode cL_law 373 = .ok (.aload_n 0, 1) := by decide +kernel
theorem dL_law_374 : decode cL_law 374 = .ok (.iload_n 3, 1) := by decide +kernel
theorem dL_law_375 : decode cL_law 375 = .ok (.iconst 2, 1) := by decide +kernel
theorem dL_law_376 : decode cL_law 376 = .ok (.iadd, 1) := by decide +kernel
theorem dL_law_377 : decode cL_law 377 = .ok (.iaload, 1) := by decide +kernel
theorem dL_law_378 : decode cL_law 378 = .ok (.invokevirtual 72, 3) := by decide +kernel
theorem dL_law_381 : decode cL_law 381 = .ok (.if_icmp .eq 16, 3) := by decide +kernel
theorem dL_law_384 : decode cL_law 384 = .ok (.iconst 0, 1) := by decide +kernel
theorem dL_law_385 : decode cL_law 385 = .ok (.ireturn, 1) := by decide +kernel
theorem dL_law_386 : decode cL_law 386 = .ok (.aload_n 1, 1) := by decide +kernel
theorem dL_law_387 : decode cL_law 387 = .ok (.invokevirtual 73, 3) := by decide +kernel
theorem dL_law_390 : decode cL_law 390 = .ok (.aload_n 2, 1) := by decide +kernel
theorem dL_law_391 : decode cL_law 391 = .ok (.invokevirtual 76, 3) := by decide +kernel
theorem dL_law_394 : decode cL_law 394 = .ok (.goto 3, 3) := by decide +kernel
theorem dL_law_397 : decode cL_law 397 = .ok (.iinc 3 3, 3) := by decide +kernel
theorem dL_law_400 : decode cL_law 400 = .ok (.goto (-342), 3) := by decide +kernel
theorem dL_law_403 : decode cL_law 403 = .ok (.iconst 1, 1) := by decide +kernel
theorem dL_law_404 : decode cL_law 404 = .ok (.ireturn, 1) := by decide +kernel
abbrev vwCl : List vw_C := [(RX0, TX0, 10), (RX1, TX1, 11)]
