section
-- ===== PART A: goes FIRST, ahead of the names: the tables' words, and 'selects' of the private methods out of them =====
/-- a private method of a class that the tables say can be made, by its rows of tables_1 -/
def lw_okq (q : MethodName × Nat) : Prop := (q.1.cls ≠ "java/lang/invoke/MethodHandle" ∧ q.1.cls ≠ "java/lang/invoke/VarHandle") ∧ Cond.instantiable q.1.cls q.2 ∈ tables_1 ∧ Cond.privateMethod q.1 ∈ tables_1 ∧ Cond.instanceMethod q.1 ∈ tables_1
theorem lw_p0 : lw_okq (⟨"PointerBuckets", "placeOf", "(I)I"⟩, 10) := ⟨⟨by decide +kernel, by decide +kernel⟩, List.mem_of_getElem? (i := 5) (by decide +kernel), List.mem_of_getElem? (i := 58) (by decide +kernel), List.mem_of_getElem? (i := 59) (by decide +kernel)⟩
theorem lw_p1 : lw_okq (⟨"PointerBuckets", "putNew", "(II)I"⟩, 10) := ⟨⟨by decide +kernel, by decide +kernel⟩, List.mem_of_getElem? (i := 5) (by decide +kernel), List.mem_of_getElem? (i := 62) (by decide +kernel), List.mem_of_getElem? (i := 63) (by decide +kernel)⟩
theorem lw_p2 : lw_okq (⟨"PointerBuckets", "isCrowded", "()Z"⟩, 10) := ⟨⟨by decide +kernel, by decide +kernel⟩, List.mem_of_getElem? (i := 5) (by decide +kernel), List.mem_of_getElem? (i := 66) (by decide +kernel), List.mem_of_getElem? (i := 67) (by decide +kernel)⟩
theorem lw_p3 : lw_okq (⟨"PointerBuckets", "bucketsAtLevelStart", "()I"⟩, 10) := ⟨⟨by decide +kernel, by decide +kernel⟩, List.mem_of_getElem? (i := 5) (by decide +kernel), List.mem_of_getElem? (i := 74) (by decide +kernel), List.mem_of_getElem? (i := 75) (by decide +kernel)⟩
theorem lw_p4 : lw_okq (⟨"PointerBuckets", "part", "()V"⟩, 10) := ⟨⟨by decide +kernel, by decide +kernel⟩, List.mem_of_getElem? (i := 5) (by decide +kernel), List.mem_of_getElem? (i := 78) (by decide +kernel), List.mem_of_getElem? (i := 79) (by decide +kernel)⟩
theorem lw_p5 : lw_okq (⟨"PointerBuckets", "pagesNeeded", "()I"⟩, 10) := ⟨⟨by decide +kernel, by decide +kernel⟩, List.mem_of_getElem? (i := 5) (by decide +kernel), List.mem_of_getElem? (i := 82) (by decide +kernel), List.mem_of_getElem? (i := 83) (by decide +kernel)⟩
theorem lw_p6 : lw_okq (⟨"PointerBuckets", "pagesFor", "(I)I"⟩, 10) := ⟨⟨by decide +kernel, by decide +kernel⟩, List.mem_of_getElem? (i := 5) (by decide +kernel), List.mem_of_getElem? (i := 91) (by decide +kernel), List.mem_of_getElem? (i := 92) (by decide +kernel)⟩
theorem lw_p7 : lw_okq (⟨"PointerBuckets", "takeOut", "(I)V"⟩, 10) := ⟨⟨by decide +kernel, by decide +kernel⟩, List.mem_of_getElem? (i := 5) (by decide +kernel), List.mem_of_getElem? (i := 107) (by decide +kernel), List.mem_of_getElem? (i := 108) (by decide +kernel)⟩
theorem lw_p8 : lw_okq (⟨"PointerBuckets", "lastPlaceOfBucket", "(I)I"⟩, 10) := ⟨⟨by decide +kernel, by decide +kernel⟩, List.mem_of_getElem? (i := 5) (by decide +kernel), List.mem_of_getElem? (i := 111) (by decide +kernel), List.mem_of_getElem? (i := 112) (by decide +kernel)⟩
theorem lw_p9 : lw_okq (⟨"PointerBuckets", "moveToEnd", "(I)V"⟩, 10) := ⟨⟨by decide +kernel, by decide +kernel⟩, List.mem_of_getElem? (i := 5) (by decide +kernel), List.mem_of_getElem? (i := 115) (by decide +kernel), List.mem_of_getElem? (i := 116) (by decide +kernel)⟩
theorem lw_p10 : lw_okq (⟨"PointerBuckets", "isSparse", "()Z"⟩, 10) := ⟨⟨by decide +kernel, by decide +kernel⟩, List.mem_of_getElem? (i := 5) (by decide +kernel), List.mem_of_getElem? (i := 119) (by decide +kernel), List.mem_of_getElem? (i := 120) (by decide +kernel)⟩
theorem lw_p11 : lw_okq (⟨"PointerBuckets", "join", "()V"⟩, 10) := ⟨⟨by decide +kernel, by decide +kernel⟩, List.mem_of_getElem? (i := 5) (by decide +kernel), List.mem_of_getElem? (i := 123) (by decide +kernel), List.mem_of_getElem? (i := 124) (by decide +kernel)⟩
theorem lw_p12 : lw_okq (⟨"PointerBuckets", "moveBucketToEnd", "(I)V"⟩, 10) := ⟨⟨by decide +kernel, by decide +kernel⟩, List.mem_of_getElem? (i := 5) (by decide +kernel), List.mem_of_getElem? (i := 127) (by decide +kernel), List.mem_of_getElem? (i := 128) (by decide +kernel)⟩
theorem lw_p13 : lw_okq (⟨"PointerBuckets", "isBucket", "(I)Z"⟩, 10) := ⟨⟨by decide +kernel, by decide +kernel⟩, List.mem_of_getElem? (i := 5) (by decide +kernel), List.mem_of_getElem? (i := 149) (by decide +kernel), List.mem_of_getElem? (i := 150) (by decide +kernel)⟩
theorem lw_p14 : lw_okq (⟨"PointerBucketsModel", "round", "()I"⟩, 11) := ⟨⟨by decide +kernel, by decide +kernel⟩, List.mem_of_getElem? (i := 168) (by decide +kernel), List.mem_of_getElem? (i := 212) (by decide +kernel), List.mem_of_getElem? (i := 213) (by decide +kernel)⟩
theorem lw_p15 : lw_okq (⟨"PointerBucketsModel", "find", "(I)I"⟩, 11) := ⟨⟨by decide +kernel, by decide +kernel⟩, List.mem_of_getElem? (i := 168) (by decide +kernel), List.mem_of_getElem? (i := 225) (by decide +kernel), List.mem_of_getElem? (i := 226) (by decide +kernel)⟩
def lw_privs_1 : List (MethodName × Nat) := [(⟨"PointerBuckets", "placeOf", "(I)I"⟩, 10), (⟨"PointerBuckets", "putNew", "(II)I"⟩, 10), (⟨"PointerBuckets", "isCrowded", "()Z"⟩, 10), (⟨"PointerBuckets", "bucketsAtLevelStart", "()I"⟩, 10), (⟨"PointerBuckets", "part", "()V"⟩, 10), (⟨"PointerBuckets", "pagesNeeded", "()I"⟩, 10), (⟨"PointerBuckets", "pagesFor", "(I)I"⟩, 10), (⟨"PointerBuckets", "takeOut", "(I)V"⟩, 10), (⟨"PointerBuckets", "lastPlaceOfBucket", "(I)I"⟩, 10), (⟨"PointerBuckets", "moveToEnd", "(I)V"⟩, 10), (⟨"PointerBuckets", "isSparse", "()Z"⟩, 10), (⟨"PointerBuckets", "join", "()V"⟩, 10), (⟨"PointerBuckets", "moveBucketToEnd", "(I)V"⟩, 10), (⟨"PointerBuckets", "isBucket", "(I)Z"⟩, 10), (⟨"PointerBucketsModel", "round", "()I"⟩, 11), (⟨"PointerBucketsModel", "find", "(I)I"⟩, 11)]
theorem lw_r1 : ∀ q ∈ lw_privs_1, lw_okq q := List.forall_mem_cons.mpr ⟨lw_p0, List.forall_mem_cons.mpr ⟨lw_p1, List.forall_mem_cons.mpr ⟨lw_p2, List.forall_mem_cons.mpr ⟨lw_p3, List.forall_mem_cons.mpr ⟨lw_p4, List.forall_mem_cons.mpr ⟨lw_p5, List.forall_mem_cons.mpr ⟨lw_p6, List.forall_mem_cons.mpr ⟨lw_p7, List.forall_mem_cons.mpr ⟨lw_p8, List.forall_mem_cons.mpr ⟨lw_p9, List.forall_mem_cons.mpr ⟨lw_p10, List.forall_mem_cons.mpr ⟨lw_p11, List.forall_mem_cons.mpr ⟨lw_p12, List.forall_mem_cons.mpr ⟨lw_p13, List.forall_mem_cons.mpr ⟨lw_p14, List.forall_mem_cons.mpr ⟨lw_p15, fun _ h => absurd h List.not_mem_nil⟩⟩⟩⟩⟩⟩⟩⟩⟩⟩⟩⟩⟩⟩⟩⟩
theorem lw_p16 : lw_okq (⟨"PointerBucketsModel", "forth", "()V"⟩, 11) := ⟨⟨by decide +kernel, by decide +kernel⟩, List.mem_of_getElem? (i := 168) (by decide +kernel), List.mem_of_getElem? (i := 230) (by decide +kernel), List.mem_of_getElem? (i := 231) (by decide +kernel)⟩
theorem lw_p17 : lw_okq (⟨"PointerBucketsModel", "settle", "()V"⟩, 11) := ⟨⟨by decide +kernel, by decide +kernel⟩, List.mem_of_getElem? (i := 168) (by decide +kernel), List.mem_of_getElem? (i := 234) (by decide +kernel), List.mem_of_getElem? (i := 235) (by decide +kernel)⟩
theorem lw_p18 : lw_okq (⟨"PointerBucketsModel", "needed", "()I"⟩, 11) := ⟨⟨by decide +kernel, by decide +kernel⟩, List.mem_of_getElem? (i := 168) (by decide +kernel), List.mem_of_getElem? (i := 239) (by decide +kernel), List.mem_of_getElem? (i := 240) (by decide +kernel)⟩
theorem lw_p19 : lw_okq (⟨"PointerBucketsModel", "count", "()V"⟩, 11) := ⟨⟨by decide +kernel, by decide +kernel⟩, List.mem_of_getElem? (i := 168) (by decide +kernel), List.mem_of_getElem? (i := 243) (by decide +kernel), List.mem_of_getElem? (i := 244) (by decide +kernel)⟩
theorem lw_p20 : lw_okq (⟨"PointerBucketsModel", "pagesFor", "(I)I"⟩, 11) := ⟨⟨by decide +kernel, by decide +kernel⟩, List.mem_of_getElem? (i := 168) (by decide +kernel), List.mem_of_getElem? (i := 247) (by decide +kernel), List.mem_of_getElem? (i := 248) (by decide +kernel)⟩
theorem lw_p21 : lw_okq (⟨"PointerBucketsModel", "back", "()V"⟩, 11) := ⟨⟨by decide +kernel, by decide +kernel⟩, List.mem_of_getElem? (i := 168) (by decide +kernel), List.mem_of_getElem? (i := 251) (by decide +kernel), List.mem_of_getElem? (i := 252) (by decide +kernel)⟩
theorem lw_p22 : lw_okq (⟨"PointerBucketsModel", "cut", "(I)V"⟩, 11) := ⟨⟨by decide +kernel, by decide +kernel⟩, List.mem_of_getElem? (i := 168) (by decide +kernel), List.mem_of_getElem? (i := 267) (by decide +kernel), List.mem_of_getElem? (i := 268) (by decide +kernel)⟩
theorem lw_p23 : lw_okq (⟨"PointerBucketsModel", "toEnd", "(I)V"⟩, 11) := ⟨⟨by decide +kernel, by decide +kernel⟩, List.mem_of_getElem? (i := 168) (by decide +kernel), List.mem_of_getElem? (i := 271) (by decide +kernel), List.mem_of_getElem? (i := 272) (by decide +kernel)⟩
def lw_privs_2 : List (MethodName × Nat) := [(⟨"PointerBucketsModel", "forth", "()V"⟩, 11), (⟨"PointerBucketsModel", "settle", "()V"⟩, 11), (⟨"PointerBucketsModel", "needed", "()I"⟩, 11), (⟨"PointerBucketsModel", "count", "()V"⟩, 11), (⟨"PointerBucketsModel", "pagesFor", "(I)I"⟩, 11), (⟨"PointerBucketsModel", "back", "()V"⟩, 11), (⟨"PointerBucketsModel", "cut", "(I)V"⟩, 11), (⟨"PointerBucketsModel", "toEnd", "(I)V"⟩, 11)]
theorem lw_r2 : ∀ q ∈ lw_privs_2, lw_okq q := List.forall_mem_cons.mpr ⟨lw_p16, List.forall_mem_cons.mpr ⟨lw_p17, List.forall_mem_cons.mpr ⟨lw_p18, List.forall_mem_cons.mpr ⟨lw_p19, List.forall_mem_cons.mpr ⟨lw_p20, List.forall_mem_cons.mpr ⟨lw_p21, List.forall_mem_cons.mpr ⟨lw_p22, List.forall_mem_cons.mpr ⟨lw_p23, fun _ h => absurd h List.not_mem_nil⟩⟩⟩⟩⟩⟩⟩⟩
def lw_privs : List (MethodName × Nat) := lw_privs_1 ++ (lw_privs_2)
def lw_tbl : List Cond := k2_sels lw_privs ++ tables_1
theorem lw_privs_ok : ∀ q ∈ lw_privs, lw_okq q := by
  show ∀ q ∈ lw_privs_1 ++ (lw_privs_2), lw_okq q
  exact List.forall_mem_append.mpr ⟨lw_r1, lw_r2⟩
end
section
/-! ===== BEGIN words of one list among another's, by their places ===== -/
theorem goodIn_r {big : List Cond} (ws : List Cond) (ps : List Nat) (hp : ws = ps.filterMap (fun i => big[i]?)) (h : ws.all goodWord = true) : GoodIn big ws := by
  intro w hw
  have h1 := List.all_eq_true.mp h w hw
  rw [hp] at hw
  obtain ⟨i, -, hi⟩ := List.mem_filterMap.mp hw
  have hm : w ∈ big := by first | exact List.mem_of_getElem? hi | exact List.getElem?_mem hi
  exact ⟨hm, good_of_word h1⟩
theorem goodIn_app {big a b : List Cond} (ha : GoodIn big a) (hb : GoodIn big b) : GoodIn big (a ++ b) := fun w h => (List.mem_append.mp h).elim (ha w) (hb w)
theorem goodIn_ca {big a b : List Cond} {c : Cond} (ha : GoodIn big (c :: a)) (hb : GoodIn big b) : GoodIn big (c :: (a ++ b)) := fun w h => (List.mem_cons.mp h).elim (fun e => ha w (List.mem_cons.mpr (Or.inl e))) (fun h => (List.mem_append.mp h).elim (fun h => ha w (List.mem_cons.mpr (Or.inr h))) (hb w))
theorem goodIn_sub {big ws : List Cond} (hm : ∀ w ∈ ws, w ∈ big) (h : ws.all goodWord = true) : GoodIn big ws := fun w hw => ⟨hm w hw, good_of_word (List.all_eq_true.mp h w hw)⟩
/-! ===== END ===== -/

/-! ===== BEGIN printed: names, fields, word lists, decode rows ===== -/
def RX0 : String := "PointerBuckets"
def TX0 : u_T := fun k => match k with
  | 0 => ("PointerBuckets", "base", "I", true)
  | 1 => ("PointerBuckets", "cap", "I", true)
  | 2 => ("PointerBuckets", "pageLimit", "I", true)
  | 3 => ("PointerBuckets", "bucketLimit", "I", true)
  | 4 => ("PointerBuckets", "keys", "[I", true)
  | 5 => ("PointerBuckets", "values", "[I", true)
  | 6 => ("PointerBuckets", "count", "I", false)
  | 7 => ("PointerBuckets", "level", "I", false)
  | 8 => ("PointerBuckets", "pointer", "I", false)
  | _ => ("PointerBuckets", "rowLengths", "[I", true)
def tyX0 : Nat → FieldType := fun k => match k with
  | 0 => .int
  | 1 => .int
  | 2 => .int
  | 3 => .int
  | 4 => .array .int
  | 5 => .array .int
  | 6 => .int
  | 7 => .int
  | 8 => .int
  | _ => .array .int
abbrev wsX00 : List Cond := u_ws RX0 TX0 10
theorem nmX0 : ∀ a, a < 10 → ∀ b, b < 10 → a ≠ b → (TX0 a).2.1 ≠ (TX0 b).2.1 := by decide +kernel
theorem tyX0_ok : ∀ k, k < 10 → parseFieldDescriptor (TX0 k).2.2.1 = some (tyX0 k) := by decide +kernel
abbrev cX0_init : ByteArray := prog_1_method_1_code
def yX0_init : MethodName := ⟨RX0, "<init>", "(IIII)V"⟩
abbrev cX0_put : ByteArray := prog_1_method_2_code
def yX0_put : MethodName := ⟨RX0, "put", "(II)I"⟩
abbrev cX0_get : ByteArray := prog_1_method_3_code
def yX0_get : MethodName := ⟨RX0, "get", "(I)I"⟩
abbrev cX0_has : ByteArray := prog_1_method_4_code
def yX0_has : MethodName := ⟨RX0, "has", "(I)Z"⟩
abbrev cX0_remove : ByteArray := prog_1_method_5_code
def yX0_remove : MethodName := ⟨RX0, "remove", "(I)Z"⟩
abbrev cX0_size : ByteArray := prog_1_method_6_code
def yX0_size : MethodName := ⟨RX0, "size", "()I"⟩
abbrev cX0_buckets : ByteArray := prog_1_method_7_code
def yX0_buckets : MethodName := ⟨RX0, "buckets", "()I"⟩
abbrev cX0_level : ByteArray := prog_1_method_8_code
def yX0_level : MethodName := ⟨RX0, "level", "()I"⟩
abbrev cX0_pointer : ByteArray := prog_1_method_9_code
def yX0_pointer : MethodName := ⟨RX0, "pointer", "()I"⟩
abbrev cX0_bucketOf : ByteArray := prog_1_method_10_code
def yX0_bucketOf : MethodName := ⟨RX0, "bucketOf", "(I)I"⟩
abbrev cX0_pages : ByteArray := prog_1_method_11_code
def yX0_pages : MethodName := ⟨RX0, "pages", "(I)I"⟩
abbrev cX0_free : ByteArray := prog_1_method_12_code
def yX0_free : MethodName := ⟨RX0, "free", "()I"⟩
abbrev cX0_key : ByteArray := prog_1_method_13_code
def yX0_key : MethodName := ⟨RX0, "key", "(II)I"⟩
abbrev cX0_clear : ByteArray := prog_1_method_14_code
def yX0_clear : MethodName := ⟨RX0, "clear", "()V"⟩
abbrev cX0_within : ByteArray := prog_1_method_15_code
def yX0_within : MethodName := ⟨RX0, "within", "(III)I"⟩
abbrev cX0_bucketsAtLevelStart : ByteArray := prog_1_method_16_code
def yX0_bucketsAtLevelStart : MethodName := ⟨RX0, "bucketsAtLevelStart", "()I"⟩
abbrev cX0_isBucket : ByteArray := prog_1_method_17_code
def yX0_isBucket : MethodName := ⟨RX0, "isBucket", "(I)Z"⟩
abbrev cX0_isCrowded : ByteArray := prog_1_method_18_code
def yX0_isCrowded : MethodName := ⟨RX0, "isCrowded", "()Z"⟩
abbrev cX0_isSparse : ByteArray := prog_1_method_19_code
def yX0_isSparse : MethodName := ⟨RX0, "isSparse", "()Z"⟩
abbrev cX0_placeOf : ByteArray := prog_1_method_20_code
def yX0_placeOf : MethodName := ⟨RX0, "placeOf", "(I)I"⟩
abbrev cX0_lastPlaceOfBucket : ByteArray := prog_1_method_21_code
def yX0_lastPlaceOfBucket : MethodName := ⟨RX0, "lastPlaceOfBucket", "(I)I"⟩
abbrev cX0_putNew : ByteArray := prog_1_method_22_code
def yX0_putNew : MethodName := ⟨RX0, "putNew", "(II)I"⟩
abbrev cX0_part : ByteArray := prog_1_method_23_code
def yX0_part : MethodName := ⟨RX0, "part", "()V"⟩
abbrev cX0_join : ByteArray := prog_1_method_24_code
def yX0_join : MethodName := ⟨RX0, "join", "()V"⟩
abbrev cX0_takeOut : ByteArray := prog_1_method_25_code
def yX0_takeOut : MethodName := ⟨RX0, "takeOut", "(I)V"⟩
abbrev cX0_moveBucketToEnd : ByteArray := prog_1_method_26_code
def yX0_moveBucketToEnd : MethodName := ⟨RX0, "moveBucketToEnd", "(I)V"⟩
abbrev cX0_moveToEnd : ByteArray := prog_1_method_27_code
def yX0_moveToEnd : MethodName := ⟨RX0, "moveToEnd", "(I)V"⟩
abbrev cX0_pagesFor : ByteArray := prog_1_method_28_code
def yX0_pagesFor : MethodName := ⟨RX0, "pagesFor", "(I)I"⟩
abbrev cX0_pagesNeeded : ByteArray := prog_1_method_29_code
def yX0_pagesNeeded : MethodName := ⟨RX0, "pagesNeeded", "()I"⟩
def RX1 : String := "PointerBucketsModel"
def TX1 : u_T := fun k => match k with
  | 0 => ("PointerBucketsModel", "base", "I", true)
  | 1 => ("PointerBucketsModel", "cap", "I", true)
  | 2 => ("PointerBucketsModel", "most", "I", true)
  | 3 => ("PointerBucketsModel", "mostBuckets", "I", true)
  | 4 => ("PointerBucketsModel", "size", "I", false)
  | 5 => ("PointerBucketsModel", "keys", "[I", true)
  | 6 => ("PointerBucketsModel", "values", "[I", true)
  | 7 => ("PointerBucketsModel", "homes", "[I", true)
  | 8 => ("PointerBucketsModel", "level", "I", false)
  | 9 => ("PointerBucketsModel", "pointer", "I", false)
  | _ => ("PointerBucketsModel", "counts", "[I", true)
def tyX1 : Nat → FieldType := fun k => match k with
  | 0 => .int
  | 1 => .int
  | 2 => .int
  | 3 => .int
  | 4 => .int
  | 5 => .array .int
  | 6 => .array .int
  | 7 => .array .int
  | 8 => .int
  | 9 => .int
  | _ => .array .int
abbrev wsX10 : List Cond := u_ws RX1 TX1 11
theorem nmX1 : ∀ a, a < 11 → ∀ b, b < 11 → a ≠ b → (TX1 a).2.1 ≠ (TX1 b).2.1 := by decide +kernel
theorem tyX1_ok : ∀ k, k < 11 → parseFieldDescriptor (TX1 k).2.2.1 = some (tyX1 k) := by decide +kernel
abbrev cX1_init : ByteArray := prog_3_method_1_code
def yX1_init : MethodName := ⟨RX1, "<init>", "(IIII)V"⟩
abbrev cX1_round : ByteArray := prog_3_method_2_code
def yX1_round : MethodName := ⟨RX1, "round", "()I"⟩
abbrev cX1_buckets : ByteArray := prog_3_method_3_code
def yX1_buckets : MethodName := ⟨RX1, "buckets", "()I"⟩
abbrev cX1_bucketOf : ByteArray := prog_3_method_4_code
def yX1_bucketOf : MethodName := ⟨RX1, "bucketOf", "(I)I"⟩
abbrev cX1_find : ByteArray := prog_3_method_5_code
def yX1_find : MethodName := ⟨RX1, "find", "(I)I"⟩
abbrev cX1_count : ByteArray := prog_3_method_6_code
def yX1_count : MethodName := ⟨RX1, "count", "()V"⟩
abbrev cX1_pagesFor : ByteArray := prog_3_method_7_code
def yX1_pagesFor : MethodName := ⟨RX1, "pagesFor", "(I)I"⟩
abbrev cX1_needed : ByteArray := prog_3_method_8_code
def yX1_needed : MethodName := ⟨RX1, "needed", "()I"⟩
abbrev cX1_settle : ByteArray := prog_3_method_9_code
def yX1_settle : MethodName := ⟨RX1, "settle", "()V"⟩
abbrev cX1_forth : ByteArray := prog_3_method_10_code
def yX1_forth : MethodName := ⟨RX1, "forth", "()V"⟩
abbrev cX1_back : ByteArray := prog_3_method_11_code
def yX1_back : MethodName := ⟨RX1, "back", "()V"⟩
abbrev cX1_put : ByteArray := prog_3_method_12_code
def yX1_put : MethodName := ⟨RX1, "put", "(II)I"⟩
abbrev cX1_get : ByteArray := prog_3_method_13_code
def yX1_get : MethodName := ⟨RX1, "get", "(I)I"⟩
abbrev cX1_has : ByteArray := prog_3_method_14_code
def yX1_has : MethodName := ⟨RX1, "has", "(I)Z"⟩
abbrev cX1_cut : ByteArray := prog_3_method_15_code
def yX1_cut : MethodName := ⟨RX1, "cut", "(I)V"⟩
abbrev cX1_toEnd : ByteArray := prog_3_method_16_code
def yX1_toEnd : MethodName := ⟨RX1, "toEnd", "(I)V"⟩
abbrev cX1_remove : ByteArray := prog_3_method_17_code
def yX1_remove : MethodName := ⟨RX1, "remove", "(I)Z"⟩
abbrev cX1_size : ByteArray := prog_3_method_18_code
def yX1_size : MethodName := ⟨RX1, "size", "()I"⟩
abbrev cX1_level : ByteArray := prog_3_method_19_code
def yX1_level : MethodName := ⟨RX1, "level", "()I"⟩
abbrev cX1_pointer : ByteArray := prog_3_method_20_code
def yX1_pointer : MethodName := ⟨RX1, "pointer", "()I"⟩
abbrev cX1_pages : ByteArray := prog_3_method_21_code
def yX1_pages : MethodName := ⟨RX1, "pages", "(I)I"⟩
abbrev cX1_free : ByteArray := prog_3_method_22_code
def yX1_free : MethodName := ⟨RX1, "free", "()I"⟩
abbrev cX1_key : ByteArray := prog_3_method_23_code
def yX1_key : MethodName := ⟨RX1, "key", "(II)I"⟩
abbrev cX1_clear : ByteArray := prog_3_method_24_code
def yX1_clear : MethodName := ⟨RX1, "clear", "()V"⟩
def RJ9 : String := "java/lang/Math"
def TJ9 : u_T := fun k => match k with
  | _ => ("", "", "", false)
def tyJ9 : Nat → FieldType := fun k => match k with
  | _ => .int
abbrev wsJ90 : List Cond := u_ws RJ9 TJ9 0
theorem nmJ9 : ∀ a, a < 0 → ∀ b, b < 0 → a ≠ b → (TJ9 a).2.1 ≠ (TJ9 b).2.1 := by decide +kernel
theorem tyJ9_ok : ∀ k, k < 0 → parseFieldDescriptor (TJ9 k).2.2.1 = some (tyJ9 k) := by decide +kernel
abbrev cJ9_max_7cf53 : ByteArray := prog_4_method_65_code
def yJ9_max_7cf53 : MethodName := ⟨RJ9, "max", "(II)I"⟩
abbrev cJ9_min_7cf53 : ByteArray := prog_4_method_69_code
def yJ9_min_7cf53 : MethodName := ⟨RJ9, "min", "(II)I"⟩
def RL : String := "PointerBucketsLaw"
abbrev cL_cell : ByteArray := method_2_code
def yL_cell : MethodName := ⟨RL, "cell", "([II)I"⟩
abbrev cL_law : ByteArray := code
def yL_law : MethodName := ⟨RL, "law", "([I)Z"⟩
def wsX0_within : List Cond := .code yX0_within cX0_within 3 (some .int) :: ([.methodLink RX0 26 Lib.Math.min.name, .static Lib.Math.min.name, .initialized "java/lang/Math", .code Lib.Math.min.name Lib.Math.min.code 2 (some .int), .methodLink RX0 90 Lib.Math.max.name, .static Lib.Math.max.name, .code Lib.Math.max.name Lib.Math.max.code 2 (some .int)])
def wsX0_init : List Cond := .code yX0_init cX0_init 6 none :: ([.methodLink RX0 1 objectInit, .instanceMethod objectInit, .code objectInit ⟨#[0xb1]⟩ 1 none, .fieldLink RX0 13 "PointerBuckets" "base" "I", .fieldLink RX0 17 "PointerBuckets" "cap" "I", .fieldLink RX0 20 "PointerBuckets" "pageLimit" "I", .fieldLink RX0 23 "PointerBuckets" "bucketLimit" "I", .methodLink RX0 26 Lib.Math.min.name, .static Lib.Math.min.name, .initialized "java/lang/Math", .code Lib.Math.min.name Lib.Math.min.code 2 (some .int), .arrayClass .int, .fieldLink RX0 32 "PointerBuckets" "keys" "[I", .fieldLink RX0 36 "PointerBuckets" "values" "[I", .fieldLink RX0 39 "PointerBuckets" "rowLengths" "[I", .methodLink RX0 7 yX0_within, .static yX0_within, .initialized RX0, .code yX0_within cX0_within 3 (some .int), .methodLink RX0 90 Lib.Math.max.name, .static Lib.Math.max.name, .code Lib.Math.max.name Lib.Math.max.code 2 (some .int)] ++ wsX00)
def wsX0_placeOf : List Cond := .code yX0_placeOf cX0_placeOf 3 (some .int) :: ([.fieldLink RX0 46 "PointerBuckets" "count" "I", .fieldLink RX0 32 "PointerBuckets" "keys" "[I"] ++ wsX00)
def wsX0_bucketsAtLevelStart : List Cond := .code yX0_bucketsAtLevelStart cX0_bucketsAtLevelStart 1 (some .int) :: ([.fieldLink RX0 13 "PointerBuckets" "base" "I", .fieldLink RX0 73 "PointerBuckets" "level" "I"] ++ wsX00)
def wsX0_buckets : List Cond := .code yX0_buckets cX0_buckets 1 (some .int) :: ([.fieldLink RX0 70 "PointerBuckets" "pointer" "I", .methodLink RX0 67 yX0_bucketsAtLevelStart, .instanceMethod yX0_bucketsAtLevelStart, .selects RX0 yX0_bucketsAtLevelStart yX0_bucketsAtLevelStart, .initialized RX0, .code yX0_bucketsAtLevelStart cX0_bucketsAtLevelStart 1 (some .int), .fieldLink RX0 13 "PointerBuckets" "base" "I", .fieldLink RX0 73 "PointerBuckets" "level" "I"] ++ wsX00)
def wsX0_isCrowded : List Cond := .code yX0_isCrowded cX0_isCrowded 1 (some .boolean) :: ([.fieldLink RX0 46 "PointerBuckets" "count" "I", .fieldLink RX0 17 "PointerBuckets" "cap" "I", .methodLink RX0 60 yX0_buckets, .instanceMethod yX0_buckets, .selects RX0 yX0_buckets yX0_buckets, .initialized RX0, .code yX0_buckets cX0_buckets 1 (some .int), .fieldLink RX0 70 "PointerBuckets" "pointer" "I", .methodLink RX0 67 yX0_bucketsAtLevelStart, .instanceMethod yX0_bucketsAtLevelStart, .selects RX0 yX0_bucketsAtLevelStart yX0_bucketsAtLevelStart, .code yX0_bucketsAtLevelStart cX0_bucketsAtLevelStart 1 (some .int), .fieldLink RX0 13 "PointerBuckets" "base" "I", .fieldLink RX0 73 "PointerBuckets" "level" "I"] ++ wsX00)
def wsX0_part : List Cond := .code yX0_part cX0_part 1 none :: ([.fieldLink RX0 70 "PointerBuckets" "pointer" "I", .fieldLink RX0 73 "PointerBuckets" "level" "I", .methodLink RX0 67 yX0_bucketsAtLevelStart, .instanceMethod yX0_bucketsAtLevelStart, .selects RX0 yX0_bucketsAtLevelStart yX0_bucketsAtLevelStart, .initialized RX0, .code yX0_bucketsAtLevelStart cX0_bucketsAtLevelStart 1 (some .int), .fieldLink RX0 13 "PointerBuckets" "base" "I"] ++ wsX00)
def wsX0_bucketOf : List Cond := .code yX0_bucketOf cX0_bucketOf 4 (some .int) :: ([.constant RX0 76 (2147483647), .fieldLink RX0 70 "PointerBuckets" "pointer" "I", .methodLink RX0 67 yX0_bucketsAtLevelStart, .instanceMethod yX0_bucketsAtLevelStart, .selects RX0 yX0_bucketsAtLevelStart yX0_bucketsAtLevelStart, .initialized RX0, .code yX0_bucketsAtLevelStart cX0_bucketsAtLevelStart 1 (some .int), .fieldLink RX0 13 "PointerBuckets" "base" "I", .fieldLink RX0 73 "PointerBuckets" "level" "I"] ++ wsX00)
def wsX0_pagesFor : List Cond := .code yX0_pagesFor cX0_pagesFor 2 (some .int) :: ([.fieldLink RX0 17 "PointerBuckets" "cap" "I", .methodLink RX0 90 Lib.Math.max.name, .static Lib.Math.max.name, .initialized "java/lang/Math", .code Lib.Math.max.name Lib.Math.max.code 2 (some .int)] ++ wsX00)
def wsX0_pagesNeeded_r1 : List Cond := [Cond.fieldLink RX0 39 "PointerBuckets" "rowLengths" "[I", Cond.fieldLink RX0 46 "PointerBuckets" "count" "I", Cond.fieldLink RX0 32 "PointerBuckets" "keys" "[I", Cond.methodLink RX0 60 yX0_buckets, Cond.instanceMethod yX0_buckets, Cond.selects RX0 yX0_buckets yX0_buckets, Cond.initialized RX0, Cond.code yX0_buckets cX0_buckets 1 (some .int), Cond.fieldLink RX0 70 "PointerBuckets" "pointer" "I", Cond.methodLink RX0 67 yX0_bucketsAtLevelStart, Cond.instanceMethod yX0_bucketsAtLevelStart, Cond.selects RX0 yX0_bucketsAtLevelStart yX0_bucketsAtLevelStart, Cond.code yX0_bucketsAtLevelStart cX0_bucketsAtLevelStart 1 (some .int), Cond.fieldLink RX0 13 "PointerBuckets" "base" "I", Cond.fieldLink RX0 73 "PointerBuckets" "level" "I", Cond.methodLink RX0 81 yX0_bucketOf, Cond.instanceMethod yX0_bucketOf, Cond.selects RX0 yX0_bucketOf yX0_bucketOf, Cond.code yX0_bucketOf cX0_bucketOf 4 (some .int), Cond.constant RX0 76 (2147483647), Cond.methodLink RX0 84 yX0_pagesFor, Cond.instanceMethod yX0_pagesFor, Cond.selects RX0 yX0_pagesFor yX0_pagesFor, Cond.code yX0_pagesFor cX0_pagesFor 2 (some .int)]
def wsX0_pagesNeeded_r2 : List Cond := [Cond.fieldLink RX0 17 "PointerBuckets" "cap" "I", Cond.methodLink RX0 90 Lib.Math.max.name, Cond.static Lib.Math.max.name, Cond.initialized "java/lang/Math", Cond.code Lib.Math.max.name Lib.Math.max.code 2 (some .int)]
def wsX0_pagesNeeded : List Cond := .code yX0_pagesNeeded cX0_pagesNeeded 4 (some .int) :: ((wsX0_pagesNeeded_r1 ++ wsX0_pagesNeeded_r2) ++ wsX00)
def wsX0_putNew_r1 : List Cond := [Cond.fieldLink RX0 73 "PointerBuckets" "level" "I", Cond.fieldLink RX0 70 "PointerBuckets" "pointer" "I", Cond.fieldLink RX0 32 "PointerBuckets" "keys" "[I", Cond.fieldLink RX0 46 "PointerBuckets" "count" "I", Cond.fieldLink RX0 36 "PointerBuckets" "values" "[I", Cond.fieldLink RX0 23 "PointerBuckets" "bucketLimit" "I", Cond.fieldLink RX0 20 "PointerBuckets" "pageLimit" "I", Cond.methodLink RX0 93 yX0_isCrowded, Cond.instanceMethod yX0_isCrowded, Cond.selects RX0 yX0_isCrowded yX0_isCrowded, Cond.initialized RX0, Cond.code yX0_isCrowded cX0_isCrowded 1 (some .boolean), Cond.fieldLink RX0 17 "PointerBuckets" "cap" "I", Cond.methodLink RX0 60 yX0_buckets, Cond.instanceMethod yX0_buckets, Cond.selects RX0 yX0_buckets yX0_buckets, Cond.code yX0_buckets cX0_buckets 1 (some .int), Cond.methodLink RX0 67 yX0_bucketsAtLevelStart, Cond.instanceMethod yX0_bucketsAtLevelStart, Cond.selects RX0 yX0_bucketsAtLevelStart yX0_bucketsAtLevelStart, Cond.code yX0_bucketsAtLevelStart cX0_bucketsAtLevelStart 1 (some .int), Cond.fieldLink RX0 13 "PointerBuckets" "base" "I", Cond.methodLink RX0 96 yX0_part, Cond.instanceMethod yX0_part]
def wsX0_putNew_r2 : List Cond := [Cond.selects RX0 yX0_part yX0_part, Cond.code yX0_part cX0_part 1 none, Cond.methodLink RX0 87 yX0_pagesNeeded, Cond.instanceMethod yX0_pagesNeeded, Cond.selects RX0 yX0_pagesNeeded yX0_pagesNeeded, Cond.code yX0_pagesNeeded cX0_pagesNeeded 4 (some .int), Cond.fieldLink RX0 39 "PointerBuckets" "rowLengths" "[I", Cond.methodLink RX0 81 yX0_bucketOf, Cond.instanceMethod yX0_bucketOf, Cond.selects RX0 yX0_bucketOf yX0_bucketOf, Cond.code yX0_bucketOf cX0_bucketOf 4 (some .int), Cond.constant RX0 76 (2147483647), Cond.methodLink RX0 84 yX0_pagesFor, Cond.instanceMethod yX0_pagesFor, Cond.selects RX0 yX0_pagesFor yX0_pagesFor, Cond.code yX0_pagesFor cX0_pagesFor 2 (some .int), Cond.methodLink RX0 90 Lib.Math.max.name, Cond.static Lib.Math.max.name, Cond.initialized "java/lang/Math", Cond.code Lib.Math.max.name Lib.Math.max.code 2 (some .int)]
def wsX0_putNew : List Cond := .code yX0_putNew cX0_putNew 5 (some .int) :: ((wsX0_putNew_r1 ++ wsX0_putNew_r2) ++ wsX00)
def wsX0_put_r1 : List Cond := [Cond.fieldLink RX0 36 "PointerBuckets" "values" "[I", Cond.fieldLink RX0 46 "PointerBuckets" "count" "I", Cond.fieldLink RX0 32 "PointerBuckets" "keys" "[I", Cond.methodLink RX0 42 yX0_placeOf, Cond.instanceMethod yX0_placeOf, Cond.selects RX0 yX0_placeOf yX0_placeOf, Cond.initialized RX0, Cond.code yX0_placeOf cX0_placeOf 3 (some .int), Cond.methodLink RX0 49 yX0_putNew, Cond.instanceMethod yX0_putNew, Cond.selects RX0 yX0_putNew yX0_putNew, Cond.code yX0_putNew cX0_putNew 5 (some .int), Cond.fieldLink RX0 73 "PointerBuckets" "level" "I", Cond.fieldLink RX0 70 "PointerBuckets" "pointer" "I", Cond.fieldLink RX0 23 "PointerBuckets" "bucketLimit" "I", Cond.fieldLink RX0 20 "PointerBuckets" "pageLimit" "I", Cond.methodLink RX0 93 yX0_isCrowded, Cond.instanceMethod yX0_isCrowded, Cond.selects RX0 yX0_isCrowded yX0_isCrowded, Cond.code yX0_isCrowded cX0_isCrowded 1 (some .boolean), Cond.fieldLink RX0 17 "PointerBuckets" "cap" "I", Cond.methodLink RX0 60 yX0_buckets, Cond.instanceMethod yX0_buckets, Cond.selects RX0 yX0_buckets yX0_buckets]
def wsX0_put_r2 : List Cond := [Cond.code yX0_buckets cX0_buckets 1 (some .int), Cond.methodLink RX0 67 yX0_bucketsAtLevelStart, Cond.instanceMethod yX0_bucketsAtLevelStart, Cond.selects RX0 yX0_bucketsAtLevelStart yX0_bucketsAtLevelStart, Cond.code yX0_bucketsAtLevelStart cX0_bucketsAtLevelStart 1 (some .int), Cond.fieldLink RX0 13 "PointerBuckets" "base" "I", Cond.methodLink RX0 96 yX0_part, Cond.instanceMethod yX0_part, Cond.selects RX0 yX0_part yX0_part, Cond.code yX0_part cX0_part 1 none, Cond.methodLink RX0 87 yX0_pagesNeeded, Cond.instanceMethod yX0_pagesNeeded, Cond.selects RX0 yX0_pagesNeeded yX0_pagesNeeded, Cond.code yX0_pagesNeeded cX0_pagesNeeded 4 (some .int), Cond.fieldLink RX0 39 "PointerBuckets" "rowLengths" "[I", Cond.methodLink RX0 81 yX0_bucketOf, Cond.instanceMethod yX0_bucketOf, Cond.selects RX0 yX0_bucketOf yX0_bucketOf, Cond.code yX0_bucketOf cX0_bucketOf 4 (some .int), Cond.constant RX0 76 (2147483647), Cond.methodLink RX0 84 yX0_pagesFor, Cond.instanceMethod yX0_pagesFor, Cond.selects RX0 yX0_pagesFor yX0_pagesFor, Cond.code yX0_pagesFor cX0_pagesFor 2 (some .int)]
def wsX0_put_r3 : List Cond := [Cond.methodLink RX0 90 Lib.Math.max.name, Cond.static Lib.Math.max.name, Cond.initialized "java/lang/Math", Cond.code Lib.Math.max.name Lib.Math.max.code 2 (some .int)]
def wsX0_put : List Cond := .code yX0_put cX0_put 4 (some .int) :: ((wsX0_put_r1 ++ (wsX0_put_r2 ++ wsX0_put_r3)) ++ wsX00)
def wsX0_get : List Cond := .code yX0_get cX0_get 3 (some .int) :: ([.fieldLink RX0 36 "PointerBuckets" "values" "[I", .methodLink RX0 42 yX0_placeOf, .instanceMethod yX0_placeOf, .selects RX0 yX0_placeOf yX0_placeOf, .initialized RX0, .code yX0_placeOf cX0_placeOf 3 (some .int), .fieldLink RX0 46 "PointerBuckets" "count" "I", .fieldLink RX0 32 "PointerBuckets" "keys" "[I"] ++ wsX00)
def wsX0_has : List Cond := .code yX0_has cX0_has 2 (some .boolean) :: ([.methodLink RX0 42 yX0_placeOf, .instanceMethod yX0_placeOf, .selects RX0 yX0_placeOf yX0_placeOf, .initialized RX0, .code yX0_placeOf cX0_placeOf 3 (some .int), .fieldLink RX0 46 "PointerBuckets" "count" "I", .fieldLink RX0 32 "PointerBuckets" "keys" "[I"] ++ wsX00)
def wsX0_lastPlaceOfBucket : List Cond := .code yX0_lastPlaceOfBucket cX0_lastPlaceOfBucket 3 (some .int) :: ([.fieldLink RX0 46 "PointerBuckets" "count" "I", .fieldLink RX0 32 "PointerBuckets" "keys" "[I", .methodLink RX0 81 yX0_bucketOf, .instanceMethod yX0_bucketOf, .selects RX0 yX0_bucketOf yX0_bucketOf, .initialized RX0, .code yX0_bucketOf cX0_bucketOf 4 (some .int), .constant RX0 76 (2147483647), .fieldLink RX0 70 "PointerBuckets" "pointer" "I", .methodLink RX0 67 yX0_bucketsAtLevelStart, .instanceMethod yX0_bucketsAtLevelStart, .selects RX0 yX0_bucketsAtLevelStart yX0_bucketsAtLevelStart, .code yX0_bucketsAtLevelStart cX0_bucketsAtLevelStart 1 (some .int), .fieldLink RX0 13 "PointerBuckets" "base" "I", .fieldLink RX0 73 "PointerBuckets" "level" "I"] ++ wsX00)
def wsX0_moveToEnd : List Cond := .code yX0_moveToEnd cX0_moveToEnd 5 none :: ([.fieldLink RX0 32 "PointerBuckets" "keys" "[I", .fieldLink RX0 36 "PointerBuckets" "values" "[I", .fieldLink RX0 46 "PointerBuckets" "count" "I"] ++ wsX00)
def wsX0_takeOut : List Cond := .code yX0_takeOut cX0_takeOut 3 none :: ([.fieldLink RX0 32 "PointerBuckets" "keys" "[I", .fieldLink RX0 36 "PointerBuckets" "values" "[I", .fieldLink RX0 46 "PointerBuckets" "count" "I", .methodLink RX0 81 yX0_bucketOf, .instanceMethod yX0_bucketOf, .selects RX0 yX0_bucketOf yX0_bucketOf, .initialized RX0, .code yX0_bucketOf cX0_bucketOf 4 (some .int), .constant RX0 76 (2147483647), .fieldLink RX0 70 "PointerBuckets" "pointer" "I", .methodLink RX0 67 yX0_bucketsAtLevelStart, .instanceMethod yX0_bucketsAtLevelStart, .selects RX0 yX0_bucketsAtLevelStart yX0_bucketsAtLevelStart, .code yX0_bucketsAtLevelStart cX0_bucketsAtLevelStart 1 (some .int), .fieldLink RX0 13 "PointerBuckets" "base" "I", .fieldLink RX0 73 "PointerBuckets" "level" "I", .methodLink RX0 102 yX0_lastPlaceOfBucket, .instanceMethod yX0_lastPlaceOfBucket, .selects RX0 yX0_lastPlaceOfBucket yX0_lastPlaceOfBucket, .code yX0_lastPlaceOfBucket cX0_lastPlaceOfBucket 3 (some .int), .methodLink RX0 105 yX0_moveToEnd, .instanceMethod yX0_moveToEnd, .selects RX0 yX0_moveToEnd yX0_moveToEnd, .code yX0_moveToEnd cX0_moveToEnd 5 none] ++ wsX00)
def wsX0_isSparse : List Cond := .code yX0_isSparse cX0_isSparse 1 (some .boolean) :: ([.fieldLink RX0 46 "PointerBuckets" "count" "I", .fieldLink RX0 17 "PointerBuckets" "cap" "I", .methodLink RX0 60 yX0_buckets, .instanceMethod yX0_buckets, .selects RX0 yX0_buckets yX0_buckets, .initialized RX0, .code yX0_buckets cX0_buckets 1 (some .int), .fieldLink RX0 70 "PointerBuckets" "pointer" "I", .methodLink RX0 67 yX0_bucketsAtLevelStart, .instanceMethod yX0_bucketsAtLevelStart, .selects RX0 yX0_bucketsAtLevelStart yX0_bucketsAtLevelStart, .code yX0_bucketsAtLevelStart cX0_bucketsAtLevelStart 1 (some .int), .fieldLink RX0 13 "PointerBuckets" "base" "I", .fieldLink RX0 73 "PointerBuckets" "level" "I"] ++ wsX00)
def wsX0_moveBucketToEnd : List Cond := .code yX0_moveBucketToEnd cX0_moveBucketToEnd 4 none :: ([.fieldLink RX0 46 "PointerBuckets" "count" "I", .fieldLink RX0 32 "PointerBuckets" "keys" "[I", .methodLink RX0 81 yX0_bucketOf, .instanceMethod yX0_bucketOf, .selects RX0 yX0_bucketOf yX0_bucketOf, .initialized RX0, .code yX0_bucketOf cX0_bucketOf 4 (some .int), .constant RX0 76 (2147483647), .fieldLink RX0 70 "PointerBuckets" "pointer" "I", .methodLink RX0 67 yX0_bucketsAtLevelStart, .instanceMethod yX0_bucketsAtLevelStart, .selects RX0 yX0_bucketsAtLevelStart yX0_bucketsAtLevelStart, .code yX0_bucketsAtLevelStart cX0_bucketsAtLevelStart 1 (some .int), .fieldLink RX0 13 "PointerBuckets" "base" "I", .fieldLink RX0 73 "PointerBuckets" "level" "I", .methodLink RX0 105 yX0_moveToEnd, .instanceMethod yX0_moveToEnd, .selects RX0 yX0_moveToEnd yX0_moveToEnd, .code yX0_moveToEnd cX0_moveToEnd 5 none, .fieldLink RX0 36 "PointerBuckets" "values" "[I"] ++ wsX00)
def wsX0_join_r1 : List Cond := [Cond.fieldLink RX0 70 "PointerBuckets" "pointer" "I", Cond.fieldLink RX0 73 "PointerBuckets" "level" "I", Cond.methodLink RX0 60 yX0_buckets, Cond.instanceMethod yX0_buckets, Cond.selects RX0 yX0_buckets yX0_buckets, Cond.initialized RX0, Cond.code yX0_buckets cX0_buckets 1 (some .int), Cond.methodLink RX0 67 yX0_bucketsAtLevelStart, Cond.instanceMethod yX0_bucketsAtLevelStart, Cond.selects RX0 yX0_bucketsAtLevelStart yX0_bucketsAtLevelStart, Cond.code yX0_bucketsAtLevelStart cX0_bucketsAtLevelStart 1 (some .int), Cond.fieldLink RX0 13 "PointerBuckets" "base" "I", Cond.methodLink RX0 99 yX0_moveBucketToEnd, Cond.instanceMethod yX0_moveBucketToEnd, Cond.selects RX0 yX0_moveBucketToEnd yX0_moveBucketToEnd, Cond.code yX0_moveBucketToEnd cX0_moveBucketToEnd 4 none, Cond.fieldLink RX0 46 "PointerBuckets" "count" "I", Cond.fieldLink RX0 32 "PointerBuckets" "keys" "[I", Cond.methodLink RX0 81 yX0_bucketOf, Cond.instanceMethod yX0_bucketOf, Cond.selects RX0 yX0_bucketOf yX0_bucketOf, Cond.code yX0_bucketOf cX0_bucketOf 4 (some .int), Cond.constant RX0 76 (2147483647), Cond.methodLink RX0 105 yX0_moveToEnd]
def wsX0_join_r2 : List Cond := [Cond.instanceMethod yX0_moveToEnd, Cond.selects RX0 yX0_moveToEnd yX0_moveToEnd, Cond.code yX0_moveToEnd cX0_moveToEnd 5 none, Cond.fieldLink RX0 36 "PointerBuckets" "values" "[I"]
def wsX0_join : List Cond := .code yX0_join cX0_join 1 none :: ((wsX0_join_r1 ++ wsX0_join_r2) ++ wsX00)
def wsX0_remove_r1 : List Cond := [Cond.fieldLink RX0 13 "PointerBuckets" "base" "I", Cond.methodLink RX0 42 yX0_placeOf, Cond.instanceMethod yX0_placeOf, Cond.selects RX0 yX0_placeOf yX0_placeOf, Cond.initialized RX0, Cond.code yX0_placeOf cX0_placeOf 3 (some .int), Cond.fieldLink RX0 46 "PointerBuckets" "count" "I", Cond.fieldLink RX0 32 "PointerBuckets" "keys" "[I", Cond.methodLink RX0 52 yX0_takeOut, Cond.instanceMethod yX0_takeOut, Cond.selects RX0 yX0_takeOut yX0_takeOut, Cond.code yX0_takeOut cX0_takeOut 3 none, Cond.fieldLink RX0 36 "PointerBuckets" "values" "[I", Cond.methodLink RX0 81 yX0_bucketOf, Cond.instanceMethod yX0_bucketOf, Cond.selects RX0 yX0_bucketOf yX0_bucketOf, Cond.code yX0_bucketOf cX0_bucketOf 4 (some .int), Cond.constant RX0 76 (2147483647), Cond.fieldLink RX0 70 "PointerBuckets" "pointer" "I", Cond.methodLink RX0 67 yX0_bucketsAtLevelStart, Cond.instanceMethod yX0_bucketsAtLevelStart, Cond.selects RX0 yX0_bucketsAtLevelStart yX0_bucketsAtLevelStart, Cond.code yX0_bucketsAtLevelStart cX0_bucketsAtLevelStart 1 (some .int), Cond.fieldLink RX0 73 "PointerBuckets" "level" "I"]
def wsX0_remove_r2 : List Cond := [Cond.methodLink RX0 102 yX0_lastPlaceOfBucket, Cond.instanceMethod yX0_lastPlaceOfBucket, Cond.selects RX0 yX0_lastPlaceOfBucket yX0_lastPlaceOfBucket, Cond.code yX0_lastPlaceOfBucket cX0_lastPlaceOfBucket 3 (some .int), Cond.methodLink RX0 105 yX0_moveToEnd, Cond.instanceMethod yX0_moveToEnd, Cond.selects RX0 yX0_moveToEnd yX0_moveToEnd, Cond.code yX0_moveToEnd cX0_moveToEnd 5 none, Cond.methodLink RX0 56 yX0_isSparse, Cond.instanceMethod yX0_isSparse, Cond.selects RX0 yX0_isSparse yX0_isSparse, Cond.code yX0_isSparse cX0_isSparse 1 (some .boolean), Cond.fieldLink RX0 17 "PointerBuckets" "cap" "I", Cond.methodLink RX0 60 yX0_buckets, Cond.instanceMethod yX0_buckets, Cond.selects RX0 yX0_buckets yX0_buckets, Cond.code yX0_buckets cX0_buckets 1 (some .int), Cond.methodLink RX0 64 yX0_join, Cond.instanceMethod yX0_join, Cond.selects RX0 yX0_join yX0_join, Cond.code yX0_join cX0_join 1 none, Cond.methodLink RX0 99 yX0_moveBucketToEnd, Cond.instanceMethod yX0_moveBucketToEnd, Cond.selects RX0 yX0_moveBucketToEnd yX0_moveBucketToEnd]
def wsX0_remove_r3 : List Cond := [Cond.code yX0_moveBucketToEnd cX0_moveBucketToEnd 4 none]
def wsX0_remove : List Cond := .code yX0_remove cX0_remove 3 (some .boolean) :: ((wsX0_remove_r1 ++ (wsX0_remove_r2 ++ wsX0_remove_r3)) ++ wsX00)
def wsX0_size : List Cond := .code yX0_size cX0_size 1 (some .int) :: ([.fieldLink RX0 46 "PointerBuckets" "count" "I"] ++ wsX00)
def wsX0_level : List Cond := .code yX0_level cX0_level 1 (some .int) :: ([.fieldLink RX0 73 "PointerBuckets" "level" "I"] ++ wsX00)
def wsX0_pointer : List Cond := .code yX0_pointer cX0_pointer 1 (some .int) :: ([.fieldLink RX0 70 "PointerBuckets" "pointer" "I"] ++ wsX00)
def wsX0_isBucket : List Cond := .code yX0_isBucket cX0_isBucket 2 (some .boolean) :: ([.methodLink RX0 60 yX0_buckets, .instanceMethod yX0_buckets, .selects RX0 yX0_buckets yX0_buckets, .initialized RX0, .code yX0_buckets cX0_buckets 1 (some .int), .fieldLink RX0 70 "PointerBuckets" "pointer" "I", .methodLink RX0 67 yX0_bucketsAtLevelStart, .instanceMethod yX0_bucketsAtLevelStart, .selects RX0 yX0_bucketsAtLevelStart yX0_bucketsAtLevelStart, .code yX0_bucketsAtLevelStart cX0_bucketsAtLevelStart 1 (some .int), .fieldLink RX0 13 "PointerBuckets" "base" "I", .fieldLink RX0 73 "PointerBuckets" "level" "I"] ++ wsX00)
def wsX0_pages_r1 : List Cond := [Cond.fieldLink RX0 46 "PointerBuckets" "count" "I", Cond.fieldLink RX0 32 "PointerBuckets" "keys" "[I", Cond.methodLink RX0 77 yX0_isBucket, Cond.instanceMethod yX0_isBucket, Cond.selects RX0 yX0_isBucket yX0_isBucket, Cond.initialized RX0, Cond.code yX0_isBucket cX0_isBucket 2 (some .boolean), Cond.methodLink RX0 60 yX0_buckets, Cond.instanceMethod yX0_buckets, Cond.selects RX0 yX0_buckets yX0_buckets, Cond.code yX0_buckets cX0_buckets 1 (some .int), Cond.fieldLink RX0 70 "PointerBuckets" "pointer" "I", Cond.methodLink RX0 67 yX0_bucketsAtLevelStart, Cond.instanceMethod yX0_bucketsAtLevelStart, Cond.selects RX0 yX0_bucketsAtLevelStart yX0_bucketsAtLevelStart, Cond.code yX0_bucketsAtLevelStart cX0_bucketsAtLevelStart 1 (some .int), Cond.fieldLink RX0 13 "PointerBuckets" "base" "I", Cond.fieldLink RX0 73 "PointerBuckets" "level" "I", Cond.methodLink RX0 81 yX0_bucketOf, Cond.instanceMethod yX0_bucketOf, Cond.selects RX0 yX0_bucketOf yX0_bucketOf, Cond.code yX0_bucketOf cX0_bucketOf 4 (some .int), Cond.constant RX0 76 (2147483647), Cond.methodLink RX0 84 yX0_pagesFor]
def wsX0_pages_r2 : List Cond := [Cond.instanceMethod yX0_pagesFor, Cond.selects RX0 yX0_pagesFor yX0_pagesFor, Cond.code yX0_pagesFor cX0_pagesFor 2 (some .int), Cond.fieldLink RX0 17 "PointerBuckets" "cap" "I", Cond.methodLink RX0 90 Lib.Math.max.name, Cond.static Lib.Math.max.name, Cond.initialized "java/lang/Math", Cond.code Lib.Math.max.name Lib.Math.max.code 2 (some .int)]
def wsX0_pages : List Cond := .code yX0_pages cX0_pages 4 (some .int) :: ((wsX0_pages_r1 ++ wsX0_pages_r2) ++ wsX00)
def wsX0_free_r1 : List Cond := [Cond.fieldLink RX0 20 "PointerBuckets" "pageLimit" "I", Cond.methodLink RX0 87 yX0_pagesNeeded, Cond.instanceMethod yX0_pagesNeeded, Cond.selects RX0 yX0_pagesNeeded yX0_pagesNeeded, Cond.initialized RX0, Cond.code yX0_pagesNeeded cX0_pagesNeeded 4 (some .int), Cond.fieldLink RX0 39 "PointerBuckets" "rowLengths" "[I", Cond.fieldLink RX0 46 "PointerBuckets" "count" "I", Cond.fieldLink RX0 32 "PointerBuckets" "keys" "[I", Cond.methodLink RX0 60 yX0_buckets, Cond.instanceMethod yX0_buckets, Cond.selects RX0 yX0_buckets yX0_buckets, Cond.code yX0_buckets cX0_buckets 1 (some .int), Cond.fieldLink RX0 70 "PointerBuckets" "pointer" "I", Cond.methodLink RX0 67 yX0_bucketsAtLevelStart, Cond.instanceMethod yX0_bucketsAtLevelStart, Cond.selects RX0 yX0_bucketsAtLevelStart yX0_bucketsAtLevelStart, Cond.code yX0_bucketsAtLevelStart cX0_bucketsAtLevelStart 1 (some .int), Cond.fieldLink RX0 13 "PointerBuckets" "base" "I", Cond.fieldLink RX0 73 "PointerBuckets" "level" "I", Cond.methodLink RX0 81 yX0_bucketOf, Cond.instanceMethod yX0_bucketOf, Cond.selects RX0 yX0_bucketOf yX0_bucketOf, Cond.code yX0_bucketOf cX0_bucketOf 4 (some .int)]
def wsX0_free_r2 : List Cond := [Cond.constant RX0 76 (2147483647), Cond.methodLink RX0 84 yX0_pagesFor, Cond.instanceMethod yX0_pagesFor, Cond.selects RX0 yX0_pagesFor yX0_pagesFor, Cond.code yX0_pagesFor cX0_pagesFor 2 (some .int), Cond.fieldLink RX0 17 "PointerBuckets" "cap" "I", Cond.methodLink RX0 90 Lib.Math.max.name, Cond.static Lib.Math.max.name, Cond.initialized "java/lang/Math", Cond.code Lib.Math.max.name Lib.Math.max.code 2 (some .int)]
def wsX0_free : List Cond := .code yX0_free cX0_free 1 (some .int) :: ((wsX0_free_r1 ++ wsX0_free_r2) ++ wsX00)
def wsX0_key : List Cond := .code yX0_key cX0_key 5 (some .int) :: ([.fieldLink RX0 46 "PointerBuckets" "count" "I", .fieldLink RX0 32 "PointerBuckets" "keys" "[I", .methodLink RX0 77 yX0_isBucket, .instanceMethod yX0_isBucket, .selects RX0 yX0_isBucket yX0_isBucket, .initialized RX0, .code yX0_isBucket cX0_isBucket 2 (some .boolean), .methodLink RX0 60 yX0_buckets, .instanceMethod yX0_buckets, .selects RX0 yX0_buckets yX0_buckets, .code yX0_buckets cX0_buckets 1 (some .int), .fieldLink RX0 70 "PointerBuckets" "pointer" "I", .methodLink RX0 67 yX0_bucketsAtLevelStart, .instanceMethod yX0_bucketsAtLevelStart, .selects RX0 yX0_bucketsAtLevelStart yX0_bucketsAtLevelStart, .code yX0_bucketsAtLevelStart cX0_bucketsAtLevelStart 1 (some .int), .fieldLink RX0 13 "PointerBuckets" "base" "I", .fieldLink RX0 73 "PointerBuckets" "level" "I", .methodLink RX0 81 yX0_bucketOf, .instanceMethod yX0_bucketOf, .selects RX0 yX0_bucketOf yX0_bucketOf, .code yX0_bucketOf cX0_bucketOf 4 (some .int), .constant RX0 76 (2147483647)] ++ wsX00)
def wsX0_clear : List Cond := .code yX0_clear cX0_clear 1 none :: ([.fieldLink RX0 46 "PointerBuckets" "count" "I", .fieldLink RX0 73 "PointerBuckets" "level" "I", .fieldLink RX0 70 "PointerBuckets" "pointer" "I"] ++ wsX00)
def wsX1_init : List Cond := .code yX1_init cX1_init 5 none :: ([.methodLink RX1 1 objectInit, .instanceMethod objectInit, .code objectInit ⟨#[0xb1]⟩ 1 none, .arrayClass .int, .fieldLink RX1 7 "PointerBucketsModel" "keys" "[I", .fieldLink RX1 13 "PointerBucketsModel" "values" "[I", .fieldLink RX1 16 "PointerBucketsModel" "homes" "[I", .fieldLink RX1 19 "PointerBucketsModel" "counts" "[I", .fieldLink RX1 22 "PointerBucketsModel" "base" "I", .fieldLink RX1 26 "PointerBucketsModel" "cap" "I", .fieldLink RX1 29 "PointerBucketsModel" "most" "I", .fieldLink RX1 32 "PointerBucketsModel" "mostBuckets" "I"] ++ wsX10)
def wsX1_round : List Cond := .code yX1_round cX1_round 3 (some .int) :: ([.fieldLink RX1 22 "PointerBucketsModel" "base" "I", .fieldLink RX1 35 "PointerBucketsModel" "level" "I"] ++ wsX10)
def wsX1_buckets : List Cond := .code yX1_buckets cX1_buckets 1 (some .int) :: ([.fieldLink RX1 42 "PointerBucketsModel" "pointer" "I", .methodLink RX1 38 yX1_round, .instanceMethod yX1_round, .selects RX1 yX1_round yX1_round, .initialized RX1, .code yX1_round cX1_round 3 (some .int), .fieldLink RX1 22 "PointerBucketsModel" "base" "I", .fieldLink RX1 35 "PointerBucketsModel" "level" "I"] ++ wsX10)
def wsX1_bucketOf : List Cond := .code yX1_bucketOf cX1_bucketOf 4 (some .int) :: ([.constant RX1 45 (2147483647), .fieldLink RX1 42 "PointerBucketsModel" "pointer" "I", .methodLink RX1 38 yX1_round, .instanceMethod yX1_round, .selects RX1 yX1_round yX1_round, .initialized RX1, .code yX1_round cX1_round 3 (some .int), .fieldLink RX1 22 "PointerBucketsModel" "base" "I", .fieldLink RX1 35 "PointerBucketsModel" "level" "I"] ++ wsX10)
def wsX1_find : List Cond := .code yX1_find cX1_find 4 (some .int) :: ([.fieldLink RX1 46 "PointerBucketsModel" "size" "I", .fieldLink RX1 7 "PointerBucketsModel" "keys" "[I"] ++ wsX10)
def wsX1_count : List Cond := .code yX1_count cX1_count 2 none :: ([.fieldLink RX1 19 "PointerBucketsModel" "counts" "[I", .fieldLink RX1 46 "PointerBucketsModel" "size" "I", .fieldLink RX1 16 "PointerBucketsModel" "homes" "[I"] ++ wsX10)
def wsX1_pagesFor : List Cond := .code yX1_pagesFor cX1_pagesFor 2 (some .int) :: ([.fieldLink RX1 26 "PointerBucketsModel" "cap" "I"] ++ wsX10)
def wsX1_needed : List Cond := .code yX1_needed cX1_needed 3 (some .int) :: ([.fieldLink RX1 19 "PointerBucketsModel" "counts" "[I", .methodLink RX1 49 yX1_count, .instanceMethod yX1_count, .selects RX1 yX1_count yX1_count, .initialized RX1, .code yX1_count cX1_count 2 none, .fieldLink RX1 46 "PointerBucketsModel" "size" "I", .fieldLink RX1 16 "PointerBucketsModel" "homes" "[I", .methodLink RX1 52 yX1_buckets, .instanceMethod yX1_buckets, .selects RX1 yX1_buckets yX1_buckets, .code yX1_buckets cX1_buckets 1 (some .int), .fieldLink RX1 42 "PointerBucketsModel" "pointer" "I", .methodLink RX1 38 yX1_round, .instanceMethod yX1_round, .selects RX1 yX1_round yX1_round, .code yX1_round cX1_round 3 (some .int), .fieldLink RX1 22 "PointerBucketsModel" "base" "I", .fieldLink RX1 35 "PointerBucketsModel" "level" "I", .methodLink RX1 55 yX1_pagesFor, .instanceMethod yX1_pagesFor, .selects RX1 yX1_pagesFor yX1_pagesFor, .code yX1_pagesFor cX1_pagesFor 2 (some .int), .fieldLink RX1 26 "PointerBucketsModel" "cap" "I"] ++ wsX10)
def wsX1_settle : List Cond := .code yX1_settle cX1_settle 2 none :: ([.fieldLink RX1 46 "PointerBucketsModel" "size" "I", .fieldLink RX1 16 "PointerBucketsModel" "homes" "[I", .fieldLink RX1 7 "PointerBucketsModel" "keys" "[I", .methodLink RX1 59 yX1_bucketOf, .instanceMethod yX1_bucketOf, .selects RX1 yX1_bucketOf yX1_bucketOf, .initialized RX1, .code yX1_bucketOf cX1_bucketOf 4 (some .int), .constant RX1 45 (2147483647), .fieldLink RX1 42 "PointerBucketsModel" "pointer" "I", .methodLink RX1 38 yX1_round, .instanceMethod yX1_round, .selects RX1 yX1_round yX1_round, .code yX1_round cX1_round 3 (some .int), .fieldLink RX1 22 "PointerBucketsModel" "base" "I", .fieldLink RX1 35 "PointerBucketsModel" "level" "I"] ++ wsX10)
def wsX1_forth : List Cond := .code yX1_forth cX1_forth 1 none :: ([.fieldLink RX1 42 "PointerBucketsModel" "pointer" "I", .fieldLink RX1 35 "PointerBucketsModel" "level" "I", .methodLink RX1 38 yX1_round, .instanceMethod yX1_round, .selects RX1 yX1_round yX1_round, .initialized RX1, .code yX1_round cX1_round 3 (some .int), .fieldLink RX1 22 "PointerBucketsModel" "base" "I"] ++ wsX10)
def wsX1_back : List Cond := .code yX1_back cX1_back 1 none :: ([.fieldLink RX1 42 "PointerBucketsModel" "pointer" "I", .fieldLink RX1 35 "PointerBucketsModel" "level" "I", .methodLink RX1 38 yX1_round, .instanceMethod yX1_round, .selects RX1 yX1_round yX1_round, .initialized RX1, .code yX1_round cX1_round 3 (some .int), .fieldLink RX1 22 "PointerBucketsModel" "base" "I"] ++ wsX10)
def wsX1_put_r1 : List Cond := [Cond.fieldLink RX1 13 "PointerBucketsModel" "values" "[I", Cond.fieldLink RX1 7 "PointerBucketsModel" "keys" "[I", Cond.fieldLink RX1 46 "PointerBucketsModel" "size" "I", Cond.fieldLink RX1 26 "PointerBucketsModel" "cap" "I", Cond.fieldLink RX1 32 "PointerBucketsModel" "mostBuckets" "I", Cond.fieldLink RX1 29 "PointerBucketsModel" "most" "I", Cond.methodLink RX1 62 yX1_find, Cond.instanceMethod yX1_find, Cond.selects RX1 yX1_find yX1_find, Cond.initialized RX1, Cond.code yX1_find cX1_find 4 (some .int), Cond.methodLink RX1 52 yX1_buckets, Cond.instanceMethod yX1_buckets, Cond.selects RX1 yX1_buckets yX1_buckets, Cond.code yX1_buckets cX1_buckets 1 (some .int), Cond.fieldLink RX1 42 "PointerBucketsModel" "pointer" "I", Cond.methodLink RX1 38 yX1_round, Cond.instanceMethod yX1_round, Cond.selects RX1 yX1_round yX1_round, Cond.code yX1_round cX1_round 3 (some .int), Cond.fieldLink RX1 22 "PointerBucketsModel" "base" "I", Cond.fieldLink RX1 35 "PointerBucketsModel" "level" "I", Cond.methodLink RX1 65 yX1_forth, Cond.instanceMethod yX1_forth]
def wsX1_put_r2 : List Cond := [Cond.selects RX1 yX1_forth yX1_forth, Cond.code yX1_forth cX1_forth 1 none, Cond.methodLink RX1 68 yX1_settle, Cond.instanceMethod yX1_settle, Cond.selects RX1 yX1_settle yX1_settle, Cond.code yX1_settle cX1_settle 2 none, Cond.fieldLink RX1 16 "PointerBucketsModel" "homes" "[I", Cond.methodLink RX1 59 yX1_bucketOf, Cond.instanceMethod yX1_bucketOf, Cond.selects RX1 yX1_bucketOf yX1_bucketOf, Cond.code yX1_bucketOf cX1_bucketOf 4 (some .int), Cond.constant RX1 45 (2147483647), Cond.methodLink RX1 71 yX1_needed, Cond.instanceMethod yX1_needed, Cond.selects RX1 yX1_needed yX1_needed, Cond.code yX1_needed cX1_needed 3 (some .int), Cond.fieldLink RX1 19 "PointerBucketsModel" "counts" "[I", Cond.methodLink RX1 49 yX1_count, Cond.instanceMethod yX1_count, Cond.selects RX1 yX1_count yX1_count, Cond.code yX1_count cX1_count 2 none, Cond.methodLink RX1 55 yX1_pagesFor, Cond.instanceMethod yX1_pagesFor, Cond.selects RX1 yX1_pagesFor yX1_pagesFor]
def wsX1_put_r3 : List Cond := [Cond.code yX1_pagesFor cX1_pagesFor 2 (some .int), Cond.methodLink RX1 74 yX1_back, Cond.instanceMethod yX1_back, Cond.selects RX1 yX1_back yX1_back, Cond.code yX1_back cX1_back 1 none]
def wsX1_put : List Cond := .code yX1_put cX1_put 5 (some .int) :: ((wsX1_put_r1 ++ (wsX1_put_r2 ++ wsX1_put_r3)) ++ wsX10)
def wsX1_get : List Cond := .code yX1_get cX1_get 3 (some .int) :: ([.fieldLink RX1 13 "PointerBucketsModel" "values" "[I", .methodLink RX1 62 yX1_find, .instanceMethod yX1_find, .selects RX1 yX1_find yX1_find, .initialized RX1, .code yX1_find cX1_find 4 (some .int), .fieldLink RX1 46 "PointerBucketsModel" "size" "I", .fieldLink RX1 7 "PointerBucketsModel" "keys" "[I"] ++ wsX10)
def wsX1_has : List Cond := .code yX1_has cX1_has 2 (some .boolean) :: ([.methodLink RX1 62 yX1_find, .instanceMethod yX1_find, .selects RX1 yX1_find yX1_find, .initialized RX1, .code yX1_find cX1_find 4 (some .int), .fieldLink RX1 46 "PointerBucketsModel" "size" "I", .fieldLink RX1 7 "PointerBucketsModel" "keys" "[I"] ++ wsX10)
def wsX1_cut : List Cond := .code yX1_cut cX1_cut 3 none :: ([.fieldLink RX1 46 "PointerBucketsModel" "size" "I", .fieldLink RX1 7 "PointerBucketsModel" "keys" "[I", .fieldLink RX1 13 "PointerBucketsModel" "values" "[I", .fieldLink RX1 16 "PointerBucketsModel" "homes" "[I"] ++ wsX10)
def wsX1_toEnd : List Cond := .code yX1_toEnd cX1_toEnd 6 none :: ([.fieldLink RX1 46 "PointerBucketsModel" "size" "I", .fieldLink RX1 16 "PointerBucketsModel" "homes" "[I", .fieldLink RX1 7 "PointerBucketsModel" "keys" "[I", .fieldLink RX1 13 "PointerBucketsModel" "values" "[I", .methodLink RX1 77 yX1_cut, .instanceMethod yX1_cut, .selects RX1 yX1_cut yX1_cut, .initialized RX1, .code yX1_cut cX1_cut 3 none] ++ wsX10)
def wsX1_remove_r1 : List Cond := [Cond.fieldLink RX1 46 "PointerBucketsModel" "size" "I", Cond.fieldLink RX1 16 "PointerBucketsModel" "homes" "[I", Cond.fieldLink RX1 7 "PointerBucketsModel" "keys" "[I", Cond.fieldLink RX1 13 "PointerBucketsModel" "values" "[I", Cond.fieldLink RX1 26 "PointerBucketsModel" "cap" "I", Cond.fieldLink RX1 22 "PointerBucketsModel" "base" "I", Cond.methodLink RX1 62 yX1_find, Cond.instanceMethod yX1_find, Cond.selects RX1 yX1_find yX1_find, Cond.initialized RX1, Cond.code yX1_find cX1_find 4 (some .int), Cond.methodLink RX1 77 yX1_cut, Cond.instanceMethod yX1_cut, Cond.selects RX1 yX1_cut yX1_cut, Cond.code yX1_cut cX1_cut 3 none, Cond.methodLink RX1 52 yX1_buckets, Cond.instanceMethod yX1_buckets, Cond.selects RX1 yX1_buckets yX1_buckets, Cond.code yX1_buckets cX1_buckets 1 (some .int), Cond.fieldLink RX1 42 "PointerBucketsModel" "pointer" "I", Cond.methodLink RX1 38 yX1_round, Cond.instanceMethod yX1_round, Cond.selects RX1 yX1_round yX1_round, Cond.code yX1_round cX1_round 3 (some .int)]
def wsX1_remove_r2 : List Cond := [Cond.fieldLink RX1 35 "PointerBucketsModel" "level" "I", Cond.methodLink RX1 81 yX1_toEnd, Cond.instanceMethod yX1_toEnd, Cond.selects RX1 yX1_toEnd yX1_toEnd, Cond.code yX1_toEnd cX1_toEnd 6 none, Cond.methodLink RX1 74 yX1_back, Cond.instanceMethod yX1_back, Cond.selects RX1 yX1_back yX1_back, Cond.code yX1_back cX1_back 1 none, Cond.methodLink RX1 68 yX1_settle, Cond.instanceMethod yX1_settle, Cond.selects RX1 yX1_settle yX1_settle, Cond.code yX1_settle cX1_settle 2 none, Cond.methodLink RX1 59 yX1_bucketOf, Cond.instanceMethod yX1_bucketOf, Cond.selects RX1 yX1_bucketOf yX1_bucketOf, Cond.code yX1_bucketOf cX1_bucketOf 4 (some .int), Cond.constant RX1 45 (2147483647)]
def wsX1_remove : List Cond := .code yX1_remove cX1_remove 5 (some .boolean) :: ((wsX1_remove_r1 ++ wsX1_remove_r2) ++ wsX10)
def wsX1_size : List Cond := .code yX1_size cX1_size 1 (some .int) :: ([.fieldLink RX1 46 "PointerBucketsModel" "size" "I"] ++ wsX10)
def wsX1_level : List Cond := .code yX1_level cX1_level 1 (some .int) :: ([.fieldLink RX1 35 "PointerBucketsModel" "level" "I"] ++ wsX10)
def wsX1_pointer : List Cond := .code yX1_pointer cX1_pointer 1 (some .int) :: ([.fieldLink RX1 42 "PointerBucketsModel" "pointer" "I"] ++ wsX10)
def wsX1_pages : List Cond := .code yX1_pages cX1_pages 2 (some .int) :: ([.fieldLink RX1 19 "PointerBucketsModel" "counts" "[I", .methodLink RX1 52 yX1_buckets, .instanceMethod yX1_buckets, .selects RX1 yX1_buckets yX1_buckets, .initialized RX1, .code yX1_buckets cX1_buckets 1 (some .int), .fieldLink RX1 42 "PointerBucketsModel" "pointer" "I", .methodLink RX1 38 yX1_round, .instanceMethod yX1_round, .selects RX1 yX1_round yX1_round, .code yX1_round cX1_round 3 (some .int), .fieldLink RX1 22 "PointerBucketsModel" "base" "I", .fieldLink RX1 35 "PointerBucketsModel" "level" "I", .methodLink RX1 49 yX1_count, .instanceMethod yX1_count, .selects RX1 yX1_count yX1_count, .code yX1_count cX1_count 2 none, .fieldLink RX1 46 "PointerBucketsModel" "size" "I", .fieldLink RX1 16 "PointerBucketsModel" "homes" "[I", .methodLink RX1 55 yX1_pagesFor, .instanceMethod yX1_pagesFor, .selects RX1 yX1_pagesFor yX1_pagesFor, .code yX1_pagesFor cX1_pagesFor 2 (some .int), .fieldLink RX1 26 "PointerBucketsModel" "cap" "I"] ++ wsX10)
def wsX1_free_r1 : List Cond := [Cond.fieldLink RX1 29 "PointerBucketsModel" "most" "I", Cond.methodLink RX1 71 yX1_needed, Cond.instanceMethod yX1_needed, Cond.selects RX1 yX1_needed yX1_needed, Cond.initialized RX1, Cond.code yX1_needed cX1_needed 3 (some .int), Cond.fieldLink RX1 19 "PointerBucketsModel" "counts" "[I", Cond.methodLink RX1 49 yX1_count, Cond.instanceMethod yX1_count, Cond.selects RX1 yX1_count yX1_count, Cond.code yX1_count cX1_count 2 none, Cond.fieldLink RX1 46 "PointerBucketsModel" "size" "I", Cond.fieldLink RX1 16 "PointerBucketsModel" "homes" "[I", Cond.methodLink RX1 52 yX1_buckets, Cond.instanceMethod yX1_buckets, Cond.selects RX1 yX1_buckets yX1_buckets, Cond.code yX1_buckets cX1_buckets 1 (some .int), Cond.fieldLink RX1 42 "PointerBucketsModel" "pointer" "I", Cond.methodLink RX1 38 yX1_round, Cond.instanceMethod yX1_round, Cond.selects RX1 yX1_round yX1_round, Cond.code yX1_round cX1_round 3 (some .int), Cond.fieldLink RX1 22 "PointerBucketsModel" "base" "I", Cond.fieldLink RX1 35 "PointerBucketsModel" "level" "I"]
def wsX1_free_r2 : List Cond := [Cond.methodLink RX1 55 yX1_pagesFor, Cond.instanceMethod yX1_pagesFor, Cond.selects RX1 yX1_pagesFor yX1_pagesFor, Cond.code yX1_pagesFor cX1_pagesFor 2 (some .int), Cond.fieldLink RX1 26 "PointerBucketsModel" "cap" "I"]
def wsX1_free : List Cond := .code yX1_free cX1_free 1 (some .int) :: ((wsX1_free_r1 ++ wsX1_free_r2) ++ wsX10)
def wsX1_key : List Cond := .code yX1_key cX1_key 5 (some .int) :: ([.fieldLink RX1 46 "PointerBucketsModel" "size" "I", .fieldLink RX1 16 "PointerBucketsModel" "homes" "[I", .fieldLink RX1 7 "PointerBucketsModel" "keys" "[I", .methodLink RX1 52 yX1_buckets, .instanceMethod yX1_buckets, .selects RX1 yX1_buckets yX1_buckets, .initialized RX1, .code yX1_buckets cX1_buckets 1 (some .int), .fieldLink RX1 42 "PointerBucketsModel" "pointer" "I", .methodLink RX1 38 yX1_round, .instanceMethod yX1_round, .selects RX1 yX1_round yX1_round, .code yX1_round cX1_round 3 (some .int), .fieldLink RX1 22 "PointerBucketsModel" "base" "I", .fieldLink RX1 35 "PointerBucketsModel" "level" "I"] ++ wsX10)
def wsX1_clear : List Cond := .code yX1_clear cX1_clear 1 none :: ([.fieldLink RX1 46 "PointerBucketsModel" "size" "I", .fieldLink RX1 35 "PointerBucketsModel" "level" "I", .fieldLink RX1 42 "PointerBucketsModel" "pointer" "I"] ++ wsX10)
def wsJ9_max_7cf53 : List Cond := .code yJ9_max_7cf53 cJ9_max_7cf53 2 (some .int) :: ([])
def wsJ9_min_7cf53 : List Cond := .code yJ9_min_7cf53 cJ9_min_7cf53 2 (some .int) :: ([])
def wsL_cell : List Cond := .code yL_cell cL_cell 2 (some .int) :: ([])
def wsL_law_r1 : List Cond := [Cond.classLink RL 7 RX0, Cond.instantiable RX0 10, Cond.initialized RX0, Cond.classLink RL 18 RX1, Cond.instantiable RX1 11, Cond.initialized RX1, Cond.methodLink RL 9 yL_cell, Cond.static yL_cell, Cond.initialized RL, Cond.code yL_cell cL_cell 2 (some .int), Cond.methodLink RL 15 yX0_init, Cond.instanceMethod yX0_init, Cond.code yX0_init cX0_init 6 none, Cond.methodLink RX0 1 objectInit, Cond.instanceMethod objectInit, Cond.code objectInit ⟨#[0xb1]⟩ 1 none, Cond.fieldLink RX0 13 "PointerBuckets" "base" "I", Cond.fieldLink RX0 17 "PointerBuckets" "cap" "I", Cond.fieldLink RX0 20 "PointerBuckets" "pageLimit" "I", Cond.fieldLink RX0 23 "PointerBuckets" "bucketLimit" "I", Cond.methodLink RX0 26 Lib.Math.min.name, Cond.static Lib.Math.min.name, Cond.initialized "java/lang/Math", Cond.code Lib.Math.min.name Lib.Math.min.code 2 (some .int)]
def wsL_law_r2 : List Cond := [Cond.arrayClass .int, Cond.fieldLink RX0 32 "PointerBuckets" "keys" "[I", Cond.fieldLink RX0 36 "PointerBuckets" "values" "[I", Cond.fieldLink RX0 39 "PointerBuckets" "rowLengths" "[I", Cond.methodLink RX0 7 yX0_within, Cond.static yX0_within, Cond.code yX0_within cX0_within 3 (some .int), Cond.methodLink RX0 90 Lib.Math.max.name, Cond.static Lib.Math.max.name, Cond.code Lib.Math.max.name Lib.Math.max.code 2 (some .int), Cond.methodLink RL 20 yX1_init, Cond.instanceMethod yX1_init, Cond.code yX1_init cX1_init 5 none, Cond.methodLink RX1 1 objectInit, Cond.fieldLink RX1 7 "PointerBucketsModel" "keys" "[I", Cond.fieldLink RX1 13 "PointerBucketsModel" "values" "[I", Cond.fieldLink RX1 16 "PointerBucketsModel" "homes" "[I", Cond.fieldLink RX1 19 "PointerBucketsModel" "counts" "[I", Cond.fieldLink RX1 22 "PointerBucketsModel" "base" "I", Cond.fieldLink RX1 26 "PointerBucketsModel" "cap" "I", Cond.fieldLink RX1 29 "PointerBucketsModel" "most" "I", Cond.fieldLink RX1 32 "PointerBucketsModel" "mostBuckets" "I", Cond.methodLink RL 21 yX0_put, Cond.instanceMethod yX0_put]
def wsL_law_r3 : List Cond := [Cond.selects RX0 yX0_put yX0_put, Cond.code yX0_put cX0_put 4 (some .int), Cond.fieldLink RX0 46 "PointerBuckets" "count" "I", Cond.methodLink RX0 42 yX0_placeOf, Cond.instanceMethod yX0_placeOf, Cond.selects RX0 yX0_placeOf yX0_placeOf, Cond.code yX0_placeOf cX0_placeOf 3 (some .int), Cond.methodLink RX0 49 yX0_putNew, Cond.instanceMethod yX0_putNew, Cond.selects RX0 yX0_putNew yX0_putNew, Cond.code yX0_putNew cX0_putNew 5 (some .int), Cond.fieldLink RX0 73 "PointerBuckets" "level" "I", Cond.fieldLink RX0 70 "PointerBuckets" "pointer" "I", Cond.methodLink RX0 93 yX0_isCrowded, Cond.instanceMethod yX0_isCrowded, Cond.selects RX0 yX0_isCrowded yX0_isCrowded, Cond.code yX0_isCrowded cX0_isCrowded 1 (some .boolean), Cond.methodLink RX0 60 yX0_buckets, Cond.instanceMethod yX0_buckets, Cond.selects RX0 yX0_buckets yX0_buckets, Cond.code yX0_buckets cX0_buckets 1 (some .int), Cond.methodLink RX0 67 yX0_bucketsAtLevelStart, Cond.instanceMethod yX0_bucketsAtLevelStart, Cond.selects RX0 yX0_bucketsAtLevelStart yX0_bucketsAtLevelStart]
def wsL_law_r4 : List Cond := [Cond.code yX0_bucketsAtLevelStart cX0_bucketsAtLevelStart 1 (some .int), Cond.methodLink RX0 96 yX0_part, Cond.instanceMethod yX0_part, Cond.selects RX0 yX0_part yX0_part, Cond.code yX0_part cX0_part 1 none, Cond.methodLink RX0 87 yX0_pagesNeeded, Cond.instanceMethod yX0_pagesNeeded, Cond.selects RX0 yX0_pagesNeeded yX0_pagesNeeded, Cond.code yX0_pagesNeeded cX0_pagesNeeded 4 (some .int), Cond.methodLink RX0 81 yX0_bucketOf, Cond.instanceMethod yX0_bucketOf, Cond.selects RX0 yX0_bucketOf yX0_bucketOf, Cond.code yX0_bucketOf cX0_bucketOf 4 (some .int), Cond.constant RX0 76 (2147483647), Cond.methodLink RX0 84 yX0_pagesFor, Cond.instanceMethod yX0_pagesFor, Cond.selects RX0 yX0_pagesFor yX0_pagesFor, Cond.code yX0_pagesFor cX0_pagesFor 2 (some .int), Cond.methodLink RL 25 yX1_put, Cond.instanceMethod yX1_put, Cond.selects RX1 yX1_put yX1_put, Cond.code yX1_put cX1_put 5 (some .int), Cond.fieldLink RX1 46 "PointerBucketsModel" "size" "I", Cond.methodLink RX1 62 yX1_find]
def wsL_law_r5 : List Cond := [Cond.instanceMethod yX1_find, Cond.selects RX1 yX1_find yX1_find, Cond.code yX1_find cX1_find 4 (some .int), Cond.methodLink RX1 52 yX1_buckets, Cond.instanceMethod yX1_buckets, Cond.selects RX1 yX1_buckets yX1_buckets, Cond.code yX1_buckets cX1_buckets 1 (some .int), Cond.fieldLink RX1 42 "PointerBucketsModel" "pointer" "I", Cond.methodLink RX1 38 yX1_round, Cond.instanceMethod yX1_round, Cond.selects RX1 yX1_round yX1_round, Cond.code yX1_round cX1_round 3 (some .int), Cond.fieldLink RX1 35 "PointerBucketsModel" "level" "I", Cond.methodLink RX1 65 yX1_forth, Cond.instanceMethod yX1_forth, Cond.selects RX1 yX1_forth yX1_forth, Cond.code yX1_forth cX1_forth 1 none, Cond.methodLink RX1 68 yX1_settle, Cond.instanceMethod yX1_settle, Cond.selects RX1 yX1_settle yX1_settle, Cond.code yX1_settle cX1_settle 2 none, Cond.methodLink RX1 59 yX1_bucketOf, Cond.instanceMethod yX1_bucketOf, Cond.selects RX1 yX1_bucketOf yX1_bucketOf]
def wsL_law_r6 : List Cond := [Cond.code yX1_bucketOf cX1_bucketOf 4 (some .int), Cond.constant RX1 45 (2147483647), Cond.methodLink RX1 71 yX1_needed, Cond.instanceMethod yX1_needed, Cond.selects RX1 yX1_needed yX1_needed, Cond.code yX1_needed cX1_needed 3 (some .int), Cond.methodLink RX1 49 yX1_count, Cond.instanceMethod yX1_count, Cond.selects RX1 yX1_count yX1_count, Cond.code yX1_count cX1_count 2 none, Cond.methodLink RX1 55 yX1_pagesFor, Cond.instanceMethod yX1_pagesFor, Cond.selects RX1 yX1_pagesFor yX1_pagesFor, Cond.code yX1_pagesFor cX1_pagesFor 2 (some .int), Cond.methodLink RX1 74 yX1_back, Cond.instanceMethod yX1_back, Cond.selects RX1 yX1_back yX1_back, Cond.code yX1_back cX1_back 1 none, Cond.methodLink RL 26 yX0_get, Cond.instanceMethod yX0_get, Cond.selects RX0 yX0_get yX0_get, Cond.code yX0_get cX0_get 3 (some .int), Cond.methodLink RL 30 yX1_get, Cond.instanceMethod yX1_get]
def wsL_law_r7 : List Cond := [Cond.selects RX1 yX1_get yX1_get, Cond.code yX1_get cX1_get 3 (some .int), Cond.methodLink RL 31 yX0_has, Cond.instanceMethod yX0_has, Cond.selects RX0 yX0_has yX0_has, Cond.code yX0_has cX0_has 2 (some .boolean), Cond.methodLink RL 35 yX1_has, Cond.instanceMethod yX1_has, Cond.selects RX1 yX1_has yX1_has, Cond.code yX1_has cX1_has 2 (some .boolean), Cond.methodLink RL 36 yX0_remove, Cond.instanceMethod yX0_remove, Cond.selects RX0 yX0_remove yX0_remove, Cond.code yX0_remove cX0_remove 3 (some .boolean), Cond.methodLink RX0 52 yX0_takeOut, Cond.instanceMethod yX0_takeOut, Cond.selects RX0 yX0_takeOut yX0_takeOut, Cond.code yX0_takeOut cX0_takeOut 3 none, Cond.methodLink RX0 102 yX0_lastPlaceOfBucket, Cond.instanceMethod yX0_lastPlaceOfBucket, Cond.selects RX0 yX0_lastPlaceOfBucket yX0_lastPlaceOfBucket, Cond.code yX0_lastPlaceOfBucket cX0_lastPlaceOfBucket 3 (some .int), Cond.methodLink RX0 105 yX0_moveToEnd, Cond.instanceMethod yX0_moveToEnd]
def wsL_law_r8 : List Cond := [Cond.selects RX0 yX0_moveToEnd yX0_moveToEnd, Cond.code yX0_moveToEnd cX0_moveToEnd 5 none, Cond.methodLink RX0 56 yX0_isSparse, Cond.instanceMethod yX0_isSparse, Cond.selects RX0 yX0_isSparse yX0_isSparse, Cond.code yX0_isSparse cX0_isSparse 1 (some .boolean), Cond.methodLink RX0 64 yX0_join, Cond.instanceMethod yX0_join, Cond.selects RX0 yX0_join yX0_join, Cond.code yX0_join cX0_join 1 none, Cond.methodLink RX0 99 yX0_moveBucketToEnd, Cond.instanceMethod yX0_moveBucketToEnd, Cond.selects RX0 yX0_moveBucketToEnd yX0_moveBucketToEnd, Cond.code yX0_moveBucketToEnd cX0_moveBucketToEnd 4 none, Cond.methodLink RL 39 yX1_remove, Cond.instanceMethod yX1_remove, Cond.selects RX1 yX1_remove yX1_remove, Cond.code yX1_remove cX1_remove 5 (some .boolean), Cond.methodLink RX1 77 yX1_cut, Cond.instanceMethod yX1_cut, Cond.selects RX1 yX1_cut yX1_cut, Cond.code yX1_cut cX1_cut 3 none, Cond.methodLink RX1 81 yX1_toEnd, Cond.instanceMethod yX1_toEnd]
def wsL_law_r9 : List Cond := [Cond.selects RX1 yX1_toEnd yX1_toEnd, Cond.code yX1_toEnd cX1_toEnd 6 none, Cond.methodLink RL 40 yX0_size, Cond.instanceMethod yX0_size, Cond.selects RX0 yX0_size yX0_size, Cond.code yX0_size cX0_size 1 (some .int), Cond.methodLink RL 44 yX1_size, Cond.instanceMethod yX1_size, Cond.selects RX1 yX1_size yX1_size, Cond.code yX1_size cX1_size 1 (some .int), Cond.methodLink RL 45 yX0_buckets, Cond.methodLink RL 48 yX1_buckets, Cond.methodLink RL 49 yX0_level, Cond.instanceMethod yX0_level, Cond.selects RX0 yX0_level yX0_level, Cond.code yX0_level cX0_level 1 (some .int), Cond.methodLink RL 52 yX1_level, Cond.instanceMethod yX1_level, Cond.selects RX1 yX1_level yX1_level, Cond.code yX1_level cX1_level 1 (some .int), Cond.methodLink RL 53 yX0_pointer, Cond.instanceMethod yX0_pointer, Cond.selects RX0 yX0_pointer yX0_pointer, Cond.code yX0_pointer cX0_pointer 1 (some .int)]
def wsL_law_r10 : List Cond := [Cond.methodLink RL 56 yX1_pointer, Cond.instanceMethod yX1_pointer, Cond.selects RX1 yX1_pointer yX1_pointer, Cond.code yX1_pointer cX1_pointer 1 (some .int), Cond.methodLink RL 57 yX0_bucketOf, Cond.methodLink RL 60 yX1_bucketOf, Cond.methodLink RL 61 yX0_pages, Cond.instanceMethod yX0_pages, Cond.selects RX0 yX0_pages yX0_pages, Cond.code yX0_pages cX0_pages 4 (some .int), Cond.methodLink RX0 77 yX0_isBucket, Cond.instanceMethod yX0_isBucket, Cond.selects RX0 yX0_isBucket yX0_isBucket, Cond.code yX0_isBucket cX0_isBucket 2 (some .boolean), Cond.methodLink RL 64 yX1_pages, Cond.instanceMethod yX1_pages, Cond.selects RX1 yX1_pages yX1_pages, Cond.code yX1_pages cX1_pages 2 (some .int), Cond.methodLink RL 65 yX0_free, Cond.instanceMethod yX0_free, Cond.selects RX0 yX0_free yX0_free, Cond.code yX0_free cX0_free 1 (some .int), Cond.methodLink RL 68 yX1_free, Cond.instanceMethod yX1_free]
def wsL_law_r11 : List Cond := [Cond.selects RX1 yX1_free yX1_free, Cond.code yX1_free cX1_free 1 (some .int), Cond.methodLink RL 69 yX0_key, Cond.instanceMethod yX0_key, Cond.selects RX0 yX0_key yX0_key, Cond.code yX0_key cX0_key 5 (some .int), Cond.methodLink RL 72 yX1_key, Cond.instanceMethod yX1_key, Cond.selects RX1 yX1_key yX1_key, Cond.code yX1_key cX1_key 5 (some .int), Cond.methodLink RL 73 yX0_clear, Cond.instanceMethod yX0_clear, Cond.selects RX0 yX0_clear yX0_clear, Cond.code yX0_clear cX0_clear 1 none, Cond.methodLink RL 76 yX1_clear, Cond.instanceMethod yX1_clear, Cond.selects RX1 yX1_clear yX1_clear, Cond.code yX1_clear cX1_clear 1 none]
def wsL_law : List Cond := (wsL_law_r1 ++ (wsL_law_r2 ++ (wsL_law_r3 ++ (wsL_law_r4 ++ (wsL_law_r5 ++ (wsL_law_r6 ++ (wsL_law_r7 ++ (wsL_law_r8 ++ (wsL_law_r9 ++ (wsL_law_r10 ++ wsL_law_r11)))))))))) ++ wsX00 ++ wsX10 ++ ([] : List Cond)
set_option maxRecDepth 20000 in
theorem wsL_law_in : ∀ w ∈ wsL_law, w ∈ lw_tbl := fun w h => (goodIn_p wsL_law [190, 32, 35, 41, 38, 44, 195, 80, 84, 88, 92, 96, 100, 104, 108, 112, 117, 247, 251, 234, 238, 256, 260, 242, 265, 269, 273, 277, 121, 281, 125, 285, 129, 133, 137, 141, 145, 149, 153, 289, 293, 297, 157, 301, 162, 305, 166, 309, 171, 175, 313, 179, 317, 183, 321, 187, 325] (by decide +kernel) (by decide +kernel) w h).1
theorem inlX0 : ∀ w ∈ wsX00, w ∈ wsL_law := fun _ h => List.mem_append_left _ (List.mem_append_left _ (List.mem_append_right _ h))
theorem inX0 : ∀ w ∈ wsX00, w ∈ lw_tbl := fun w h => wsL_law_in w (inlX0 w h)
theorem inlX1 : ∀ w ∈ wsX10, w ∈ wsL_law := fun _ h => List.mem_append_left _ (List.mem_append_right _ h)
theorem inX1 : ∀ w ∈ wsX10, w ∈ lw_tbl := fun w h => wsL_law_in w (inlX1 w h)
theorem inJ9 : ∀ w ∈ wsJ90, w ∈ lw_tbl := by decide +kernel
set_option maxRecDepth 20000 in
theorem ggX0_init_X0_within : GoodIn wsX0_init wsX0_within := goodIn_r _ [19, 8, 9, 10, 11, 20, 21, 22] (by decide +kernel) (by decide +kernel)
set_option maxRecDepth 20000 in
theorem gX0_init_X0_within : GoodIn wsX0_init (va_wsS RX0 7 yX0_within wsX0_within) := goodIn_app (goodIn_of _ (by decide +kernel)) ggX0_init_X0_within
theorem dX0_init_0 : decode cX0_init 0 = .ok (.aload_n 0, 1) := by decide +kernel
theorem dX0_init_1 : decode cX0_init 1 = .ok (.invokespecial 1, 3) := by decide +kernel
theorem dX0_init_4 : decode cX0_init 4 = .ok (.aload_n 0, 1) := by decide +kernel
theorem dX0_init_5 : decode cX0_init 5 = .ok (.iload_n 1, 1) := by decide +kernel
theorem dX0_init_6 : decode cX0_init 6 = .ok (.iconst 1, 1) := by decide +kernel
theorem dX0_init_7 : decode cX0_init 7 = .ok (.bipush 8, 2) := by decide +kernel
theorem dX0_init_9 : decode cX0_init 9 = .ok (.invokestatic 7, 3) := by decide +kernel
theorem dX0_init_12 : decode cX0_init 12 = .ok (.putfield 13, 3) := by decide +kernel
theorem dX0_init_15 : decode cX0_init 15 = .ok (.aload_n 0, 1) := by decide +kernel
theorem dX0_init_16 : decode cX0_init 16 = .ok (.iload_n 2, 1) := by decide +kernel
theorem dX0_init_17 : decode cX0_init 17 = .ok (.iconst 1, 1) := by decide +kernel
theorem dX0_init_18 : decode cX0_init 18 = .ok (.bipush 8, 2) := by decide +kernel
theorem dX0_init_20 : decode cX0_init 20 = .ok (.invokestatic 7, 3) := by decide +kernel
theorem dX0_init_23 : decode cX0_init 23 = .ok (.putfield 17, 3) := by decide +kernel
theorem dX0_init_26 : decode cX0_init 26 = .ok (.aload_n 0, 1) := by decide +kernel
theorem dX0_init_27 : decode cX0_init 27 = .ok (.iload_n 3, 1) := by decide +kernel
theorem dX0_init_28 : decode cX0_init 28 = .ok (.bipush 8, 2) := by decide +kernel
theorem dX0_init_30 : decode cX0_init 30 = .ok (.sipush 300, 3) := by decide +kernel
theorem dX0_init_33 : decode cX0_init 33 = .ok (.invokestatic 7, 3) := by decide +kernel
theorem dX0_init_36 : decode cX0_init 36 = .ok (.putfield 20, 3) := by decide +kernel
theorem dX0_init_39 : decode cX0_init 39 = .ok (.aload_n 0, 1) := by decide +kernel
theorem dX0_init_40 : decode cX0_init 40 = .ok (.iload 4, 2) := by decide +kernel
theorem dX0_init_42 : decode cX0_init 42 = .ok (.aload_n 0, 1) := by decide +kernel
theorem dX0_init_43 : decode cX0_init 43 = .ok (.getfield 13, 3) := by decide +kernel
theorem dX0_init_46 : decode cX0_init 46 = .ok (.sipush 200, 3) := by decide +kernel
theorem dX0_init_49 : decode cX0_init 49 = .ok (.invokestatic 7, 3) := by decide +kernel
theorem dX0_init_52 : decode cX0_init 52 = .ok (.putfield 23, 3) := by decide +kernel
theorem dX0_init_55 : decode cX0_init 55 = .ok (.aload_n 0, 1) := by decide +kernel
theorem dX0_init_56 : decode cX0_init 56 = .ok (.getfield 20, 3) := by decide +kernel
theorem dX0_init_59 : decode cX0_init 59 = .ok (.aload_n 0, 1) := by decide +kernel
theorem dX0_init_60 : decode cX0_init 60 = .ok (.getfield 17, 3) := by decide +kernel
theorem dX0_init_63 : decode cX0_init 63 = .ok (.imul, 1) := by decide +kernel
theorem dX0_init_64 : decode cX0_init 64 = .ok (.sipush 512, 3) := by decide +kernel
theorem dX0_init_67 : decode cX0_init 67 = .ok (.invokestatic 26, 3) := by decide +kernel
theorem dX0_init_70 : decode cX0_init 70 = .ok (.istore 5, 2) := by decide +kernel
theorem dX0_init_72 : decode cX0_init 72 = .ok (.aload_n 0, 1) := by decide +kernel
theorem dX0_init_73 : decode cX0_init 73 = .ok (.iload 5, 2) := by decide +kernel
theorem dX0_init_75 : decode cX0_init 75 = .ok (.newarray .int, 2) := by decide +kernel
theorem dX0_init_77 : decode cX0_init 77 = .ok (.putfield 32, 3) := by decide +kernel
theorem dX0_init_80 : decode cX0_init 80 = .ok (.aload_n 0, 1) := by decide +kernel
theorem dX0_init_81 : decode cX0_init 81 = .ok (.iload 5, 2) := by decide +kernel
theorem dX0_init_83 : decode cX0_init 83 = .ok (.newarray .int, 2) := by decide +kernel
theorem dX0_init_85 : decode cX0_init 85 = .ok (.putfield 36, 3) := by decide +kernel
theorem dX0_init_88 : decode cX0_init 88 = .ok (.aload_n 0, 1) := by decide +kernel
theorem dX0_init_89 : decode cX0_init 89 = .ok (.aload_n 0, 1) := by decide +kernel
theorem dX0_init_90 : decode cX0_init 90 = .ok (.getfield 23, 3) := by decide +kernel
theorem dX0_init_93 : decode cX0_init 93 = .ok (.newarray .int, 2) := by decide +kernel
theorem dX0_init_95 : decode cX0_init 95 = .ok (.putfield 39, 3) := by decide +kernel
theorem dX0_init_98 : decode cX0_init 98 = .ok (.return_, 1) := by decide +kernel
set_option maxRecDepth 20000 in
theorem ggX0_put_X0_placeOf : GoodIn wsX0_put wsX0_placeOf := goodIn_r _ [8, 2, 3, 53, 54, 55, 56, 57, 58, 59, 60, 61, 62] (by decide +kernel) (by decide +kernel)
set_option maxRecDepth 20000 in
theorem gX0_put_X0_placeOf : GoodIn wsX0_put (wsV RX0 42 RX0 yX0_placeOf wsX0_placeOf) := goodIn_app (goodIn_of _ (by decide +kernel)) ggX0_put_X0_placeOf
set_option maxRecDepth 20000 in
theorem ggX0_put_X0_putNew : GoodIn wsX0_put wsX0_putNew := goodIn_r _ [12, 13, 14, 3, 2, 1, 15, 16, 17, 18, 19, 7, 20, 21, 22, 23, 24, 25, 26, 27, 28, 29, 30, 31, 32, 33, 34, 35, 36, 37, 38, 39, 40, 41, 42, 43, 44, 45, 46, 47, 48, 49, 50, 51, 52, 53, 54, 55, 56, 57, 58, 59, 60, 61, 62] (by decide +kernel) (by decide +kernel)
set_option maxRecDepth 20000 in
theorem gX0_put_X0_putNew : GoodIn wsX0_put (wsV RX0 49 RX0 yX0_putNew wsX0_putNew) := goodIn_app (goodIn_of _ (by decide +kernel)) ggX0_put_X0_putNew
theorem dX0_put_0 : decode cX0_put 0 = .ok (.aload_n 0, 1) := by decide +kernel
theorem dX0_put_1 : decode cX0_put 1 = .ok (.iload_n 1, 1) := by decide +kernel
theorem dX0_put_2 : decode cX0_put 2 = .ok (.invokevirtual 42, 3) := by decide +kernel
theorem dX0_put_5 : decode cX0_put 5 = .ok (.istore_n 3, 1) := by decide +kernel
theorem dX0_put_6 : decode cX0_put 6 = .ok (.iload_n 3, 1) := by decide +kernel
theorem dX0_put_7 : decode cX0_put 7 = .ok (.iconst (-1), 1) := by decide +kernel
theorem dX0_put_8 : decode cX0_put 8 = .ok (.if_icmp .eq 12, 3) := by decide +kernel
theorem dX0_put_11 : decode cX0_put 11 = .ok (.aload_n 0, 1) := by decide +kernel
theorem dX0_put_12 : decode cX0_put 12 = .ok (.getfield 36, 3) := by decide +kernel
theorem dX0_put_15 : decode cX0_put 15 = .ok (.iload_n 3, 1) := by decide +kernel
theorem dX0_put_16 : decode cX0_put 16 = .ok (.iload_n 2, 1) := by decide +kernel
theorem dX0_put_17 : decode cX0_put 17 = .ok (.iastore, 1) := by decide +kernel
theorem dX0_put_18 : decode cX0_put 18 = .ok (.iconst 1, 1) := by decide +kernel
theorem dX0_put_19 : decode cX0_put 19 = .ok (.ireturn, 1) := by decide +kernel
theorem dX0_put_20 : decode cX0_put 20 = .ok (.aload_n 0, 1) := by decide +kernel
theorem dX0_put_21 : decode cX0_put 21 = .ok (.getfield 46, 3) := by decide +kernel
theorem dX0_put_24 : decode cX0_put 24 = .ok (.aload_n 0, 1) := by decide +kernel
theorem dX0_put_25 : decode cX0_put 25 = .ok (.getfield 32, 3) := by decide +kernel
theorem dX0_put_28 : decode cX0_put 28 = .ok (.arraylength, 1) := by decide +kernel
theorem dX0_put_29 : decode cX0_put 29 = .ok (.if_icmp .lt 5, 3) := by decide +kernel
theorem dX0_put_32 : decode cX0_put 32 = .ok (.iconst 2, 1) := by decide +kernel
theorem dX0_put_33 : decode cX0_put 33 = .ok (.ireturn, 1) := by decide +kernel
theorem dX0_put_34 : decode cX0_put 34 = .ok (.aload_n 0, 1) := by decide +kernel
theorem dX0_put_35 : decode cX0_put 35 = .ok (.iload_n 1, 1) := by decide +kernel
theorem dX0_put_36 : decode cX0_put 36 = .ok (.iload_n 2, 1) := by decide +kernel
theorem dX0_put_37 : decode cX0_put 37 = .ok (.invokevirtual 49, 3) := by decide +kernel
theorem dX0_put_40 : decode cX0_put 40 = .ok (.ireturn, 1) := by decide +kernel
set_option maxRecDepth 20000 in
theorem ggX0_get_X0_placeOf : GoodIn wsX0_get wsX0_placeOf := goodIn_r _ [6, 7, 8, 9, 10, 11, 12, 13, 14, 15, 16, 17, 18] (by decide +kernel) (by decide +kernel)
set_option maxRecDepth 20000 in
theorem gX0_get_X0_placeOf : GoodIn wsX0_get (wsV RX0 42 RX0 yX0_placeOf wsX0_placeOf) := goodIn_app (goodIn_of _ (by decide +kernel)) ggX0_get_X0_placeOf
theorem dX0_get_0 : decode cX0_get 0 = .ok (.aload_n 0, 1) := by decide +kernel
theorem dX0_get_1 : decode cX0_get 1 = .ok (.iload_n 1, 1) := by decide +kernel
theorem dX0_get_2 : decode cX0_get 2 = .ok (.invokevirtual 42, 3) := by decide +kernel
theorem dX0_get_5 : decode cX0_get 5 = .ok (.istore_n 2, 1) := by decide +kernel
theorem dX0_get_6 : decode cX0_get 6 = .ok (.iload_n 2, 1) := by decide +kernel
theorem dX0_get_7 : decode cX0_get 7 = .ok (.iconst (-1), 1) := by decide +kernel
theorem dX0_get_8 : decode cX0_get 8 = .ok (.if_icmp .ne 7, 3) := by decide +kernel
theorem dX0_get_11 : decode cX0_get 11 = .ok (.iconst 0, 1) := by decide +kernel
theorem dX0_get_12 : decode cX0_get 12 = .ok (.goto 9, 3) := by decide +kernel
theorem dX0_get_15 : decode cX0_get 15 = .ok (.aload_n 0, 1) := by decide +kernel
theorem dX0_get_16 : decode cX0_get 16 = .ok (.getfield 36, 3) := by decide +kernel
theorem dX0_get_19 : decode cX0_get 19 = .ok (.iload_n 2, 1) := by decide +kernel
theorem dX0_get_20 : decode cX0_get 20 = .ok (.iaload, 1) := by decide +kernel
theorem dX0_get_21 : decode cX0_get 21 = .ok (.ireturn, 1) := by decide +kernel
set_option maxRecDepth 20000 in
theorem ggX0_has_X0_placeOf : GoodIn wsX0_has wsX0_placeOf := goodIn_r _ [5, 6, 7, 8, 9, 10, 11, 12, 13, 14, 15, 16, 17] (by decide +kernel) (by decide +kernel)
set_option maxRecDepth 20000 in
theorem gX0_has_X0_placeOf : GoodIn wsX0_has (wsV RX0 42 RX0 yX0_placeOf wsX0_placeOf) := goodIn_app (goodIn_of _ (by decide +kernel)) ggX0_has_X0_placeOf
theorem dX0_has_0 : decode cX0_has 0 = .ok (.aload_n 0, 1) := by decide +kernel
theorem dX0_has_1 : decode cX0_has 1 = .ok (.iload_n 1, 1) := by decide +kernel
theorem dX0_has_2 : decode cX0_has 2 = .ok (.invokevirtual 42, 3) := by decide +kernel
theorem dX0_has_5 : decode cX0_has 5 = .ok (.iconst (-1), 1) := by decide +kernel
theorem dX0_has_6 : decode cX0_has 6 = .ok (.if_icmp .eq 7, 3) := by decide +kernel
theorem dX0_has_9 : decode cX0_has 9 = .ok (.iconst 1, 1) := by decide +kernel
theorem dX0_has_10 : decode cX0_has 10 = .ok (.goto 4, 3) := by decide +kernel
theorem dX0_has_13 : decode cX0_has 13 = .ok (.iconst 0, 1) := by decide +kernel
theorem dX0_has_14 : decode cX0_has 14 = .ok (.ireturn, 1) := by decide +kernel
set_option maxRecDepth 20000 in
theorem ggX0_remove_X0_placeOf : GoodIn wsX0_remove wsX0_placeOf := goodIn_r _ [6, 7, 8, 50, 51, 52, 53, 54, 55, 56, 57, 58, 59] (by decide +kernel) (by decide +kernel)
set_option maxRecDepth 20000 in
theorem gX0_remove_X0_placeOf : GoodIn wsX0_remove (wsV RX0 42 RX0 yX0_placeOf wsX0_placeOf) := goodIn_app (goodIn_of _ (by decide +kernel)) ggX0_remove_X0_placeOf
set_option maxRecDepth 20000 in
theorem ggX0_remove_X0_takeOut : GoodIn wsX0_remove wsX0_takeOut := goodIn_r _ [12, 8, 13, 7, 14, 15, 16, 5, 17, 18, 19, 20, 21, 22, 23, 1, 24, 25, 26, 27, 28, 29, 30, 31, 32, 50, 51, 52, 53, 54, 55, 56, 57, 58, 59] (by decide +kernel) (by decide +kernel)
set_option maxRecDepth 20000 in
theorem gX0_remove_X0_takeOut : GoodIn wsX0_remove (wsV RX0 52 RX0 yX0_takeOut wsX0_takeOut) := goodIn_app (goodIn_of _ (by decide +kernel)) ggX0_remove_X0_takeOut
set_option maxRecDepth 20000 in
theorem ggX0_remove_X0_isSparse : GoodIn wsX0_remove wsX0_isSparse := goodIn_r _ [36, 7, 37, 38, 39, 40, 5, 41, 19, 20, 21, 22, 23, 1, 24, 50, 51, 52, 53, 54, 55, 56, 57, 58, 59] (by decide +kernel) (by decide +kernel)
set_option maxRecDepth 20000 in
theorem gX0_remove_X0_isSparse : GoodIn wsX0_remove (wsV RX0 56 RX0 yX0_isSparse wsX0_isSparse) := goodIn_app (goodIn_of _ (by decide +kernel)) ggX0_remove_X0_isSparse
set_option maxRecDepth 20000 in
theorem ggX0_remove_X0_buckets : GoodIn wsX0_remove wsX0_buckets := goodIn_r _ [41, 19, 20, 21, 22, 5, 23, 1, 24, 50, 51, 52, 53, 54, 55, 56, 57, 58, 59] (by decide +kernel) (by decide +kernel)
set_option maxRecDepth 20000 in
theorem gX0_remove_X0_buckets : GoodIn wsX0_remove (wsV RX0 60 RX0 yX0_buckets wsX0_buckets) := goodIn_app (goodIn_of _ (by decide +kernel)) ggX0_remove_X0_buckets
set_option maxRecDepth 20000 in
theorem ggX0_remove_X0_join : GoodIn wsX0_remove wsX0_join := goodIn_r _ [45, 19, 24, 38, 39, 40, 5, 41, 20, 21, 22, 23, 1, 46, 47, 48, 49, 7, 8, 14, 15, 16, 17, 18, 29, 30, 31, 32, 13, 50, 51, 52, 53, 54, 55, 56, 57, 58, 59] (by decide +kernel) (by decide +kernel)
set_option maxRecDepth 20000 in
theorem gX0_remove_X0_join : GoodIn wsX0_remove (wsV RX0 64 RX0 yX0_join wsX0_join) := goodIn_app (goodIn_of _ (by decide +kernel)) ggX0_remove_X0_join
theorem dX0_remove_0 : decode cX0_remove 0 = .ok (.aload_n 0, 1) := by decide +kernel
theorem dX0_remove_1 : decode cX0_remove 1 = .ok (.iload_n 1, 1) := by decide +kernel
theorem dX0_remove_2 : decode cX0_remove 2 = .ok (.invokevirtual 42, 3) := by decide +kernel
theorem dX0_remove_5 : decode cX0_remove 5 = .ok (.istore_n 2, 1) := by decide +kernel
theorem dX0_remove_6 : decode cX0_remove 6 = .ok (.iload_n 2, 1) := by decide +kernel
theorem dX0_remove_7 : decode cX0_remove 7 = .ok (.iconst (-1), 1) := by decide +kernel
theorem dX0_remove_8 : decode cX0_remove 8 = .ok (.if_icmp .ne 5, 3) := by decide +kernel
theorem dX0_remove_11 : decode cX0_remove 11 = .ok (.iconst 0, 1) := by decide +kernel
theorem dX0_remove_12 : decode cX0_remove 12 = .ok (.ireturn, 1) := by decide +kernel
theorem dX0_remove_13 : decode cX0_remove 13 = .ok (.aload_n 0, 1) := by decide +kernel
theorem dX0_remove_14 : decode cX0_remove 14 = .ok (.iload_n 2, 1) := by decide +kernel
theorem dX0_remove_15 : decode cX0_remove 15 = .ok (.invokevirtual 52, 3) := by decide +kernel
theorem dX0_remove_18 : decode cX0_remove 18 = .ok (.aload_n 0, 1) := by decide +kernel
theorem dX0_remove_19 : decode cX0_remove 19 = .ok (.invokevirtual 56, 3) := by decide +kernel
theorem dX0_remove_22 : decode cX0_remove 22 = .ok (.ifCond .eq 18, 3) := by decide +kernel
theorem dX0_remove_25 : decode cX0_remove 25 = .ok (.aload_n 0, 1) := by decide +kernel
theorem dX0_remove_26 : decode cX0_remove 26 = .ok (.invokevirtual 60, 3) := by decide +kernel
theorem dX0_remove_29 : decode cX0_remove 29 = .ok (.aload_n 0, 1) := by decide +kernel
theorem dX0_remove_30 : decode cX0_remove 30 = .ok (.getfield 13, 3) := by decide +kernel
theorem dX0_remove_33 : decode cX0_remove 33 = .ok (.if_icmp .le 7, 3) := by decide +kernel
theorem dX0_remove_36 : decode cX0_remove 36 = .ok (.aload_n 0, 1) := by decide +kernel
theorem dX0_remove_37 : decode cX0_remove 37 = .ok (.invokevirtual 64, 3) := by decide +kernel
theorem dX0_remove_40 : decode cX0_remove 40 = .ok (.iconst 1, 1) := by decide +kernel
theorem dX0_remove_41 : decode cX0_remove 41 = .ok (.ireturn, 1) := by decide +kernel
theorem dX0_size_0 : decode cX0_size 0 = .ok (.aload_n 0, 1) := by decide +kernel
theorem dX0_size_1 : decode cX0_size 1 = .ok (.getfield 46, 3) := by decide +kernel
theorem dX0_size_4 : decode cX0_size 4 = .ok (.ireturn, 1) := by decide +kernel
set_option maxRecDepth 20000 in
theorem ggX0_buckets_X0_bucketsAtLevelStart : GoodIn wsX0_buckets wsX0_bucketsAtLevelStart := goodIn_r _ [6, 7, 8, 9, 10, 11, 12, 13, 14, 15, 16, 17, 18] (by decide +kernel) (by decide +kernel)
set_option maxRecDepth 20000 in
theorem gX0_buckets_X0_bucketsAtLevelStart : GoodIn wsX0_buckets (wsV RX0 67 RX0 yX0_bucketsAtLevelStart wsX0_bucketsAtLevelStart) := goodIn_app (goodIn_of _ (by decide +kernel)) ggX0_buckets_X0_bucketsAtLevelStart
theorem dX0_buckets_0 : decode cX0_buckets 0 = .ok (.aload_n 0, 1) := by decide +kernel
theorem dX0_buckets_1 : decode cX0_buckets 1 = .ok (.invokevirtual 67, 3) := by decide +kernel
theorem dX0_buckets_4 : decode cX0_buckets 4 = .ok (.aload_n 0, 1) := by decide +kernel
theorem dX0_buckets_5 : decode cX0_buckets 5 = .ok (.getfield 70, 3) := by decide +kernel
theorem dX0_buckets_8 : decode cX0_buckets 8 = .ok (.iadd, 1) := by decide +kernel
theorem dX0_buckets_9 : decode cX0_buckets 9 = .ok (.ireturn, 1) := by decide +kernel
theorem dX0_level_0 : decode cX0_level 0 = .ok (.aload_n 0, 1) := by decide +kernel
theorem dX0_level_1 : decode cX0_level 1 = .ok (.getfield 73, 3) := by decide +kernel
theorem dX0_level_4 : decode cX0_level 4 = .ok (.ireturn, 1) := by decide +kernel
theorem dX0_pointer_0 : decode cX0_pointer 0 = .ok (.aload_n 0, 1) := by decide +kernel
theorem dX0_pointer_1 : decode cX0_pointer 1 = .ok (.getfield 70, 3) := by decide +kernel
theorem dX0_pointer_4 : decode cX0_pointer 4 = .ok (.ireturn, 1) := by decide +kernel
set_option maxRecDepth 20000 in
theorem ggX0_bucketOf_X0_bucketsAtLevelStart : GoodIn wsX0_bucketOf wsX0_bucketsAtLevelStart := goodIn_r _ [7, 8, 9, 10, 11, 12, 13, 14, 15, 16, 17, 18, 19] (by decide +kernel) (by decide +kernel)
set_option maxRecDepth 20000 in
theorem gX0_bucketOf_X0_bucketsAtLevelStart : GoodIn wsX0_bucketOf (wsV RX0 67 RX0 yX0_bucketsAtLevelStart wsX0_bucketsAtLevelStart) := goodIn_app (goodIn_of _ (by decide +kernel)) ggX0_bucketOf_X0_bucketsAtLevelStart
theorem dX0_bucketOf_0 : decode cX0_bucketOf 0 = .ok (.iload_n 1, 1) := by decide +kernel
theorem dX0_bucketOf_1 : decode cX0_bucketOf 1 = .ok (.ldc 76, 2) := by decide +kernel
theorem dX0_bucketOf_3 : decode cX0_bucketOf 3 = .ok (.iand, 1) := by decide +kernel
theorem dX0_bucketOf_4 : decode cX0_bucketOf 4 = .ok (.istore_n 2, 1) := by decide +kernel
theorem dX0_bucketOf_5 : decode cX0_bucketOf 5 = .ok (.iload_n 2, 1) := by decide +kernel
theorem dX0_bucketOf_6 : decode cX0_bucketOf 6 = .ok (.aload_n 0, 1) := by decide +kernel
theorem dX0_bucketOf_7 : decode cX0_bucketOf 7 = .ok (.invokevirtual 67, 3) := by decide +kernel
theorem dX0_bucketOf_10 : decode cX0_bucketOf 10 = .ok (.irem, 1) := by decide +kernel
theorem dX0_bucketOf_11 : decode cX0_bucketOf 11 = .ok (.istore_n 3, 1) := by decide +kernel
theorem dX0_bucketOf_12 : decode cX0_bucketOf 12 = .ok (.iload_n 3, 1) := by decide +kernel
theorem dX0_bucketOf_13 : decode cX0_bucketOf 13 = .ok (.aload_n 0, 1) := by decide +kernel
theorem dX0_bucketOf_14 : decode cX0_bucketOf 14 = .ok (.getfield 70, 3) := by decide +kernel
theorem dX0_bucketOf_17 : decode cX0_bucketOf 17 = .ok (.if_icmp .ge 14, 3) := by decide +kernel
theorem dX0_bucketOf_20 : decode cX0_bucketOf 20 = .ok (.iload_n 2, 1) := by decide +kernel
theorem dX0_bucketOf_21 : decode cX0_bucketOf 21 = .ok (.iconst 2, 1) := by decide +kernel
theorem dX0_bucketOf_22 : decode cX0_bucketOf 22 = .ok (.aload_n 0, 1) := by decide +kernel
theorem dX0_bucketOf_23 : decode cX0_bucketOf 23 = .ok (.invokevirtual 67, 3) := by decide +kernel
theorem dX0_bucketOf_26 : decode cX0_bucketOf 26 = .ok (.imul, 1) := by decide +kernel
theorem dX0_bucketOf_27 : decode cX0_bucketOf 27 = .ok (.irem, 1) := by decide +kernel
theorem dX0_bucketOf_28 : decode cX0_bucketOf 28 = .ok (.goto 4, 3) := by decide +kernel
theorem dX0_bucketOf_31 : decode cX0_bucketOf 31 = .ok (.iload_n 3, 1) := by decide +kernel
theorem dX0_bucketOf_32 : decode cX0_bucketOf 32 = .ok (.ireturn, 1) := by decide +kernel
set_option maxRecDepth 20000 in
theorem ggX0_pages_X0_isBucket : GoodIn wsX0_pages wsX0_isBucket := goodIn_r _ [7, 8, 9, 10, 6, 11, 12, 13, 14, 15, 16, 17, 18, 33, 34, 35, 36, 37, 38, 39, 40, 41, 42] (by decide +kernel) (by decide +kernel)
set_option maxRecDepth 20000 in
theorem gX0_pages_X0_isBucket : GoodIn wsX0_pages (wsV RX0 77 RX0 yX0_isBucket wsX0_isBucket) := goodIn_app (goodIn_of _ (by decide +kernel)) ggX0_pages_X0_isBucket
set_option maxRecDepth 20000 in
theorem ggX0_pages_X0_bucketOf : GoodIn wsX0_pages wsX0_bucketOf := goodIn_r _ [22, 23, 12, 13, 14, 15, 6, 16, 17, 18, 33, 34, 35, 36, 37, 38, 39, 40, 41, 42] (by decide +kernel) (by decide +kernel)
set_option maxRecDepth 20000 in
theorem gX0_pages_X0_bucketOf : GoodIn wsX0_pages (wsV RX0 81 RX0 yX0_bucketOf wsX0_bucketOf) := goodIn_app (goodIn_of _ (by decide +kernel)) ggX0_pages_X0_bucketOf
set_option maxRecDepth 20000 in
theorem ggX0_pages_X0_pagesFor : GoodIn wsX0_pages wsX0_pagesFor := goodIn_r _ [27, 28, 29, 30, 31, 32, 33, 34, 35, 36, 37, 38, 39, 40, 41, 42] (by decide +kernel) (by decide +kernel)
set_option maxRecDepth 20000 in
theorem gX0_pages_X0_pagesFor : GoodIn wsX0_pages (wsV RX0 84 RX0 yX0_pagesFor wsX0_pagesFor) := goodIn_app (goodIn_of _ (by decide +kernel)) ggX0_pages_X0_pagesFor
theorem dX0_pages_0 : decode cX0_pages 0 = .ok (.aload_n 0, 1) := by decide +kernel
theorem dX0_pages_1 : decode cX0_pages 1 = .ok (.iload_n 1, 1) := by decide +kernel
theorem dX0_pages_2 : decode cX0_pages 2 = .ok (.invokevirtual 77, 3) := by decide +kernel
theorem dX0_pages_5 : decode cX0_pages 5 = .ok (.ifCond .ne 5, 3) := by decide +kernel
theorem dX0_pages_8 : decode cX0_pages 8 = .ok (.iconst (-1), 1) := by decide +kernel
theorem dX0_pages_9 : decode cX0_pages 9 = .ok (.ireturn, 1) := by decide +kernel
theorem dX0_pages_10 : decode cX0_pages 10 = .ok (.iconst 0, 1) := by decide +kernel
theorem dX0_pages_11 : decode cX0_pages 11 = .ok (.istore_n 2, 1) := by decide +kernel
theorem dX0_pages_12 : decode cX0_pages 12 = .ok (.iconst 0, 1) := by decide +kernel
theorem dX0_pages_13 : decode cX0_pages 13 = .ok (.istore_n 3, 1) := by decide +kernel
theorem dX0_pages_14 : decode cX0_pages 14 = .ok (.iload_n 3, 1) := by decide +kernel
theorem dX0_pages_15 : decode cX0_pages 15 = .ok (.aload_n 0, 1) := by decide +kernel
theorem dX0_pages_16 : decode cX0_pages 16 = .ok (.getfield 46, 3) := by decide +kernel
theorem dX0_pages_19 : decode cX0_pages 19 = .ok (.if_icmp .ge 26, 3) := by decide +kernel
theorem dX0_pages_22 : decode cX0_pages 22 = .ok (.aload_n 0, 1) := by decide +kernel
theorem dX0_pages_23 : decode cX0_pages 23 = .ok (.aload_n 0, 1) := by decide +kernel
theorem dX0_pages_24 : decode cX0_pages 24 = .ok (.getfield 32, 3) := by decide +kernel
theorem dX0_pages_27 : decode cX0_pages 27 = .ok (.iload_n 3, 1) := by decide +kernel
theorem dX0_pages_28 : decode cX0_pages 28 = .ok (.iaload, 1) := by decide +kernel
theorem dX0_pages_29 : decode cX0_pages 29 = .ok (.invokevirtual 81, 3) := by decide +kernel
theorem dX0_pages_32 : decode cX0_pages 32 = .ok (.iload_n 1, 1) := by decide +kernel
theorem dX0_pages_33 : decode cX0_pages 33 = .ok (.if_icmp .ne 6, 3) := by decide +kernel
theorem dX0_pages_36 : decode cX0_pages 36 = .ok (.iinc 2 1, 3) := by decide +kernel
theorem dX0_pages_39 : decode cX0_pages 39 = .ok (.iinc 3 1, 3) := by decide +kernel
theorem dX0_pages_42 : decode cX0_pages 42 = .ok (.goto (-28), 3) := by decide +kernel
theorem dX0_pages_45 : decode cX0_pages 45 = .ok (.aload_n 0, 1) := by decide +kernel
theorem dX0_pages_46 : decode cX0_pages 46 = .ok (.iload_n 2, 1) := by decide +kernel
theorem dX0_pages_47 : decode cX0_pages 47 = .ok (.invokevirtual 84, 3) := by decide +kernel
theorem dX0_pages_50 : decode cX0_pages 50 = .ok (.ireturn, 1) := by decide +kernel
set_option maxRecDepth 20000 in
theorem ggX0_free_X0_pagesNeeded : GoodIn wsX0_free wsX0_pagesNeeded := goodIn_r _ [6, 7, 8, 9, 10, 11, 12, 5, 13, 14, 15, 16, 17, 18, 19, 20, 21, 22, 23, 24, 25, 26, 27, 28, 29, 30, 31, 32, 33, 34, 35, 36, 37, 38, 39, 40, 41, 42, 43, 44] (by decide +kernel) (by decide +kernel)
set_option maxRecDepth 20000 in
theorem gX0_free_X0_pagesNeeded : GoodIn wsX0_free (wsV RX0 87 RX0 yX0_pagesNeeded wsX0_pagesNeeded) := goodIn_app (goodIn_of _ (by decide +kernel)) ggX0_free_X0_pagesNeeded
theorem dX0_free_0 : decode cX0_free 0 = .ok (.aload_n 0, 1) := by decide +kernel
theorem dX0_free_1 : decode cX0_free 1 = .ok (.getfield 20, 3) := by decide +kernel
theorem dX0_free_4 : decode cX0_free 4 = .ok (.aload_n 0, 1) := by decide +kernel
theorem dX0_free_5 : decode cX0_free 5 = .ok (.invokevirtual 87, 3) := by decide +kernel
theorem dX0_free_8 : decode cX0_free 8 = .ok (.isub, 1) := by decide +kernel
theorem dX0_free_9 : decode cX0_free 9 = .ok (.ireturn, 1) := by decide +kernel
set_option maxRecDepth 20000 in
theorem ggX0_key_X0_isBucket : GoodIn wsX0_key wsX0_isBucket := goodIn_r _ [7, 8, 9, 10, 6, 11, 12, 13, 14, 15, 16, 17, 18, 24, 25, 26, 27, 28, 29, 30, 31, 32, 33] (by decide +kernel) (by decide +kernel)
set_option maxRecDepth 20000 in
theorem gX0_key_X0_isBucket : GoodIn wsX0_key (wsV RX0 77 RX0 yX0_isBucket wsX0_isBucket) := goodIn_app (goodIn_of _ (by decide +kernel)) ggX0_key_X0_isBucket
set_option maxRecDepth 20000 in
theorem ggX0_key_X0_bucketOf : GoodIn wsX0_key wsX0_bucketOf := goodIn_r _ [22, 23, 12, 13, 14, 15, 6, 16, 17, 18, 24, 25, 26, 27, 28, 29, 30, 31, 32, 33] (by decide +kernel) (by decide +kernel)
set_option maxRecDepth 20000 in
theorem gX0_key_X0_bucketOf : GoodIn wsX0_key (wsV RX0 81 RX0 yX0_bucketOf wsX0_bucketOf) := goodIn_app (goodIn_of _ (by decide +kernel)) ggX0_key_X0_bucketOf
theorem dX0_key_0 : decode cX0_key 0 = .ok (.aload_n 0, 1) := by decide +kernel
theorem dX0_key_1 : decode cX0_key 1 = .ok (.iload_n 1, 1) := by decide +kernel
theorem dX0_key_2 : decode cX0_key 2 = .ok (.invokevirtual 77, 3) := by decide +kernel
theorem dX0_key_5 : decode cX0_key 5 = .ok (.ifCond .eq 7, 3) := by decide +kernel
theorem dX0_key_8 : decode cX0_key 8 = .ok (.iload_n 2, 1) := by decide +kernel
theorem dX0_key_9 : decode cX0_key 9 = .ok (.ifCond .ge 5, 3) := by decide +kernel
theorem dX0_key_12 : decode cX0_key 12 = .ok (.iconst (-1), 1) := by decide +kernel
theorem dX0_key_13 : decode cX0_key 13 = .ok (.ireturn, 1) := by decide +kernel
theorem dX0_key_14 : decode cX0_key 14 = .ok (.iconst 0, 1) := by decide +kernel
theorem dX0_key_15 : decode cX0_key 15 = .ok (.istore_n 3, 1) := by decide +kernel
theorem dX0_key_16 : decode cX0_key 16 = .ok (.iconst 0, 1) := by decide +kernel
theorem dX0_key_17 : decode cX0_key 17 = .ok (.istore 4, 2) := by decide +kernel
theorem dX0_key_19 : decode cX0_key 19 = .ok (.iload 4, 2) := by decide +kernel
theorem dX0_key_21 : decode cX0_key 21 = .ok (.aload_n 0, 1) := by decide +kernel
theorem dX0_key_22 : decode cX0_key 22 = .ok (.getfield 46, 3) := by decide +kernel
theorem dX0_key_25 : decode cX0_key 25 = .ok (.if_icmp .ge 40, 3) := by decide +kernel
theorem dX0_key_28 : decode cX0_key 28 = .ok (.aload_n 0, 1) := by decide +kernel
theorem dX0_key_29 : decode cX0_key 29 = .ok (.aload_n 0, 1) := by decide +kernel
theorem dX0_key_30 : decode cX0_key 30 = .ok (.getfield 32, 3) := by decide +kernel
theorem dX0_key_33 : decode cX0_key 33 = .ok (.iload 4, 2) := by decide +kernel
theorem dX0_key_35 : decode cX0_key 35 = .ok (.iaload, 1) := by decide +kernel
theorem dX0_key_36 : decode cX0_key 36 = .ok (.invokevirtual 81, 3) := by decide +kernel
theorem dX0_key_39 : decode cX0_key 39 = .ok (.iload_n 1, 1) := by decide +kernel
theorem dX0_key_40 : decode cX0_key 40 = .ok (.if_icmp .ne 19, 3) := by decide +kernel
theorem dX0_key_43 : decode cX0_key 43 = .ok (.iload_n 3, 1) := by decide +kernel
theorem dX0_key_44 : decode cX0_key 44 = .ok (.iload_n 2, 1) := by decide +kernel
theorem dX0_key_45 : decode cX0_key 45 = .ok (.if_icmp .ne 11, 3) := by decide +kernel
theorem dX0_key_48 : decode cX0_key 48 = .ok (.aload_n 0, 1) := by decide +kernel
theorem dX0_key_49 : decode cX0_key 49 = .ok (.getfield 32, 3) := by decide +kernel
theorem dX0_key_52 : decode cX0_key 52 = .ok (.iload 4, 2) := by decide +kernel
theorem dX0_key_54 : decode cX0_key 54 = .ok (.iaload, 1) := by decide +kernel
theorem dX0_key_55 : decode cX0_key 55 = .ok (.ireturn, 1) := by decide +kernel
theorem dX0_key_56 : decode cX0_key 56 = .ok (.iinc 3 1, 3) := by decide +kernel
theorem dX0_key_59 : decode cX0_key 59 = .ok (.iinc 4 1, 3) := by decide +kernel
theorem dX0_key_62 : decode cX0_key 62 = .ok (.goto (-43), 3) := by decide +kernel
theorem dX0_key_65 : decode cX0_key 65 = .ok (.iconst (-1), 1) := by decide +kernel
theorem dX0_key_66 : decode cX0_key 66 = .ok (.ireturn, 1) := by decide +kernel
theorem dX0_clear_0 : decode cX0_clear 0 = .ok (.aload_n 0, 1) := by decide +kernel
theorem dX0_clear_1 : decode cX0_clear 1 = .ok (.iconst 0, 1) := by decide +kernel
theorem dX0_clear_2 : decode cX0_clear 2 = .ok (.putfield 46, 3) := by decide +kernel
theorem dX0_clear_5 : decode cX0_clear 5 = .ok (.aload_n 0, 1) := by decide +kernel
theorem dX0_clear_6 : decode cX0_clear 6 = .ok (.iconst 0, 1) := by decide +kernel
theorem dX0_clear_7 : decode cX0_clear 7 = .ok (.putfield 73, 3) := by decide +kernel
theorem dX0_clear_10 : decode cX0_clear 10 = .ok (.aload_n 0, 1) := by decide +kernel
theorem dX0_clear_11 : decode cX0_clear 11 = .ok (.iconst 0, 1) := by decide +kernel
theorem dX0_clear_12 : decode cX0_clear 12 = .ok (.putfield 70, 3) := by decide +kernel
theorem dX0_clear_15 : decode cX0_clear 15 = .ok (.return_, 1) := by decide +kernel
theorem dX0_within_0 : decode cX0_within 0 = .ok (.iload_n 1, 1) := by decide +kernel
theorem dX0_within_1 : decode cX0_within 1 = .ok (.iload_n 2, 1) := by decide +kernel
theorem dX0_within_2 : decode cX0_within 2 = .ok (.iload_n 0, 1) := by decide +kernel
theorem dX0_within_3 : decode cX0_within 3 = .ok (.invokestatic 26, 3) := by decide +kernel
theorem dX0_within_6 : decode cX0_within 6 = .ok (.invokestatic 90, 3) := by decide +kernel
theorem dX0_within_9 : decode cX0_within 9 = .ok (.ireturn, 1) := by decide +kernel
theorem dX0_bucketsAtLevelStart_0 : decode cX0_bucketsAtLevelStart 0 = .ok (.aload_n 0, 1) := by decide +kernel
theorem dX0_bucketsAtLevelStart_1 : decode cX0_bucketsAtLevelStart 1 = .ok (.getfield 13, 3) := by decide +kernel
theorem dX0_bucketsAtLevelStart_4 : decode cX0_bucketsAtLevelStart 4 = .ok (.aload_n 0, 1) := by decide +kernel
theorem dX0_bucketsAtLevelStart_5 : decode cX0_bucketsAtLevelStart 5 = .ok (.getfield 73, 3) := by decide +kernel
theorem dX0_bucketsAtLevelStart_8 : decode cX0_bucketsAtLevelStart 8 = .ok (.ishl, 1) := by decide +kernel
theorem dX0_bucketsAtLevelStart_9 : decode cX0_bucketsAtLevelStart 9 = .ok (.ireturn, 1) := by decide +kernel
set_option maxRecDepth 20000 in
theorem ggX0_isBucket_X0_buckets : GoodIn wsX0_isBucket wsX0_buckets := goodIn_r _ [5, 6, 7, 8, 9, 4, 10, 11, 12, 13, 14, 15, 16, 17, 18, 19, 20, 21, 22] (by decide +kernel) (by decide +kernel)
set_option maxRecDepth 20000 in
theorem gX0_isBucket_X0_buckets : GoodIn wsX0_isBucket (wsV RX0 60 RX0 yX0_buckets wsX0_buckets) := goodIn_app (goodIn_of _ (by decide +kernel)) ggX0_isBucket_X0_buckets
theorem dX0_isBucket_0 : decode cX0_isBucket 0 = .ok (.iload_n 1, 1) := by decide +kernel
theorem dX0_isBucket_1 : decode cX0_isBucket 1 = .ok (.ifCond .lt 15, 3) := by decide +kernel
theorem dX0_isBucket_4 : decode cX0_isBucket 4 = .ok (.iload_n 1, 1) := by decide +kernel
theorem dX0_isBucket_5 : decode cX0_isBucket 5 = .ok (.aload_n 0, 1) := by decide +kernel
theorem dX0_isBucket_6 : decode cX0_isBucket 6 = .ok (.invokevirtual 60, 3) := by decide +kernel
theorem dX0_isBucket_9 : decode cX0_isBucket 9 = .ok (.if_icmp .ge 7, 3) := by decide +kernel
theorem dX0_isBucket_12 : decode cX0_isBucket 12 = .ok (.iconst 1, 1) := by decide +kernel
theorem dX0_isBucket_13 : decode cX0_isBucket 13 = .ok (.goto 4, 3) := by decide +kernel
theorem dX0_isBucket_16 : decode cX0_isBucket 16 = .ok (.iconst 0, 1) := by decide +kernel
theorem dX0_isBucket_17 : decode cX0_isBucket 17 = .ok (.ireturn, 1) := by decide +kernel
set_option maxRecDepth 20000 in
theorem ggX0_isCrowded_X0_buckets : GoodIn wsX0_isCrowded wsX0_buckets := goodIn_r _ [7, 8, 9, 10, 11, 6, 12, 13, 14, 15, 16, 17, 18, 19, 20, 21, 22, 23, 24] (by decide +kernel) (by decide +kernel)
set_option maxRecDepth 20000 in
theorem gX0_isCrowded_X0_buckets : GoodIn wsX0_isCrowded (wsV RX0 60 RX0 yX0_buckets wsX0_buckets) := goodIn_app (goodIn_of _ (by decide +kernel)) ggX0_isCrowded_X0_buckets
theorem dX0_isCrowded_0 : decode cX0_isCrowded 0 = .ok (.iconst 4, 1) := by decide +kernel
theorem dX0_isCrowded_1 : decode cX0_isCrowded 1 = .ok (.aload_n 0, 1) := by decide +kernel
theorem dX0_isCrowded_2 : decode cX0_isCrowded 2 = .ok (.getfield 46, 3) := by decide +kernel
theorem dX0_isCrowded_5 : decode cX0_isCrowded 5 = .ok (.imul, 1) := by decide +kernel
theorem dX0_isCrowded_6 : decode cX0_isCrowded 6 = .ok (.iconst 3, 1) := by decide +kernel
theorem dX0_isCrowded_7 : decode cX0_isCrowded 7 = .ok (.aload_n 0, 1) := by decide +kernel
theorem dX0_isCrowded_8 : decode cX0_isCrowded 8 = .ok (.getfield 17, 3) := by decide +kernel
theorem dX0_isCrowded_11 : decode cX0_isCrowded 11 = .ok (.imul, 1) := by decide +kernel
theorem dX0_isCrowded_12 : decode cX0_isCrowded 12 = .ok (.aload_n 0, 1) := by decide +kernel
theorem dX0_isCrowded_13 : decode cX0_isCrowded 13 = .ok (.invokevirtual 60, 3) := by decide +kernel
theorem dX0_isCrowded_16 : decode cX0_isCrowded 16 = .ok (.imul, 1) := by decide +kernel
theorem dX0_isCrowded_17 : decode cX0_isCrowded 17 = .ok (.if_icmp .le 7, 3) := by decide +kernel
theorem dX0_isCrowded_20 : decode cX0_isCrowded 20 = .ok (.iconst 1, 1) := by decide +kernel
theorem dX0_isCrowded_21 : decode cX0_isCrowded 21 = .ok (.goto 4, 3) := by decide +kernel
theorem dX0_isCrowded_24 : decode cX0_isCrowded 24 = .ok (.iconst 0, 1) := by decide +kernel
theorem dX0_isCrowded_25 : decode cX0_isCrowded 25 = .ok (.ireturn, 1) := by decide +kernel
set_option maxRecDepth 20000 in
theorem ggX0_isSparse_X0_buckets : GoodIn wsX0_isSparse wsX0_buckets := goodIn_r _ [7, 8, 9, 10, 11, 6, 12, 13, 14, 15, 16, 17, 18, 19, 20, 21, 22, 23, 24] (by decide +kernel) (by decide +kernel)
set_option maxRecDepth 20000 in
theorem gX0_isSparse_X0_buckets : GoodIn wsX0_isSparse (wsV RX0 60 RX0 yX0_buckets wsX0_buckets) := goodIn_app (goodIn_of _ (by decide +kernel)) ggX0_isSparse_X0_buckets
theorem dX0_isSparse_0 : decode cX0_isSparse 0 = .ok (.iconst 4, 1) := by decide +kernel
theorem dX0_isSparse_1 : decode cX0_isSparse 1 = .ok (.aload_n 0, 1) := by decide +kernel
theorem dX0_isSparse_2 : decode cX0_isSparse 2 = .ok (.getfield 46, 3) := by decide +kernel
theorem dX0_isSparse_5 : decode cX0_isSparse 5 = .ok (.imul, 1) := by decide +kernel
theorem dX0_isSparse_6 : decode cX0_isSparse 6 = .ok (.aload_n 0, 1) := by decide +kernel
theorem dX0_isSparse_7 : decode cX0_isSparse 7 = .ok (.getfield 17, 3) := by decide +kernel
theorem dX0_isSparse_10 : decode cX0_isSparse 10 = .ok (.aload_n 0, 1) := by decide +kernel
theorem dX0_isSparse_11 : decode cX0_isSparse 11 = .ok (.invokevirtual 60, 3) := by decide +kernel
theorem dX0_isSparse_14 : decode cX0_isSparse 14 = .ok (.imul, 1) := by decide +kernel
theorem dX0_isSparse_15 : decode cX0_isSparse 15 = .ok (.if_icmp .ge 7, 3) := by decide +kernel
theorem dX0_isSparse_18 : decode cX0_isSparse 18 = .ok (.iconst 1, 1) := by decide +kernel
theorem dX0_isSparse_19 : decode cX0_isSparse 19 = .ok (.goto 4, 3) := by decide +kernel
theorem dX0_isSparse_22 : decode cX0_isSparse 22 = .ok (.iconst 0, 1) := by decide +kernel
theorem dX0_isSparse_23 : decode cX0_isSparse 23 = .ok (.ireturn, 1) := by decide +kernel
theorem dX0_placeOf_0 : decode cX0_placeOf 0 = .ok (.iconst 0, 1) := by decide +kernel
theorem dX0_placeOf_1 : decode cX0_placeOf 1 = .ok (.istore_n 2, 1) := by decide +kernel
theorem dX0_placeOf_2 : decode cX0_placeOf 2 = .ok (.iload_n 2, 1) := by decide +kernel
theorem dX0_placeOf_3 : decode cX0_placeOf 3 = .ok (.aload_n 0, 1) := by decide +kernel
theorem dX0_placeOf_4 : decode cX0_placeOf 4 = .ok (.getfield 46, 3) := by decide +kernel
theorem dX0_placeOf_7 : decode cX0_placeOf 7 = .ok (.if_icmp .ge 21, 3) := by decide +kernel
theorem dX0_placeOf_10 : decode cX0_placeOf 10 = .ok (.aload_n 0, 1) := by decide +kernel
theorem dX0_placeOf_11 : decode cX0_placeOf 11 = .ok (.getfield 32, 3) := by decide +kernel
theorem dX0_placeOf_14 : decode cX0_placeOf 14 = .ok (.iload_n 2, 1) := by decide +kernel
theorem dX0_placeOf_15 : decode cX0_placeOf 15 = .ok (.iaload, 1) := by decide +kernel
theorem dX0_placeOf_16 : decode cX0_placeOf 16 = .ok (.iload_n 1, 1) := by decide +kernel
theorem dX0_placeOf_17 : decode cX0_placeOf 17 = .ok (.if_icmp .ne 5, 3) := by decide +kernel
theorem dX0_placeOf_20 : decode cX0_placeOf 20 = .ok (.iload_n 2, 1) := by decide +kernel
theorem dX0_placeOf_21 : decode cX0_placeOf 21 = .ok (.ireturn, 1) := by decide +kernel
theorem dX0_placeOf_22 : decode cX0_placeOf 22 = .ok (.iinc 2 1, 3) := by decide +kernel
theorem dX0_placeOf_25 : decode cX0_placeOf 25 = .ok (.goto (-23), 3) := by decide +kernel
theorem dX0_placeOf_28 : decode cX0_placeOf 28 = .ok (.iconst (-1), 1) := by decide +kernel
theorem dX0_placeOf_29 : decode cX0_placeOf 29 = .ok (.ireturn, 1) := by decide +kernel
set_option maxRecDepth 20000 in
theorem ggX0_lastPlaceOfBucket_X0_bucketOf : GoodIn wsX0_lastPlaceOfBucket wsX0_bucketOf := goodIn_r _ [7, 8, 9, 10, 11, 12, 6, 13, 14, 15, 16, 17, 18, 19, 20, 21, 22, 23, 24, 25] (by decide +kernel) (by decide +kernel)
set_option maxRecDepth 20000 in
theorem gX0_lastPlaceOfBucket_X0_bucketOf : GoodIn wsX0_lastPlaceOfBucket (wsV RX0 81 RX0 yX0_bucketOf wsX0_bucketOf) := goodIn_app (goodIn_of _ (by decide +kernel)) ggX0_lastPlaceOfBucket_X0_bucketOf
theorem dX0_lastPlaceOfBucket_0 : decode cX0_lastPlaceOfBucket 0 = .ok (.aload_n 0, 1) := by decide +kernel
theorem dX0_lastPlaceOfBucket_1 : decode cX0_lastPlaceOfBucket 1 = .ok (.getfield 46, 3) := by decide +kernel
theorem dX0_lastPlaceOfBucket_4 : decode cX0_lastPlaceOfBucket 4 = .ok (.iconst 1, 1) := by decide +kernel
theorem dX0_lastPlaceOfBucket_5 : decode cX0_lastPlaceOfBucket 5 = .ok (.isub, 1) := by decide +kernel
theorem dX0_lastPlaceOfBucket_6 : decode cX0_lastPlaceOfBucket 6 = .ok (.istore_n 2, 1) := by decide +kernel
theorem dX0_lastPlaceOfBucket_7 : decode cX0_lastPlaceOfBucket 7 = .ok (.iload_n 2, 1) := by decide +kernel
theorem dX0_lastPlaceOfBucket_8 : decode cX0_lastPlaceOfBucket 8 = .ok (.ifCond .lt 25, 3) := by decide +kernel
theorem dX0_lastPlaceOfBucket_11 : decode cX0_lastPlaceOfBucket 11 = .ok (.aload_n 0, 1) := by decide +kernel
theorem dX0_lastPlaceOfBucket_12 : decode cX0_lastPlaceOfBucket 12 = .ok (.aload_n 0, 1) := by decide +kernel
theorem dX0_lastPlaceOfBucket_13 : decode cX0_lastPlaceOfBucket 13 = .ok (.getfield 32, 3) := by decide +kernel
theorem dX0_lastPlaceOfBucket_16 : decode cX0_lastPlaceOfBucket 16 = .ok (.iload_n 2, 1) := by decide +kernel
theorem dX0_lastPlaceOfBucket_17 : decode cX0_lastPlaceOfBucket 17 = .ok (.iaload, 1) := by decide +kernel
theorem dX0_lastPlaceOfBucket_18 : decode cX0_lastPlaceOfBucket 18 = .ok (.invokevirtual 81, 3) := by decide +kernel
theorem dX0_lastPlaceOfBucket_21 : decode cX0_lastPlaceOfBucket 21 = .ok (.iload_n 1, 1) := by decide +kernel
theorem dX0_lastPlaceOfBucket_22 : decode cX0_lastPlaceOfBucket 22 = .ok (.if_icmp .ne 5, 3) := by decide +kernel
theorem dX0_lastPlaceOfBucket_25 : decode cX0_lastPlaceOfBucket 25 = .ok (.iload_n 2, 1) := by decide +kernel
theorem dX0_lastPlaceOfBucket_26 : decode cX0_lastPlaceOfBucket 26 = .ok (.ireturn, 1) := by decide +kernel
theorem dX0_lastPlaceOfBucket_27 : decode cX0_lastPlaceOfBucket 27 = .ok (.iinc 2 (-1), 3) := by decide +kernel
theorem dX0_lastPlaceOfBucket_30 : decode cX0_lastPlaceOfBucket 30 = .ok (.goto (-23), 3) := by decide +kernel
theorem dX0_lastPlaceOfBucket_33 : decode cX0_lastPlaceOfBucket 33 = .ok (.iconst (-1), 1) := by decide +kernel
theorem dX0_lastPlaceOfBucket_34 : decode cX0_lastPlaceOfBucket 34 = .ok (.ireturn, 1) := by decide +kernel
set_option maxRecDepth 20000 in
theorem ggX0_putNew_X0_isCrowded : GoodIn wsX0_putNew wsX0_isCrowded := goodIn_r _ [12, 4, 13, 14, 15, 16, 11, 17, 2, 18, 19, 20, 21, 22, 1, 45, 46, 47, 48, 49, 50, 51, 52, 53, 54] (by decide +kernel) (by decide +kernel)
set_option maxRecDepth 20000 in
theorem gX0_putNew_X0_isCrowded : GoodIn wsX0_putNew (wsV RX0 93 RX0 yX0_isCrowded wsX0_isCrowded) := goodIn_app (goodIn_of _ (by decide +kernel)) ggX0_putNew_X0_isCrowded
set_option maxRecDepth 20000 in
theorem ggX0_putNew_X0_buckets : GoodIn wsX0_putNew wsX0_buckets := goodIn_r _ [17, 2, 18, 19, 20, 11, 21, 22, 1, 45, 46, 47, 48, 49, 50, 51, 52, 53, 54] (by decide +kernel) (by decide +kernel)
set_option maxRecDepth 20000 in
theorem gX0_putNew_X0_buckets : GoodIn wsX0_putNew (wsV RX0 60 RX0 yX0_buckets wsX0_buckets) := goodIn_app (goodIn_of _ (by decide +kernel)) ggX0_putNew_X0_buckets
set_option maxRecDepth 20000 in
theorem ggX0_putNew_X0_part : GoodIn wsX0_putNew wsX0_part := goodIn_r _ [26, 2, 1, 18, 19, 20, 11, 21, 22, 45, 46, 47, 48, 49, 50, 51, 52, 53, 54] (by decide +kernel) (by decide +kernel)
set_option maxRecDepth 20000 in
theorem gX0_putNew_X0_part : GoodIn wsX0_putNew (wsV RX0 96 RX0 yX0_part wsX0_part) := goodIn_app (goodIn_of _ (by decide +kernel)) ggX0_putNew_X0_part
set_option maxRecDepth 20000 in
theorem ggX0_putNew_X0_pagesNeeded : GoodIn wsX0_putNew wsX0_pagesNeeded := goodIn_r _ [30, 31, 4, 3, 14, 15, 16, 11, 17, 2, 18, 19, 20, 21, 22, 1, 32, 33, 34, 35, 36, 37, 38, 39, 40, 13, 41, 42, 43, 44, 45, 46, 47, 48, 49, 50, 51, 52, 53, 54] (by decide +kernel) (by decide +kernel)
set_option maxRecDepth 20000 in
theorem gX0_putNew_X0_pagesNeeded : GoodIn wsX0_putNew (wsV RX0 87 RX0 yX0_pagesNeeded wsX0_pagesNeeded) := goodIn_app (goodIn_of _ (by decide +kernel)) ggX0_putNew_X0_pagesNeeded
theorem dX0_putNew_0 : decode cX0_putNew 0 = .ok (.aload_n 0, 1) := by decide +kernel
theorem dX0_putNew_1 : decode cX0_putNew 1 = .ok (.getfield 73, 3) := by decide +kernel
theorem dX0_putNew_4 : decode cX0_putNew 4 = .ok (.istore_n 3, 1) := by decide +kernel
theorem dX0_putNew_5 : decode cX0_putNew 5 = .ok (.aload_n 0, 1) := by decide +kernel
theorem dX0_putNew_6 : decode cX0_putNew 6 = .ok (.getfield 70, 3) := by decide +kernel
theorem dX0_putNew_9 : decode cX0_putNew 9 = .ok (.istore 4, 2) := by decide +kernel
theorem dX0_putNew_11 : decode cX0_putNew 11 = .ok (.aload_n 0, 1) := by decide +kernel
theorem dX0_putNew_12 : decode cX0_putNew 12 = .ok (.getfield 32, 3) := by decide +kernel
theorem dX0_putNew_15 : decode cX0_putNew 15 = .ok (.aload_n 0, 1) := by decide +kernel
theorem dX0_putNew_16 : decode cX0_putNew 16 = .ok (.getfield 46, 3) := by decide +kernel
theorem dX0_putNew_19 : decode cX0_putNew 19 = .ok (.iload_n 1, 1) := by decide +kernel
theorem dX0_putNew_20 : decode cX0_putNew 20 = .ok (.iastore, 1) := by decide +kernel
theorem dX0_putNew_21 : decode cX0_putNew 21 = .ok (.aload_n 0, 1) := by decide +kernel
theorem dX0_putNew_22 : decode cX0_putNew 22 = .ok (.getfield 36, 3) := by decide +kernel
theorem dX0_putNew_25 : decode cX0_putNew 25 = .ok (.aload_n 0, 1) := by decide +kernel
theorem dX0_putNew_26 : decode cX0_putNew 26 = .ok (.getfield 46, 3) := by decide +kernel
theorem dX0_putNew_29 : decode cX0_putNew 29 = .ok (.iload_n 2, 1) := by decide +kernel
theorem dX0_putNew_30 : decode cX0_putNew 30 = .ok (.iastore, 1) := by decide +kernel
theorem dX0_putNew_31 : decode cX0_putNew 31 = .ok (.aload_n 0, 1) := by decide +kernel
theorem dX0_putNew_32 : decode cX0_putNew 32 = .ok (.dup, 1) := by decide +kernel
theorem dX0_putNew_33 : decode cX0_putNew 33 = .ok (.getfield 46, 3) := by decide +kernel
theorem dX0_putNew_36 : decode cX0_putNew 36 = .ok (.iconst 1, 1) := by decide +kernel
theorem dX0_putNew_37 : decode cX0_putNew 37 = .ok (.iadd, 1) := by decide +kernel
theorem dX0_putNew_38 : decode cX0_putNew 38 = .ok (.putfield 46, 3) := by decide +kernel
theorem dX0_putNew_41 : decode cX0_putNew 41 = .ok (.aload_n 0, 1) := by decide +kernel
theorem dX0_putNew_42 : decode cX0_putNew 42 = .ok (.invokevirtual 93, 3) := by decide +kernel
theorem dX0_putNew_45 : decode cX0_putNew 45 = .ok (.ifCond .eq 18, 3) := by decide +kernel
theorem dX0_putNew_48 : decode cX0_putNew 48 = .ok (.aload_n 0, 1) := by decide +kernel
theorem dX0_putNew_49 : decode cX0_putNew 49 = .ok (.invokevirtual 60, 3) := by decide +kernel
theorem dX0_putNew_52 : decode cX0_putNew 52 = .ok (.aload_n 0, 1) := by decide +kernel
theorem dX0_putNew_53 : decode cX0_putNew 53 = .ok (.getfield 23, 3) := by decide +kernel
theorem dX0_putNew_56 : decode cX0_putNew 56 = .ok (.if_icmp .ge 7, 3) := by decide +kernel
theorem dX0_putNew_59 : decode cX0_putNew 59 = .ok (.aload_n 0, 1) := by decide +kernel
theorem dX0_putNew_60 : decode cX0_putNew 60 = .ok (.invokevirtual 96, 3) := by decide +kernel
theorem dX0_putNew_63 : decode cX0_putNew 63 = .ok (.aload_n 0, 1) := by decide +kernel
theorem dX0_putNew_64 : decode cX0_putNew 64 = .ok (.invokevirtual 87, 3) := by decide +kernel
theorem dX0_putNew_67 : decode cX0_putNew 67 = .ok (.aload_n 0, 1) := by decide +kernel
theorem dX0_putNew_68 : decode cX0_putNew 68 = .ok (.getfield 20, 3) := by decide +kernel
theorem dX0_putNew_71 : decode cX0_putNew 71 = .ok (.if_icmp .le 26, 3) := by decide +kernel
theorem dX0_putNew_74 : decode cX0_putNew 74 = .ok (.aload_n 0, 1) := by decide +kernel
theorem dX0_putNew_75 : decode cX0_putNew 75 = .ok (.dup, 1) := by decide +kernel
theorem dX0_putNew_76 : decode cX0_putNew 76 = .ok (.getfield 46, 3) := by decide +kernel
theorem dX0_putNew_79 : decode cX0_putNew 79 = .ok (.iconst 1, 1) := by decide +kernel
theorem dX0_putNew_80 : decode cX0_putNew 80 = .ok (.isub, 1) := by decide +kernel
theorem dX0_putNew_81 : decode cX0_putNew 81 = .ok (.putfield 46, 3) := by decide +kernel
theorem dX0_putNew_84 : decode cX0_putNew 84 = .ok (.aload_n 0, 1) := by decide +kernel
theorem dX0_putNew_85 : decode cX0_putNew 85 = .ok (.iload_n 3, 1) := by decide +kernel
theorem dX0_putNew_86 : decode cX0_putNew 86 = .ok (.putfield 73, 3) := by decide +kernel
theorem dX0_putNew_89 : decode cX0_putNew 89 = .ok (.aload_n 0, 1) := by decide +kernel
theorem dX0_putNew_90 : decode cX0_putNew 90 = .ok (.iload 4, 2) := by decide +kernel
theorem dX0_putNew_92 : decode cX0_putNew 92 = .ok (.putfield 70, 3) := by decide +kernel
theorem dX0_putNew_95 : decode cX0_putNew 95 = .ok (.iconst 2, 1) := by decide +kernel
theorem dX0_putNew_96 : decode cX0_putNew 96 = .ok (.ireturn, 1) := by decide +kernel
theorem dX0_putNew_97 : decode cX0_putNew 97 = .ok (.iconst 0, 1) := by decide +kernel
theorem dX0_putNew_98 : decode cX0_putNew 98 = .ok (.ireturn, 1) := by decide +kernel
set_option maxRecDepth 20000 in
theorem ggX0_part_X0_bucketsAtLevelStart : GoodIn wsX0_part wsX0_bucketsAtLevelStart := goodIn_r _ [7, 8, 2, 9, 10, 11, 12, 13, 14, 15, 16, 17, 18] (by decide +kernel) (by decide +kernel)
set_option maxRecDepth 20000 in
theorem gX0_part_X0_bucketsAtLevelStart : GoodIn wsX0_part (wsV RX0 67 RX0 yX0_bucketsAtLevelStart wsX0_bucketsAtLevelStart) := goodIn_app (goodIn_of _ (by decide +kernel)) ggX0_part_X0_bucketsAtLevelStart
theorem dX0_part_0 : decode cX0_part 0 = .ok (.aload_n 0, 1) := by decide +kernel
theorem dX0_part_1 : decode cX0_part 1 = .ok (.dup, 1) := by decide +kernel
theorem dX0_part_2 : decode cX0_part 2 = .ok (.getfield 70, 3) := by decide +kernel
theorem dX0_part_5 : decode cX0_part 5 = .ok (.iconst 1, 1) := by decide +kernel
theorem dX0_part_6 : decode cX0_part 6 = .ok (.iadd, 1) := by decide +kernel
theorem dX0_part_7 : decode cX0_part 7 = .ok (.putfield 70, 3) := by decide +kernel
theorem dX0_part_10 : decode cX0_part 10 = .ok (.aload_n 0, 1) := by decide +kernel
theorem dX0_part_11 : decode cX0_part 11 = .ok (.getfield 70, 3) := by decide +kernel
theorem dX0_part_14 : decode cX0_part 14 = .ok (.aload_n 0, 1) := by decide +kernel
theorem dX0_part_15 : decode cX0_part 15 = .ok (.invokevirtual 67, 3) := by decide +kernel
theorem dX0_part_18 : decode cX0_part 18 = .ok (.if_icmp .ne 18, 3) := by decide +kernel
theorem dX0_part_21 : decode cX0_part 21 = .ok (.aload_n 0, 1) := by decide +kernel
theorem dX0_part_22 : decode cX0_part 22 = .ok (.iconst 0, 1) := by decide +kernel
theorem dX0_part_23 : decode cX0_part 23 = .ok (.putfield 70, 3) := by decide +kernel
theorem dX0_part_26 : decode cX0_part 26 = .ok (.aload_n 0, 1) := by decide +kernel
theorem dX0_part_27 : decode cX0_part 27 = .ok (.dup, 1) := by decide +kernel
theorem dX0_part_28 : decode cX0_part 28 = .ok (.getfield 73, 3) := by decide +kernel
theorem dX0_part_31 : decode cX0_part 31 = .ok (.iconst 1, 1) := by decide +kernel
theorem dX0_part_32 : decode cX0_part 32 = .ok (.iadd, 1) := by decide +kernel
theorem dX0_part_33 : decode cX0_part 33 = .ok (.putfield 73, 3) := by decide +kernel
theorem dX0_part_36 : decode cX0_part 36 = .ok (.return_, 1) := by decide +kernel
set_option maxRecDepth 20000 in
theorem ggX0_join_X0_buckets : GoodIn wsX0_join wsX0_buckets := goodIn_r _ [7, 1, 8, 9, 10, 6, 11, 12, 2, 29, 30, 31, 32, 33, 34, 35, 36, 37, 38] (by decide +kernel) (by decide +kernel)
set_option maxRecDepth 20000 in
theorem gX0_join_X0_buckets : GoodIn wsX0_join (wsV RX0 60 RX0 yX0_buckets wsX0_buckets) := goodIn_app (goodIn_of _ (by decide +kernel)) ggX0_join_X0_buckets
set_option maxRecDepth 20000 in
theorem ggX0_join_X0_moveBucketToEnd : GoodIn wsX0_join wsX0_moveBucketToEnd := goodIn_r _ [16, 17, 18, 19, 20, 21, 6, 22, 23, 1, 8, 9, 10, 11, 12, 2, 24, 25, 26, 27, 28, 29, 30, 31, 32, 33, 34, 35, 36, 37, 38] (by decide +kernel) (by decide +kernel)
set_option maxRecDepth 20000 in
theorem gX0_join_X0_moveBucketToEnd : GoodIn wsX0_join (wsV RX0 99 RX0 yX0_moveBucketToEnd wsX0_moveBucketToEnd) := goodIn_app (goodIn_of _ (by decide +kernel)) ggX0_join_X0_moveBucketToEnd
set_option maxRecDepth 20000 in
theorem ggX0_join_X0_bucketsAtLevelStart : GoodIn wsX0_join wsX0_bucketsAtLevelStart := goodIn_r _ [11, 12, 2, 29, 30, 31, 32, 33, 34, 35, 36, 37, 38] (by decide +kernel) (by decide +kernel)
set_option maxRecDepth 20000 in
theorem gX0_join_X0_bucketsAtLevelStart : GoodIn wsX0_join (wsV RX0 67 RX0 yX0_bucketsAtLevelStart wsX0_bucketsAtLevelStart) := goodIn_app (goodIn_of _ (by decide +kernel)) ggX0_join_X0_bucketsAtLevelStart
theorem dX0_join_0 : decode cX0_join 0 = .ok (.aload_n 0, 1) := by decide +kernel
theorem dX0_join_1 : decode cX0_join 1 = .ok (.aload_n 0, 1) := by decide +kernel
theorem dX0_join_2 : decode cX0_join 2 = .ok (.invokevirtual 60, 3) := by decide +kernel
theorem dX0_join_5 : decode cX0_join 5 = .ok (.iconst 1, 1) := by decide +kernel
theorem dX0_join_6 : decode cX0_join 6 = .ok (.isub, 1) := by decide +kernel
theorem dX0_join_7 : decode cX0_join 7 = .ok (.invokevirtual 99, 3) := by decide +kernel
theorem dX0_join_10 : decode cX0_join 10 = .ok (.aload_n 0, 1) := by decide +kernel
theorem dX0_join_11 : decode cX0_join 11 = .ok (.getfield 70, 3) := by decide +kernel
theorem dX0_join_14 : decode cX0_join 14 = .ok (.ifCond .ne 21, 3) := by decide +kernel
theorem dX0_join_17 : decode cX0_join 17 = .ok (.aload_n 0, 1) := by decide +kernel
theorem dX0_join_18 : decode cX0_join 18 = .ok (.dup, 1) := by decide +kernel
theorem dX0_join_19 : decode cX0_join 19 = .ok (.getfield 73, 3) := by decide +kernel
theorem dX0_join_22 : decode cX0_join 22 = .ok (.iconst 1, 1) := by decide +kernel
theorem dX0_join_23 : decode cX0_join 23 = .ok (.isub, 1) := by decide +kernel
theorem dX0_join_24 : decode cX0_join 24 = .ok (.putfield 73, 3) := by decide +kernel
theorem dX0_join_27 : decode cX0_join 27 = .ok (.aload_n 0, 1) := by decide +kernel
theorem dX0_join_28 : decode cX0_join 28 = .ok (.aload_n 0, 1) := by decide +kernel
theorem dX0_join_29 : decode cX0_join 29 = .ok (.invokevirtual 67, 3) := by decide +kernel
theorem dX0_join_32 : decode cX0_join 32 = .ok (.putfield 70, 3) := by decide +kernel
theorem dX0_join_35 : decode cX0_join 35 = .ok (.aload_n 0, 1) := by decide +kernel
theorem dX0_join_36 : decode cX0_join 36 = .ok (.dup, 1) := by decide +kernel
theorem dX0_join_37 : decode cX0_join 37 = .ok (.getfield 70, 3) := by decide +kernel
theorem dX0_join_40 : decode cX0_join 40 = .ok (.iconst 1, 1) := by decide +kernel
theorem dX0_join_41 : decode cX0_join 41 = .ok (.isub, 1) := by decide +kernel
theorem dX0_join_42 : decode cX0_join 42 = .ok (.putfield 70, 3) := by decide +kernel
theorem dX0_join_45 : decode cX0_join 45 = .ok (.return_, 1) := by decide +kernel
set_option maxRecDepth 20000 in
theorem ggX0_takeOut_X0_bucketOf : GoodIn wsX0_takeOut wsX0_bucketOf := goodIn_r _ [8, 9, 10, 11, 12, 13, 7, 14, 15, 16, 25, 26, 27, 28, 29, 30, 31, 32, 33, 34] (by decide +kernel) (by decide +kernel)
set_option maxRecDepth 20000 in
theorem gX0_takeOut_X0_bucketOf : GoodIn wsX0_takeOut (wsV RX0 81 RX0 yX0_bucketOf wsX0_bucketOf) := goodIn_app (goodIn_of _ (by decide +kernel)) ggX0_takeOut_X0_bucketOf
set_option maxRecDepth 20000 in
theorem ggX0_takeOut_X0_lastPlaceOfBucket : GoodIn wsX0_takeOut wsX0_lastPlaceOfBucket := goodIn_r _ [20, 3, 1, 4, 5, 6, 7, 8, 9, 10, 11, 12, 13, 14, 15, 16, 25, 26, 27, 28, 29, 30, 31, 32, 33, 34] (by decide +kernel) (by decide +kernel)
set_option maxRecDepth 20000 in
theorem gX0_takeOut_X0_lastPlaceOfBucket : GoodIn wsX0_takeOut (wsV RX0 102 RX0 yX0_lastPlaceOfBucket wsX0_lastPlaceOfBucket) := goodIn_app (goodIn_of _ (by decide +kernel)) ggX0_takeOut_X0_lastPlaceOfBucket
set_option maxRecDepth 20000 in
theorem ggX0_takeOut_X0_moveToEnd : GoodIn wsX0_takeOut wsX0_moveToEnd := goodIn_r _ [24, 1, 2, 3, 25, 26, 27, 28, 29, 30, 31, 32, 33, 34] (by decide +kernel) (by decide +kernel)
set_option maxRecDepth 20000 in
theorem gX0_takeOut_X0_moveToEnd : GoodIn wsX0_takeOut (wsV RX0 105 RX0 yX0_moveToEnd wsX0_moveToEnd) := goodIn_app (goodIn_of _ (by decide +kernel)) ggX0_takeOut_X0_moveToEnd
theorem dX0_takeOut_0 : decode cX0_takeOut 0 = .ok (.aload_n 0, 1) := by decide +kernel
theorem dX0_takeOut_1 : decode cX0_takeOut 1 = .ok (.aload_n 0, 1) := by decide +kernel
theorem dX0_takeOut_2 : decode cX0_takeOut 2 = .ok (.aload_n 0, 1) := by decide +kernel
theorem dX0_takeOut_3 : decode cX0_takeOut 3 = .ok (.getfield 32, 3) := by decide +kernel
theorem dX0_takeOut_6 : decode cX0_takeOut 6 = .ok (.iload_n 1, 1) := by decide +kernel
theorem dX0_takeOut_7 : decode cX0_takeOut 7 = .ok (.iaload, 1) := by decide +kernel
theorem dX0_takeOut_8 : decode cX0_takeOut 8 = .ok (.invokevirtual 81, 3) := by decide +kernel
theorem dX0_takeOut_11 : decode cX0_takeOut 11 = .ok (.invokevirtual 102, 3) := by decide +kernel
theorem dX0_takeOut_14 : decode cX0_takeOut 14 = .ok (.istore_n 2, 1) := by decide +kernel
theorem dX0_takeOut_15 : decode cX0_takeOut 15 = .ok (.iload_n 2, 1) := by decide +kernel
theorem dX0_takeOut_16 : decode cX0_takeOut 16 = .ok (.iconst (-1), 1) := by decide +kernel
theorem dX0_takeOut_17 : decode cX0_takeOut 17 = .ok (.if_icmp .ne 4, 3) := by decide +kernel
theorem dX0_takeOut_20 : decode cX0_takeOut 20 = .ok (.return_, 1) := by decide +kernel
theorem dX0_takeOut_21 : decode cX0_takeOut 21 = .ok (.aload_n 0, 1) := by decide +kernel
theorem dX0_takeOut_22 : decode cX0_takeOut 22 = .ok (.getfield 32, 3) := by decide +kernel
theorem dX0_takeOut_25 : decode cX0_takeOut 25 = .ok (.iload_n 1, 1) := by decide +kernel
theorem dX0_takeOut_26 : decode cX0_takeOut 26 = .ok (.aload_n 0, 1) := by decide +kernel
theorem dX0_takeOut_27 : decode cX0_takeOut 27 = .ok (.getfield 32, 3) := by decide +kernel
theorem dX0_takeOut_30 : decode cX0_takeOut 30 = .ok (.iload_n 2, 1) := by decide +kernel
theorem dX0_takeOut_31 : decode cX0_takeOut 31 = .ok (.iaload, 1) := by decide +kernel
theorem dX0_takeOut_32 : decode cX0_takeOut 32 = .ok (.iastore, 1) := by decide +kernel
theorem dX0_takeOut_33 : decode cX0_takeOut 33 = .ok (.aload_n 0, 1) := by decide +kernel
theorem dX0_takeOut_34 : decode cX0_takeOut 34 = .ok (.getfield 36, 3) := by decide +kernel
theorem dX0_takeOut_37 : decode cX0_takeOut 37 = .ok (.iload_n 1, 1) := by decide +kernel
theorem dX0_takeOut_38 : decode cX0_takeOut 38 = .ok (.aload_n 0, 1) := by decide +kernel
theorem dX0_takeOut_39 : decode cX0_takeOut 39 = .ok (.getfield 36, 3) := by decide +kernel
theorem dX0_takeOut_42 : decode cX0_takeOut 42 = .ok (.iload_n 2, 1) := by decide +kernel
theorem dX0_takeOut_43 : decode cX0_takeOut 43 = .ok (.iaload, 1) := by decide +kernel
theorem dX0_takeOut_44 : decode cX0_takeOut 44 = .ok (.iastore, 1) := by decide +kernel
theorem dX0_takeOut_45 : decode cX0_takeOut 45 = .ok (.aload_n 0, 1) := by decide +kernel
theorem dX0_takeOut_46 : decode cX0_takeOut 46 = .ok (.iload_n 2, 1) := by decide +kernel
theorem dX0_takeOut_47 : decode cX0_takeOut 47 = .ok (.invokevirtual 105, 3) := by decide +kernel
theorem dX0_takeOut_50 : decode cX0_takeOut 50 = .ok (.aload_n 0, 1) := by decide +kernel
theorem dX0_takeOut_51 : decode cX0_takeOut 51 = .ok (.dup, 1) := by decide +kernel
theorem dX0_takeOut_52 : decode cX0_takeOut 52 = .ok (.getfield 46, 3) := by decide +kernel
theorem dX0_takeOut_55 : decode cX0_takeOut 55 = .ok (.iconst 1, 1) := by decide +kernel
theorem dX0_takeOut_56 : decode cX0_takeOut 56 = .ok (.isub, 1) := by decide +kernel
theorem dX0_takeOut_57 : decode cX0_takeOut 57 = .ok (.putfield 46, 3) := by decide +kernel
theorem dX0_takeOut_60 : decode cX0_takeOut 60 = .ok (.return_, 1) := by decide +kernel
set_option maxRecDepth 20000 in
theorem ggX0_moveBucketToEnd_X0_bucketOf : GoodIn wsX0_moveBucketToEnd wsX0_bucketOf := goodIn_r _ [7, 8, 9, 10, 11, 12, 6, 13, 14, 15, 21, 22, 23, 24, 25, 26, 27, 28, 29, 30] (by decide +kernel) (by decide +kernel)
set_option maxRecDepth 20000 in
theorem gX0_moveBucketToEnd_X0_bucketOf : GoodIn wsX0_moveBucketToEnd (wsV RX0 81 RX0 yX0_bucketOf wsX0_bucketOf) := goodIn_app (goodIn_of _ (by decide +kernel)) ggX0_moveBucketToEnd_X0_bucketOf
set_option maxRecDepth 20000 in
theorem ggX0_moveBucketToEnd_X0_moveToEnd : GoodIn wsX0_moveBucketToEnd wsX0_moveToEnd := goodIn_r _ [19, 2, 20, 1, 21, 22, 23, 24, 25, 26, 27, 28, 29, 30] (by decide +kernel) (by decide +kernel)
set_option maxRecDepth 20000 in
theorem gX0_moveBucketToEnd_X0_moveToEnd : GoodIn wsX0_moveBucketToEnd (wsV RX0 105 RX0 yX0_moveToEnd wsX0_moveToEnd) := goodIn_app (goodIn_of _ (by decide +kernel)) ggX0_moveBucketToEnd_X0_moveToEnd
theorem dX0_moveBucketToEnd_0 : decode cX0_moveBucketToEnd 0 = .ok (.iconst 0, 1) := by decide +kernel
theorem dX0_moveBucketToEnd_1 : decode cX0_moveBucketToEnd 1 = .ok (.istore_n 2, 1) := by decide +kernel
theorem dX0_moveBucketToEnd_2 : decode cX0_moveBucketToEnd 2 = .ok (.iconst 0, 1) := by decide +kernel
theorem dX0_moveBucketToEnd_3 : decode cX0_moveBucketToEnd 3 = .ok (.istore_n 3, 1) := by decide +kernel
theorem dX0_moveBucketToEnd_4 : decode cX0_moveBucketToEnd 4 = .ok (.iload_n 3, 1) := by decide +kernel
theorem dX0_moveBucketToEnd_5 : decode cX0_moveBucketToEnd 5 = .ok (.aload_n 0, 1) := by decide +kernel
theorem dX0_moveBucketToEnd_6 : decode cX0_moveBucketToEnd 6 = .ok (.getfield 46, 3) := by decide +kernel
theorem dX0_moveBucketToEnd_9 : decode cX0_moveBucketToEnd 9 = .ok (.if_icmp .ge 34, 3) := by decide +kernel
theorem dX0_moveBucketToEnd_12 : decode cX0_moveBucketToEnd 12 = .ok (.aload_n 0, 1) := by decide +kernel
theorem dX0_moveBucketToEnd_13 : decode cX0_moveBucketToEnd 13 = .ok (.aload_n 0, 1) := by decide +kernel
theorem dX0_moveBucketToEnd_14 : decode cX0_moveBucketToEnd 14 = .ok (.getfield 32, 3) := by decide +kernel
theorem dX0_moveBucketToEnd_17 : decode cX0_moveBucketToEnd 17 = .ok (.iload_n 2, 1) := by decide +kernel
theorem dX0_moveBucketToEnd_18 : decode cX0_moveBucketToEnd 18 = .ok (.iaload, 1) := by decide +kernel
theorem dX0_moveBucketToEnd_19 : decode cX0_moveBucketToEnd 19 = .ok (.invokevirtual 81, 3) := by decide +kernel
theorem dX0_moveBucketToEnd_22 : decode cX0_moveBucketToEnd 22 = .ok (.iload_n 1, 1) := by decide +kernel
theorem dX0_moveBucketToEnd_23 : decode cX0_moveBucketToEnd 23 = .ok (.if_icmp .ne 11, 3) := by decide +kernel
theorem dX0_moveBucketToEnd_26 : decode cX0_moveBucketToEnd 26 = .ok (.aload_n 0, 1) := by decide +kernel
theorem dX0_moveBucketToEnd_27 : decode cX0_moveBucketToEnd 27 = .ok (.iload_n 2, 1) := by decide +kernel
theorem dX0_moveBucketToEnd_28 : decode cX0_moveBucketToEnd 28 = .ok (.invokevirtual 105, 3) := by decide +kernel
theorem dX0_moveBucketToEnd_31 : decode cX0_moveBucketToEnd 31 = .ok (.goto 6, 3) := by decide +kernel
theorem dX0_moveBucketToEnd_34 : decode cX0_moveBucketToEnd 34 = .ok (.iinc 2 1, 3) := by decide +kernel
theorem dX0_moveBucketToEnd_37 : decode cX0_moveBucketToEnd 37 = .ok (.iinc 3 1, 3) := by decide +kernel
theorem dX0_moveBucketToEnd_40 : decode cX0_moveBucketToEnd 40 = .ok (.goto (-36), 3) := by decide +kernel
theorem dX0_moveBucketToEnd_43 : decode cX0_moveBucketToEnd 43 = .ok (.return_, 1) := by decide +kernel
theorem dX0_moveToEnd_0 : decode cX0_moveToEnd 0 = .ok (.aload_n 0, 1) := by decide +kernel
theorem dX0_moveToEnd_1 : decode cX0_moveToEnd 1 = .ok (.getfield 32, 3) := by decide +kernel
theorem dX0_moveToEnd_4 : decode cX0_moveToEnd 4 = .ok (.iload_n 1, 1) := by decide +kernel
theorem dX0_moveToEnd_5 : decode cX0_moveToEnd 5 = .ok (.iaload, 1) := by decide +kernel
theorem dX0_moveToEnd_6 : decode cX0_moveToEnd 6 = .ok (.istore_n 2, 1) := by decide +kernel
theorem dX0_moveToEnd_7 : decode cX0_moveToEnd 7 = .ok (.aload_n 0, 1) := by decide +kernel
theorem dX0_moveToEnd_8 : decode cX0_moveToEnd 8 = .ok (.getfield 36, 3) := by decide +kernel
theorem dX0_moveToEnd_11 : decode cX0_moveToEnd 11 = .ok (.iload_n 1, 1) := by decide +kernel
theorem dX0_moveToEnd_12 : decode cX0_moveToEnd 12 = .ok (.iaload, 1) := by decide +kernel
theorem dX0_moveToEnd_13 : decode cX0_moveToEnd 13 = .ok (.istore_n 3, 1) := by decide +kernel
theorem dX0_moveToEnd_14 : decode cX0_moveToEnd 14 = .ok (.iload_n 1, 1) := by decide +kernel
theorem dX0_moveToEnd_15 : decode cX0_moveToEnd 15 = .ok (.istore 4, 2) := by decide +kernel
theorem dX0_moveToEnd_17 : decode cX0_moveToEnd 17 = .ok (.iload 4, 2) := by decide +kernel
theorem dX0_moveToEnd_19 : decode cX0_moveToEnd 19 = .ok (.aload_n 0, 1) := by decide +kernel
theorem dX0_moveToEnd_20 : decode cX0_moveToEnd 20 = .ok (.getfield 46, 3) := by decide +kernel
theorem dX0_moveToEnd_23 : decode cX0_moveToEnd 23 = .ok (.iconst 1, 1) := by decide +kernel
theorem dX0_moveToEnd_24 : decode cX0_moveToEnd 24 = .ok (.isub, 1) := by decide +kernel
theorem dX0_moveToEnd_25 : decode cX0_moveToEnd 25 = .ok (.if_icmp .ge 41, 3) := by decide +kernel
theorem dX0_moveToEnd_28 : decode cX0_moveToEnd 28 = .ok (.aload_n 0, 1) := by decide +kernel
theorem dX0_moveToEnd_29 : decode cX0_moveToEnd 29 = .ok (.getfield 32, 3) := by decide +kernel
theorem dX0_moveToEnd_32 : decode cX0_moveToEnd 32 = .ok (.iload 4, 2) := by decide +kernel
theorem dX0_moveToEnd_34 : decode cX0_moveToEnd 34 = .ok (.aload_n 0, 1) := by decide +kernel
theorem dX0_moveToEnd_35 : decode cX0_moveToEnd 35 = .ok (.getfield 32, 3) := by decide +kernel
theorem dX0_moveToEnd_38 : decode cX0_moveToEnd 38 = .ok (.iload 4, 2) := by decide +kernel
theorem dX0_moveToEnd_40 : decode cX0_moveToEnd 40 = .ok (.iconst 1, 1) := by decide +kernel
theorem dX0_moveToEnd_41 : decode cX0_moveToEnd 41 = .ok (.iadd, 1) := by decide +kernel
theorem dX0_moveToEnd_42 : decode cX0_moveToEnd 42 = .ok (.iaload, 1) := by decide +kernel
theorem dX0_moveToEnd_43 : decode cX0_moveToEnd 43 = .ok (.iastore, 1) := by decide +kernel
theorem dX0_moveToEnd_44 : decode cX0_moveToEnd 44 = .ok (.aload_n 0, 1) := by decide +kernel
theorem dX0_moveToEnd_45 : decode cX0_moveToEnd 45 = .ok (.getfield 36, 3) := by decide +kernel
theorem dX0_moveToEnd_48 : decode cX0_moveToEnd 48 = .ok (.iload 4, 2) := by decide +kernel
theorem dX0_moveToEnd_50 : decode cX0_moveToEnd 50 = .ok (.aload_n 0, 1) := by decide +kernel
theorem dX0_moveToEnd_51 : decode cX0_moveToEnd 51 = .ok (.getfield 36, 3) := by decide +kernel
theorem dX0_moveToEnd_54 : decode cX0_moveToEnd 54 = .ok (.iload 4, 2) := by decide +kernel
theorem dX0_moveToEnd_56 : decode cX0_moveToEnd 56 = .ok (.iconst 1, 1) := by decide +kernel
theorem dX0_moveToEnd_57 : decode cX0_moveToEnd 57 = .ok (.iadd, 1) := by decide +kernel
theorem dX0_moveToEnd_58 : decode cX0_moveToEnd 58 = .ok (.iaload, 1) := by decide +kernel
theorem dX0_moveToEnd_59 : decode cX0_moveToEnd 59 = .ok (.iastore, 1) := by decide +kernel
theorem dX0_moveToEnd_60 : decode cX0_moveToEnd 60 = .ok (.iinc 4 1, 3) := by decide +kernel
theorem dX0_moveToEnd_63 : decode cX0_moveToEnd 63 = .ok (.goto (-46), 3) := by decide +kernel
theorem dX0_moveToEnd_66 : decode cX0_moveToEnd 66 = .ok (.aload_n 0, 1) := by decide +kernel
theorem dX0_moveToEnd_67 : decode cX0_moveToEnd 67 = .ok (.getfield 32, 3) := by decide +kernel
theorem dX0_moveToEnd_70 : decode cX0_moveToEnd 70 = .ok (.aload_n 0, 1) := by decide +kernel
theorem dX0_moveToEnd_71 : decode cX0_moveToEnd 71 = .ok (.getfield 46, 3) := by decide +kernel
theorem dX0_moveToEnd_74 : decode cX0_moveToEnd 74 = .ok (.iconst 1, 1) := by decide +kernel
theorem dX0_moveToEnd_75 : decode cX0_moveToEnd 75 = .ok (.isub, 1) := by decide +kernel
theorem dX0_moveToEnd_76 : decode cX0_moveToEnd 76 = .ok (.iload_n 2, 1) := by decide +kernel
theorem dX0_moveToEnd_77 : decode cX0_moveToEnd 77 = .ok (.iastore, 1) := by decide +kernel
theorem dX0_moveToEnd_78 : decode cX0_moveToEnd 78 = .ok (.aload_n 0, 1) := by decide +kernel
theorem dX0_moveToEnd_79 : decode cX0_moveToEnd 79 = .ok (.getfield 36, 3) := by decide +kernel
theorem dX0_moveToEnd_82 : decode cX0_moveToEnd 82 = .ok (.aload_n 0, 1) := by decide +kernel
theorem dX0_moveToEnd_83 : decode cX0_moveToEnd 83 = .ok (.getfield 46, 3) := by decide +kernel
theorem dX0_moveToEnd_86 : decode cX0_moveToEnd 86 = .ok (.iconst 1, 1) := by decide +kernel
theorem dX0_moveToEnd_87 : decode cX0_moveToEnd 87 = .ok (.isub, 1) := by decide +kernel
theorem dX0_moveToEnd_88 : decode cX0_moveToEnd 88 = .ok (.iload_n 3, 1) := by decide +kernel
theorem dX0_moveToEnd_89 : decode cX0_moveToEnd 89 = .ok (.iastore, 1) := by decide +kernel
theorem dX0_moveToEnd_90 : decode cX0_moveToEnd 90 = .ok (.return_, 1) := by decide +kernel
theorem dX0_pagesFor_0 : decode cX0_pagesFor 0 = .ok (.iconst 1, 1) := by decide +kernel
theorem dX0_pagesFor_1 : decode cX0_pagesFor 1 = .ok (.iload_n 1, 1) := by decide +kernel
theorem dX0_pagesFor_2 : decode cX0_pagesFor 2 = .ok (.aload_n 0, 1) := by decide +kernel
theorem dX0_pagesFor_3 : decode cX0_pagesFor 3 = .ok (.getfield 17, 3) := by decide +kernel
theorem dX0_pagesFor_6 : decode cX0_pagesFor 6 = .ok (.iadd, 1) := by decide +kernel
theorem dX0_pagesFor_7 : decode cX0_pagesFor 7 = .ok (.iconst 1, 1) := by decide +kernel
theorem dX0_pagesFor_8 : decode cX0_pagesFor 8 = .ok (.isub, 1) := by decide +kernel
theorem dX0_pagesFor_9 : decode cX0_pagesFor 9 = .ok (.aload_n 0, 1) := by decide +kernel
theorem dX0_pagesFor_10 : decode cX0_pagesFor 10 = .ok (.getfield 17, 3) := by decide +kernel
theorem dX0_pagesFor_13 : decode cX0_pagesFor 13 = .ok (.idiv, 1) := by decide +kernel
theorem dX0_pagesFor_14 : decode cX0_pagesFor 14 = .ok (.invokestatic 90, 3) := by decide +kernel
theorem dX0_pagesFor_17 : decode cX0_pagesFor 17 = .ok (.ireturn, 1) := by decide +kernel
set_option maxRecDepth 20000 in
theorem ggX0_pagesNeeded_X0_buckets : GoodIn wsX0_pagesNeeded wsX0_buckets := goodIn_r _ [8, 9, 10, 11, 12, 7, 13, 14, 15, 30, 31, 32, 33, 34, 35, 36, 37, 38, 39] (by decide +kernel) (by decide +kernel)
set_option maxRecDepth 20000 in
theorem gX0_pagesNeeded_X0_buckets : GoodIn wsX0_pagesNeeded (wsV RX0 60 RX0 yX0_buckets wsX0_buckets) := goodIn_app (goodIn_of _ (by decide +kernel)) ggX0_pagesNeeded_X0_buckets
set_option maxRecDepth 20000 in
theorem ggX0_pagesNeeded_X0_bucketOf : GoodIn wsX0_pagesNeeded wsX0_bucketOf := goodIn_r _ [19, 20, 9, 10, 11, 12, 7, 13, 14, 15, 30, 31, 32, 33, 34, 35, 36, 37, 38, 39] (by decide +kernel) (by decide +kernel)
set_option maxRecDepth 20000 in
theorem gX0_pagesNeeded_X0_bucketOf : GoodIn wsX0_pagesNeeded (wsV RX0 81 RX0 yX0_bucketOf wsX0_bucketOf) := goodIn_app (goodIn_of _ (by decide +kernel)) ggX0_pagesNeeded_X0_bucketOf
set_option maxRecDepth 20000 in
theorem ggX0_pagesNeeded_X0_pagesFor : GoodIn wsX0_pagesNeeded wsX0_pagesFor := goodIn_r _ [24, 25, 26, 27, 28, 29, 30, 31, 32, 33, 34, 35, 36, 37, 38, 39] (by decide +kernel) (by decide +kernel)
set_option maxRecDepth 20000 in
theorem gX0_pagesNeeded_X0_pagesFor : GoodIn wsX0_pagesNeeded (wsV RX0 84 RX0 yX0_pagesFor wsX0_pagesFor) := goodIn_app (goodIn_of _ (by decide +kernel)) ggX0_pagesNeeded_X0_pagesFor
theorem dX0_pagesNeeded_0 : decode cX0_pagesNeeded 0 = .ok (.aload_n 0, 1) := by decide +kernel
theorem dX0_pagesNeeded_1 : decode cX0_pagesNeeded 1 = .ok (.invokevirtual 60, 3) := by decide +kernel
theorem dX0_pagesNeeded_4 : decode cX0_pagesNeeded 4 = .ok (.istore_n 1, 1) := by decide +kernel
theorem dX0_pagesNeeded_5 : decode cX0_pagesNeeded 5 = .ok (.iconst 0, 1) := by decide +kernel
theorem dX0_pagesNeeded_6 : decode cX0_pagesNeeded 6 = .ok (.istore_n 2, 1) := by decide +kernel
theorem dX0_pagesNeeded_7 : decode cX0_pagesNeeded 7 = .ok (.iload_n 2, 1) := by decide +kernel
theorem dX0_pagesNeeded_8 : decode cX0_pagesNeeded 8 = .ok (.iload_n 1, 1) := by decide +kernel
theorem dX0_pagesNeeded_9 : decode cX0_pagesNeeded 9 = .ok (.if_icmp .ge 16, 3) := by decide +kernel
theorem dX0_pagesNeeded_12 : decode cX0_pagesNeeded 12 = .ok (.aload_n 0, 1) := by decide +kernel
theorem dX0_pagesNeeded_13 : decode cX0_pagesNeeded 13 = .ok (.getfield 39, 3) := by decide +kernel
theorem dX0_pagesNeeded_16 : decode cX0_pagesNeeded 16 = .ok (.iload_n 2, 1) := by decide +kernel
theorem dX0_pagesNeeded_17 : decode cX0_pagesNeeded 17 = .ok (.iconst 0, 1) := by decide +kernel
theorem dX0_pagesNeeded_18 : decode cX0_pagesNeeded 18 = .ok (.iastore, 1) := by decide +kernel
theorem dX0_pagesNeeded_19 : decode cX0_pagesNeeded 19 = .ok (.iinc 2 1, 3) := by decide +kernel
theorem dX0_pagesNeeded_22 : decode cX0_pagesNeeded 22 = .ok (.goto (-15), 3) := by decide +kernel
theorem dX0_pagesNeeded_25 : decode cX0_pagesNeeded 25 = .ok (.iconst 0, 1) := by decide +kernel
theorem dX0_pagesNeeded_26 : decode cX0_pagesNeeded 26 = .ok (.istore_n 2, 1) := by decide +kernel
theorem dX0_pagesNeeded_27 : decode cX0_pagesNeeded 27 = .ok (.iload_n 2, 1) := by decide +kernel
theorem dX0_pagesNeeded_28 : decode cX0_pagesNeeded 28 = .ok (.aload_n 0, 1) := by decide +kernel
theorem dX0_pagesNeeded_29 : decode cX0_pagesNeeded 29 = .ok (.getfield 46, 3) := by decide +kernel
theorem dX0_pagesNeeded_32 : decode cX0_pagesNeeded 32 = .ok (.if_icmp .ge 28, 3) := by decide +kernel
theorem dX0_pagesNeeded_35 : decode cX0_pagesNeeded 35 = .ok (.aload_n 0, 1) := by decide +kernel
theorem dX0_pagesNeeded_36 : decode cX0_pagesNeeded 36 = .ok (.getfield 39, 3) := by decide +kernel
theorem dX0_pagesNeeded_39 : decode cX0_pagesNeeded 39 = .ok (.aload_n 0, 1) := by decide +kernel
theorem dX0_pagesNeeded_40 : decode cX0_pagesNeeded 40 = .ok (.aload_n 0, 1) := by decide +kernel
theorem dX0_pagesNeeded_41 : decode cX0_pagesNeeded 41 = .ok (.getfield 32, 3) := by decide +kernel
theorem dX0_pagesNeeded_44 : decode cX0_pagesNeeded 44 = .ok (.iload_n 2, 1) := by decide +kernel
theorem dX0_pagesNeeded_45 : decode cX0_pagesNeeded 45 = .ok (.iaload, 1) := by decide +kernel
theorem dX0_pagesNeeded_46 : decode cX0_pagesNeeded 46 = .ok (.invokevirtual 81, 3) := by decide +kernel
theorem dX0_pagesNeeded_49 : decode cX0_pagesNeeded 49 = .ok (.dup2, 1) := by decide +kernel
theorem dX0_pagesNeeded_50 : decode cX0_pagesNeeded 50 = .ok (.iaload, 1) := by decide +kernel
theorem dX0_pagesNeeded_51 : decode cX0_pagesNeeded 51 = .ok (.iconst 1, 1) := by decide +kernel
theorem dX0_pagesNeeded_52 : decode cX0_pagesNeeded 52 = .ok (.iadd, 1) := by decide +kernel
theorem dX0_pagesNeeded_53 : decode cX0_pagesNeeded 53 = .ok (.iastore, 1) := by decide +kernel
theorem dX0_pagesNeeded_54 : decode cX0_pagesNeeded 54 = .ok (.iinc 2 1, 3) := by decide +kernel
theorem dX0_pagesNeeded_57 : decode cX0_pagesNeeded 57 = .ok (.goto (-30), 3) := by decide +kernel
theorem dX0_pagesNeeded_60 : decode cX0_pagesNeeded 60 = .ok (.iconst 0, 1) := by decide +kernel
theorem dX0_pagesNeeded_61 : decode cX0_pagesNeeded 61 = .ok (.istore_n 2, 1) := by decide +kernel
theorem dX0_pagesNeeded_62 : decode cX0_pagesNeeded 62 = .ok (.iconst 0, 1) := by decide +kernel
theorem dX0_pagesNeeded_63 : decode cX0_pagesNeeded 63 = .ok (.istore_n 3, 1) := by decide +kernel
theorem dX0_pagesNeeded_64 : decode cX0_pagesNeeded 64 = .ok (.iload_n 3, 1) := by decide +kernel
theorem dX0_pagesNeeded_65 : decode cX0_pagesNeeded 65 = .ok (.iload_n 1, 1) := by decide +kernel
theorem dX0_pagesNeeded_66 : decode cX0_pagesNeeded 66 = .ok (.if_icmp .ge 22, 3) := by decide +kernel
theorem dX0_pagesNeeded_69 : decode cX0_pagesNeeded 69 = .ok (.iload_n 2, 1) := by decide +kernel
theorem dX0_pagesNeeded_70 : decode cX0_pagesNeeded 70 = .ok (.aload_n 0, 1) := by decide +kernel
theorem dX0_pagesNeeded_71 : decode cX0_pagesNeeded 71 = .ok (.aload_n 0, 1) := by decide +kernel
theorem dX0_pagesNeeded_72 : decode cX0_pagesNeeded 72 = .ok (.getfield 39, 3) := by decide +kernel
theorem dX0_pagesNeeded_75 : decode cX0_pagesNeeded 75 = .ok (.iload_n 3, 1) := by decide +kernel
theorem dX0_pagesNeeded_76 : decode cX0_pagesNeeded 76 = .ok (.iaload, 1) := by decide +kernel
theorem dX0_pagesNeeded_77 : decode cX0_pagesNeeded 77 = .ok (.invokevirtual 84, 3) := by decide +kernel
theorem dX0_pagesNeeded_80 : decode cX0_pagesNeeded 80 = .ok (.iadd, 1) := by decide +kernel
theorem dX0_pagesNeeded_81 : decode cX0_pagesNeeded 81 = .ok (.istore_n 2, 1) := by decide +kernel
theorem dX0_pagesNeeded_82 : decode cX0_pagesNeeded 82 = .ok (.iinc 3 1, 3) := by decide +kernel
theorem dX0_pagesNeeded_85 : decode cX0_pagesNeeded 85 = .ok (.goto (-21), 3) := by decide +kernel
theorem dX0_pagesNeeded_88 : decode cX0_pagesNeeded 88 = .ok (.iload_n 2, 1) := by decide +kernel
theorem dX0_pagesNeeded_89 : decode cX0_pagesNeeded 89 = .ok (.ireturn, 1) := by decide +kernel
theorem dX1_init_0 : decode cX1_init 0 = .ok (.aload_n 0, 1) := by decide +kernel
theorem dX1_init_1 : decode cX1_init 1 = .ok (.invokespecial 1, 3) := by decide +kernel
theorem dX1_init_4 : decode cX1_init 4 = .ok (.aload_n 0, 1) := by decide +kernel
theorem dX1_init_5 : decode cX1_init 5 = .ok (.sipush 2401, 3) := by decide +kernel
theorem dX1_init_8 : decode cX1_init 8 = .ok (.newarray .int, 2) := by decide +kernel
theorem dX1_init_10 : decode cX1_init 10 = .ok (.putfield 7, 3) := by decide +kernel
theorem dX1_init_13 : decode cX1_init 13 = .ok (.aload_n 0, 1) := by decide +kernel
theorem dX1_init_14 : decode cX1_init 14 = .ok (.sipush 2401, 3) := by decide +kernel
theorem dX1_init_17 : decode cX1_init 17 = .ok (.newarray .int, 2) := by decide +kernel
theorem dX1_init_19 : decode cX1_init 19 = .ok (.putfield 13, 3) := by decide +kernel
theorem dX1_init_22 : decode cX1_init 22 = .ok (.aload_n 0, 1) := by decide +kernel
theorem dX1_init_23 : decode cX1_init 23 = .ok (.sipush 2401, 3) := by decide +kernel
theorem dX1_init_26 : decode cX1_init 26 = .ok (.newarray .int, 2) := by decide +kernel
theorem dX1_init_28 : decode cX1_init 28 = .ok (.putfield 16, 3) := by decide +kernel
theorem dX1_init_31 : decode cX1_init 31 = .ok (.aload_n 0, 1) := by decide +kernel
theorem dX1_init_32 : decode cX1_init 32 = .ok (.sipush 200, 3) := by decide +kernel
theorem dX1_init_35 : decode cX1_init 35 = .ok (.newarray .int, 2) := by decide +kernel
theorem dX1_init_37 : decode cX1_init 37 = .ok (.putfield 19, 3) := by decide +kernel
theorem dX1_init_40 : decode cX1_init 40 = .ok (.aload_n 0, 1) := by decide +kernel
theorem dX1_init_41 : decode cX1_init 41 = .ok (.iload_n 1, 1) := by decide +kernel
theorem dX1_init_42 : decode cX1_init 42 = .ok (.iconst 1, 1) := by decide +kernel
theorem dX1_init_43 : decode cX1_init 43 = .ok (.if_icmp .ge 7, 3) := by decide +kernel
theorem dX1_init_46 : decode cX1_init 46 = .ok (.iconst 1, 1) := by decide +kernel
theorem dX1_init_47 : decode cX1_init 47 = .ok (.goto 15, 3) := by decide +kernel
theorem dX1_init_50 : decode cX1_init 50 = .ok (.iload_n 1, 1) := by decide +kernel
theorem dX1_init_51 : decode cX1_init 51 = .ok (.bipush 8, 2) := by decide +kernel
theorem dX1_init_53 : decode cX1_init 53 = .ok (.if_icmp .le 8, 3) := by decide +kernel
theorem dX1_init_56 : decode cX1_init 56 = .ok (.bipush 8, 2) := by decide +kernel
theorem dX1_init_58 : decode cX1_init 58 = .ok (.goto 4, 3) := by decide +kernel
theorem dX1_init_61 : decode cX1_init 61 = .ok (.iload_n 1, 1) := by decide +kernel
theorem dX1_init_62 : decode cX1_init 62 = .ok (.putfield 22, 3) := by decide +kernel
theorem dX1_init_65 : decode cX1_init 65 = .ok (.aload_n 0, 1) := by decide +kernel
theorem dX1_init_66 : decode cX1_init 66 = .ok (.iload_n 2, 1) := by decide +kernel
theorem dX1_init_67 : decode cX1_init 67 = .ok (.iconst 1, 1) := by decide +kernel
theorem dX1_init_68 : decode cX1_init 68 = .ok (.if_icmp .ge 7, 3) := by decide +kernel
theorem dX1_init_71 : decode cX1_init 71 = .ok (.iconst 1, 1) := by decide +kernel
theorem dX1_init_72 : decode cX1_init 72 = .ok (.goto 15, 3) := by decide +kernel
theorem dX1_init_75 : decode cX1_init 75 = .ok (.iload_n 2, 1) := by decide +kernel
theorem dX1_init_76 : decode cX1_init 76 = .ok (.bipush 8, 2) := by decide +kernel
theorem dX1_init_78 : decode cX1_init 78 = .ok (.if_icmp .le 8, 3) := by decide +kernel
theorem dX1_init_81 : decode cX1_init 81 = .ok (.bipush 8, 2) := by decide +kernel
theorem dX1_init_83 : decode cX1_init 83 = .ok (.goto 4, 3) := by decide +kernel
theorem dX1_init_86 : decode cX1_init 86 = .ok (.iload_n 2, 1) := by decide +kernel
theorem dX1_init_87 : decode cX1_init 87 = .ok (.putfield 26, 3) := by decide +kernel
theorem dX1_init_90 : decode cX1_init 90 = .ok (.aload_n 0, 1) := by decide +kernel
theorem dX1_init_91 : decode cX1_init 91 = .ok (.iload_n 3, 1) := by decide +kernel
theorem dX1_init_92 : decode cX1_init 92 = .ok (.bipush 8, 2) := by decide +kernel
theorem dX1_init_94 : decode cX1_init 94 = .ok (.if_icmp .ge 8, 3) := by decide +kernel
theorem dX1_init_97 : decode cX1_init 97 = .ok (.bipush 8, 2) := by decide +kernel
theorem dX1_init_99 : decode cX1_init 99 = .ok (.goto 17, 3) := by decide +kernel
theorem dX1_init_102 : decode cX1_init 102 = .ok (.iload_n 3, 1) := by decide +kernel
theorem dX1_init_103 : decode cX1_init 103 = .ok (.sipush 300, 3) := by decide +kernel
theorem dX1_init_106 : decode cX1_init 106 = .ok (.if_icmp .le 9, 3) := by decide +kernel
theorem dX1_init_109 : decode cX1_init 109 = .ok (.sipush 300, 3) := by decide +kernel
theorem dX1_init_112 : decode cX1_init 112 = .ok (.goto 4, 3) := by decide +kernel
theorem dX1_init_115 : decode cX1_init 115 = .ok (.iload_n 3, 1) := by decide +kernel
theorem dX1_init_116 : decode cX1_init 116 = .ok (.putfield 29, 3) := by decide +kernel
theorem dX1_init_119 : decode cX1_init 119 = .ok (.aload_n 0, 1) := by decide +kernel
theorem dX1_init_120 : decode cX1_init 120 = .ok (.iload 4, 2) := by decide +kernel
theorem dX1_init_122 : decode cX1_init 122 = .ok (.aload_n 0, 1) := by decide +kernel
theorem dX1_init_123 : decode cX1_init 123 = .ok (.getfield 22, 3) := by decide +kernel
theorem dX1_init_126 : decode cX1_init 126 = .ok (.if_icmp .ge 10, 3) := by decide +kernel
theorem dX1_init_129 : decode cX1_init 129 = .ok (.aload_n 0, 1) := by decide +kernel
theorem dX1_init_130 : decode cX1_init 130 = .ok (.getfield 22, 3) := by decide +kernel
theorem dX1_init_133 : decode cX1_init 133 = .ok (.goto 19, 3) := by decide +kernel
theorem dX1_init_136 : decode cX1_init 136 = .ok (.iload 4, 2) := by decide +kernel
theorem dX1_init_138 : decode cX1_init 138 = .ok (.sipush 200, 3) := by decide +kernel
theorem dX1_init_141 : decode cX1_init 141 = .ok (.if_icmp .le 9, 3) := by decide +kernel
theorem dX1_init_144 : decode cX1_init 144 = .ok (.sipush 200, 3) := by decide +kernel
theorem dX1_init_147 : decode cX1_init 147 = .ok (.goto 5, 3) := by decide +kernel
theorem dX1_init_150 : decode cX1_init 150 = .ok (.iload 4, 2) := by decide +kernel
theorem dX1_init_152 : decode cX1_init 152 = .ok (.putfield 32, 3) := by decide +kernel
theorem dX1_init_155 : decode cX1_init 155 = .ok (.return_, 1) := by decide +kernel
theorem dX1_round_0 : decode cX1_round 0 = .ok (.aload_n 0, 1) := by decide +kernel
theorem dX1_round_1 : decode cX1_round 1 = .ok (.getfield 22, 3) := by decide +kernel
theorem dX1_round_4 : decode cX1_round 4 = .ok (.istore_n 1, 1) := by decide +kernel
theorem dX1_round_5 : decode cX1_round 5 = .ok (.iconst 0, 1) := by decide +kernel
theorem dX1_round_6 : decode cX1_round 6 = .ok (.istore_n 2, 1) := by decide +kernel
theorem dX1_round_7 : decode cX1_round 7 = .ok (.iload_n 2, 1) := by decide +kernel
theorem dX1_round_8 : decode cX1_round 8 = .ok (.aload_n 0, 1) := by decide +kernel
theorem dX1_round_9 : decode cX1_round 9 = .ok (.getfield 35, 3) := by decide +kernel
theorem dX1_round_12 : decode cX1_round 12 = .ok (.if_icmp .ge 13, 3) := by decide +kernel
theorem dX1_round_15 : decode cX1_round 15 = .ok (.iconst 2, 1) := by decide +kernel
theorem dX1_round_16 : decode cX1_round 16 = .ok (.iload_n 1, 1) := by decide +kernel
theorem dX1_round_17 : decode cX1_round 17 = .ok (.imul, 1) := by decide +kernel
theorem dX1_round_18 : decode cX1_round 18 = .ok (.istore_n 1, 1) := by decide +kernel
theorem dX1_round_19 : decode cX1_round 19 = .ok (.iinc 2 1, 3) := by decide +kernel
theorem dX1_round_22 : decode cX1_round 22 = .ok (.goto (-15), 3) := by decide +kernel
theorem dX1_round_25 : decode cX1_round 25 = .ok (.iload_n 1, 1) := by decide +kernel
theorem dX1_round_26 : decode cX1_round 26 = .ok (.ireturn, 1) := by decide +kernel
set_option maxRecDepth 20000 in
theorem ggX1_buckets_X1_round : GoodIn wsX1_buckets wsX1_round := goodIn_r _ [6, 7, 8, 9, 10, 11, 12, 13, 14, 15, 16, 17, 18, 19] (by decide +kernel) (by decide +kernel)
set_option maxRecDepth 20000 in
theorem gX1_buckets_X1_round : GoodIn wsX1_buckets (wsV RX1 38 RX1 yX1_round wsX1_round) := goodIn_app (goodIn_of _ (by decide +kernel)) ggX1_buckets_X1_round
theorem dX1_buckets_0 : decode cX1_buckets 0 = .ok (.aload_n 0, 1) := by decide +kernel
theorem dX1_buckets_1 : decode cX1_buckets 1 = .ok (.invokevirtual 38, 3) := by decide +kernel
theorem dX1_buckets_4 : decode cX1_buckets 4 = .ok (.aload_n 0, 1) := by decide +kernel
theorem dX1_buckets_5 : decode cX1_buckets 5 = .ok (.getfield 42, 3) := by decide +kernel
theorem dX1_buckets_8 : decode cX1_buckets 8 = .ok (.iadd, 1) := by decide +kernel
theorem dX1_buckets_9 : decode cX1_buckets 9 = .ok (.ireturn, 1) := by decide +kernel
set_option maxRecDepth 20000 in
theorem ggX1_bucketOf_X1_round : GoodIn wsX1_bucketOf wsX1_round := goodIn_r _ [7, 8, 9, 10, 11, 12, 13, 14, 15, 16, 17, 18, 19, 20] (by decide +kernel) (by decide +kernel)
set_option maxRecDepth 20000 in
theorem gX1_bucketOf_X1_round : GoodIn wsX1_bucketOf (wsV RX1 38 RX1 yX1_round wsX1_round) := goodIn_app (goodIn_of _ (by decide +kernel)) ggX1_bucketOf_X1_round
theorem dX1_bucketOf_0 : decode cX1_bucketOf 0 = .ok (.iload_n 1, 1) := by decide +kernel
theorem dX1_bucketOf_1 : decode cX1_bucketOf 1 = .ok (.ldc 45, 2) := by decide +kernel
theorem dX1_bucketOf_3 : decode cX1_bucketOf 3 = .ok (.iand, 1) := by decide +kernel
theorem dX1_bucketOf_4 : decode cX1_bucketOf 4 = .ok (.istore_n 2, 1) := by decide +kernel
theorem dX1_bucketOf_5 : decode cX1_bucketOf 5 = .ok (.iload_n 2, 1) := by decide +kernel
theorem dX1_bucketOf_6 : decode cX1_bucketOf 6 = .ok (.aload_n 0, 1) := by decide +kernel
theorem dX1_bucketOf_7 : decode cX1_bucketOf 7 = .ok (.invokevirtual 38, 3) := by decide +kernel
theorem dX1_bucketOf_10 : decode cX1_bucketOf 10 = .ok (.irem, 1) := by decide +kernel
theorem dX1_bucketOf_11 : decode cX1_bucketOf 11 = .ok (.istore_n 3, 1) := by decide +kernel
theorem dX1_bucketOf_12 : decode cX1_bucketOf 12 = .ok (.iload_n 3, 1) := by decide +kernel
theorem dX1_bucketOf_13 : decode cX1_bucketOf 13 = .ok (.aload_n 0, 1) := by decide +kernel
theorem dX1_bucketOf_14 : decode cX1_bucketOf 14 = .ok (.getfield 42, 3) := by decide +kernel
theorem dX1_bucketOf_17 : decode cX1_bucketOf 17 = .ok (.if_icmp .ge 14, 3) := by decide +kernel
theorem dX1_bucketOf_20 : decode cX1_bucketOf 20 = .ok (.iload_n 2, 1) := by decide +kernel
theorem dX1_bucketOf_21 : decode cX1_bucketOf 21 = .ok (.iconst 2, 1) := by decide +kernel
theorem dX1_bucketOf_22 : decode cX1_bucketOf 22 = .ok (.aload_n 0, 1) := by decide +kernel
theorem dX1_bucketOf_23 : decode cX1_bucketOf 23 = .ok (.invokevirtual 38, 3) := by decide +kernel
theorem dX1_bucketOf_26 : decode cX1_bucketOf 26 = .ok (.imul, 1) := by decide +kernel
theorem dX1_bucketOf_27 : decode cX1_bucketOf 27 = .ok (.irem, 1) := by decide +kernel
theorem dX1_bucketOf_28 : decode cX1_bucketOf 28 = .ok (.goto 4, 3) := by decide +kernel
theorem dX1_bucketOf_31 : decode cX1_bucketOf 31 = .ok (.iload_n 3, 1) := by decide +kernel
theorem dX1_bucketOf_32 : decode cX1_bucketOf 32 = .ok (.ireturn, 1) := by decide +kernel
theorem dX1_find_0 : decode cX1_find 0 = .ok (.iconst (-1), 1) := by decide +kernel
theorem dX1_find_1 : decode cX1_find 1 = .ok (.istore_n 2, 1) := by decide +kernel
theorem dX1_find_2 : decode cX1_find 2 = .ok (.iconst 0, 1) := by decide +kernel
theorem dX1_find_3 : decode cX1_find 3 = .ok (.istore_n 3, 1) := by decide +kernel
theorem dX1_find_4 : decode cX1_find 4 = .ok (.iload_n 3, 1) := by decide +kernel
theorem dX1_find_5 : decode cX1_find 5 = .ok (.aload_n 0, 1) := by decide +kernel
theorem dX1_find_6 : decode cX1_find 6 = .ok (.getfield 46, 3) := by decide +kernel
theorem dX1_find_9 : decode cX1_find 9 = .ok (.if_icmp .ge 25, 3) := by decide +kernel
theorem dX1_find_12 : decode cX1_find 12 = .ok (.aload_n 0, 1) := by decide +kernel
theorem dX1_find_13 : decode cX1_find 13 = .ok (.getfield 7, 3) := by decide +kernel
theorem dX1_find_16 : decode cX1_find 16 = .ok (.iload_n 3, 1) := by decide +kernel
theorem dX1_find_17 : decode cX1_find 17 = .ok (.iaload, 1) := by decide +kernel
theorem dX1_find_18 : decode cX1_find 18 = .ok (.iload_n 1, 1) := by decide +kernel
theorem dX1_find_19 : decode cX1_find 19 = .ok (.if_icmp .ne 7, 3) := by decide +kernel
theorem dX1_find_22 : decode cX1_find 22 = .ok (.iload_n 3, 1) := by decide +kernel
theorem dX1_find_23 : decode cX1_find 23 = .ok (.goto 4, 3) := by decide +kernel
theorem dX1_find_26 : decode cX1_find 26 = .ok (.iload_n 2, 1) := by decide +kernel
theorem dX1_find_27 : decode cX1_find 27 = .ok (.istore_n 2, 1) := by decide +kernel
theorem dX1_find_28 : decode cX1_find 28 = .ok (.iinc 3 1, 3) := by decide +kernel
theorem dX1_find_31 : decode cX1_find 31 = .ok (.goto (-27), 3) := by decide +kernel
theorem dX1_find_34 : decode cX1_find 34 = .ok (.iload_n 2, 1) := by decide +kernel
theorem dX1_find_35 : decode cX1_find 35 = .ok (.ireturn, 1) := by decide +kernel
theorem dX1_count_0 : decode cX1_count 0 = .ok (.iconst 0, 1) := by decide +kernel
theorem dX1_count_1 : decode cX1_count 1 = .ok (.istore_n 1, 1) := by decide +kernel
theorem dX1_count_2 : decode cX1_count 2 = .ok (.iload_n 1, 1) := by decide +kernel
theorem dX1_count_3 : decode cX1_count 3 = .ok (.sipush 200, 3) := by decide +kernel
theorem dX1_count_6 : decode cX1_count 6 = .ok (.if_icmp .ge 16, 3) := by decide +kernel
theorem dX1_count_9 : decode cX1_count 9 = .ok (.aload_n 0, 1) := by decide +kernel
theorem dX1_count_10 : decode cX1_count 10 = .ok (.getfield 19, 3) := by decide +kernel
theorem dX1_count_13 : decode cX1_count 13 = .ok (.iload_n 1, 1) := by decide +kernel
theorem dX1_count_14 : decode cX1_count 14 = .ok (.iconst 0, 1) := by decide +kernel
theorem dX1_count_15 : decode cX1_count 15 = .ok (.iastore, 1) := by decide +kernel
theorem dX1_count_16 : decode cX1_count 16 = .ok (.iinc 1 1, 3) := by decide +kernel
theorem dX1_count_19 : decode cX1_count 19 = .ok (.goto (-17), 3) := by decide +kernel
theorem dX1_count_22 : decode cX1_count 22 = .ok (.iconst 0, 1) := by decide +kernel
theorem dX1_count_23 : decode cX1_count 23 = .ok (.istore_n 1, 1) := by decide +kernel
theorem dX1_count_24 : decode cX1_count 24 = .ok (.iload_n 1, 1) := by decide +kernel
theorem dX1_count_25 : decode cX1_count 25 = .ok (.aload_n 0, 1) := by decide +kernel
theorem dX1_count_26 : decode cX1_count 26 = .ok (.getfield 46, 3) := by decide +kernel
theorem dX1_count_29 : decode cX1_count 29 = .ok (.if_icmp .ge 24, 3) := by decide +kernel
theorem dX1_count_32 : decode cX1_count 32 = .ok (.aload_n 0, 1) := by decide +kernel
theorem dX1_count_33 : decode cX1_count 33 = .ok (.getfield 19, 3) := by decide +kernel
theorem dX1_count_36 : decode cX1_count 36 = .ok (.aload_n 0, 1) := by decide +kernel
theorem dX1_count_37 : decode cX1_count 37 = .ok (.getfield 16, 3) := by decide +kernel
theorem dX1_count_40 : decode cX1_count 40 = .ok (.iload_n 1, 1) := by decide +kernel
theorem dX1_count_41 : decode cX1_count 41 = .ok (.iaload, 1) := by decide +kernel
theorem dX1_count_42 : decode cX1_count 42 = .ok (.dup2, 1) := by decide +kernel
theorem dX1_count_43 : decode cX1_count 43 = .ok (.iaload, 1) := by decide +kernel
theorem dX1_count_44 : decode cX1_count 44 = .ok (.iconst 1, 1) := by decide +kernel
theorem dX1_count_45 : decode cX1_count 45 = .ok (.iadd, 1) := by decide +kernel
theorem dX1_count_46 : decode cX1_count 46 = .ok (.iastore, 1) := by decide +kernel
theorem dX1_count_47 : decode cX1_count 47 = .ok (.iinc 1 1, 3) := by decide +kernel
theorem dX1_count_50 : decode cX1_count 50 = .ok (.goto (-26), 3) := by decide +kernel
theorem dX1_count_53 : decode cX1_count 53 = .ok (.return_, 1) := by decide +kernel
theorem dX1_pagesFor_0 : decode cX1_pagesFor 0 = .ok (.iload_n 1, 1) := by decide +kernel
theorem dX1_pagesFor_1 : decode cX1_pagesFor 1 = .ok (.ifCond .ne 7, 3) := by decide +kernel
theorem dX1_pagesFor_4 : decode cX1_pagesFor 4 = .ok (.iconst 1, 1) := by decide +kernel
theorem dX1_pagesFor_5 : decode cX1_pagesFor 5 = .ok (.goto 16, 3) := by decide +kernel
theorem dX1_pagesFor_8 : decode cX1_pagesFor 8 = .ok (.iload_n 1, 1) := by decide +kernel
theorem dX1_pagesFor_9 : decode cX1_pagesFor 9 = .ok (.aload_n 0, 1) := by decide +kernel
theorem dX1_pagesFor_10 : decode cX1_pagesFor 10 = .ok (.getfield 26, 3) := by decide +kernel
theorem dX1_pagesFor_13 : decode cX1_pagesFor 13 = .ok (.iadd, 1) := by decide +kernel
theorem dX1_pagesFor_14 : decode cX1_pagesFor 14 = .ok (.iconst 1, 1) := by decide +kernel
theorem dX1_pagesFor_15 : decode cX1_pagesFor 15 = .ok (.isub, 1) := by decide +kernel
theorem dX1_pagesFor_16 : decode cX1_pagesFor 16 = .ok (.aload_n 0, 1) := by decide +kernel
theorem dX1_pagesFor_17 : decode cX1_pagesFor 17 = .ok (.getfield 26, 3) := by decide +kernel
theorem dX1_pagesFor_20 : decode cX1_pagesFor 20 = .ok (.idiv, 1) := by decide +kernel
theorem dX1_pagesFor_21 : decode cX1_pagesFor 21 = .ok (.ireturn, 1) := by decide +kernel
set_option maxRecDepth 20000 in
theorem ggX1_needed_X1_count : GoodIn wsX1_needed wsX1_count := goodIn_r _ [6, 1, 7, 8, 25, 26, 27, 28, 29, 30, 31, 32, 33, 34, 35] (by decide +kernel) (by decide +kernel)
set_option maxRecDepth 20000 in
theorem gX1_needed_X1_count : GoodIn wsX1_needed (wsV RX1 49 RX1 yX1_count wsX1_count) := goodIn_app (goodIn_of _ (by decide +kernel)) ggX1_needed_X1_count
set_option maxRecDepth 20000 in
theorem ggX1_needed_X1_buckets : GoodIn wsX1_needed wsX1_buckets := goodIn_r _ [12, 13, 14, 15, 16, 5, 17, 18, 19, 25, 26, 27, 28, 29, 30, 31, 32, 33, 34, 35] (by decide +kernel) (by decide +kernel)
set_option maxRecDepth 20000 in
theorem gX1_needed_X1_buckets : GoodIn wsX1_needed (wsV RX1 52 RX1 yX1_buckets wsX1_buckets) := goodIn_app (goodIn_of _ (by decide +kernel)) ggX1_needed_X1_buckets
set_option maxRecDepth 20000 in
theorem ggX1_needed_X1_pagesFor : GoodIn wsX1_needed wsX1_pagesFor := goodIn_r _ [23, 24, 25, 26, 27, 28, 29, 30, 31, 32, 33, 34, 35] (by decide +kernel) (by decide +kernel)
set_option maxRecDepth 20000 in
theorem gX1_needed_X1_pagesFor : GoodIn wsX1_needed (wsV RX1 55 RX1 yX1_pagesFor wsX1_pagesFor) := goodIn_app (goodIn_of _ (by decide +kernel)) ggX1_needed_X1_pagesFor
theorem dX1_needed_0 : decode cX1_needed 0 = .ok (.aload_n 0, 1) := by decide +kernel
theorem dX1_needed_1 : decode cX1_needed 1 = .ok (.invokevirtual 49, 3) := by decide +kernel
theorem dX1_needed_4 : decode cX1_needed 4 = .ok (.iconst 0, 1) := by decide +kernel
theorem dX1_needed_5 : decode cX1_needed 5 = .ok (.istore_n 1, 1) := by decide +kernel
theorem dX1_needed_6 : decode cX1_needed 6 = .ok (.iconst 0, 1) := by decide +kernel
theorem dX1_needed_7 : decode cX1_needed 7 = .ok (.istore_n 2, 1) := by decide +kernel
theorem dX1_needed_8 : decode cX1_needed 8 = .ok (.iload_n 2, 1) := by decide +kernel
theorem dX1_needed_9 : decode cX1_needed 9 = .ok (.aload_n 0, 1) := by decide +kernel
theorem dX1_needed_10 : decode cX1_needed 10 = .ok (.invokevirtual 52, 3) := by decide +kernel
theorem dX1_needed_13 : decode cX1_needed 13 = .ok (.if_icmp .ge 22, 3) := by decide +kernel
theorem dX1_needed_16 : decode cX1_needed 16 = .ok (.iload_n 1, 1) := by decide +kernel
theorem dX1_needed_17 : decode cX1_needed 17 = .ok (.aload_n 0, 1) := by decide +kernel
theorem dX1_needed_18 : decode cX1_needed 18 = .ok (.aload_n 0, 1) := by decide +kernel
theorem dX1_needed_19 : decode cX1_needed 19 = .ok (.getfield 19, 3) := by decide +kernel
theorem dX1_needed_22 : decode cX1_needed 22 = .ok (.iload_n 2, 1) := by decide +kernel
theorem dX1_needed_23 : decode cX1_needed 23 = .ok (.iaload, 1) := by decide +kernel
theorem dX1_needed_24 : decode cX1_needed 24 = .ok (.invokevirtual 55, 3) := by decide +kernel
theorem dX1_needed_27 : decode cX1_needed 27 = .ok (.iadd, 1) := by decide +kernel
theorem dX1_needed_28 : decode cX1_needed 28 = .ok (.istore_n 1, 1) := by decide +kernel
theorem dX1_needed_29 : decode cX1_needed 29 = .ok (.iinc 2 1, 3) := by decide +kernel
theorem dX1_needed_32 : decode cX1_needed 32 = .ok (.goto (-24), 3) := by decide +kernel
theorem dX1_needed_35 : decode cX1_needed 35 = .ok (.iload_n 1, 1) := by decide +kernel
theorem dX1_needed_36 : decode cX1_needed 36 = .ok (.ireturn, 1) := by decide +kernel
set_option maxRecDepth 20000 in
theorem ggX1_settle_X1_bucketOf : GoodIn wsX1_settle wsX1_bucketOf := goodIn_r _ [8, 9, 10, 11, 12, 13, 7, 14, 15, 16, 17, 18, 19, 20, 21, 22, 23, 24, 25, 26, 27] (by decide +kernel) (by decide +kernel)
set_option maxRecDepth 20000 in
theorem gX1_settle_X1_bucketOf : GoodIn wsX1_settle (wsV RX1 59 RX1 yX1_bucketOf wsX1_bucketOf) := goodIn_app (goodIn_of _ (by decide +kernel)) ggX1_settle_X1_bucketOf
theorem dX1_settle_0 : decode cX1_settle 0 = .ok (.iconst 0, 1) := by decide +kernel
theorem dX1_settle_1 : decode cX1_settle 1 = .ok (.istore_n 1, 1) := by decide +kernel
theorem dX1_settle_2 : decode cX1_settle 2 = .ok (.iload_n 1, 1) := by decide +kernel
theorem dX1_settle_3 : decode cX1_settle 3 = .ok (.aload_n 0, 1) := by decide +kernel
theorem dX1_settle_4 : decode cX1_settle 4 = .ok (.getfield 46, 3) := by decide +kernel
theorem dX1_settle_7 : decode cX1_settle 7 = .ok (.if_icmp .ge 25, 3) := by decide +kernel
theorem dX1_settle_10 : decode cX1_settle 10 = .ok (.aload_n 0, 1) := by decide +kernel
theorem dX1_settle_11 : decode cX1_settle 11 = .ok (.getfield 16, 3) := by decide +kernel
theorem dX1_settle_14 : decode cX1_settle 14 = .ok (.iload_n 1, 1) := by decide +kernel
theorem dX1_settle_15 : decode cX1_settle 15 = .ok (.aload_n 0, 1) := by decide +kernel
theorem dX1_settle_16 : decode cX1_settle 16 = .ok (.aload_n 0, 1) := by decide +kernel
theorem dX1_settle_17 : decode cX1_settle 17 = .ok (.getfield 7, 3) := by decide +kernel
theorem dX1_settle_20 : decode cX1_settle 20 = .ok (.iload_n 1, 1) := by decide +kernel
theorem dX1_settle_21 : decode cX1_settle 21 = .ok (.iaload, 1) := by decide +kernel
theorem dX1_settle_22 : decode cX1_settle 22 = .ok (.invokevirtual 59, 3) := by decide +kernel
theorem dX1_settle_25 : decode cX1_settle 25 = .ok (.iastore, 1) := by decide +kernel
theorem dX1_settle_26 : decode cX1_settle 26 = .ok (.iinc 1 1, 3) := by decide +kernel
theorem dX1_settle_29 : decode cX1_settle 29 = .ok (.goto (-27), 3) := by decide +kernel
theorem dX1_settle_32 : decode cX1_settle 32 = .ok (.return_, 1) := by decide +kernel
set_option maxRecDepth 20000 in
theorem ggX1_forth_X1_round : GoodIn wsX1_forth wsX1_round := goodIn_r _ [7, 8, 2, 9, 10, 11, 12, 13, 14, 15, 16, 17, 18, 19] (by decide +kernel) (by decide +kernel)
set_option maxRecDepth 20000 in
theorem gX1_forth_X1_round : GoodIn wsX1_forth (wsV RX1 38 RX1 yX1_round wsX1_round) := goodIn_app (goodIn_of _ (by decide +kernel)) ggX1_forth_X1_round
theorem dX1_forth_0 : decode cX1_forth 0 = .ok (.aload_n 0, 1) := by decide +kernel
theorem dX1_forth_1 : decode cX1_forth 1 = .ok (.dup, 1) := by decide +kernel
theorem dX1_forth_2 : decode cX1_forth 2 = .ok (.getfield 42, 3) := by decide +kernel
theorem dX1_forth_5 : decode cX1_forth 5 = .ok (.iconst 1, 1) := by decide +kernel
theorem dX1_forth_6 : decode cX1_forth 6 = .ok (.iadd, 1) := by decide +kernel
theorem dX1_forth_7 : decode cX1_forth 7 = .ok (.putfield 42, 3) := by decide +kernel
theorem dX1_forth_10 : decode cX1_forth 10 = .ok (.aload_n 0, 1) := by decide +kernel
theorem dX1_forth_11 : decode cX1_forth 11 = .ok (.getfield 42, 3) := by decide +kernel
theorem dX1_forth_14 : decode cX1_forth 14 = .ok (.aload_n 0, 1) := by decide +kernel
theorem dX1_forth_15 : decode cX1_forth 15 = .ok (.invokevirtual 38, 3) := by decide +kernel
theorem dX1_forth_18 : decode cX1_forth 18 = .ok (.if_icmp .ne 18, 3) := by decide +kernel
theorem dX1_forth_21 : decode cX1_forth 21 = .ok (.aload_n 0, 1) := by decide +kernel
theorem dX1_forth_22 : decode cX1_forth 22 = .ok (.iconst 0, 1) := by decide +kernel
theorem dX1_forth_23 : decode cX1_forth 23 = .ok (.putfield 42, 3) := by decide +kernel
theorem dX1_forth_26 : decode cX1_forth 26 = .ok (.aload_n 0, 1) := by decide +kernel
theorem dX1_forth_27 : decode cX1_forth 27 = .ok (.dup, 1) := by decide +kernel
theorem dX1_forth_28 : decode cX1_forth 28 = .ok (.getfield 35, 3) := by decide +kernel
theorem dX1_forth_31 : decode cX1_forth 31 = .ok (.iconst 1, 1) := by decide +kernel
theorem dX1_forth_32 : decode cX1_forth 32 = .ok (.iadd, 1) := by decide +kernel
theorem dX1_forth_33 : decode cX1_forth 33 = .ok (.putfield 35, 3) := by decide +kernel
theorem dX1_forth_36 : decode cX1_forth 36 = .ok (.return_, 1) := by decide +kernel
set_option maxRecDepth 20000 in
theorem ggX1_back_X1_round : GoodIn wsX1_back wsX1_round := goodIn_r _ [7, 8, 2, 9, 10, 11, 12, 13, 14, 15, 16, 17, 18, 19] (by decide +kernel) (by decide +kernel)
set_option maxRecDepth 20000 in
theorem gX1_back_X1_round : GoodIn wsX1_back (wsV RX1 38 RX1 yX1_round wsX1_round) := goodIn_app (goodIn_of _ (by decide +kernel)) ggX1_back_X1_round
theorem dX1_back_0 : decode cX1_back 0 = .ok (.aload_n 0, 1) := by decide +kernel
theorem dX1_back_1 : decode cX1_back 1 = .ok (.getfield 42, 3) := by decide +kernel
theorem dX1_back_4 : decode cX1_back 4 = .ok (.ifCond .ne 21, 3) := by decide +kernel
theorem dX1_back_7 : decode cX1_back 7 = .ok (.aload_n 0, 1) := by decide +kernel
theorem dX1_back_8 : decode cX1_back 8 = .ok (.dup, 1) := by decide +kernel
theorem dX1_back_9 : decode cX1_back 9 = .ok (.getfield 35, 3) := by decide +kernel
theorem dX1_back_12 : decode cX1_back 12 = .ok (.iconst 1, 1) := by decide +kernel
theorem dX1_back_13 : decode cX1_back 13 = .ok (.isub, 1) := by decide +kernel
theorem dX1_back_14 : decode cX1_back 14 = .ok (.putfield 35, 3) := by decide +kernel
theorem dX1_back_17 : decode cX1_back 17 = .ok (.aload_n 0, 1) := by decide +kernel
theorem dX1_back_18 : decode cX1_back 18 = .ok (.aload_n 0, 1) := by decide +kernel
theorem dX1_back_19 : decode cX1_back 19 = .ok (.invokevirtual 38, 3) := by decide +kernel
theorem dX1_back_22 : decode cX1_back 22 = .ok (.putfield 42, 3) := by decide +kernel
theorem dX1_back_25 : decode cX1_back 25 = .ok (.aload_n 0, 1) := by decide +kernel
theorem dX1_back_26 : decode cX1_back 26 = .ok (.dup, 1) := by decide +kernel
theorem dX1_back_27 : decode cX1_back 27 = .ok (.getfield 42, 3) := by decide +kernel
theorem dX1_back_30 : decode cX1_back 30 = .ok (.iconst 1, 1) := by decide +kernel
theorem dX1_back_31 : decode cX1_back 31 = .ok (.isub, 1) := by decide +kernel
theorem dX1_back_32 : decode cX1_back 32 = .ok (.putfield 42, 3) := by decide +kernel
theorem dX1_back_35 : decode cX1_back 35 = .ok (.return_, 1) := by decide +kernel
set_option maxRecDepth 20000 in
theorem ggX1_put_X1_find : GoodIn wsX1_put wsX1_find := goodIn_r _ [11, 3, 2, 54, 55, 56, 57, 58, 59, 60, 61, 62, 63, 64] (by decide +kernel) (by decide +kernel)
set_option maxRecDepth 20000 in
theorem gX1_put_X1_find : GoodIn wsX1_put (wsV RX1 62 RX1 yX1_find wsX1_find) := goodIn_app (goodIn_of _ (by decide +kernel)) ggX1_put_X1_find
set_option maxRecDepth 20000 in
theorem ggX1_put_X1_buckets : GoodIn wsX1_put wsX1_buckets := goodIn_r _ [15, 16, 17, 18, 19, 10, 20, 21, 22, 54, 55, 56, 57, 58, 59, 60, 61, 62, 63, 64] (by decide +kernel) (by decide +kernel)
set_option maxRecDepth 20000 in
theorem gX1_put_X1_buckets : GoodIn wsX1_put (wsV RX1 52 RX1 yX1_buckets wsX1_buckets) := goodIn_app (goodIn_of _ (by decide +kernel)) ggX1_put_X1_buckets
set_option maxRecDepth 20000 in
theorem ggX1_put_X1_forth : GoodIn wsX1_put wsX1_forth := goodIn_r _ [26, 16, 22, 17, 18, 19, 10, 20, 21, 54, 55, 56, 57, 58, 59, 60, 61, 62, 63, 64] (by decide +kernel) (by decide +kernel)
set_option maxRecDepth 20000 in
theorem gX1_put_X1_forth : GoodIn wsX1_put (wsV RX1 65 RX1 yX1_forth wsX1_forth) := goodIn_app (goodIn_of _ (by decide +kernel)) ggX1_put_X1_forth
set_option maxRecDepth 20000 in
theorem ggX1_put_X1_settle : GoodIn wsX1_put wsX1_settle := goodIn_r _ [30, 3, 31, 2, 32, 33, 34, 10, 35, 36, 16, 17, 18, 19, 20, 21, 22, 54, 55, 56, 57, 58, 59, 60, 61, 62, 63, 64] (by decide +kernel) (by decide +kernel)
set_option maxRecDepth 20000 in
theorem gX1_put_X1_settle : GoodIn wsX1_put (wsV RX1 68 RX1 yX1_settle wsX1_settle) := goodIn_app (goodIn_of _ (by decide +kernel)) ggX1_put_X1_settle
set_option maxRecDepth 20000 in
theorem ggX1_put_X1_needed : GoodIn wsX1_put wsX1_needed := goodIn_r _ [40, 41, 42, 43, 44, 10, 45, 3, 31, 12, 13, 14, 15, 16, 17, 18, 19, 20, 21, 22, 46, 47, 48, 49, 4, 54, 55, 56, 57, 58, 59, 60, 61, 62, 63, 64] (by decide +kernel) (by decide +kernel)
set_option maxRecDepth 20000 in
theorem gX1_put_X1_needed : GoodIn wsX1_put (wsV RX1 71 RX1 yX1_needed wsX1_needed) := goodIn_app (goodIn_of _ (by decide +kernel)) ggX1_put_X1_needed
set_option maxRecDepth 20000 in
theorem ggX1_put_X1_back : GoodIn wsX1_put wsX1_back := goodIn_r _ [53, 16, 22, 17, 18, 19, 10, 20, 21, 54, 55, 56, 57, 58, 59, 60, 61, 62, 63, 64] (by decide +kernel) (by decide +kernel)
set_option maxRecDepth 20000 in
theorem gX1_put_X1_back : GoodIn wsX1_put (wsV RX1 74 RX1 yX1_back wsX1_back) := goodIn_app (goodIn_of _ (by decide +kernel)) ggX1_put_X1_back
theorem dX1_put_0 : decode cX1_put 0 = .ok (.aload_n 0, 1) := by decide +kernel
theorem dX1_put_1 : decode cX1_put 1 = .ok (.iload_n 1, 1) := by decide +kernel
theorem dX1_put_2 : decode cX1_put 2 = .ok (.invokevirtual 62, 3) := by decide +kernel
theorem dX1_put_5 : decode cX1_put 5 = .ok (.istore_n 3, 1) := by decide +kernel
theorem dX1_put_6 : decode cX1_put 6 = .ok (.iload_n 3, 1) := by decide +kernel
theorem dX1_put_7 : decode cX1_put 7 = .ok (.ifCond .lt 12, 3) := by decide +kernel
theorem dX1_put_10 : decode cX1_put 10 = .ok (.aload_n 0, 1) := by decide +kernel
theorem dX1_put_11 : decode cX1_put 11 = .ok (.getfield 13, 3) := by decide +kernel
theorem dX1_put_14 : decode cX1_put 14 = .ok (.iload_n 3, 1) := by decide +kernel
theorem dX1_put_15 : decode cX1_put 15 = .ok (.iload_n 2, 1) := by decide +kernel
theorem dX1_put_16 : decode cX1_put 16 = .ok (.iastore, 1) := by decide +kernel
theorem dX1_put_17 : decode cX1_put 17 = .ok (.iconst 1, 1) := by decide +kernel
theorem dX1_put_18 : decode cX1_put 18 = .ok (.ireturn, 1) := by decide +kernel
theorem dX1_put_19 : decode cX1_put 19 = .ok (.aload_n 0, 1) := by decide +kernel
theorem dX1_put_20 : decode cX1_put 20 = .ok (.getfield 7, 3) := by decide +kernel
theorem dX1_put_23 : decode cX1_put 23 = .ok (.aload_n 0, 1) := by decide +kernel
theorem dX1_put_24 : decode cX1_put 24 = .ok (.getfield 46, 3) := by decide +kernel
theorem dX1_put_27 : decode cX1_put 27 = .ok (.iload_n 1, 1) := by decide +kernel
theorem dX1_put_28 : decode cX1_put 28 = .ok (.iastore, 1) := by decide +kernel
theorem dX1_put_29 : decode cX1_put 29 = .ok (.aload_n 0, 1) := by decide +kernel
theorem dX1_put_30 : decode cX1_put 30 = .ok (.getfield 13, 3) := by decide +kernel
theorem dX1_put_33 : decode cX1_put 33 = .ok (.aload_n 0, 1) := by decide +kernel
theorem dX1_put_34 : decode cX1_put 34 = .ok (.getfield 46, 3) := by decide +kernel
theorem dX1_put_37 : decode cX1_put 37 = .ok (.iload_n 2, 1) := by decide +kernel
theorem dX1_put_38 : decode cX1_put 38 = .ok (.iastore, 1) := by decide +kernel
theorem dX1_put_39 : decode cX1_put 39 = .ok (.aload_n 0, 1) := by decide +kernel
theorem dX1_put_40 : decode cX1_put 40 = .ok (.dup, 1) := by decide +kernel
theorem dX1_put_41 : decode cX1_put 41 = .ok (.getfield 46, 3) := by decide +kernel
theorem dX1_put_44 : decode cX1_put 44 = .ok (.iconst 1, 1) := by decide +kernel
theorem dX1_put_45 : decode cX1_put 45 = .ok (.iadd, 1) := by decide +kernel
theorem dX1_put_46 : decode cX1_put 46 = .ok (.putfield 46, 3) := by decide +kernel
theorem dX1_put_49 : decode cX1_put 49 = .ok (.iconst 4, 1) := by decide +kernel
theorem dX1_put_50 : decode cX1_put 50 = .ok (.aload_n 0, 1) := by decide +kernel
theorem dX1_put_51 : decode cX1_put 51 = .ok (.getfield 46, 3) := by decide +kernel
theorem dX1_put_54 : decode cX1_put 54 = .ok (.imul, 1) := by decide +kernel
theorem dX1_put_55 : decode cX1_put 55 = .ok (.iconst 3, 1) := by decide +kernel
theorem dX1_put_56 : decode cX1_put 56 = .ok (.aload_n 0, 1) := by decide +kernel
theorem dX1_put_57 : decode cX1_put 57 = .ok (.getfield 26, 3) := by decide +kernel
theorem dX1_put_60 : decode cX1_put 60 = .ok (.imul, 1) := by decide +kernel
theorem dX1_put_61 : decode cX1_put 61 = .ok (.aload_n 0, 1) := by decide +kernel
theorem dX1_put_62 : decode cX1_put 62 = .ok (.invokevirtual 52, 3) := by decide +kernel
theorem dX1_put_65 : decode cX1_put 65 = .ok (.imul, 1) := by decide +kernel
theorem dX1_put_66 : decode cX1_put 66 = .ok (.if_icmp .le 18, 3) := by decide +kernel
theorem dX1_put_69 : decode cX1_put 69 = .ok (.aload_n 0, 1) := by decide +kernel
theorem dX1_put_70 : decode cX1_put 70 = .ok (.invokevirtual 52, 3) := by decide +kernel
theorem dX1_put_73 : decode cX1_put 73 = .ok (.aload_n 0, 1) := by decide +kernel
theorem dX1_put_74 : decode cX1_put 74 = .ok (.getfield 32, 3) := by decide +kernel
theorem dX1_put_77 : decode cX1_put 77 = .ok (.if_icmp .ge 7, 3) := by decide +kernel
theorem dX1_put_80 : decode cX1_put 80 = .ok (.iconst 1, 1) := by decide +kernel
theorem dX1_put_81 : decode cX1_put 81 = .ok (.goto 4, 3) := by decide +kernel
theorem dX1_put_84 : decode cX1_put 84 = .ok (.iconst 0, 1) := by decide +kernel
theorem dX1_put_85 : decode cX1_put 85 = .ok (.istore 4, 2) := by decide +kernel
theorem dX1_put_87 : decode cX1_put 87 = .ok (.iload 4, 2) := by decide +kernel
theorem dX1_put_89 : decode cX1_put 89 = .ok (.ifCond .eq 7, 3) := by decide +kernel
theorem dX1_put_92 : decode cX1_put 92 = .ok (.aload_n 0, 1) := by decide +kernel
theorem dX1_put_93 : decode cX1_put 93 = .ok (.invokevirtual 65, 3) := by decide +kernel
theorem dX1_put_96 : decode cX1_put 96 = .ok (.aload_n 0, 1) := by decide +kernel
theorem dX1_put_97 : decode cX1_put 97 = .ok (.invokevirtual 68, 3) := by decide +kernel
theorem dX1_put_100 : decode cX1_put 100 = .ok (.aload_n 0, 1) := by decide +kernel
theorem dX1_put_101 : decode cX1_put 101 = .ok (.invokevirtual 71, 3) := by decide +kernel
theorem dX1_put_104 : decode cX1_put 104 = .ok (.aload_n 0, 1) := by decide +kernel
theorem dX1_put_105 : decode cX1_put 105 = .ok (.getfield 29, 3) := by decide +kernel
theorem dX1_put_108 : decode cX1_put 108 = .ok (.if_icmp .gt 5, 3) := by decide +kernel
theorem dX1_put_111 : decode cX1_put 111 = .ok (.iconst 0, 1) := by decide +kernel
theorem dX1_put_112 : decode cX1_put 112 = .ok (.ireturn, 1) := by decide +kernel
theorem dX1_put_113 : decode cX1_put 113 = .ok (.iload 4, 2) := by decide +kernel
theorem dX1_put_115 : decode cX1_put 115 = .ok (.ifCond .eq 7, 3) := by decide +kernel
theorem dX1_put_118 : decode cX1_put 118 = .ok (.aload_n 0, 1) := by decide +kernel
theorem dX1_put_119 : decode cX1_put 119 = .ok (.invokevirtual 74, 3) := by decide +kernel
theorem dX1_put_122 : decode cX1_put 122 = .ok (.aload_n 0, 1) := by decide +kernel
theorem dX1_put_123 : decode cX1_put 123 = .ok (.dup, 1) := by decide +kernel
theorem dX1_put_124 : decode cX1_put 124 = .ok (.getfield 46, 3) := by decide +kernel
theorem dX1_put_127 : decode cX1_put 127 = .ok (.iconst 1, 1) := by decide +kernel
theorem dX1_put_128 : decode cX1_put 128 = .ok (.isub, 1) := by decide +kernel
theorem dX1_put_129 : decode cX1_put 129 = .ok (.putfield 46, 3) := by decide +kernel
theorem dX1_put_132 : decode cX1_put 132 = .ok (.aload_n 0, 1) := by decide +kernel
theorem dX1_put_133 : decode cX1_put 133 = .ok (.invokevirtual 68, 3) := by decide +kernel
theorem dX1_put_136 : decode cX1_put 136 = .ok (.iconst 2, 1) := by decide +kernel
theorem dX1_put_137 : decode cX1_put 137 = .ok (.ireturn, 1) := by decide +kernel
set_option maxRecDepth 20000 in
theorem ggX1_get_X1_find : GoodIn wsX1_get wsX1_find := goodIn_r _ [6, 7, 8, 9, 10, 11, 12, 13, 14, 15, 16, 17, 18, 19] (by decide +kernel) (by decide +kernel)
set_option maxRecDepth 20000 in
theorem gX1_get_X1_find : GoodIn wsX1_get (wsV RX1 62 RX1 yX1_find wsX1_find) := goodIn_app (goodIn_of _ (by decide +kernel)) ggX1_get_X1_find
theorem dX1_get_0 : decode cX1_get 0 = .ok (.aload_n 0, 1) := by decide +kernel
theorem dX1_get_1 : decode cX1_get 1 = .ok (.iload_n 1, 1) := by decide +kernel
theorem dX1_get_2 : decode cX1_get 2 = .ok (.invokevirtual 62, 3) := by decide +kernel
theorem dX1_get_5 : decode cX1_get 5 = .ok (.istore_n 2, 1) := by decide +kernel
theorem dX1_get_6 : decode cX1_get 6 = .ok (.iload_n 2, 1) := by decide +kernel
theorem dX1_get_7 : decode cX1_get 7 = .ok (.ifCond .ge 7, 3) := by decide +kernel
theorem dX1_get_10 : decode cX1_get 10 = .ok (.iconst 0, 1) := by decide +kernel
theorem dX1_get_11 : decode cX1_get 11 = .ok (.goto 9, 3) := by decide +kernel
theorem dX1_get_14 : decode cX1_get 14 = .ok (.aload_n 0, 1) := by decide +kernel
theorem dX1_get_15 : decode cX1_get 15 = .ok (.getfield 13, 3) := by decide +kernel
theorem dX1_get_18 : decode cX1_get 18 = .ok (.iload_n 2, 1) := by decide +kernel
theorem dX1_get_19 : decode cX1_get 19 = .ok (.iaload, 1) := by decide +kernel
theorem dX1_get_20 : decode cX1_get 20 = .ok (.ireturn, 1) := by decide +kernel
set_option maxRecDepth 20000 in
theorem ggX1_has_X1_find : GoodIn wsX1_has wsX1_find := goodIn_r _ [5, 6, 7, 8, 9, 10, 11, 12, 13, 14, 15, 16, 17, 18] (by decide +kernel) (by decide +kernel)
set_option maxRecDepth 20000 in
theorem gX1_has_X1_find : GoodIn wsX1_has (wsV RX1 62 RX1 yX1_find wsX1_find) := goodIn_app (goodIn_of _ (by decide +kernel)) ggX1_has_X1_find
theorem dX1_has_0 : decode cX1_has 0 = .ok (.aload_n 0, 1) := by decide +kernel
theorem dX1_has_1 : decode cX1_has 1 = .ok (.iload_n 1, 1) := by decide +kernel
theorem dX1_has_2 : decode cX1_has 2 = .ok (.invokevirtual 62, 3) := by decide +kernel
theorem dX1_has_5 : decode cX1_has 5 = .ok (.ifCond .lt 7, 3) := by decide +kernel
theorem dX1_has_8 : decode cX1_has 8 = .ok (.iconst 1, 1) := by decide +kernel
theorem dX1_has_9 : decode cX1_has 9 = .ok (.goto 4, 3) := by decide +kernel
theorem dX1_has_12 : decode cX1_has 12 = .ok (.iconst 0, 1) := by decide +kernel
theorem dX1_has_13 : decode cX1_has 13 = .ok (.ireturn, 1) := by decide +kernel
theorem dX1_cut_0 : decode cX1_cut 0 = .ok (.aload_n 0, 1) := by decide +kernel
theorem dX1_cut_1 : decode cX1_cut 1 = .ok (.dup, 1) := by decide +kernel
theorem dX1_cut_2 : decode cX1_cut 2 = .ok (.getfield 46, 3) := by decide +kernel
theorem dX1_cut_5 : decode cX1_cut 5 = .ok (.iconst 1, 1) := by decide +kernel
theorem dX1_cut_6 : decode cX1_cut 6 = .ok (.isub, 1) := by decide +kernel
theorem dX1_cut_7 : decode cX1_cut 7 = .ok (.putfield 46, 3) := by decide +kernel
theorem dX1_cut_10 : decode cX1_cut 10 = .ok (.iload_n 1, 1) := by decide +kernel
theorem dX1_cut_11 : decode cX1_cut 11 = .ok (.istore_n 2, 1) := by decide +kernel
theorem dX1_cut_12 : decode cX1_cut 12 = .ok (.iload_n 2, 1) := by decide +kernel
theorem dX1_cut_13 : decode cX1_cut 13 = .ok (.aload_n 0, 1) := by decide +kernel
theorem dX1_cut_14 : decode cX1_cut 14 = .ok (.getfield 46, 3) := by decide +kernel
theorem dX1_cut_17 : decode cX1_cut 17 = .ok (.if_icmp .ge 51, 3) := by decide +kernel
theorem dX1_cut_20 : decode cX1_cut 20 = .ok (.aload_n 0, 1) := by decide +kernel
theorem dX1_cut_21 : decode cX1_cut 21 = .ok (.getfield 7, 3) := by decide +kernel
theorem dX1_cut_24 : decode cX1_cut 24 = .ok (.iload_n 2, 1) := by decide +kernel
theorem dX1_cut_25 : decode cX1_cut 25 = .ok (.aload_n 0, 1) := by decide +kernel
theorem dX1_cut_26 : decode cX1_cut 26 = .ok (.getfield 7, 3) := by decide +kernel
theorem dX1_cut_29 : decode cX1_cut 29 = .ok (.iload_n 2, 1) := by decide +kernel
theorem dX1_cut_30 : decode cX1_cut 30 = .ok (.iconst 1, 1) := by decide +kernel
theorem dX1_cut_31 : decode cX1_cut 31 = .ok (.iadd, 1) := by decide +kernel
theorem dX1_cut_32 : decode cX1_cut 32 = .ok (.iaload, 1) := by decide +kernel
theorem dX1_cut_33 : decode cX1_cut 33 = .ok (.iastore, 1) := by decide +kernel
theorem dX1_cut_34 : decode cX1_cut 34 = .ok (.aload_n 0, 1) := by decide +kernel
theorem dX1_cut_35 : decode cX1_cut 35 = .ok (.getfield 13, 3) := by decide +kernel
theorem dX1_cut_38 : decode cX1_cut 38 = .ok (.iload_n 2, 1) := by decide +kernel
theorem dX1_cut_39 : decode cX1_cut 39 = .ok (.aload_n 0, 1) := by decide +kernel
theorem dX1_cut_40 : decode cX1_cut 40 = .ok (.getfield 13, 3) := by decide +kernel
theorem dX1_cut_43 : decode cX1_cut 43 = .ok (.iload_n 2, 1) := by decide +kernel
theorem dX1_cut_44 : decode cX1_cut 44 = .ok (.iconst 1, 1) := by decide +kernel
theorem dX1_cut_45 : decode cX1_cut 45 = .ok (.iadd, 1) := by decide +kernel
theorem dX1_cut_46 : decode cX1_cut 46 = .ok (.iaload, 1) := by decide +kernel
theorem dX1_cut_47 : decode cX1_cut 47 = .ok (.iastore, 1) := by decide +kernel
theorem dX1_cut_48 : decode cX1_cut 48 = .ok (.aload_n 0, 1) := by decide +kernel
theorem dX1_cut_49 : decode cX1_cut 49 = .ok (.getfield 16, 3) := by decide +kernel
theorem dX1_cut_52 : decode cX1_cut 52 = .ok (.iload_n 2, 1) := by decide +kernel
theorem dX1_cut_53 : decode cX1_cut 53 = .ok (.aload_n 0, 1) := by decide +kernel
theorem dX1_cut_54 : decode cX1_cut 54 = .ok (.getfield 16, 3) := by decide +kernel
theorem dX1_cut_57 : decode cX1_cut 57 = .ok (.iload_n 2, 1) := by decide +kernel
theorem dX1_cut_58 : decode cX1_cut 58 = .ok (.iconst 1, 1) := by decide +kernel
theorem dX1_cut_59 : decode cX1_cut 59 = .ok (.iadd, 1) := by decide +kernel
theorem dX1_cut_60 : decode cX1_cut 60 = .ok (.iaload, 1) := by decide +kernel
theorem dX1_cut_61 : decode cX1_cut 61 = .ok (.iastore, 1) := by decide +kernel
theorem dX1_cut_62 : decode cX1_cut 62 = .ok (.iinc 2 1, 3) := by decide +kernel
theorem dX1_cut_65 : decode cX1_cut 65 = .ok (.goto (-53), 3) := by decide +kernel
theorem dX1_cut_68 : decode cX1_cut 68 = .ok (.return_, 1) := by decide +kernel
set_option maxRecDepth 20000 in
theorem ggX1_toEnd_X1_cut : GoodIn wsX1_toEnd wsX1_cut := goodIn_r _ [9, 1, 3, 4, 2, 10, 11, 12, 13, 14, 15, 16, 17, 18, 19, 20] (by decide +kernel) (by decide +kernel)
set_option maxRecDepth 20000 in
theorem gX1_toEnd_X1_cut : GoodIn wsX1_toEnd (wsV RX1 77 RX1 yX1_cut wsX1_cut) := goodIn_app (goodIn_of _ (by decide +kernel)) ggX1_toEnd_X1_cut
theorem dX1_toEnd_0 : decode cX1_toEnd 0 = .ok (.iconst 0, 1) := by decide +kernel
theorem dX1_toEnd_1 : decode cX1_toEnd 1 = .ok (.istore_n 2, 1) := by decide +kernel
theorem dX1_toEnd_2 : decode cX1_toEnd 2 = .ok (.aload_n 0, 1) := by decide +kernel
theorem dX1_toEnd_3 : decode cX1_toEnd 3 = .ok (.getfield 46, 3) := by decide +kernel
theorem dX1_toEnd_6 : decode cX1_toEnd 6 = .ok (.istore_n 3, 1) := by decide +kernel
theorem dX1_toEnd_7 : decode cX1_toEnd 7 = .ok (.iload_n 3, 1) := by decide +kernel
theorem dX1_toEnd_8 : decode cX1_toEnd 8 = .ok (.ifCond .le 88, 3) := by decide +kernel
theorem dX1_toEnd_11 : decode cX1_toEnd 11 = .ok (.aload_n 0, 1) := by decide +kernel
theorem dX1_toEnd_12 : decode cX1_toEnd 12 = .ok (.getfield 16, 3) := by decide +kernel
theorem dX1_toEnd_15 : decode cX1_toEnd 15 = .ok (.iload_n 2, 1) := by decide +kernel
theorem dX1_toEnd_16 : decode cX1_toEnd 16 = .ok (.iaload, 1) := by decide +kernel
theorem dX1_toEnd_17 : decode cX1_toEnd 17 = .ok (.iload_n 1, 1) := by decide +kernel
theorem dX1_toEnd_18 : decode cX1_toEnd 18 = .ok (.if_icmp .eq 9, 3) := by decide +kernel
theorem dX1_toEnd_21 : decode cX1_toEnd 21 = .ok (.iinc 2 1, 3) := by decide +kernel
theorem dX1_toEnd_24 : decode cX1_toEnd 24 = .ok (.goto 66, 3) := by decide +kernel
theorem dX1_toEnd_27 : decode cX1_toEnd 27 = .ok (.aload_n 0, 1) := by decide +kernel
theorem dX1_toEnd_28 : decode cX1_toEnd 28 = .ok (.getfield 7, 3) := by decide +kernel
theorem dX1_toEnd_31 : decode cX1_toEnd 31 = .ok (.iload_n 2, 1) := by decide +kernel
theorem dX1_toEnd_32 : decode cX1_toEnd 32 = .ok (.iaload, 1) := by decide +kernel
theorem dX1_toEnd_33 : decode cX1_toEnd 33 = .ok (.istore 4, 2) := by decide +kernel
theorem dX1_toEnd_35 : decode cX1_toEnd 35 = .ok (.aload_n 0, 1) := by decide +kernel
theorem dX1_toEnd_36 : decode cX1_toEnd 36 = .ok (.getfield 13, 3) := by decide +kernel
theorem dX1_toEnd_39 : decode cX1_toEnd 39 = .ok (.iload_n 2, 1) := by decide +kernel
theorem dX1_toEnd_40 : decode cX1_toEnd 40 = .ok (.iaload, 1) := by decide +kernel
theorem dX1_toEnd_41 : decode cX1_toEnd 41 = .ok (.istore 5, 2) := by decide +kernel
theorem dX1_toEnd_43 : decode cX1_toEnd 43 = .ok (.aload_n 0, 1) := by decide +kernel
theorem dX1_toEnd_44 : decode cX1_toEnd 44 = .ok (.iload_n 2, 1) := by decide +kernel
theorem dX1_toEnd_45 : decode cX1_toEnd 45 = .ok (.invokevirtual 77, 3) := by decide +kernel
theorem dX1_toEnd_48 : decode cX1_toEnd 48 = .ok (.aload_n 0, 1) := by decide +kernel
theorem dX1_toEnd_49 : decode cX1_toEnd 49 = .ok (.getfield 7, 3) := by decide +kernel
theorem dX1_toEnd_52 : decode cX1_toEnd 52 = .ok (.aload_n 0, 1) := by decide +kernel
theorem dX1_toEnd_53 : decode cX1_toEnd 53 = .ok (.getfield 46, 3) := by decide +kernel
theorem dX1_toEnd_56 : decode cX1_toEnd 56 = .ok (.iload 4, 2) := by decide +kernel
theorem dX1_toEnd_58 : decode cX1_toEnd 58 = .ok (.iastore, 1) := by decide +kernel
theorem dX1_toEnd_59 : decode cX1_toEnd 59 = .ok (.aload_n 0, 1) := by decide +kernel
theorem dX1_toEnd_60 : decode cX1_toEnd 60 = .ok (.getfield 13, 3) := by decide +kernel
theorem dX1_toEnd_63 : decode cX1_toEnd 63 = .ok (.aload_n 0, 1) := by decide +kernel
theorem dX1_toEnd_64 : decode cX1_toEnd 64 = .ok (.getfield 46, 3) := by decide +kernel
theorem dX1_toEnd_67 : decode cX1_toEnd 67 = .ok (.iload 5, 2) := by decide +kernel
theorem dX1_toEnd_69 : decode cX1_toEnd 69 = .ok (.iastore, 1) := by decide +kernel
theorem dX1_toEnd_70 : decode cX1_toEnd 70 = .ok (.aload_n 0, 1) := by decide +kernel
theorem dX1_toEnd_71 : decode cX1_toEnd 71 = .ok (.getfield 16, 3) := by decide +kernel
theorem dX1_toEnd_74 : decode cX1_toEnd 74 = .ok (.aload_n 0, 1) := by decide +kernel
theorem dX1_toEnd_75 : decode cX1_toEnd 75 = .ok (.getfield 46, 3) := by decide +kernel
theorem dX1_toEnd_78 : decode cX1_toEnd 78 = .ok (.iload_n 1, 1) := by decide +kernel
theorem dX1_toEnd_79 : decode cX1_toEnd 79 = .ok (.iastore, 1) := by decide +kernel
theorem dX1_toEnd_80 : decode cX1_toEnd 80 = .ok (.aload_n 0, 1) := by decide +kernel
theorem dX1_toEnd_81 : decode cX1_toEnd 81 = .ok (.dup, 1) := by decide +kernel
theorem dX1_toEnd_82 : decode cX1_toEnd 82 = .ok (.getfield 46, 3) := by decide +kernel
theorem dX1_toEnd_85 : decode cX1_toEnd 85 = .ok (.iconst 1, 1) := by decide +kernel
theorem dX1_toEnd_86 : decode cX1_toEnd 86 = .ok (.iadd, 1) := by decide +kernel
theorem dX1_toEnd_87 : decode cX1_toEnd 87 = .ok (.putfield 46, 3) := by decide +kernel
theorem dX1_toEnd_90 : decode cX1_toEnd 90 = .ok (.iinc 3 (-1), 3) := by decide +kernel
theorem dX1_toEnd_93 : decode cX1_toEnd 93 = .ok (.goto (-86), 3) := by decide +kernel
theorem dX1_toEnd_96 : decode cX1_toEnd 96 = .ok (.return_, 1) := by decide +kernel
set_option maxRecDepth 20000 in
theorem ggX1_remove_X1_find : GoodIn wsX1_remove wsX1_find := goodIn_r _ [11, 1, 3, 43, 44, 45, 46, 47, 48, 49, 50, 51, 52, 53] (by decide +kernel) (by decide +kernel)
set_option maxRecDepth 20000 in
theorem gX1_remove_X1_find : GoodIn wsX1_remove (wsV RX1 62 RX1 yX1_find wsX1_find) := goodIn_app (goodIn_of _ (by decide +kernel)) ggX1_remove_X1_find
set_option maxRecDepth 20000 in
theorem ggX1_remove_X1_cut : GoodIn wsX1_remove wsX1_cut := goodIn_r _ [15, 1, 3, 4, 2, 43, 44, 45, 46, 47, 48, 49, 50, 51, 52, 53] (by decide +kernel) (by decide +kernel)
set_option maxRecDepth 20000 in
theorem gX1_remove_X1_cut : GoodIn wsX1_remove (wsV RX1 77 RX1 yX1_cut wsX1_cut) := goodIn_app (goodIn_of _ (by decide +kernel)) ggX1_remove_X1_cut
set_option maxRecDepth 20000 in
theorem ggX1_remove_X1_buckets : GoodIn wsX1_remove wsX1_buckets := goodIn_r _ [19, 20, 21, 22, 23, 10, 24, 6, 25, 43, 44, 45, 46, 47, 48, 49, 50, 51, 52, 53] (by decide +kernel) (by decide +kernel)
set_option maxRecDepth 20000 in
theorem gX1_remove_X1_buckets : GoodIn wsX1_remove (wsV RX1 52 RX1 yX1_buckets wsX1_buckets) := goodIn_app (goodIn_of _ (by decide +kernel)) ggX1_remove_X1_buckets
set_option maxRecDepth 20000 in
theorem ggX1_remove_X1_toEnd : GoodIn wsX1_remove wsX1_toEnd := goodIn_r _ [29, 1, 2, 3, 4, 12, 13, 14, 10, 15, 43, 44, 45, 46, 47, 48, 49, 50, 51, 52, 53] (by decide +kernel) (by decide +kernel)
set_option maxRecDepth 20000 in
theorem gX1_remove_X1_toEnd : GoodIn wsX1_remove (wsV RX1 81 RX1 yX1_toEnd wsX1_toEnd) := goodIn_app (goodIn_of _ (by decide +kernel)) ggX1_remove_X1_toEnd
set_option maxRecDepth 20000 in
theorem ggX1_remove_X1_back : GoodIn wsX1_remove wsX1_back := goodIn_r _ [33, 20, 25, 21, 22, 23, 10, 24, 6, 43, 44, 45, 46, 47, 48, 49, 50, 51, 52, 53] (by decide +kernel) (by decide +kernel)
set_option maxRecDepth 20000 in
theorem gX1_remove_X1_back : GoodIn wsX1_remove (wsV RX1 74 RX1 yX1_back wsX1_back) := goodIn_app (goodIn_of _ (by decide +kernel)) ggX1_remove_X1_back
set_option maxRecDepth 20000 in
theorem ggX1_remove_X1_settle : GoodIn wsX1_remove wsX1_settle := goodIn_r _ [37, 1, 2, 3, 38, 39, 40, 10, 41, 42, 20, 21, 22, 23, 24, 6, 25, 43, 44, 45, 46, 47, 48, 49, 50, 51, 52, 53] (by decide +kernel) (by decide +kernel)
set_option maxRecDepth 20000 in
theorem gX1_remove_X1_settle : GoodIn wsX1_remove (wsV RX1 68 RX1 yX1_settle wsX1_settle) := goodIn_app (goodIn_of _ (by decide +kernel)) ggX1_remove_X1_settle
theorem dX1_remove_0 : decode cX1_remove 0 = .ok (.aload_n 0, 1) := by decide +kernel
theorem dX1_remove_1 : decode cX1_remove 1 = .ok (.iload_n 1, 1) := by decide +kernel
theorem dX1_remove_2 : decode cX1_remove 2 = .ok (.invokevirtual 62, 3) := by decide +kernel
theorem dX1_remove_5 : decode cX1_remove 5 = .ok (.istore_n 2, 1) := by decide +kernel
theorem dX1_remove_6 : decode cX1_remove 6 = .ok (.iload_n 2, 1) := by decide +kernel
theorem dX1_remove_7 : decode cX1_remove 7 = .ok (.ifCond .ge 5, 3) := by decide +kernel
theorem dX1_remove_10 : decode cX1_remove 10 = .ok (.iconst 0, 1) := by decide +kernel
theorem dX1_remove_11 : decode cX1_remove 11 = .ok (.ireturn, 1) := by decide +kernel
theorem dX1_remove_12 : decode cX1_remove 12 = .ok (.iload_n 2, 1) := by decide +kernel
theorem dX1_remove_13 : decode cX1_remove 13 = .ok (.istore_n 3, 1) := by decide +kernel
theorem dX1_remove_14 : decode cX1_remove 14 = .ok (.iload_n 2, 1) := by decide +kernel
theorem dX1_remove_15 : decode cX1_remove 15 = .ok (.istore 4, 2) := by decide +kernel
theorem dX1_remove_17 : decode cX1_remove 17 = .ok (.iload 4, 2) := by decide +kernel
theorem dX1_remove_19 : decode cX1_remove 19 = .ok (.aload_n 0, 1) := by decide +kernel
theorem dX1_remove_20 : decode cX1_remove 20 = .ok (.getfield 46, 3) := by decide +kernel
theorem dX1_remove_23 : decode cX1_remove 23 = .ok (.if_icmp .ge 32, 3) := by decide +kernel
theorem dX1_remove_26 : decode cX1_remove 26 = .ok (.aload_n 0, 1) := by decide +kernel
theorem dX1_remove_27 : decode cX1_remove 27 = .ok (.getfield 16, 3) := by decide +kernel
theorem dX1_remove_30 : decode cX1_remove 30 = .ok (.iload 4, 2) := by decide +kernel
theorem dX1_remove_32 : decode cX1_remove 32 = .ok (.iaload, 1) := by decide +kernel
theorem dX1_remove_33 : decode cX1_remove 33 = .ok (.aload_n 0, 1) := by decide +kernel
theorem dX1_remove_34 : decode cX1_remove 34 = .ok (.getfield 16, 3) := by decide +kernel
theorem dX1_remove_37 : decode cX1_remove 37 = .ok (.iload_n 2, 1) := by decide +kernel
theorem dX1_remove_38 : decode cX1_remove 38 = .ok (.iaload, 1) := by decide +kernel
theorem dX1_remove_39 : decode cX1_remove 39 = .ok (.if_icmp .ne 8, 3) := by decide +kernel
theorem dX1_remove_42 : decode cX1_remove 42 = .ok (.iload 4, 2) := by decide +kernel
theorem dX1_remove_44 : decode cX1_remove 44 = .ok (.goto 4, 3) := by decide +kernel
theorem dX1_remove_47 : decode cX1_remove 47 = .ok (.iload_n 3, 1) := by decide +kernel
theorem dX1_remove_48 : decode cX1_remove 48 = .ok (.istore_n 3, 1) := by decide +kernel
theorem dX1_remove_49 : decode cX1_remove 49 = .ok (.iinc 4 1, 3) := by decide +kernel
theorem dX1_remove_52 : decode cX1_remove 52 = .ok (.goto (-35), 3) := by decide +kernel
theorem dX1_remove_55 : decode cX1_remove 55 = .ok (.aload_n 0, 1) := by decide +kernel
theorem dX1_remove_56 : decode cX1_remove 56 = .ok (.getfield 7, 3) := by decide +kernel
theorem dX1_remove_59 : decode cX1_remove 59 = .ok (.iload_n 2, 1) := by decide +kernel
theorem dX1_remove_60 : decode cX1_remove 60 = .ok (.aload_n 0, 1) := by decide +kernel
theorem dX1_remove_61 : decode cX1_remove 61 = .ok (.getfield 7, 3) := by decide +kernel
theorem dX1_remove_64 : decode cX1_remove 64 = .ok (.iload_n 3, 1) := by decide +kernel
theorem dX1_remove_65 : decode cX1_remove 65 = .ok (.iaload, 1) := by decide +kernel
theorem dX1_remove_66 : decode cX1_remove 66 = .ok (.iastore, 1) := by decide +kernel
theorem dX1_remove_67 : decode cX1_remove 67 = .ok (.aload_n 0, 1) := by decide +kernel
theorem dX1_remove_68 : decode cX1_remove 68 = .ok (.getfield 13, 3) := by decide +kernel
theorem dX1_remove_71 : decode cX1_remove 71 = .ok (.iload_n 2, 1) := by decide +kernel
theorem dX1_remove_72 : decode cX1_remove 72 = .ok (.aload_n 0, 1) := by decide +kernel
theorem dX1_remove_73 : decode cX1_remove 73 = .ok (.getfield 13, 3) := by decide +kernel
theorem dX1_remove_76 : decode cX1_remove 76 = .ok (.iload_n 3, 1) := by decide +kernel
theorem dX1_remove_77 : decode cX1_remove 77 = .ok (.iaload, 1) := by decide +kernel
theorem dX1_remove_78 : decode cX1_remove 78 = .ok (.iastore, 1) := by decide +kernel
theorem dX1_remove_79 : decode cX1_remove 79 = .ok (.aload_n 0, 1) := by decide +kernel
theorem dX1_remove_80 : decode cX1_remove 80 = .ok (.iload_n 3, 1) := by decide +kernel
theorem dX1_remove_81 : decode cX1_remove 81 = .ok (.invokevirtual 77, 3) := by decide +kernel
theorem dX1_remove_84 : decode cX1_remove 84 = .ok (.iconst 4, 1) := by decide +kernel
theorem dX1_remove_85 : decode cX1_remove 85 = .ok (.aload_n 0, 1) := by decide +kernel
theorem dX1_remove_86 : decode cX1_remove 86 = .ok (.getfield 46, 3) := by decide +kernel
theorem dX1_remove_89 : decode cX1_remove 89 = .ok (.imul, 1) := by decide +kernel
theorem dX1_remove_90 : decode cX1_remove 90 = .ok (.aload_n 0, 1) := by decide +kernel
theorem dX1_remove_91 : decode cX1_remove 91 = .ok (.getfield 26, 3) := by decide +kernel
theorem dX1_remove_94 : decode cX1_remove 94 = .ok (.aload_n 0, 1) := by decide +kernel
theorem dX1_remove_95 : decode cX1_remove 95 = .ok (.invokevirtual 52, 3) := by decide +kernel
theorem dX1_remove_98 : decode cX1_remove 98 = .ok (.imul, 1) := by decide +kernel
theorem dX1_remove_99 : decode cX1_remove 99 = .ok (.if_icmp .ge 32, 3) := by decide +kernel
theorem dX1_remove_102 : decode cX1_remove 102 = .ok (.aload_n 0, 1) := by decide +kernel
theorem dX1_remove_103 : decode cX1_remove 103 = .ok (.invokevirtual 52, 3) := by decide +kernel
theorem dX1_remove_106 : decode cX1_remove 106 = .ok (.aload_n 0, 1) := by decide +kernel
theorem dX1_remove_107 : decode cX1_remove 107 = .ok (.getfield 22, 3) := by decide +kernel
theorem dX1_remove_110 : decode cX1_remove 110 = .ok (.if_icmp .le 21, 3) := by decide +kernel
theorem dX1_remove_113 : decode cX1_remove 113 = .ok (.aload_n 0, 1) := by decide +kernel
theorem dX1_remove_114 : decode cX1_remove 114 = .ok (.aload_n 0, 1) := by decide +kernel
theorem dX1_remove_115 : decode cX1_remove 115 = .ok (.invokevirtual 52, 3) := by decide +kernel
theorem dX1_remove_118 : decode cX1_remove 118 = .ok (.iconst 1, 1) := by decide +kernel
theorem dX1_remove_119 : decode cX1_remove 119 = .ok (.isub, 1) := by decide +kernel
theorem dX1_remove_120 : decode cX1_remove 120 = .ok (.invokevirtual 81, 3) := by decide +kernel
theorem dX1_remove_123 : decode cX1_remove 123 = .ok (.aload_n 0, 1) := by decide +kernel
theorem dX1_remove_124 : decode cX1_remove 124 = .ok (.invokevirtual 74, 3) := by decide +kernel
theorem dX1_remove_127 : decode cX1_remove 127 = .ok (.aload_n 0, 1) := by decide +kernel
theorem dX1_remove_128 : decode cX1_remove 128 = .ok (.invokevirtual 68, 3) := by decide +kernel
theorem dX1_remove_131 : decode cX1_remove 131 = .ok (.iconst 1, 1) := by decide +kernel
theorem dX1_remove_132 : decode cX1_remove 132 = .ok (.ireturn, 1) := by decide +kernel
theorem dX1_size_0 : decode cX1_size 0 = .ok (.aload_n 0, 1) := by decide +kernel
theorem dX1_size_1 : decode cX1_size 1 = .ok (.getfield 46, 3) := by decide +kernel
theorem dX1_size_4 : decode cX1_size 4 = .ok (.ireturn, 1) := by decide +kernel
theorem dX1_level_0 : decode cX1_level 0 = .ok (.aload_n 0, 1) := by decide +kernel
theorem dX1_level_1 : decode cX1_level 1 = .ok (.getfield 35, 3) := by decide +kernel
theorem dX1_level_4 : decode cX1_level 4 = .ok (.ireturn, 1) := by decide +kernel
theorem dX1_pointer_0 : decode cX1_pointer 0 = .ok (.aload_n 0, 1) := by decide +kernel
theorem dX1_pointer_1 : decode cX1_pointer 1 = .ok (.getfield 42, 3) := by decide +kernel
theorem dX1_pointer_4 : decode cX1_pointer 4 = .ok (.ireturn, 1) := by decide +kernel
set_option maxRecDepth 20000 in
theorem ggX1_pages_X1_buckets : GoodIn wsX1_pages wsX1_buckets := goodIn_r _ [6, 7, 8, 9, 10, 5, 11, 12, 13, 25, 26, 27, 28, 29, 30, 31, 32, 33, 34, 35] (by decide +kernel) (by decide +kernel)
set_option maxRecDepth 20000 in
theorem gX1_pages_X1_buckets : GoodIn wsX1_pages (wsV RX1 52 RX1 yX1_buckets wsX1_buckets) := goodIn_app (goodIn_of _ (by decide +kernel)) ggX1_pages_X1_buckets
set_option maxRecDepth 20000 in
theorem ggX1_pages_X1_count : GoodIn wsX1_pages wsX1_count := goodIn_r _ [17, 1, 18, 19, 25, 26, 27, 28, 29, 30, 31, 32, 33, 34, 35] (by decide +kernel) (by decide +kernel)
set_option maxRecDepth 20000 in
theorem gX1_pages_X1_count : GoodIn wsX1_pages (wsV RX1 49 RX1 yX1_count wsX1_count) := goodIn_app (goodIn_of _ (by decide +kernel)) ggX1_pages_X1_count
set_option maxRecDepth 20000 in
theorem ggX1_pages_X1_pagesFor : GoodIn wsX1_pages wsX1_pagesFor := goodIn_r _ [23, 24, 25, 26, 27, 28, 29, 30, 31, 32, 33, 34, 35] (by decide +kernel) (by decide +kernel)
set_option maxRecDepth 20000 in
theorem gX1_pages_X1_pagesFor : GoodIn wsX1_pages (wsV RX1 55 RX1 yX1_pagesFor wsX1_pagesFor) := goodIn_app (goodIn_of _ (by decide +kernel)) ggX1_pages_X1_pagesFor
theorem dX1_pages_0 : decode cX1_pages 0 = .ok (.iload_n 1, 1) := by decide +kernel
theorem dX1_pages_1 : decode cX1_pages 1 = .ok (.ifCond .lt 11, 3) := by decide +kernel
theorem dX1_pages_4 : decode cX1_pages 4 = .ok (.iload_n 1, 1) := by decide +kernel
theorem dX1_pages_5 : decode cX1_pages 5 = .ok (.aload_n 0, 1) := by decide +kernel
theorem dX1_pages_6 : decode cX1_pages 6 = .ok (.invokevirtual 52, 3) := by decide +kernel
theorem dX1_pages_9 : decode cX1_pages 9 = .ok (.if_icmp .lt 5, 3) := by decide +kernel
theorem dX1_pages_12 : decode cX1_pages 12 = .ok (.iconst (-1), 1) := by decide +kernel
theorem dX1_pages_13 : decode cX1_pages 13 = .ok (.ireturn, 1) := by decide +kernel
theorem dX1_pages_14 : decode cX1_pages 14 = .ok (.aload_n 0, 1) := by decide +kernel
theorem dX1_pages_15 : decode cX1_pages 15 = .ok (.invokevirtual 49, 3) := by decide +kernel
theorem dX1_pages_18 : decode cX1_pages 18 = .ok (.aload_n 0, 1) := by decide +kernel
theorem dX1_pages_19 : decode cX1_pages 19 = .ok (.aload_n 0, 1) := by decide +kernel
theorem dX1_pages_20 : decode cX1_pages 20 = .ok (.getfield 19, 3) := by decide +kernel
theorem dX1_pages_23 : decode cX1_pages 23 = .ok (.iload_n 1, 1) := by decide +kernel
theorem dX1_pages_24 : decode cX1_pages 24 = .ok (.iaload, 1) := by decide +kernel
theorem dX1_pages_25 : decode cX1_pages 25 = .ok (.invokevirtual 55, 3) := by decide +kernel
theorem dX1_pages_28 : decode cX1_pages 28 = .ok (.ireturn, 1) := by decide +kernel
set_option maxRecDepth 20000 in
theorem ggX1_free_X1_needed : GoodIn wsX1_free wsX1_needed := goodIn_r _ [6, 7, 8, 9, 10, 5, 11, 12, 13, 14, 15, 16, 17, 18, 19, 20, 21, 22, 23, 24, 25, 26, 27, 28, 29, 30, 31, 32, 33, 34, 35, 36, 37, 38, 39, 40] (by decide +kernel) (by decide +kernel)
set_option maxRecDepth 20000 in
theorem gX1_free_X1_needed : GoodIn wsX1_free (wsV RX1 71 RX1 yX1_needed wsX1_needed) := goodIn_app (goodIn_of _ (by decide +kernel)) ggX1_free_X1_needed
theorem dX1_free_0 : decode cX1_free 0 = .ok (.aload_n 0, 1) := by decide +kernel
theorem dX1_free_1 : decode cX1_free 1 = .ok (.getfield 29, 3) := by decide +kernel
theorem dX1_free_4 : decode cX1_free 4 = .ok (.aload_n 0, 1) := by decide +kernel
theorem dX1_free_5 : decode cX1_free 5 = .ok (.invokevirtual 71, 3) := by decide +kernel
theorem dX1_free_8 : decode cX1_free 8 = .ok (.isub, 1) := by decide +kernel
theorem dX1_free_9 : decode cX1_free 9 = .ok (.ireturn, 1) := by decide +kernel
set_option maxRecDepth 20000 in
theorem ggX1_key_X1_buckets : GoodIn wsX1_key wsX1_buckets := goodIn_r _ [8, 9, 10, 11, 12, 7, 13, 14, 15, 16, 17, 18, 19, 20, 21, 22, 23, 24, 25, 26] (by decide +kernel) (by decide +kernel)
set_option maxRecDepth 20000 in
theorem gX1_key_X1_buckets : GoodIn wsX1_key (wsV RX1 52 RX1 yX1_buckets wsX1_buckets) := goodIn_app (goodIn_of _ (by decide +kernel)) ggX1_key_X1_buckets
theorem dX1_key_0 : decode cX1_key 0 = .ok (.iload_n 1, 1) := by decide +kernel
theorem dX1_key_1 : decode cX1_key 1 = .ok (.ifCond .lt 15, 3) := by decide +kernel
theorem dX1_key_4 : decode cX1_key 4 = .ok (.iload_n 1, 1) := by decide +kernel
theorem dX1_key_5 : decode cX1_key 5 = .ok (.aload_n 0, 1) := by decide +kernel
theorem dX1_key_6 : decode cX1_key 6 = .ok (.invokevirtual 52, 3) := by decide +kernel
theorem dX1_key_9 : decode cX1_key 9 = .ok (.if_icmp .ge 7, 3) := by decide +kernel
theorem dX1_key_12 : decode cX1_key 12 = .ok (.iload_n 2, 1) := by decide +kernel
theorem dX1_key_13 : decode cX1_key 13 = .ok (.ifCond .ge 5, 3) := by decide +kernel
theorem dX1_key_16 : decode cX1_key 16 = .ok (.iconst (-1), 1) := by decide +kernel
theorem dX1_key_17 : decode cX1_key 17 = .ok (.ireturn, 1) := by decide +kernel
theorem dX1_key_18 : decode cX1_key 18 = .ok (.iload_n 2, 1) := by decide +kernel
theorem dX1_key_19 : decode cX1_key 19 = .ok (.istore_n 3, 1) := by decide +kernel
theorem dX1_key_20 : decode cX1_key 20 = .ok (.iconst 0, 1) := by decide +kernel
theorem dX1_key_21 : decode cX1_key 21 = .ok (.istore 4, 2) := by decide +kernel
theorem dX1_key_23 : decode cX1_key 23 = .ok (.iload 4, 2) := by decide +kernel
theorem dX1_key_25 : decode cX1_key 25 = .ok (.aload_n 0, 1) := by decide +kernel
theorem dX1_key_26 : decode cX1_key 26 = .ok (.getfield 46, 3) := by decide +kernel
theorem dX1_key_29 : decode cX1_key 29 = .ok (.if_icmp .ge 35, 3) := by decide +kernel
theorem dX1_key_32 : decode cX1_key 32 = .ok (.aload_n 0, 1) := by decide +kernel
theorem dX1_key_33 : decode cX1_key 33 = .ok (.getfield 16, 3) := by decide +kernel
theorem dX1_key_36 : decode cX1_key 36 = .ok (.iload 4, 2) := by decide +kernel
theorem dX1_key_38 : decode cX1_key 38 = .ok (.iaload, 1) := by decide +kernel
theorem dX1_key_39 : decode cX1_key 39 = .ok (.iload_n 1, 1) := by decide +kernel
theorem dX1_key_40 : decode cX1_key 40 = .ok (.if_icmp .ne 18, 3) := by decide +kernel
theorem dX1_key_43 : decode cX1_key 43 = .ok (.iload_n 3, 1) := by decide +kernel
theorem dX1_key_44 : decode cX1_key 44 = .ok (.ifCond .ne 11, 3) := by decide +kernel
theorem dX1_key_47 : decode cX1_key 47 = .ok (.aload_n 0, 1) := by decide +kernel
theorem dX1_key_48 : decode cX1_key 48 = .ok (.getfield 7, 3) := by decide +kernel
theorem dX1_key_51 : decode cX1_key 51 = .ok (.iload 4, 2) := by decide +kernel
theorem dX1_key_53 : decode cX1_key 53 = .ok (.iaload, 1) := by decide +kernel
theorem dX1_key_54 : decode cX1_key 54 = .ok (.ireturn, 1) := by decide +kernel
theorem dX1_key_55 : decode cX1_key 55 = .ok (.iinc 3 (-1), 3) := by decide +kernel
theorem dX1_key_58 : decode cX1_key 58 = .ok (.iinc 4 1, 3) := by decide +kernel
theorem dX1_key_61 : decode cX1_key 61 = .ok (.goto (-38), 3) := by decide +kernel
theorem dX1_key_64 : decode cX1_key 64 = .ok (.iconst (-1), 1) := by decide +kernel
theorem dX1_key_65 : decode cX1_key 65 = .ok (.ireturn, 1) := by decide +kernel
theorem dX1_clear_0 : decode cX1_clear 0 = .ok (.aload_n 0, 1) := by decide +kernel
theorem dX1_clear_1 : decode cX1_clear 1 = .ok (.iconst 0, 1) := by decide +kernel
theorem dX1_clear_2 : decode cX1_clear 2 = .ok (.putfield 46, 3) := by decide +kernel
theorem dX1_clear_5 : decode cX1_clear 5 = .ok (.aload_n 0, 1) := by decide +kernel
theorem dX1_clear_6 : decode cX1_clear 6 = .ok (.iconst 0, 1) := by decide +kernel
theorem dX1_clear_7 : decode cX1_clear 7 = .ok (.putfield 35, 3) := by decide +kernel
theorem dX1_clear_10 : decode cX1_clear 10 = .ok (.aload_n 0, 1) := by decide +kernel
theorem dX1_clear_11 : decode cX1_clear 11 = .ok (.iconst 0, 1) := by decide +kernel
theorem dX1_clear_12 : decode cX1_clear 12 = .ok (.putfield 42, 3) := by decide +kernel
theorem dX1_clear_15 : decode cX1_clear 15 = .ok (.return_, 1) := by decide +kernel
theorem dJ9_max_7cf53_0 : decode cJ9_max_7cf53 0 = .ok (.iload_n 0, 1) := by decide +kernel
theorem dJ9_max_7cf53_1 : decode cJ9_max_7cf53 1 = .ok (.iload_n 1, 1) := by decide +kernel
theorem dJ9_max_7cf53_2 : decode cJ9_max_7cf53 2 = .ok (.if_icmp .lt 7, 3) := by decide +kernel
theorem dJ9_max_7cf53_5 : decode cJ9_max_7cf53 5 = .ok (.iload_n 0, 1) := by decide +kernel
theorem dJ9_max_7cf53_6 : decode cJ9_max_7cf53 6 = .ok (.goto 4, 3) := by decide +kernel
theorem dJ9_max_7cf53_9 : decode cJ9_max_7cf53 9 = .ok (.iload_n 1, 1) := by decide +kernel
theorem dJ9_max_7cf53_10 : decode cJ9_max_7cf53 10 = .ok (.ireturn, 1) := by decide +kernel
theorem dJ9_min_7cf53_0 : decode cJ9_min_7cf53 0 = .ok (.iload_n 0, 1) := by decide +kernel
theorem dJ9_min_7cf53_1 : decode cJ9_min_7cf53 1 = .ok (.iload_n 1, 1) := by decide +kernel
theorem dJ9_min_7cf53_2 : decode cJ9_min_7cf53 2 = .ok (.if_icmp .gt 7, 3) := by decide +kernel
theorem dJ9_min_7cf53_5 : decode cJ9_min_7cf53 5 = .ok (.iload_n 0, 1) := by decide +kernel
theorem dJ9_min_7cf53_6 : decode cJ9_min_7cf53 6 = .ok (.goto 4, 3) := by decide +kernel
theorem dJ9_min_7cf53_9 : decode cJ9_min_7cf53 9 = .ok (.iload_n 1, 1) := by decide +kernel
theorem dJ9_min_7cf53_10 : decode cJ9_min_7cf53 10 = .ok (.ireturn, 1) := by decide +kernel
theorem dL_cell_0 : decode cL_cell 0 = .ok (.iload_n 1, 1) := by decide +kernel
theorem dL_cell_1 : decode cL_cell 1 = .ok (.aload_n 0, 1) := by decide +kernel
theorem dL_cell_2 : decode cL_cell 2 = .ok (.arraylength, 1) := by decide +kernel
theorem dL_cell_3 : decode cL_cell 3 = .ok (.if_icmp .ge 9, 3) := by decide +kernel
theorem dL_cell_6 : decode cL_cell 6 = .ok (.aload_n 0, 1) := by decide +kernel
theorem dL_cell_7 : decode cL_cell 7 = .ok (.iload_n 1, 1) := by decide +kernel
theorem dL_cell_8 : decode cL_cell 8 = .ok (.iaload, 1) := by decide +kernel
theorem dL_cell_9 : decode cL_cell 9 = .ok (.goto 4, 3) := by decide +kernel
theorem dL_cell_12 : decode cL_cell 12 = .ok (.iconst 0, 1) := by decide +kernel
theorem dL_cell_13 : decode cL_cell 13 = .ok (.ireturn, 1) := by decide +kernel
set_option maxRecDepth 20000 in
theorem ggL_law_L_cell : GoodIn wsL_law wsL_cell := goodIn_r _ [9] (by decide +kernel) (by decide +kernel)
set_option maxRecDepth 20000 in
theorem gL_law_L_cell : GoodIn wsL_law (va_wsS RL 9 yL_cell wsL_cell) := goodIn_app (goodIn_of _ (by decide +kernel)) ggL_law_L_cell
set_option maxRecDepth 20000 in
theorem ggL_law_X0_init : GoodIn wsL_law wsX0_init := goodIn_r _ [12, 13, 14, 15, 16, 17, 18, 19, 20, 21, 22, 23, 24, 25, 26, 27, 28, 29, 2, 30, 31, 32, 33, 258, 259, 260, 261, 262, 263, 264, 265, 266, 267] (by decide +kernel) (by decide +kernel)
set_option maxRecDepth 20000 in
theorem gL_law_X0_init : GoodIn wsL_law (wsX0_init) := ggL_law_X0_init
set_option maxRecDepth 20000 in
theorem ggL_law_X1_init : GoodIn wsL_law wsX1_init := goodIn_r _ [36, 37, 14, 15, 24, 38, 39, 40, 41, 42, 43, 44, 45, 268, 269, 270, 271, 272, 273, 274, 275, 276, 277, 278] (by decide +kernel) (by decide +kernel)
set_option maxRecDepth 20000 in
theorem gL_law_X1_init : GoodIn wsL_law (wsX1_init) := ggL_law_X1_init
set_option maxRecDepth 20000 in
theorem ggL_law_X0_put : GoodIn wsL_law wsX0_put := goodIn_r _ [49, 26, 50, 25, 51, 52, 53, 2, 54, 55, 56, 57, 58, 59, 60, 19, 18, 61, 62, 63, 64, 17, 65, 66, 67, 68, 69, 70, 71, 72, 16, 73, 74, 75, 76, 77, 78, 79, 80, 27, 81, 82, 83, 84, 85, 86, 87, 88, 89, 31, 32, 22, 33, 258, 259, 260, 261, 262, 263, 264, 265, 266, 267] (by decide +kernel) (by decide +kernel)
set_option maxRecDepth 20000 in
theorem gL_law_X0_put : GoodIn wsL_law (wsV RL 21 RX0 yX0_put wsX0_put) := goodIn_app (goodIn_of _ (by decide +kernel)) ggL_law_X0_put
set_option maxRecDepth 20000 in
theorem ggL_law_X1_put : GoodIn wsL_law wsX1_put := goodIn_r _ [93, 39, 38, 94, 43, 45, 44, 95, 96, 97, 5, 98, 99, 100, 101, 102, 103, 104, 105, 106, 107, 42, 108, 109, 110, 111, 112, 113, 114, 115, 116, 40, 117, 118, 119, 120, 121, 122, 123, 124, 125, 41, 126, 127, 128, 129, 130, 131, 132, 133, 134, 135, 136, 137, 268, 269, 270, 271, 272, 273, 274, 275, 276, 277, 278] (by decide +kernel) (by decide +kernel)
set_option maxRecDepth 20000 in
theorem gL_law_X1_put : GoodIn wsL_law (wsV RL 25 RX1 yX1_put wsX1_put) := goodIn_app (goodIn_of _ (by decide +kernel)) ggL_law_X1_put
set_option maxRecDepth 20000 in
theorem ggL_law_X0_get : GoodIn wsL_law wsX0_get := goodIn_r _ [141, 26, 51, 52, 53, 2, 54, 50, 25, 258, 259, 260, 261, 262, 263, 264, 265, 266, 267] (by decide +kernel) (by decide +kernel)
set_option maxRecDepth 20000 in
theorem gL_law_X0_get : GoodIn wsL_law (wsV RL 26 RX0 yX0_get wsX0_get) := goodIn_app (goodIn_of _ (by decide +kernel)) ggL_law_X0_get
set_option maxRecDepth 20000 in
theorem ggL_law_X1_get : GoodIn wsL_law wsX1_get := goodIn_r _ [145, 39, 95, 96, 97, 5, 98, 94, 38, 268, 269, 270, 271, 272, 273, 274, 275, 276, 277, 278] (by decide +kernel) (by decide +kernel)
set_option maxRecDepth 20000 in
theorem gL_law_X1_get : GoodIn wsL_law (wsV RL 30 RX1 yX1_get wsX1_get) := goodIn_app (goodIn_of _ (by decide +kernel)) ggL_law_X1_get
set_option maxRecDepth 20000 in
theorem ggL_law_X0_has : GoodIn wsL_law wsX0_has := goodIn_r _ [149, 51, 52, 53, 2, 54, 50, 25, 258, 259, 260, 261, 262, 263, 264, 265, 266, 267] (by decide +kernel) (by decide +kernel)
set_option maxRecDepth 20000 in
theorem gL_law_X0_has : GoodIn wsL_law (wsV RL 31 RX0 yX0_has wsX0_has) := goodIn_app (goodIn_of _ (by decide +kernel)) ggL_law_X0_has
set_option maxRecDepth 20000 in
theorem ggL_law_X1_has : GoodIn wsL_law wsX1_has := goodIn_r _ [153, 95, 96, 97, 5, 98, 94, 38, 268, 269, 270, 271, 272, 273, 274, 275, 276, 277, 278] (by decide +kernel) (by decide +kernel)
set_option maxRecDepth 20000 in
theorem gL_law_X1_has : GoodIn wsL_law (wsV RL 35 RX1 yX1_has wsX1_has) := goodIn_app (goodIn_of _ (by decide +kernel)) ggL_law_X1_has
set_option maxRecDepth 20000 in
theorem ggL_law_X0_remove : GoodIn wsL_law wsX0_remove := goodIn_r _ [157, 16, 51, 52, 53, 2, 54, 50, 25, 158, 159, 160, 161, 26, 81, 82, 83, 84, 85, 60, 69, 70, 71, 72, 59, 162, 163, 164, 165, 166, 167, 168, 169, 170, 171, 172, 173, 17, 65, 66, 67, 68, 174, 175, 176, 177, 178, 179, 180, 181, 258, 259, 260, 261, 262, 263, 264, 265, 266, 267] (by decide +kernel) (by decide +kernel)
set_option maxRecDepth 20000 in
theorem gL_law_X0_remove : GoodIn wsL_law (wsV RL 36 RX0 yX0_remove wsX0_remove) := goodIn_app (goodIn_of _ (by decide +kernel)) ggL_law_X0_remove
set_option maxRecDepth 20000 in
theorem ggL_law_X1_remove : GoodIn wsL_law wsX1_remove := goodIn_r _ [185, 94, 40, 38, 39, 43, 42, 95, 96, 97, 5, 98, 186, 187, 188, 189, 99, 100, 101, 102, 103, 104, 105, 106, 107, 108, 190, 191, 192, 193, 134, 135, 136, 137, 113, 114, 115, 116, 117, 118, 119, 120, 121, 268, 269, 270, 271, 272, 273, 274, 275, 276, 277, 278] (by decide +kernel) (by decide +kernel)
set_option maxRecDepth 20000 in
theorem gL_law_X1_remove : GoodIn wsL_law (wsV RL 39 RX1 yX1_remove wsX1_remove) := goodIn_app (goodIn_of _ (by decide +kernel)) ggL_law_X1_remove
set_option maxRecDepth 20000 in
theorem ggL_law_X0_size : GoodIn wsL_law wsX0_size := goodIn_r _ [197, 50, 258, 259, 260, 261, 262, 263, 264, 265, 266, 267] (by decide +kernel) (by decide +kernel)
set_option maxRecDepth 20000 in
theorem gL_law_X0_size : GoodIn wsL_law (wsV RL 40 RX0 yX0_size wsX0_size) := goodIn_app (goodIn_of _ (by decide +kernel)) ggL_law_X0_size
set_option maxRecDepth 20000 in
theorem ggL_law_X1_size : GoodIn wsL_law wsX1_size := goodIn_r _ [201, 94, 268, 269, 270, 271, 272, 273, 274, 275, 276, 277, 278] (by decide +kernel) (by decide +kernel)
set_option maxRecDepth 20000 in
theorem gL_law_X1_size : GoodIn wsL_law (wsV RL 44 RX1 yX1_size wsX1_size) := goodIn_app (goodIn_of _ (by decide +kernel)) ggL_law_X1_size
set_option maxRecDepth 20000 in
theorem ggL_law_X0_buckets : GoodIn wsL_law wsX0_buckets := goodIn_r _ [68, 60, 69, 70, 71, 2, 72, 16, 59, 258, 259, 260, 261, 262, 263, 264, 265, 266, 267] (by decide +kernel) (by decide +kernel)
set_option maxRecDepth 20000 in
theorem gL_law_X0_buckets : GoodIn wsL_law (wsV RL 45 RX0 yX0_buckets wsX0_buckets) := goodIn_app (goodIn_of _ (by decide +kernel)) ggL_law_X0_buckets
set_option maxRecDepth 20000 in
theorem ggL_law_X1_buckets : GoodIn wsL_law wsX1_buckets := goodIn_r _ [102, 103, 104, 105, 106, 5, 107, 42, 108, 268, 269, 270, 271, 272, 273, 274, 275, 276, 277, 278] (by decide +kernel) (by decide +kernel)
set_option maxRecDepth 20000 in
theorem gL_law_X1_buckets : GoodIn wsL_law (wsV RL 48 RX1 yX1_buckets wsX1_buckets) := goodIn_app (goodIn_of _ (by decide +kernel)) ggL_law_X1_buckets
set_option maxRecDepth 20000 in
theorem ggL_law_X0_level : GoodIn wsL_law wsX0_level := goodIn_r _ [207, 59, 258, 259, 260, 261, 262, 263, 264, 265, 266, 267] (by decide +kernel) (by decide +kernel)
set_option maxRecDepth 20000 in
theorem gL_law_X0_level : GoodIn wsL_law (wsV RL 49 RX0 yX0_level wsX0_level) := goodIn_app (goodIn_of _ (by decide +kernel)) ggL_law_X0_level
set_option maxRecDepth 20000 in
theorem ggL_law_X1_level : GoodIn wsL_law wsX1_level := goodIn_r _ [211, 108, 268, 269, 270, 271, 272, 273, 274, 275, 276, 277, 278] (by decide +kernel) (by decide +kernel)
set_option maxRecDepth 20000 in
theorem gL_law_X1_level : GoodIn wsL_law (wsV RL 52 RX1 yX1_level wsX1_level) := goodIn_app (goodIn_of _ (by decide +kernel)) ggL_law_X1_level
set_option maxRecDepth 20000 in
theorem ggL_law_X0_pointer : GoodIn wsL_law wsX0_pointer := goodIn_r _ [215, 60, 258, 259, 260, 261, 262, 263, 264, 265, 266, 267] (by decide +kernel) (by decide +kernel)
set_option maxRecDepth 20000 in
theorem gL_law_X0_pointer : GoodIn wsL_law (wsV RL 53 RX0 yX0_pointer wsX0_pointer) := goodIn_app (goodIn_of _ (by decide +kernel)) ggL_law_X0_pointer
set_option maxRecDepth 20000 in
theorem ggL_law_X1_pointer : GoodIn wsL_law wsX1_pointer := goodIn_r _ [219, 103, 268, 269, 270, 271, 272, 273, 274, 275, 276, 277, 278] (by decide +kernel) (by decide +kernel)
set_option maxRecDepth 20000 in
theorem gL_law_X1_pointer : GoodIn wsL_law (wsV RL 56 RX1 yX1_pointer wsX1_pointer) := goodIn_app (goodIn_of _ (by decide +kernel)) ggL_law_X1_pointer
set_option maxRecDepth 20000 in
theorem ggL_law_X0_bucketOf : GoodIn wsL_law wsX0_bucketOf := goodIn_r _ [84, 85, 60, 69, 70, 71, 2, 72, 16, 59, 258, 259, 260, 261, 262, 263, 264, 265, 266, 267] (by decide +kernel) (by decide +kernel)
set_option maxRecDepth 20000 in
theorem gL_law_X0_bucketOf : GoodIn wsL_law (wsV RL 57 RX0 yX0_bucketOf wsX0_bucketOf) := goodIn_app (goodIn_of _ (by decide +kernel)) ggL_law_X0_bucketOf
set_option maxRecDepth 20000 in
theorem ggL_law_X1_bucketOf : GoodIn wsL_law wsX1_bucketOf := goodIn_r _ [120, 121, 103, 104, 105, 106, 5, 107, 42, 108, 268, 269, 270, 271, 272, 273, 274, 275, 276, 277, 278] (by decide +kernel) (by decide +kernel)
set_option maxRecDepth 20000 in
theorem gL_law_X1_bucketOf : GoodIn wsL_law (wsV RL 60 RX1 yX1_bucketOf wsX1_bucketOf) := goodIn_app (goodIn_of _ (by decide +kernel)) ggL_law_X1_bucketOf
set_option maxRecDepth 20000 in
theorem ggL_law_X0_pages : GoodIn wsL_law wsX0_pages := goodIn_r _ [225, 50, 25, 226, 227, 228, 2, 229, 65, 66, 67, 68, 60, 69, 70, 71, 72, 16, 59, 81, 82, 83, 84, 85, 86, 87, 88, 89, 17, 31, 32, 22, 33, 258, 259, 260, 261, 262, 263, 264, 265, 266, 267] (by decide +kernel) (by decide +kernel)
set_option maxRecDepth 20000 in
theorem gL_law_X0_pages : GoodIn wsL_law (wsV RL 61 RX0 yX0_pages wsX0_pages) := goodIn_app (goodIn_of _ (by decide +kernel)) ggL_law_X0_pages
set_option maxRecDepth 20000 in
theorem ggL_law_X1_pages : GoodIn wsL_law wsX1_pages := goodIn_r _ [233, 41, 99, 100, 101, 5, 102, 103, 104, 105, 106, 107, 42, 108, 126, 127, 128, 129, 94, 40, 130, 131, 132, 133, 43, 268, 269, 270, 271, 272, 273, 274, 275, 276, 277, 278] (by decide +kernel) (by decide +kernel)
set_option maxRecDepth 20000 in
theorem gL_law_X1_pages : GoodIn wsL_law (wsV RL 64 RX1 yX1_pages wsX1_pages) := goodIn_app (goodIn_of _ (by decide +kernel)) ggL_law_X1_pages
set_option maxRecDepth 20000 in
theorem ggL_law_X0_free : GoodIn wsL_law wsX0_free := goodIn_r _ [237, 18, 77, 78, 79, 2, 80, 27, 50, 25, 65, 66, 67, 68, 60, 69, 70, 71, 72, 16, 59, 81, 82, 83, 84, 85, 86, 87, 88, 89, 17, 31, 32, 22, 33, 258, 259, 260, 261, 262, 263, 264, 265, 266, 267] (by decide +kernel) (by decide +kernel)
set_option maxRecDepth 20000 in
theorem gL_law_X0_free : GoodIn wsL_law (wsV RL 65 RX0 yX0_free wsX0_free) := goodIn_app (goodIn_of _ (by decide +kernel)) ggL_law_X0_free
set_option maxRecDepth 20000 in
theorem ggL_law_X1_free : GoodIn wsL_law wsX1_free := goodIn_r _ [241, 44, 122, 123, 124, 5, 125, 41, 126, 127, 128, 129, 94, 40, 99, 100, 101, 102, 103, 104, 105, 106, 107, 42, 108, 130, 131, 132, 133, 43, 268, 269, 270, 271, 272, 273, 274, 275, 276, 277, 278] (by decide +kernel) (by decide +kernel)
set_option maxRecDepth 20000 in
theorem gL_law_X1_free : GoodIn wsL_law (wsV RL 68 RX1 yX1_free wsX1_free) := goodIn_app (goodIn_of _ (by decide +kernel)) ggL_law_X1_free
set_option maxRecDepth 20000 in
theorem ggL_law_X0_key : GoodIn wsL_law wsX0_key := goodIn_r _ [245, 50, 25, 226, 227, 228, 2, 229, 65, 66, 67, 68, 60, 69, 70, 71, 72, 16, 59, 81, 82, 83, 84, 85, 258, 259, 260, 261, 262, 263, 264, 265, 266, 267] (by decide +kernel) (by decide +kernel)
set_option maxRecDepth 20000 in
theorem gL_law_X0_key : GoodIn wsL_law (wsV RL 69 RX0 yX0_key wsX0_key) := goodIn_app (goodIn_of _ (by decide +kernel)) ggL_law_X0_key
set_option maxRecDepth 20000 in
theorem ggL_law_X1_key : GoodIn wsL_law wsX1_key := goodIn_r _ [249, 94, 40, 38, 99, 100, 101, 5, 102, 103, 104, 105, 106, 107, 42, 108, 268, 269, 270, 271, 272, 273, 274, 275, 276, 277, 278] (by decide +kernel) (by decide +kernel)
set_option maxRecDepth 20000 in
theorem gL_law_X1_key : GoodIn wsL_law (wsV RL 72 RX1 yX1_key wsX1_key) := goodIn_app (goodIn_of _ (by decide +kernel)) ggL_law_X1_key
set_option maxRecDepth 20000 in
theorem ggL_law_X0_clear : GoodIn wsL_law wsX0_clear := goodIn_r _ [253, 50, 59, 60, 258, 259, 260, 261, 262, 263, 264, 265, 266, 267] (by decide +kernel) (by decide +kernel)
set_option maxRecDepth 20000 in
theorem gL_law_X0_clear : GoodIn wsL_law (wsV RL 73 RX0 yX0_clear wsX0_clear) := goodIn_app (goodIn_of _ (by decide +kernel)) ggL_law_X0_clear
set_option maxRecDepth 20000 in
theorem ggL_law_X1_clear : GoodIn wsL_law wsX1_clear := goodIn_r _ [257, 94, 108, 103, 268, 269, 270, 271, 272, 273, 274, 275, 276, 277, 278] (by decide +kernel) (by decide +kernel)
set_option maxRecDepth 20000 in
theorem gL_law_X1_clear : GoodIn wsL_law (wsV RL 76 RX1 yX1_clear wsX1_clear) := goodIn_app (goodIn_of _ (by decide +kernel)) ggL_law_X1_clear
theorem dL_law_0 : decode cL_law 0 = .ok (.new 7, 3) := by decide +kernel
theorem dL_law_3 : decode cL_law 3 = .ok (.dup, 1) := by decide +kernel
theorem dL_law_4 : decode cL_law 4 = .ok (.aload_n 0, 1) := by decide +kernel
theorem dL_law_5 : decode cL_law 5 = .ok (.iconst 0, 1) := by decide +kernel
theorem dL_law_6 : decode cL_law 6 = .ok (.invokestatic 9, 3) := by decide +kernel
theorem dL_law_9 : decode cL_law 9 = .ok (.aload_n 0, 1) := by decide +kernel
theorem dL_law_10 : decode cL_law 10 = .ok (.iconst 1, 1) := by decide +kernel
theorem dL_law_11 : decode cL_law 11 = .ok (.invokestatic 9, 3) := by decide +kernel
theorem dL_law_14 : decode cL_law 14 = .ok (.aload_n 0, 1) := by decide +kernel
theorem dL_law_15 : decode cL_law 15 = .ok (.iconst 2, 1) := by decide +kernel
theorem dL_law_16 : decode cL_law 16 = .ok (.invokestatic 9, 3) := by decide +kernel
theorem dL_law_19 : decode cL_law 19 = .ok (.aload_n 0, 1) := by decide +kernel
theorem dL_law_20 : decode cL_law 20 = .ok (.iconst 3, 1) := by decide +kernel
theorem dL_law_21 : decode cL_law 21 = .ok (.invokestatic 9, 3) := by decide +kernel
theorem dL_law_24 : decode cL_law 24 = .ok (.invokespecial 15, 3) := by decide +kernel
theorem dL_law_27 : decode cL_law 27 = .ok (.astore_n 1, 1) := by decide +kernel
theorem dL_law_28 : decode cL_law 28 = .ok (.new 18, 3) := by decide +kernel
theorem dL_law_31 : decode cL_law 31 = .ok (.dup, 1) := by decide +kernel
theorem dL_law_32 : decode cL_law 32 = .ok (.aload_n 0, 1) := by decide +kernel
theorem dL_law_33 : decode cL_law 33 = .ok (.iconst 0, 1) := by decide +kernel
theorem dL_law_34 : decode cL_law 34 = .ok (.invokestatic 9, 3) := by decide +kernel
theorem dL_law_37 : decode cL_law 37 = .ok (.aload_n 0, 1) := by decide +kernel
theorem dL_law_38 : decode cL_law 38 = .ok (.iconst 1, 1) := by decide +kernel
theorem dL_law_39 : decode cL_law 39 = .ok (.invokestatic 9, 3) := by decide +kernel
theorem dL_law_42 : decode cL_law 42 = .ok (.aload_n 0, 1) := by decide +kernel
theorem dL_law_43 : decode cL_law 43 = .ok (.iconst 2, 1) := by decide +kernel
theorem dL_law_44 : decode cL_law 44 = .ok (.invokestatic 9, 3) := by decide +kernel
theorem dL_law_47 : decode cL_law 47 = .ok (.aload_n 0, 1) := by decide +kernel
theorem dL_law_48 : decode cL_law 48 = .ok (.iconst 3, 1) := by decide +kernel
theorem dL_law_49 : decode cL_law 49 = .ok (.invokestatic 9, 3) := by decide +kernel
theorem dL_law_52 : decode cL_law 52 = .ok (.invokespecial 20, 3) := by decide +kernel
theorem dL_law_55 : decode cL_law 55 = .ok (.astore_n 2, 1) := by decide +kernel
theorem dL_law_56 : decode cL_law 56 = .ok (.iconst 4, 1) := by decide +kernel
theorem dL_law_57 : decode cL_law 57 = .ok (.istore_n 3, 1) := by decide +kernel
theorem dL_law_58 : decode cL_law 58 = .ok (.iload_n 3, 1) := by decide +kernel
theorem dL_law_59 : decode cL_law 59 = .ok (.aload_n 0, 1) := by decide +kernel
theorem dL_law_60 : decode cL_law 60 = .ok (.arraylength, 1) := by decide +kernel
theorem dL_law_61 : decode cL_law 61 = .ok (.iconst 3, 1) := by decide +kernel
theorem dL_law_62 : decode cL_law 62 = .ok (.isub, 1) := by decide +kernel
theorem dL_law_63 : decode cL_law 63 = .ok (.if_icmp .gt 340, 3) := by decide +kernel
theorem dL_law_66 : decode cL_law 66 = .ok (.aload_n 0, 1) := by decide +kernel
theorem dL_law_67 : decode cL_law 67 = .ok (.iload_n 3, 1) := by decide +kernel
theorem dL_law_68 : decode cL_law 68 = .ok (.iaload, 1) := by decide +kernel
theorem dL_law_69 : decode cL_law 69 = .ok (.bipush 15, 2) := by decide +kernel
theorem dL_law_71 : decode cL_law 71 = .ok (.iand, 1) := by decide +kernel
theorem dL_law_72 : decode cL_law 72 = .ok (.tableswitch 325 0 12 #[68, 101, 124, 147, 170, 183, 196, 209, 222, 245, 268, 281, 314], 68) := by decide +kernel
theorem dL_law_140 : decode cL_law 140 = .ok (.aload_n 1, 1) := by decide +kernel
theorem dL_law_141 : decode cL_law 141 = .ok (.aload_n 0, 1) := by decide +kernel
theorem dL_law_142 : decode cL_law 142 = .ok (.iload_n 3, 1) := by decide +kernel
theorem dL_law_143 : decode cL_law 143 = .ok (.iconst 1, 1) := by decide +kernel
theorem dL_law_144 : decode cL_law 144 = .ok (.iadd, 1) := by decide +kernel
theorem dL_law_145 : decode cL_law 145 = .ok (.iaload, 1) := by decide +kernel
theorem dL_law_146 : decode cL_law 146 = .ok (.aload_n 0, 1) := by decide +kernel
theorem dL_law_147 : decode cL_law 147 = .ok (.iload_n 3, 1) := by decide +kernel
theorem dL_law_148 : decode cL_law 148 = .ok (.iconst 2, 1) := by decide +kernel
theorem dL_law_149 : decode cL_law 149 = .ok (.iadd, 1) := by decide +kernel
theorem dL_law_150 : decode cL_law 150 = .ok (.iaload, 1) := by decide +kernel
theorem dL_law_151 : decode cL_law 151 = .ok (.invokevirtual 21, 3) := by decide +kernel
theorem dL_law_154 : decode cL_law 154 = .ok (.aload_n 2, 1) := by decide +kernel
theorem dL_law_155 : decode cL_law 155 = .ok (.aload_n 0, 1) := by decide +kernel
theorem dL_law_156 : decode cL_law 156 = .ok (.iload_n 3, 1) := by decide +kernel
theorem dL_law_157 : decode cL_law 157 = .ok (.iconst 1, 1) := by decide +kernel
theorem dL_law_158 : decode cL_law 158 = .ok (.iadd, 1) := by decide +kernel
theorem dL_law_159 : decode cL_law 159 = .ok (.iaload, 1) := by decide +kernel
theorem dL_law_160 : decode cL_law 160 = .ok (.aload_n 0, 1) := by decide +kernel
theorem dL_law_161 : decode cL_law 161 = .ok (.iload_n 3, 1) := by decide +kernel
theorem dL_law_162 : decode cL_law 162 = .ok (.iconst 2, 1) := by decide +kernel
theorem dL_law_163 : decode cL_law 163 = .ok (.iadd, 1) := by decide +kernel
theorem dL_law_164 : decode cL_law 164 = .ok (.iaload, 1) := by decide +kernel
theorem dL_law_165 : decode cL_law 165 = .ok (.invokevirtual 25, 3) := by decide +kernel
theorem dL_law_168 : decode cL_law 168 = .ok (.if_icmp .eq 229, 3) := by decide +kernel
theorem dL_law_171 : decode cL_law 171 = .ok (.iconst 0, 1) := by decide +kernel
theorem dL_law_172 : decode cL_law 172 = .ok (.ireturn, 1) := by decide +kernel
theorem dL_law_173 : decode cL_law 173 = .ok (.aload_n 1, 1) := by decide +kernel
theorem dL_law_174 : decode cL_law 174 = .ok (.aload_n 0, 1) := by decide +kernel
theorem dL_law_175 : decode cL_law 175 = .ok (.iload_n 3, 1) := by decide +kernel
theorem dL_law_176 : decode cL_law 176 = .ok (.iconst 1, 1) := by decide +kernel
theorem dL_law_177 : decode cL_law 177 = .ok (.iadd, 1) := by decide +kernel
theorem dL_law_178 : decode cL_law 178 = .ok (.iaload, 1) := by decide +kernel
theorem dL_law_179 : decode cL_law 179 = .ok (.invokevirtual 26, 3) := by decide +kernel
theorem dL_law_182 : decode cL_law 182 = .ok (.aload_n 2, 1) := by decide +kernel
theorem dL_law_183 : decode cL_law 183 = .ok (.aload_n 0, 1) := by decide +kernel
theorem dL_law_184 : decode cL_law 184 = .ok (.iload_n 3, 1) := by decide +kernel
theorem dL_law_185 : decode cL_law 185 = .ok (.iconst 1, 1) := by decide +kernel
theorem dL_law_186 : decode cL_law 186 = .ok (.iadd, 1) := by decide +kernel
theorem dL_law_187 : decode cL_law 187 = .ok (.iaload, 1) := by decide +kernel
theorem dL_law_188 : decode cL_law 188 = .ok (.invokevirtual 30, 3) := by decide +kernel
theorem dL_law_191 : decode cL_law 191 = .ok (.if_icmp .eq 206, 3) := by decide +kernel
theorem dL_law_194 : decode cL_law 194 = .ok (.iconst 0, 1) := by decide +kernel
theorem dL_law_195 : decode cL_law 195 = .ok (.ireturn, 1) := by decide +kernel
theorem dL_law_196 : decode cL_law 196 = .ok (.aload_n 1, 1) := by decide +kernel
theorem dL_law_197 : decode cL_law 197 = .ok (.aload_n 0, 1) := by decide +kernel
theorem dL_law_198 : decode cL_law 198 = .ok (.iload_n 3, 1) := by decide +kernel
theorem dL_law_199 : decode cL_law 199 = .ok (.iconst 1, 1) := by decide +kernel
theorem dL_law_200 : decode cL_law 200 = .ok (.iadd, 1) := by decide +kernel
theorem dL_law_201 : decode cL_law 201 = .ok (.iaload, 1) := by decide +kernel
theorem dL_law_202 : decode cL_law 202 = .ok (.invokevirtual 31, 3) := by decide +kernel
theorem dL_law_205 : decode cL_law 205 = .ok (.aload_n 2, 1) := by decide +kernel
theorem dL_law_206 : decode cL_law 206 = .ok (.aload_n 0, 1) := by decide +kernel
theorem dL_law_207 : decode cL_law 207 = .ok (.iload_n 3, 1) := by decide +kernel
theorem dL_law_208 : decode cL_law 208 = .ok (.iconst 1, 1) := by decide +kernel
theorem dL_law_209 : decode cL_law 209 = .ok (.iadd, 1) := by decide +kernel
theorem dL_law_210 : decode cL_law 210 = .ok (.iaload, 1) := by decide +kernel
theorem dL_law_211 : decode cL_law 211 = .ok (.invokevirtual 35, 3) := by decide +kernel
theorem dL_law_214 : decode cL_law 214 = .ok (.if_icmp .eq 183, 3) := by decide +kernel
theorem dL_law_217 : decode cL_law 217 = .ok (.iconst 0, 1) := by decide +kernel
theorem dL_law_218 : decode cL_law 218 = .ok (.ireturn, 1) := by decide +kernel
theorem dL_law_219 : decode cL_law 219 = .ok (.aload_n 1, 1) := by decide +kernel
theorem dL_law_220 : decode cL_law 220 = .ok (.aload_n 0, 1) := by decide +kernel
theorem dL_law_221 : decode cL_law 221 = .ok (.iload_n 3, 1) := by decide +kernel
theorem dL_law_222 : decode cL_law 222 = .ok (.iconst 1, 1) := by decide +kernel
theorem dL_law_223 : decode cL_law 223 = .ok (.iadd, 1) := by decide +kernel
theorem dL_law_224 : decode cL_law 224 = .ok (.iaload, 1) := by decide +kernel
theorem dL_law_225 : decode cL_law 225 = .ok (.invokevirtual 36, 3) := by decide +kernel
theorem dL_law_228 : decode cL_law 228 = .ok (.aload_n 2, 1) := by decide +kernel
theorem dL_law_229 : decode cL_law 229 = .ok (.aload_n 0, 1) := by decide +kernel
theorem dL_law_230 : decode cL_law 230 = .ok (.iload_n 3, 1) := by decide +kernel
theorem dL_law_231 : decode cL_law 231 = .ok (.iconst 1, 1) := by decide +kernel
theorem dL_law_232 : decode cL_law 232 = .ok (.iadd, 1) := by decide +kernel
theorem dL_law_233 : decode cL_law 233 = .ok (.iaload, 1) := by decide +kernel
theorem dL_law_234 : decode cL_law 234 = .ok (.invokevirtual 39, 3) := by decide +kernel
theorem dL_law_237 : decode cL_law 237 = .ok (.if_icmp .eq 160, 3) := by decide +kernel
theorem dL_law_240 : decode cL_law 240 = .ok (.iconst 0, 1) := by decide +kernel
theorem dL_law_241 : decode cL_law 241 = .ok (.ireturn, 1) := by decide +kernel
theorem dL_law_242 : decode cL_law 242 = .ok (.aload_n 1, 1) := by decide +kernel
theorem dL_law_243 : decode cL_law 243 = .ok (.invokevirtual 40, 3) := by decide +kernel
theorem dL_law_246 : decode cL_law 246 = .ok (.aload_n 2, 1) := by decide +kernel
theorem dL_law_247 : decode cL_law 247 = .ok (.invokevirtual 44, 3) := by decide +kernel
theorem dL_law_250 : decode cL_law 250 = .ok (.if_icmp .eq 147, 3) := by decide +kernel
theorem dL_law_253 : decode cL_law 253 = .ok (.iconst 0, 1) := by decide +kernel
theorem dL_law_254 : decode cL_law 254 = .ok (.ireturn, 1) := by decide +kernel
theorem dL_law_255 : decode cL_law 255 = .ok (.aload_n 1, 1) := by decide +kernel
theorem dL_law_256 : decode cL_law 256 = .ok (.invokevirtual 45, 3) := by decide +kernel
theorem dL_law_259 : decode cL_law 259 = .ok (.aload_n 2, 1) := by decide +kernel
theorem dL_law_260 : decode cL_law 260 = .ok (.invokevirtual 48, 3) := by decide +kernel
theorem dL_law_263 : decode cL_law 263 = .ok (.if_icmp .eq 134, 3) := by decide +kernel
theorem dL_law_266 : decode cL_law 266 = .ok (.iconst 0, 1) := by decide +kernel
theorem dL_law_267 : decode cL_law 267 = .ok (.ireturn, 1) := by decide +kernel
theorem dL_law_268 : decode cL_law 268 = .ok (.aload_n 1, 1) := by decide +kernel
theorem dL_law_269 : decode cL_law 269 = .ok (.invokevirtual 49, 3) := by decide +kernel
theorem dL_law_272 : decode cL_law 272 = .ok (.aload_n 2, 1) := by decide +kernel
theorem dL_law_273 : decode cL_law 273 = .ok (.invokevirtual 52, 3) := by decide +kernel
theorem dL_law_276 : decode cL_law 276 = .ok (.if_icmp .eq 121, 3) := by decide +kernel
theorem dL_law_279 : decode cL_law 279 = .ok (.iconst 0, 1) := by decide +kernel
theorem dL_law_280 : decode cL_law 280 = .ok (.ireturn, 1) := by decide +kernel
theorem dL_law_281 : decode cL_law 281 = .ok (.aload_n 1, 1) := by decide +kernel
theorem dL_law_282 : decode cL_law 282 = .ok (.invokevirtual 53, 3) := by decide +kernel
theorem dL_law_285 : decode cL_law 285 = .ok (.aload_n 2, 1) := by decide +kernel
theorem dL_law_286 : decode cL_law 286 = .ok (.invokevirtual 56, 3) := by decide +kernel
theorem dL_law_289 : decode cL_law 289 = .ok (.if_icmp .eq 108, 3) := by decide +kernel
theorem dL_law_292 : decode cL_law 292 = .ok (.iconst 0, 1) := by decide +kernel
theorem dL_law_293 : decode cL_law 293 = .ok (.ireturn, 1) := by decide +kernel
theorem dL_law_294 : decode cL_law 294 = .ok (.aload_n 1, 1) := by decide +kernel
theorem dL_law_295 : decode cL_law 295 = .ok (.aload_n 0, 1) := by decide +kernel
theorem dL_law_296 : decode cL_law 296 = .ok (.iload_n 3, 1) := by decide +kernel
theorem dL_law_297 : decode cL_law 297 = .ok (.iconst 1, 1) := by decide +kernel
theorem dL_law_298 : decode cL_law 298 = .ok (.iadd, 1) := by decide +kernel
theorem dL_law_299 : decode cL_law 299 = .ok (.iaload, 1) := by decide +kernel
theorem dL_law_300 : decode cL_law 300 = .ok (.invokevirtual 57, 3) := by decide +kernel
theorem dL_law_303 : decode cL_law 303 = .ok (.aload_n 2, 1) := by decide +kernel
theorem dL_law_304 : decode cL_law 304 = .ok (.aload_n 0, 1) := by decide +kernel
theorem dL_law_305 : decode cL_law 305 = .ok (.iload_n 3, 1) := by decide +kernel
theorem dL_law_306 : decode cL_law 306 = .ok (.iconst 1, 1) := by decide +kernel
theorem dL_law_307 : decode cL_law 307 = .ok (.iadd, 1) := by decide +kernel
theorem dL_law_308 : decode cL_law 308 = .ok (.iaload, 1) := by decide +kernel
theorem dL_law_309 : decode cL_law 309 = .ok (.invokevirtual 60, 3) := by decide +kernel
theorem dL_law_312 : decode cL_law 312 = .ok (.if_icmp .eq 85, 3) := by decide +kernel
theorem dL_law_315 : decode cL_law 315 = .ok (.iconst 0, 1) := by decide +kernel
theorem dL_law_316 : decode cL_law 316 = .ok (.ireturn, 1) := by decide +kernel
theorem dL_law_317 : decode cL_law 317 = .ok (.aload_n 1, 1) := by decide +kernel
theorem dL_law_318 : decode cL_law 318 = .ok (.aload_n 0, 1) := by decide +kernel
theorem dL_law_319 : decode cL_law 319 = .ok (.iload_n 3, 1) := by decide +kernel
theorem dL_law_320 : decode cL_law 320 = .ok (.iconst 1, 1) := by decide +kernel
theorem dL_law_321 : decode cL_law 321 = .ok (.iadd, 1) := by decide +kernel
theorem dL_law_322 : decode cL_law 322 = .ok (.iaload, 1) := by decide +kernel
theorem dL_law_323 : decode cL_law 323 = .ok (.invokevirtual 61, 3) := by decide +kernel
theorem dL_law_326 : decode cL_law 326 = .ok (.aload_n 2, 1) := by decide +kernel
theorem dL_law_327 : decode cL_law 327 = .ok (.aload_n 0, 1) := by decide +kernel
theorem dL_law_328 : decode cL_law 328 = .ok (.iload_n 3, 1) := by decide +kernel
theorem dL_law_329 : decode cL_law 329 = .ok (.iconst 1, 1) := by decide +kernel
theorem dL_law_330 : decode cL_law 330 = .ok (.iadd, 1) := by decide +kernel
theorem dL_law_331 : decode cL_law 331 = .ok (.iaload, 1) := by decide +kernel
theorem dL_law_332 : decode cL_law 332 = .ok (.invokevirtual 64, 3) := by decide +kernel
theorem dL_law_335 : decode cL_law 335 = .ok (.if_icmp .eq 62, 3) := by decide +kernel
theorem dL_law_338 : decode cL_law 338 = .ok (.iconst 0, 1) := by decide +kernel
theorem dL_law_339 : decode cL_law 339 = .ok (.ireturn, 1) := by decide +kernel
theorem dL_law_340 : decode cL_law 340 = .ok (.aload_n 1, 1) := by decide +kernel
theorem dL_law_341 : decode cL_law 341 = .ok (.invokevirtual 65, 3) := by decide +kernel
theorem dL_law_344 : decode cL_law 344 = .ok (.aload_n 2, 1) := by decide +kernel
theorem dL_law_345 : decode cL_law 345 = .ok (.invokevirtual 68, 3) := by decide +kernel
theorem dL_law_348 : decode cL_law 348 = .ok (.if_icmp .eq 49, 3) := by decide +kernel
theorem dL_law_351 : decode cL_law 351 = .ok (.iconst 0, 1) := by decide +kernel
theorem dL_law_352 : decode cL_law 352 = .ok (.ireturn, 1) := by decide +kernel
theorem dL_law_353 : decode cL_law 353 = .ok (.aload_n 1, 1) := by decide +kernel
theorem dL_law_354 : decode cL_law 354 = .ok (.aload_n 0, 1) := by decide +kernel
theorem dL_law_355 : decode cL_law 355 = .ok (.iload_n 3, 1) := by decide +kernel
theorem dL_law_356 : decode cL_law 356 = .ok (.iconst 1, 1) := by decide +kernel
theorem dL_law_357 : decode cL_law 357 = .ok (.iadd, 1) := by decide +kernel
theorem dL_law_358 : decode cL_law 358 = .ok (.iaload, 1) := by decide +kernel
theorem dL_law_359 : decode cL_law 359 = .ok (.aload_n 0, 1) := by decide +kernel
theorem dL_law_360 : decode cL_law 360 = .ok (.iload_n 3, 1) := by decide +kernel
theorem dL_law_361 : decode cL_law 361 = .ok (.iconst 2, 1) := by decide +kernel
theorem dL_law_362 : decode cL_law 362 = .ok (.iadd, 1) := by decide +kernel
theorem dL_law_363 : decode cL_law 363 = .ok (.iaload, 1) := by decide +kernel
theorem dL_law_364 : decode cL_law 364 = .ok (.invokevirtual 69, 3) := by decide +kernel
theorem dL_law_367 : decode cL_law 367 = .ok (.aload_n 2, 1) := by decide +kernel
theorem dL_law_368 : decode cL_law 368 = .ok (.aload_n 0, 1) := by decide +kernel
theorem dL_law_369 : decode cL_law 369 = .ok (.iload_n 3, 1) := by decide +kernel
theorem dL_law_370 : decode cL_law 370 = .ok (.iconst 1, 1) := by decide +kernel
theorem dL_law_371 : decode cL_law 371 = .ok (.iadd, 1) := by decide +kernel
theorem dL_law_372 : decode cL_law 372 = .ok (.iaload, 1) := by decide +kernel
theorem dL_law_373 : decode cL_law 373 = .ok (.aload_n 0, 1) := by decide +kernel
theorem dL_law_374 : decode cL_law 374 = .ok (.iload_n 3, 1) := by decide +kernel
theorem dL_law_375 : decode cL_law 375 = .ok (.iconst 2, 1) := by decide +kernel
theorem dL_law_376 : decode cL_law 376 = .ok (.iadd, 1) := by decide +kernel
theorem dL_law_377 : decode cL_law 377 = .ok (.iaload, 1) := by decide +kernel
theorem dL_law_378 : decode cL_law 378 = .ok (.invokevirtual 72, 3) := by decide +kernel
theorem dL_law_381 : decode cL_law 381 = .ok (.if_icmp .eq 16, 3) := by decide +kernel
theorem dL_law_384 : decode cL_law 384 = .ok (.iconst 0, 1) := by decide +kernel
theorem dL_law_385 : decode cL_law 385 = .ok (.ireturn, 1) := by decide +kernel
theorem dL_law_386 : decode cL_law 386 = .ok (.aload_n 1, 1) := by decide +kernel
theorem dL_law_387 : decode cL_law 387 = .ok (.invokevirtual 73, 3) := by decide +kernel
theorem dL_law_390 : decode cL_law 390 = .ok (.aload_n 2, 1) := by decide +kernel
theorem dL_law_391 : decode cL_law 391 = .ok (.invokevirtual 76, 3) := by decide +kernel
theorem dL_law_394 : decode cL_law 394 = .ok (.goto 3, 3) := by decide +kernel
theorem dL_law_397 : decode cL_law 397 = .ok (.iinc 3 3, 3) := by decide +kernel
theorem dL_law_400 : decode cL_law 400 = .ok (.goto (-342), 3) := by decide +kernel
theorem dL_law_403 : decode cL_law 403 = .ok (.iconst 1, 1) := by decide +kernel
theorem dL_law_404 : decode cL_law 404 = .ok (.ireturn, 1) := by decide +kernel
abbrev vwCl : List vw_C := [(RX0, TX0, 10), (RX1, TX1, 11)]
end
section
/-! the machine as a symbolic one: G K cz sz pc lv st ws: from pc with locals lv, stack st and world ws the machine comes to the end that K wants -/
abbrev gK : Type := (Program × Launch × Env × Room × State) × (MethodId × Array Value × List Frame × Method × Code) × (Nat × va_G × (Nat → Prop) × (State → Prop))
def G (K : gK) (cz sz pc : Nat) (lv : List (Nat × Value)) (st : List Value) (ws : va_W) : Prop :=
  ∀ (H : Heap) (locs : List Loc) (ls : Array Slot), lv_has ls K.2.2.1 lv → va_P K.2.2.2.1 vwCl ws H → va_D K.2.2.2.2.1 ws → va_S K.2.2.2.2.1 K.1.2.2.2.2.heap H locs →
    W K.1.1 K.1.2.1 K.1.2.2.1 K.1.2.2.2.1 K.1.2.2.2.2 K.2.1.1 K.2.1.2.1 K.2.1.2.2.1 K.2.1.2.2.2.1 K.2.1.2.2.2.2 H locs cz sz K.2.2.2.2.2 (F0 K.2.1.1 pc ls st)
def Cx (K : gK) (R : Room) (nL : Nat) (cc : ByteArray) (own : String) (Ts : List Cond) (tys : List (ClassId × FieldType)) : Prop :=
  K.1.1.tables.exec = Jvm.exec ∧ K.2.1.2.2.2.2.code = cc ∧ K.2.1.2.2.2.2.maxLocals = K.2.2.1 ∧ K.1.2.2.2.2.vm.findClass own = some K.2.1.1.cls ∧ (∀ w ∈ Ts, w.before K.2.1.2.1 K.1.2.2.2.2 = true) ∧ va_K K.2.2.2.1 vwCl tys K.1.2.2.2.2 ∧ (∀ q, K.1.2.2.2.2.heap.size ≤ q → K.2.2.2.2.1 q) ∧ K.1.2.2.2.1 = R ∧ K.2.2.1 = nL
section GA
variable {K : gK} {R : Room} {nL cz sz pc : Nat} {cc : ByteArray} {own : String} {Ts : List Cond} {tys : List (ClassId × FieldType)} {lv lv' : List (Nat × Value)} {st : List Value} {ws ws' : va_W}
theorem g_lv (ks : List Nat) (h : lv_pick lv ks = lv') (kk : G K cz sz pc lv' st ws) : G K cz sz pc lv st ws :=
  fun H locs ls hl hP hD hS => kk H locs ls (lv_sub hl ks h) hP hD hS
theorem g_widen {k n : Nat} (h1 : cz ≤ k) (h2 : sz ≤ n) (kk : G K k n pc lv st ws) : G K cz sz pc lv st ws :=
  fun H locs ls hl hP hD hS => W.widen h1 h2 (kk H locs ls hl hP hD hS)
theorem g_top {x y : Int32} (h : x = y) (kk : G K cz sz pc lv (.int y :: st) ws) : G K cz sz pc lv (.int x :: st) ws := h ▸ kk
theorem g_wd (h : ws = ws') (kk : G K cz sz pc lv st ws') : G K cz sz pc lv st ws := h ▸ kk
theorem g_iconst (C : Cx K R nL cc own Ts tys) {n : Int} {v : Int32} (hdg : decode cc pc = .ok (.iconst n, 1)) (hv : Int32.ofInt n = v) (kk : G K cz sz (pc + 1) lv (.int v :: st) ws) : G K cz sz pc lv st ws :=
  fun H locs ls hl hP hD hS => lv_iconst C.1 C.2.1 hdg hv (kk H locs ls hl hP hD hS)
theorem g_bipush (C : Cx K R nL cc own Ts tys) {n : Int} {v : Int32} (hdg : decode cc pc = .ok (.bipush n, 2)) (hv : (Int8.ofInt n).toInt32 = v) (kk : G K cz sz (pc + 2) lv (.int v :: st) ws) : G K cz sz pc lv st ws :=
  fun H locs ls hl hP hD hS => lv_bipush C.1 C.2.1 hdg hv (kk H locs ls hl hP hD hS)
theorem g_sipush (C : Cx K R nL cc own Ts tys) {n : Int} {v : Int32} (hdg : decode cc pc = .ok (.sipush n, 3)) (hv : (Int16.ofInt n).toInt32 = v) (kk : G K cz sz (pc + 3) lv (.int v :: st) ws) : G K cz sz pc lv st ws :=
  fun H locs ls hl hP hD hS => lv_sipush C.1 C.2.1 hdg hv (kk H locs ls hl hP hD hS)
theorem g_ldc (C : Cx K R nL cc own Ts tys) {index : Nat} {v : Int32} (hm : Jvm.Cond.constant own index v ∈ Ts) (hdg : decode cc pc = .ok (.ldc index, 2)) (kk : G K cz sz (pc + 2) lv (.int v :: st) ws) : G K cz sz pc lv st ws :=
  fun H locs ls hl hP hD hS => lv_ldc C.1 C.2.1 C.2.2.2.1 (C.2.2.2.2.1 _ hm) hdg (kk H locs ls hl hP hD hS)
theorem g_iload_n (C : Cx K R nL cc own Ts tys) {k : Fin 4} {i : Nat} {x : Int32} (hdg : decode cc pc = .ok (.iload_n k, 1)) (j : Nat) (hi : (k : Nat) = i) (hj : lv[j]? = some (i, .int x)) (kk : G K cz sz (pc + 1) lv (.int x :: st) ws) : G K cz sz pc lv st ws :=
  fun H locs ls hl hP hD hS => lv_iload_n C.1 C.2.1 hdg hi (lv_at hl j hj) (kk H locs ls hl hP hD hS)
theorem g_iload (C : Cx K R nL cc own Ts tys) {i : Nat} {x : Int32} (hdg : decode cc pc = .ok (.iload i, 2)) (j : Nat) (hj : lv[j]? = some (i, .int x)) (kk : G K cz sz (pc + 2) lv (.int x :: st) ws) : G K cz sz pc lv st ws :=
  fun H locs ls hl hP hD hS => lv_iload C.1 C.2.1 hdg (lv_at hl j hj) (kk H locs ls hl hP hD hS)
theorem g_aload_n (C : Cx K R nL cc own Ts tys) {k : Fin 4} {i : Nat} {x : Nat} (hdg : decode cc pc = .ok (.aload_n k, 1)) (j : Nat) (hi : (k : Nat) = i) (hj : lv[j]? = some (i, .ref x)) (kk : G K cz sz (pc + 1) lv (.ref x :: st) ws) : G K cz sz pc lv st ws :=
  fun H locs ls hl hP hD hS => lv_aload_n C.1 C.2.1 hdg hi (lv_at hl j hj) (kk H locs ls hl hP hD hS)
theorem g_istore_n (C : Cx K R nL cc own Ts tys) {k : Fin 4} {i : Nat} {x : Int32} (hdg : decode cc pc = .ok (.istore_n k, 1)) (hi : (k : Nat) = i) (hn : i < nL) (hl : (i, Value.int x) :: lv.filter (fun q => !(q.1 == i) && !(q.1 + 1 == i && q.2.category == 2)) = lv') (kk : G K cz sz (pc + 1) lv' st ws) : G K cz sz pc lv (.int x :: st) ws :=
  fun H locs ls h hP hD hS => lv_istore_n C.1 C.2.1 hdg hi h (by rw [C.2.2.2.2.2.2.2.2]; exact hn) hl (fun ls' h' => kk H locs ls' h' hP hD hS)
theorem g_istore (C : Cx K R nL cc own Ts tys) {i : Nat} {x : Int32} (hdg : decode cc pc = .ok (.istore i, 2)) (hn : i < nL) (hl : (i, Value.int x) :: lv.filter (fun q => !(q.1 == i) && !(q.1 + 1 == i && q.2.category == 2)) = lv') (kk : G K cz sz (pc + 2) lv' st ws) : G K cz sz pc lv (.int x :: st) ws :=
  fun H locs ls h hP hD hS => lv_istore C.1 C.2.1 hdg h (by rw [C.2.2.2.2.2.2.2.2]; exact hn) hl (fun ls' h' => kk H locs ls' h' hP hD hS)
theorem g_astore_n (C : Cx K R nL cc own Ts tys) {k : Fin 4} {i : Nat} {x : Nat} (hdg : decode cc pc = .ok (.astore_n k, 1)) (hi : (k : Nat) = i) (hn : i < nL) (hl : (i, Value.ref x) :: lv.filter (fun q => !(q.1 == i) && !(q.1 + 1 == i && q.2.category == 2)) = lv') (kk : G K cz sz (pc + 1) lv' st ws) : G K cz sz pc lv (.ref x :: st) ws :=
  fun H locs ls h hP hD hS => lv_astore_n C.1 C.2.1 hdg hi h (by rw [C.2.2.2.2.2.2.2.2]; exact hn) hl (fun ls' h' => kk H locs ls' h' hP hD hS)
theorem g_iinc (C : Cx K R nL cc own Ts tys) {i : Nat} {n : Int} {x v : Int32} (hdg : decode cc pc = .ok (.iinc i n, 3)) (j : Nat) (hk : lv[j]? = some (i, .int x)) (hv : x + Int32.ofInt n = v) (hn : i < nL) (hl : (i, Value.int v) :: lv.filter (fun q => !(q.1 == i) && !(q.1 + 1 == i && q.2.category == 2)) = lv') (kk : G K cz sz (pc + 3) lv' st ws) : G K cz sz pc lv st ws :=
  fun H locs ls h hP hD hS => lv_iinc C.1 C.2.1 hdg h hk hv (by rw [C.2.2.2.2.2.2.2.2]; exact hn) hl (fun ls' h' => kk H locs ls' h' hP hD hS)
theorem g_iadd (C : Cx K R nL cc own Ts tys) {a b : Nat} (hdg : decode cc pc = .ok (.iadd, 1)) (kk : G K cz sz (pc + 1) lv (.int (nI (a + b)) :: st) ws) : G K cz sz pc lv (.int (nI b) :: .int (nI a) :: st) ws :=
  fun H locs ls hl hP hD hS => lv_iadd C.1 C.2.1 hdg (by rw [nI_add]; exact kk H locs ls hl hP hD hS)
theorem g_isub (C : Cx K R nL cc own Ts tys) {a b : Nat} (hdg : decode cc pc = .ok (.isub, 1)) (h : b ≤ a) (kk : G K cz sz (pc + 1) lv (.int (nI (a - b)) :: st) ws) : G K cz sz pc lv (.int (nI b) :: .int (nI a) :: st) ws :=
  fun H locs ls hl hP hD hS => lv_isub C.1 C.2.1 hdg (by rw [pk_sub h]; exact kk H locs ls hl hP hD hS)
theorem g_isubI (C : Cx K R nL cc own Ts tys) {a b : Int32} (hdg : decode cc pc = .ok (.isub, 1)) (kk : G K cz sz (pc + 1) lv (.int (a - b) :: st) ws) : G K cz sz pc lv (.int b :: .int a :: st) ws :=
  fun H locs ls hl hP hD hS => lv_isub C.1 C.2.1 hdg (kk H locs ls hl hP hD hS)
theorem g_imul (C : Cx K R nL cc own Ts tys) {a b : Nat} (hdg : decode cc pc = .ok (.imul, 1)) (kk : G K cz sz (pc + 1) lv (.int (nI (a * b)) :: st) ws) : G K cz sz pc lv (.int (nI b) :: .int (nI a) :: st) ws :=
  fun H locs ls hl hP hD hS => lv_imul C.1 C.2.1 hdg (by rw [pk_mul]; exact kk H locs ls hl hP hD hS)
theorem g_idiv (C : Cx K R nL cc own Ts tys) {a b : Nat} (hdg : decode cc pc = .ok (.idiv, 1)) (ha : a < 2 ^ 31) (h0 : 0 < b) (hb : b < 2 ^ 31) (kk : G K cz sz (pc + 1) lv (.int (nI (a / b)) :: st) ws) : G K cz sz pc lv (.int (nI b) :: .int (nI a) :: st) ws :=
  fun H locs ls hl hP hD hS => lv_idiv C.1 C.2.1 hdg (nI_ne0 h0 hb) (by rw [pk_div ha h0 hb]; exact kk H locs ls hl hP hD hS)
theorem g_irem (C : Cx K R nL cc own Ts tys) {a b : Nat} (hdg : decode cc pc = .ok (.irem, 1)) (ha : a < 2 ^ 31) (h0 : 0 < b) (hb : b < 2 ^ 31) (kk : G K cz sz (pc + 1) lv (.int (nI (a % b)) :: st) ws) : G K cz sz pc lv (.int (nI b) :: .int (nI a) :: st) ws :=
  fun H locs ls hl hP hD hS => lv_irem C.1 C.2.1 hdg (nI_ne0 h0 hb) (by rw [pk_rem ha h0 hb]; exact kk H locs ls hl hP hD hS)
theorem g_iand (C : Cx K R nL cc own Ts tys) {a b : Int32} (hdg : decode cc pc = .ok (.iand, 1)) (kk : G K cz sz (pc + 1) lv (.int (a &&& b) :: st) ws) : G K cz sz pc lv (.int b :: .int a :: st) ws :=
  fun H locs ls hl hP hD hS => lv_iand C.1 C.2.1 hdg (kk H locs ls hl hP hD hS)
theorem g_ishl (C : Cx K R nL cc own Ts tys) {a b : Int32} (hdg : decode cc pc = .ok (.ishl, 1)) (kk : G K cz sz (pc + 1) lv (.int (a <<< (b &&& 31)) :: st) ws) : G K cz sz pc lv (.int b :: .int a :: st) ws :=
  fun H locs ls hl hP hD hS => lv_ishl C.1 C.2.1 hdg (kk H locs ls hl hP hD hS)
theorem g_dup (C : Cx K R nL cc own Ts tys) {v : Value} (hdg : decode cc pc = .ok (.dup, 1)) (hv : v.category = 1) (kk : G K cz sz (pc + 1) lv (v :: v :: st) ws) : G K cz sz pc lv (v :: st) ws :=
  fun H locs ls hl hP hD hS => lv_dup C.1 C.2.1 hdg hv (kk H locs ls hl hP hD hS)
theorem g_dup2 (C : Cx K R nL cc own Ts tys) {v w : Value} (hdg : decode cc pc = .ok (.dup2, 1)) (hv : v.category = 1) (hw : w.category = 1) (kk : G K cz sz (pc + 1) lv (v :: w :: v :: w :: st) ws) : G K cz sz pc lv (v :: w :: st) ws :=
  fun H locs ls hl hP hD hS => lv_dup2_11 C.1 C.2.1 hdg hv hw (kk H locs ls hl hP hD hS)
theorem g_pop (C : Cx K R nL cc own Ts tys) {v : Value} (hdg : decode cc pc = .ok (.pop, 1)) (hv : v.category = 1) (kk : G K cz sz (pc + 1) lv st ws) : G K cz sz pc lv (v :: st) ws :=
  fun H locs ls hl hP hD hS => lv_pop C.1 C.2.1 hdg hv (kk H locs ls hl hP hD hS)
theorem g_goto (C : Cx K R nL cc own Ts tys) {off : Int} (tgt : Nat) (hdg : decode cc pc = .ok (.goto off, 3)) (ht : (pc : Int) + off = (tgt : Int)) (kk : G K cz sz tgt lv st ws) : G K cz sz pc lv st ws :=
  fun H locs ls hl hP hD hS => lv_goto C.1 C.2.1 hdg ht (kk H locs ls hl hP hD hS)
-- branches over numbers
theorem g_icmp_ge (C : Cx K R nL cc own Ts tys) {a b : Nat} {off : Int} (tgt : Nat) (hdg : decode cc pc = .ok (.if_icmp .ge off, 3)) (ht : (pc : Int) + off = (tgt : Int)) (ha : a < 2 ^ 31) (hb : b < 2 ^ 31) (k1 : b ≤ a → G K cz sz tgt lv st ws) (k2 : a < b → G K cz sz (pc + 3) lv st ws) : G K cz sz pc lv (.int (nI b) :: .int (nI a) :: st) ws :=
  fun H locs ls hl hP hD hS => lv_icmp_ge C.1 C.2.1 hdg ht (fun h => k1 ((nI_leI hb ha).mp h) H locs ls hl hP hD hS) (fun h => k2 (Nat.lt_of_not_le (fun q => h ((nI_leI hb ha).mpr q))) H locs ls hl hP hD hS)
theorem g_icmp_lt (C : Cx K R nL cc own Ts tys) {a b : Nat} {off : Int} (tgt : Nat) (hdg : decode cc pc = .ok (.if_icmp .lt off, 3)) (ht : (pc : Int) + off = (tgt : Int)) (ha : a < 2 ^ 31) (hb : b < 2 ^ 31) (k1 : a < b → G K cz sz tgt lv st ws) (k2 : b ≤ a → G K cz sz (pc + 3) lv st ws) : G K cz sz pc lv (.int (nI b) :: .int (nI a) :: st) ws :=
  fun H locs ls hl hP hD hS => lv_icmp_lt C.1 C.2.1 hdg ht (fun h => k1 ((nI_ltI ha hb).mp h) H locs ls hl hP hD hS) (fun h => k2 (Nat.le_of_not_lt (fun q => h ((nI_ltI ha hb).mpr q))) H locs ls hl hP hD hS)
theorem g_icmp_gt (C : Cx K R nL cc own Ts tys) {a b : Nat} {off : Int} (tgt : Nat) (hdg : decode cc pc = .ok (.if_icmp .gt off, 3)) (ht : (pc : Int) + off = (tgt : Int)) (ha : a < 2 ^ 31) (hb : b < 2 ^ 31) (k1 : b < a → G K cz sz tgt lv st ws) (k2 : a ≤ b → G K cz sz (pc + 3) lv st ws) : G K cz sz pc lv (.int (nI b) :: .int (nI a) :: st) ws :=
  fun H locs ls hl hP hD hS => lv_icmp_gt C.1 C.2.1 hdg ht (fun h => k1 ((nI_ltI hb ha).mp h) H locs ls hl hP hD hS) (fun h => k2 (Nat.le_of_not_lt (fun q => h ((nI_ltI hb ha).mpr q))) H locs ls hl hP hD hS)
theorem g_icmp_le (C : Cx K R nL cc own Ts tys) {a b : Nat} {off : Int} (tgt : Nat) (hdg : decode cc pc = .ok (.if_icmp .le off, 3)) (ht : (pc : Int) + off = (tgt : Int)) (ha : a < 2 ^ 31) (hb : b < 2 ^ 31) (k1 : a ≤ b → G K cz sz tgt lv st ws) (k2 : b < a → G K cz sz (pc + 3) lv st ws) : G K cz sz pc lv (.int (nI b) :: .int (nI a) :: st) ws :=
  fun H locs ls hl hP hD hS => lv_icmp_le C.1 C.2.1 hdg ht (fun h => k1 ((nI_leI ha hb).mp h) H locs ls hl hP hD hS) (fun h => k2 (Nat.lt_of_not_le (fun q => h ((nI_leI ha hb).mpr q))) H locs ls hl hP hD hS)
theorem g_icmp_eq (C : Cx K R nL cc own Ts tys) {a b : Nat} {off : Int} (tgt : Nat) (hdg : decode cc pc = .ok (.if_icmp .eq off, 3)) (ht : (pc : Int) + off = (tgt : Int)) (ha : a < 2 ^ 31) (hb : b < 2 ^ 31) (k1 : a = b → G K cz sz tgt lv st ws) (k2 : a ≠ b → G K cz sz (pc + 3) lv st ws) : G K cz sz pc lv (.int (nI b) :: .int (nI a) :: st) ws :=
  fun H locs ls hl hP hD hS => lv_icmp_eq C.1 C.2.1 hdg ht (fun h => k1 ((nI_eq ha hb).mp h) H locs ls hl hP hD hS) (fun h => k2 (fun q => h ((nI_eq ha hb).mpr q)) H locs ls hl hP hD hS)
theorem g_icmp_ne (C : Cx K R nL cc own Ts tys) {a b : Nat} {off : Int} (tgt : Nat) (hdg : decode cc pc = .ok (.if_icmp .ne off, 3)) (ht : (pc : Int) + off = (tgt : Int)) (ha : a < 2 ^ 31) (hb : b < 2 ^ 31) (k1 : a ≠ b → G K cz sz tgt lv st ws) (k2 : a = b → G K cz sz (pc + 3) lv st ws) : G K cz sz pc lv (.int (nI b) :: .int (nI a) :: st) ws :=
  fun H locs ls hl hP hD hS => lv_icmp_ne C.1 C.2.1 hdg ht (fun h => k1 (fun q => h ((nI_eq ha hb).mpr q)) H locs ls hl hP hD hS) (fun h => k2 ((nI_eq ha hb).mp h) H locs ls hl hP hD hS)
-- branches over words
theorem g_icmp_eqI (C : Cx K R nL cc own Ts tys) {a b : Int32} {off : Int} (tgt : Nat) (hdg : decode cc pc = .ok (.if_icmp .eq off, 3)) (ht : (pc : Int) + off = (tgt : Int)) (k1 : a = b → G K cz sz tgt lv st ws) (k2 : ¬ a = b → G K cz sz (pc + 3) lv st ws) : G K cz sz pc lv (.int b :: .int a :: st) ws :=
  fun H locs ls hl hP hD hS => lv_icmp_eq C.1 C.2.1 hdg ht (fun h => k1 h H locs ls hl hP hD hS) (fun h => k2 h H locs ls hl hP hD hS)
theorem g_icmp_neI (C : Cx K R nL cc own Ts tys) {a b : Int32} {off : Int} (tgt : Nat) (hdg : decode cc pc = .ok (.if_icmp .ne off, 3)) (ht : (pc : Int) + off = (tgt : Int)) (k1 : ¬ a = b → G K cz sz tgt lv st ws) (k2 : a = b → G K cz sz (pc + 3) lv st ws) : G K cz sz pc lv (.int b :: .int a :: st) ws :=
  fun H locs ls hl hP hD hS => lv_icmp_ne C.1 C.2.1 hdg ht (fun h => k1 h H locs ls hl hP hD hS) (fun h => k2 h H locs ls hl hP hD hS)
theorem g_icmp_geI (C : Cx K R nL cc own Ts tys) {a b : Int32} {off : Int} (tgt : Nat) (hdg : decode cc pc = .ok (.if_icmp .ge off, 3)) (ht : (pc : Int) + off = (tgt : Int)) (k1 : b ≤ a → G K cz sz tgt lv st ws) (k2 : ¬ b ≤ a → G K cz sz (pc + 3) lv st ws) : G K cz sz pc lv (.int b :: .int a :: st) ws :=
  fun H locs ls hl hP hD hS => lv_icmp_ge C.1 C.2.1 hdg ht (fun h => k1 h H locs ls hl hP hD hS) (fun h => k2 h H locs ls hl hP hD hS)
theorem g_icmp_ltI (C : Cx K R nL cc own Ts tys) {a b : Int32} {off : Int} (tgt : Nat) (hdg : decode cc pc = .ok (.if_icmp .lt off, 3)) (ht : (pc : Int) + off = (tgt : Int)) (k1 : a < b → G K cz sz tgt lv st ws) (k2 : ¬ a < b → G K cz sz (pc + 3) lv st ws) : G K cz sz pc lv (.int b :: .int a :: st) ws :=
  fun H locs ls hl hP hD hS => lv_icmp_lt C.1 C.2.1 hdg ht (fun h => k1 h H locs ls hl hP hD hS) (fun h => k2 h H locs ls hl hP hD hS)
theorem g_icmp_leI (C : Cx K R nL cc own Ts tys) {a b : Int32} {off : Int} (tgt : Nat) (hdg : decode cc pc = .ok (.if_icmp .le off, 3)) (ht : (pc : Int) + off = (tgt : Int)) (k1 : a ≤ b → G K cz sz tgt lv st ws) (k2 : ¬ a ≤ b → G K cz sz (pc + 3) lv st ws) : G K cz sz pc lv (.int b :: .int a :: st) ws :=
  fun H locs ls hl hP hD hS => lv_icmp_le C.1 C.2.1 hdg ht (fun h => k1 h H locs ls hl hP hD hS) (fun h => k2 h H locs ls hl hP hD hS)
theorem g_icmp_gtI (C : Cx K R nL cc own Ts tys) {a b : Int32} {off : Int} (tgt : Nat) (hdg : decode cc pc = .ok (.if_icmp .gt off, 3)) (ht : (pc : Int) + off = (tgt : Int)) (k1 : b < a → G K cz sz tgt lv st ws) (k2 : ¬ b < a → G K cz sz (pc + 3) lv st ws) : G K cz sz pc lv (.int b :: .int a :: st) ws :=
  fun H locs ls hl hP hD hS => lv_icmp_gt C.1 C.2.1 hdg ht (fun h => k1 h H locs ls hl hP hD hS) (fun h => k2 h H locs ls hl hP hD hS)
theorem g_if_eq (C : Cx K R nL cc own Ts tys) {a : Int32} {off : Int} (tgt : Nat) (hdg : decode cc pc = .ok (.ifCond .eq off, 3)) (ht : (pc : Int) + off = (tgt : Int)) (k1 : a = 0 → G K cz sz tgt lv st ws) (k2 : ¬ a = 0 → G K cz sz (pc + 3) lv st ws) : G K cz sz pc lv (.int a :: st) ws :=
  fun H locs ls hl hP hD hS => lv_if_eq C.1 C.2.1 hdg ht (fun h => k1 h H locs ls hl hP hD hS) (fun h => k2 h H locs ls hl hP hD hS)
theorem g_if_ne (C : Cx K R nL cc own Ts tys) {a : Int32} {off : Int} (tgt : Nat) (hdg : decode cc pc = .ok (.ifCond .ne off, 3)) (ht : (pc : Int) + off = (tgt : Int)) (k1 : ¬ a = 0 → G K cz sz tgt lv st ws) (k2 : a = 0 → G K cz sz (pc + 3) lv st ws) : G K cz sz pc lv (.int a :: st) ws :=
  fun H locs ls hl hP hD hS => lv_if_ne C.1 C.2.1 hdg ht (fun h => k1 h H locs ls hl hP hD hS) (fun h => k2 h H locs ls hl hP hD hS)
theorem g_if_lt (C : Cx K R nL cc own Ts tys) {a : Int32} {off : Int} (tgt : Nat) (hdg : decode cc pc = .ok (.ifCond .lt off, 3)) (ht : (pc : Int) + off = (tgt : Int)) (k1 : a < 0 → G K cz sz tgt lv st ws) (k2 : ¬ a < 0 → G K cz sz (pc + 3) lv st ws) : G K cz sz pc lv (.int a :: st) ws :=
  fun H locs ls hl hP hD hS => lv_if_lt C.1 C.2.1 hdg ht (fun h => k1 h H locs ls hl hP hD hS) (fun h => k2 h H locs ls hl hP hD hS)
theorem g_if_ge (C : Cx K R nL cc own Ts tys) {a : Int32} {off : Int} (tgt : Nat) (hdg : decode cc pc = .ok (.ifCond .ge off, 3)) (ht : (pc : Int) + off = (tgt : Int)) (k1 : 0 ≤ a → G K cz sz tgt lv st ws) (k2 : ¬ 0 ≤ a → G K cz sz (pc + 3) lv st ws) : G K cz sz pc lv (.int a :: st) ws :=
  fun H locs ls hl hP hD hS => lv_if_ge C.1 C.2.1 hdg ht (fun h => k1 h H locs ls hl hP hD hS) (fun h => k2 h H locs ls hl hP hD hS)
theorem g_if_le (C : Cx K R nL cc own Ts tys) {a : Int32} {off : Int} (tgt : Nat) (hdg : decode cc pc = .ok (.ifCond .le off, 3)) (ht : (pc : Int) + off = (tgt : Int)) (k1 : a ≤ 0 → G K cz sz tgt lv st ws) (k2 : ¬ a ≤ 0 → G K cz sz (pc + 3) lv st ws) : G K cz sz pc lv (.int a :: st) ws :=
  fun H locs ls hl hP hD hS => lv_if_le C.1 C.2.1 hdg ht (fun h => k1 h H locs ls hl hP hD hS) (fun h => k2 h H locs ls hl hP hD hS)
-- fields and arrays
theorem g_get (C : Cx K R nL cc own Ts tys) {Cn : String} {T : u_T} {N ci index a : Nat} (hin : ∀ w ∈ u_ws Cn T N, w ∈ Ts) (hc : vwCl[ci]? = some (Cn, T, N)) (q0 k : Nat) (hk : k < N) (hlk : Cond.fieldLink own index (T k).1 (T k).2.1 (T k).2.2.1 ∈ Ts) {fs : List Value} {v : Value} (hdg : decode cc pc = .ok (.getfield index, 3)) (he : ws[q0]? = some (a, .inr (ci, fs))) (hv : fs[k]? = some v) (kk : G K cz sz (pc + 3) lv (v :: st) ws) : G K cz sz pc lv (.ref a :: st) ws :=
  fun H locs ls hl hP hD hS => va_get C.1 C.2.1 C.2.2.2.2.1 hin C.2.2.2.1 C.2.2.2.2.2.1 hP q0 he hc k hk (C.2.2.2.2.1 _ hlk) (fun _ h => h) hv hdg (kk H locs ls hl hP hD hS)
theorem g_put (C : Cx K R nL cc own Ts tys) {Cn : String} {T : u_T} {N ci index a : Nat} (hin : ∀ w ∈ u_ws Cn T N, w ∈ Ts) (ty0 : Nat → FieldType) (hty : ∀ k, k < N → parseFieldDescriptor (T k).2.2.1 = some (ty0 k)) (hnm : ∀ a, a < N → ∀ b, b < N → a ≠ b → (T a).2.1 ≠ (T b).2.1) (hc : vwCl[ci]? = some (Cn, T, N)) (q0 k : Nat) (hk : k < N) (hlk : Cond.fieldLink own index (T k).1 (T k).2.1 (T k).2.2.1 ∈ Ts) (hfin : (T k).2.2.2 = false) {ty : FieldType} {v : Value} (hd : parseFieldDescriptor (T k).2.2.1 = some ty) {fs : List Value} (hdg : decode cc pc = .ok (.putfield index, 3)) (he : ws[q0]? = some (a, .inr (ci, fs))) (hn : narrow ty v = v) (hfit : fits ty v = true) (hl : k < fs.length) (hw : ws.set q0 (a, .inr (ci, fs.set k v)) = ws') (kk : G K cz sz (pc + 3) lv st ws') : G K cz sz pc lv (v :: .ref a :: st) ws :=
  fun H locs ls hls hP hD hS => va_put C.1 C.2.1 C.2.2.2.2.1 hin ty0 hty hnm C.2.2.2.1 C.2.2.2.2.2.1 hP hD hS q0 he hc k hk (C.2.2.2.2.1 _ hlk) (fun _ h => h) hfin hd hn hfit hl hdg (fun H1 locs1 h1 h2 h3 => kk H1 locs1 ls hls (hw ▸ h1) (hw ▸ h2) h3)
theorem g_putF (C : Cx K R nL cc own Ts tys) {Cn : String} {T : u_T} {N ci index a : Nat} (hin : ∀ w ∈ u_ws Cn T N, w ∈ Ts) (ty0 : Nat → FieldType) (hty : ∀ k, k < N → parseFieldDescriptor (T k).2.2.1 = some (ty0 k)) (hnm : ∀ a, a < N → ∀ b, b < N → a ≠ b → (T a).2.1 ≠ (T b).2.1) (hc : vwCl[ci]? = some (Cn, T, N)) (hin2 : K.2.1.2.2.2.1.name = "<init>") (q0 k : Nat) (hk : k < N) (hlk : Cond.fieldLink own index (T k).1 (T k).2.1 (T k).2.2.1 ∈ Ts) (hfin : (T k).2.2.2 = true) (hdecl : (T k).1 = own) {ty : FieldType} {v : Value} (hd : parseFieldDescriptor (T k).2.2.1 = some ty) {fs : List Value} (hdg : decode cc pc = .ok (.putfield index, 3)) (he : ws[q0]? = some (a, .inr (ci, fs))) (hn : narrow ty v = v) (hfit : fits ty v = true) (hl : k < fs.length) (hw : ws.set q0 (a, .inr (ci, fs.set k v)) = ws') (kk : G K cz sz (pc + 3) lv st ws') : G K cz sz pc lv (v :: .ref a :: st) ws :=
  fun H locs ls hls hP hD hS => va_putF C.1 C.2.1 C.2.2.2.2.1 hin ty0 hty hnm C.2.2.2.1 C.2.2.2.2.2.1 hP hD hS q0 he hc k hk (C.2.2.2.2.1 _ hlk) (fun _ h => h) hfin hin2 hdecl hd hn hfit hl hdg (fun H1 locs1 h1 h2 h3 => kk H1 locs1 ls hls (hw ▸ h1) (hw ▸ h2) h3)
theorem g_iald {cA : ClassId} (C : Cx K R nL cc own Ts [(cA, .int)]) (q0 : Nat) {a n i : Nat} {f : Nat → Int32} (hdg : decode cc pc = .ok (.iaload, 1)) (ha : ws[q0]? = some (a, .inl (cA, n, .inl f))) (hi : i < n) (hn : n < 2 ^ 31) (kk : G K cz sz (pc + 1) lv (.int (f i) :: st) ws) : G K cz sz pc lv (.int (nI i) :: .ref a :: st) ws :=
  fun H locs ls hl hP hD hS => va_iald C.1 C.2.1 C.2.2.2.2.2.1 hP q0 0 ha rfl (vp_in_nI hi hn) hdg (by rw [nI_clamp (by omega)]; exact kk H locs ls hl hP hD hS)
theorem g_iast {cA : ClassId} (C : Cx K R nL cc own Ts [(cA, .int)]) (q0 : Nat) {a n i : Nat} {x : Int32} {f : Nat → Int32} (hdg : decode cc pc = .ok (.iastore, 1)) (ha : ws[q0]? = some (a, .inl (cA, n, .inl f))) (hi : i < n) (hn : n < 2 ^ 31) (hw : ws.set q0 (a, .inl (cA, n, .inl (upd f i x))) = ws') (kk : G K cz sz (pc + 1) lv st ws') : G K cz sz pc lv (.int x :: .int (nI i) :: .ref a :: st) ws :=
  fun H locs ls hl hP hD hS => va_iast C.1 C.2.1 C.2.2.2.2.2.1 hP hD hS q0 0 ha rfl (vp_in_nI hi hn) hdg (fun H1 locs1 h1 h2 h3 => by
    rw [nI_clamp (by omega)] at h1 h2
    exact kk H1 locs1 ls hl (hw ▸ h1) (hw ▸ h2) h3)
theorem g_alen {cA : ClassId} (C : Cx K R nL cc own Ts [(cA, .int)]) (q0 : Nat) {a n : Nat} {f : Nat → Int32} (hdg : decode cc pc = .ok (.arraylength, 1)) (ha : ws[q0]? = some (a, .inl (cA, n, .inl f))) (kk : G K cz sz (pc + 1) lv (.int (nI n) :: st) ws) : G K cz sz pc lv (.ref a :: st) ws :=
  fun H locs ls hl hP hD hS => va_alen C.1 C.2.1 C.2.2.2.2.2.1 hP q0 0 ha rfl rfl hdg (kk H locs ls hl hP hD hS)
-- Math
theorem g_mmax (C : Cx K R nL cc own Ts tys) {index : Nat} (hm : ∀ w ∈ ([Cond.methodLink own index Lib.Math.max.name, Cond.static Lib.Math.max.name, Cond.initialized "java/lang/Math", Cond.code Lib.Math.max.name Lib.Math.max.code 2 (some .int)] : List Cond), w ∈ Ts) {x y : Int32} (hdg : decode cc pc = .ok (.invokestatic index, 3)) (hR : 1 ≤ R.frames ∧ (st.map fun v => v.category).sum + 13 ≤ R.locals ∧ cz ≤ R.cells ∧ sz ≤ R.slots) (kk : G K cz sz (pc + 3) lv (.int (if x < y then y else x) :: st) ws) : G K cz sz pc lv (.int y :: .int x :: st) ws :=
  fun H locs ls hl hP hD hS => by
    have hR0 := C.2.2.2.2.2.2.2.1
    have ok : ∀ w ∈ ([Cond.methodLink own index Lib.Math.max.name, Cond.static Lib.Math.max.name, Cond.initialized "java/lang/Math", Cond.code Lib.Math.max.name Lib.Math.max.code 2 (some .int)] : List Cond), w.before K.2.1.2.1 K.1.2.2.2.2 = true := fun w h => C.2.2.2.2.1 w (hm w h)
    exact va_mmax C.1 C.2.1 (C.2.2.1.trans hl.1.symm) C.2.2.2.1 (ok _ (List.mem_of_getElem? (i := 0) rfl)) (ok _ (List.mem_of_getElem? (i := 1) rfl)) (ok _ (List.mem_of_getElem? (i := 2) rfl)) (ok _ (List.mem_of_getElem? (i := 3) rfl)) (by rw [hR0]; exact hR.1) (by rw [hR0]; exact hR.2.1) (by rw [hR0]; exact hR.2.2.1) (by rw [hR0]; exact hR.2.2.2) hdg (kk H locs ls hl hP hD hS)
theorem g_mmin (C : Cx K R nL cc own Ts tys) {index : Nat} (hm : ∀ w ∈ ([Cond.methodLink own index Lib.Math.min.name, Cond.static Lib.Math.min.name, Cond.initialized "java/lang/Math", Cond.code Lib.Math.min.name Lib.Math.min.code 2 (some .int)] : List Cond), w ∈ Ts) {x y : Int32} (hdg : decode cc pc = .ok (.invokestatic index, 3)) (hR : 1 ≤ R.frames ∧ (st.map fun v => v.category).sum + 13 ≤ R.locals ∧ cz ≤ R.cells ∧ sz ≤ R.slots) (kk : G K cz sz (pc + 3) lv (.int (if y < x then y else x) :: st) ws) : G K cz sz pc lv (.int y :: .int x :: st) ws :=
  fun H locs ls hl hP hD hS => by
    have hR0 := C.2.2.2.2.2.2.2.1
    have ok : ∀ w ∈ ([Cond.methodLink own index Lib.Math.min.name, Cond.static Lib.Math.min.name, Cond.initialized "java/lang/Math", Cond.code Lib.Math.min.name Lib.Math.min.code 2 (some .int)] : List Cond), w.before K.2.1.2.1 K.1.2.2.2.2 = true := fun w h => C.2.2.2.2.1 w (hm w h)
    exact va_mmin C.1 C.2.1 (C.2.2.1.trans hl.1.symm) C.2.2.2.1 (ok _ (List.mem_of_getElem? (i := 0) rfl)) (ok _ (List.mem_of_getElem? (i := 1) rfl)) (ok _ (List.mem_of_getElem? (i := 2) rfl)) (ok _ (List.mem_of_getElem? (i := 3) rfl)) (by rw [hR0]; exact hR.1) (by rw [hR0]; exact hR.2.1) (by rw [hR0]; exact hR.2.2.1) (by rw [hR0]; exact hR.2.2.2) hdg (kk H locs ls hl hP hD hS)
end GA
end
section
/-! contracts and calls over G -/
theorem wl_right {D : va_G} {a b : va_W} {H : Heap} (h : va_P D vwCl (a ++ b) H) : va_P D vwCl b H := fun k q hk => h (a.length + k) q (by rw [List.getElem?_append_right (by omega)]; rw [show a.length + k - a.length = k by omega]; exact hk)
theorem wl_left {D : va_G} {a b : va_W} {H : Heap} (h : va_P D vwCl (a ++ b) H) : va_P D vwCl a H := fun k q hk => h k q (by rw [List.getElem?_append_left ((List.getElem?_eq_some_iff.mp hk).1)]; exact hk)
theorem wd_right {A : Nat → Prop} {a b : va_W} (h : va_D A (a ++ b)) : va_D A b := by
  have at' : ∀ (k : Nat) (q : Nat × va_E), b[k]? = some q → (a ++ b)[a.length + k]? = some q := fun k q hk => by
    rw [List.getElem?_append_right (by omega)]; rw [show a.length + k - a.length = k by omega]; exact hk
  refine ⟨fun i j p q hi hj e => ?_, fun k q hk => h.2 _ q (at' k q hk)⟩
  have := h.1 _ _ p q (at' i p hi) (at' j q hj) e
  omega
theorem wd_left {A : Nat → Prop} {a b : va_W} (h : va_D A (a ++ b)) : va_D A a := by
  have at' : ∀ (k : Nat) (q : Nat × va_E), a[k]? = some q → (a ++ b)[k]? = some q := fun k q hk => by
    rw [List.getElem?_append_left ((List.getElem?_eq_some_iff.mp hk).1)]; exact hk
  exact ⟨fun i j p q hi hj e => h.1 _ _ p q (at' i p hi) (at' j q hj) e, fun k q hk => h.2 _ q (at' k q hk)⟩
theorem wd_cross {A : Nat → Prop} {a b : va_W} (h : va_D A (a ++ b)) : ∀ (i j : Nat) (p q : Nat × va_E), a[i]? = some p → b[j]? = some q → p.1 = q.1 → False := by
  intro i j p q hi hj e
  have hl := (List.getElem?_eq_some_iff.mp hi).1
  have h1 : (a ++ b)[i]? = some p := by rw [List.getElem?_append_left hl]; exact hi
  have h2 : (a ++ b)[a.length + j]? = some q := by rw [List.getElem?_append_right (by omega)]; rw [show a.length + j - a.length = j by omega]; exact hj
  have := h.1 _ _ p q h1 h2 e
  omega
theorem wp_swap {D : va_G} {a b : va_W} {H : Heap} (h : va_P D vwCl (a ++ b) H) : va_P D vwCl (b ++ a) H := va_P.app (wl_right h) (wl_left h)
theorem wd_swap {A : Nat → Prop} {a b : va_W} (h : va_D A (a ++ b)) : va_D A (b ++ a) := va_D.app (wd_right h) (wd_left h) (fun i j p q hi hj e => wd_cross h j i q p hj hi e.symm)
theorem wj {A0 : Nat → Prop} {D : va_G} {wr w0 w1 : va_W} {H H1 : Heap} (hP : va_P D vwCl (wr ++ w0) H) (hD : va_D A0 (wr ++ w0)) (hk : ∀ q : Nat, q < H.size → ¬ va_A w0 H.size q → H1[q]? = H[q]?) (hF : ∀ q, va_A w0 H.size q → A0 q) (hP1 : va_P D vwCl w1 H1) (hD1 : va_D (va_A w0 H.size) w1) : va_P D vwCl (wr ++ w1) H1 ∧ va_D A0 (wr ++ w1) := by
  have apart : ∀ (k : Nat) (q : Nat × va_E), wr[k]? = some q → q.1 < H.size ∧ ¬ va_A w0 H.size q.1 := by
    intro k q hq
    have hl := (wl_left hP k q hq).lt
    refine ⟨hl, fun h => ?_⟩
    rcases h with ⟨k2, e, h⟩ | h
    · exact wd_cross hD k k2 q (q.1, e) hq h rfl
    · omega
  refine ⟨va_P.app (fun k q hq => ?_) hP1, va_D.app (wd_left hD) (hD1.weaken (fun k q _ h => hF q.1 h)) (fun i j x y hx hy hxy => ?_)⟩
  · obtain ⟨g1, g2⟩ := apart k q hq
    exact (wl_left hP k q hq).kept (hk q.1 g1 g2)
  · exact (apart i x hx).2 (by rw [hxy]; exact hD1.2 j y hy)
def mPc (D : va_G) (tys : List (ClassId × FieldType)) (w0 : va_W) (sz : Nat) : State → Prop := fun U => U.heap.size = sz ∧ va_P D vwCl w0 U.heap ∧ va_K D vwCl tys U ∧ va_D (fun _ => True) w0
def mB {S : Type} (D : va_G) (tys : List (ClassId × FieldType)) (A : Nat → Prop) (w : S → va_W) : S → State → Prop := fun u t => va_P D vwCl (w u) t.heap ∧ va_K D vwCl tys t ∧ va_D A (w u)
/-- a method with an int (or boolean) answer: from the world w0 it comes to a world w u with post r u -/
def MetI {S : Type} (l : Launch) (y : MethodName) (wc : List Cond) (rm : Room) (D : va_G) (tys : List (ClassId × FieldType)) (av : List Value) (w0 : va_W) (w : S → va_W) (post : Int32 → S → Prop) (mc ms : Nat) : Prop :=
  ∀ sz : Nat, Met l y wc rm (va_Pc av (mPc D tys w0 sz)) (va_Qi post (mB D tys (va_A w0 sz) w) (va_A w0 sz)) mc ms (va_A w0 sz)
def MetV {S : Type} (l : Launch) (y : MethodName) (wc : List Cond) (rm : Room) (D : va_G) (tys : List (ClassId × FieldType)) (av : List Value) (w0 : va_W) (w : S → va_W) (post : S → Prop) (mc ms : Nat) : Prop :=
  ∀ sz : Nat, Met l y wc rm (va_Pc av (mPc D tys w0 sz)) (va_Qv post (mB D tys (va_A w0 sz) w) (va_A w0 sz)) mc ms (va_A w0 sz)
theorem mBlind {D : va_G} {tys : List (ClassId × FieldType)} {w0 : va_W} {sz : Nat} {av : List Value} : FrameBlind (va_Pc av (mPc D tys w0 sz)) := fun a U g mk q => by
  obtain ⟨q0, q1, qP, qK, qD⟩ := q
  exact ⟨q0, q1, qP, va_K.moved (u := U) (U := U.calling g mk a) (Vm.Alike.refl U.vm) qK, qD⟩
theorem MetI_of {S : Type} {l : Launch} {y : MethodName} {wc wc' : List Cond} {rm : Room} {D : va_G} {tys : List (ClassId × FieldType)} {av : List Value} {w0 : va_W} {w : S → va_W} {post : Int32 → S → Prop} {mc ms maxL : Nat} {cc : ByteArray} {rt : FieldType} {lv0 : List (Nat × Value)}
    (hy : plainName y.cls = true) (hw : wc = Cond.code y cc maxL (some rt) :: wc') (hlen : (lg_sl av).length ≤ maxL) (hlv : lv_args 0 av = lv0)
    (body : ∀ K : gK, K.1.2.1 = l → K.2.2.2.1 = D → Cx K rm maxL cc y.cls wc tys → (∀ (pc : Nat) (lv : List (Nat × Value)) (r : Int32) (u : S), decode cc pc = .ok (.ireturn, 1) → narrow rt (.int r) = .int r → post r u → G K mc ms pc lv [.int r] (w u)) → G K 0 0 0 lv0 [] w0) :
    MetI l y wc rm D tys av w0 w post mc ms := by
  intro sz
  refine Met.ofW (cc := cc) (maxL := maxL) (ret := some rt) hy hw ?_
  intro p e s m args below meth c s₁ B hml hv
  obtain ⟨rfl, hsz, hP, hK, hD0⟩ := hv
  have hx := B.exec
  have hb := B.bytes
  have hr := B.returns
  have hts := atoms_spec (ws := wc) B.pre
  have hown : s.vm.findClass y.cls = some m.cls := findClass_of_methodNamed B.named
  have hlocks := B.notSynchronized
  subst hsz
  have hD := hD0.self (sz := s.heap.size)
  have hl := lv_entry av (n := maxL) hlen
  rw [hlv] at hl
  rw [lg_entry_eq]
  refine (body ((p, l, e, rm, s), (m, av.toArray, below, meth, c), (maxL, D, va_A w0 s.heap.size, MQ below (va_Qi post (mB D tys (va_A w0 s.heap.size) w) (va_A w0 s.heap.size)) av.toArray s mc ms (va_A w0 s.heap.size))) rfl rfl ⟨hx, hb, hml, hown, hts, hK, fun q h => Or.inr h, rfl, rfl⟩ ?_) s.heap [] _ hl hP hD va_S.rf
  intro pc lv r u hdg hn hpost H locs ls hl' hP' hD' hS'
  exact W.zret hx hb hr hn (fun t ht hW => ⟨⟨r, u, rfl, hpost, by rw [ht]; exact hP', va_K.moved hW.alike hK, hD'⟩, hS'.F ht⟩) hS'.2.2 hdg
theorem MetV_of {S : Type} {l : Launch} {y : MethodName} {wc wc' : List Cond} {rm : Room} {D : va_G} {tys : List (ClassId × FieldType)} {av : List Value} {w0 : va_W} {w : S → va_W} {post : S → Prop} {mc ms maxL : Nat} {cc : ByteArray} {lv0 : List (Nat × Value)}
    (hy : plainName y.cls = true) (hw : wc = Cond.code y cc maxL none :: wc') (hlen : (lg_sl av).length ≤ maxL) (hlv : lv_args 0 av = lv0)
    (body : ∀ K : gK, K.1.2.1 = l → K.2.2.2.1 = D → Cx K rm maxL cc y.cls wc tys → K.2.1.2.2.2.1.name = y.name → (∀ (pc : Nat) (lv : List (Nat × Value)) (u : S), decode cc pc = .ok (.return_, 1) → post u → G K mc ms pc lv [] (w u)) → G K 0 0 0 lv0 [] w0) :
    MetV l y wc rm D tys av w0 w post mc ms := by
  intro sz
  refine Met.ofW (cc := cc) (maxL := maxL) (ret := none) hy hw ?_
  intro p e s m args below meth c s₁ B hml hv
  obtain ⟨rfl, hsz, hP, hK, hD0⟩ := hv
  have hx := B.exec
  have hb := B.bytes
  have hr := B.returns
  have hts := atoms_spec (ws := wc) B.pre
  have hown : s.vm.findClass y.cls = some m.cls := findClass_of_methodNamed B.named
  have hlocks := B.notSynchronized
  subst hsz
  have hD := hD0.self (sz := s.heap.size)
  have hl := lv_entry av (n := maxL) hlen
  rw [hlv] at hl
  rw [lg_entry_eq]
  refine (body ((p, l, e, rm, s), (m, av.toArray, below, meth, c), (maxL, D, va_A w0 s.heap.size, MQ below (va_Qv post (mB D tys (va_A w0 s.heap.size) w) (va_A w0 s.heap.size)) av.toArray s mc ms (va_A w0 s.heap.size))) rfl rfl ⟨hx, hb, hml, hown, hts, hK, fun q h => Or.inr h, rfl, rfl⟩ ((name_of_methodNamed B.named B.method).1) ?_) s.heap [] _ hl hP hD va_S.rf
  intro pc lv u hdg hpost H locs ls hl' hP' hD' hS'
  exact W.vret hx hb hr (fun t ht hW => ⟨⟨u, rfl, hpost, by rw [ht]; exact hP', va_K.moved hW.alike hK, hD'⟩, hS'.F ht⟩) hS'.2.2 hdg
section GC
variable {K : gK} {R : Room} {nL cz sz pc : Nat} {cc : ByteArray} {own : String} {Ts : List Cond} {tys : List (ClassId × FieldType)} {lv : List (Nat × Value)} {st : List Value}
theorem wF {A0 : Nat → Prop} {wr w0 : va_W} {H0 H : Heap} {locs : List Loc} (hD : va_D A0 (wr ++ w0)) (hS : va_S A0 H0 H locs) (hA : ∀ q, H0.size ≤ q → A0 q) : ∀ q, va_A w0 H.size q → A0 q := by
  intro q h
  rcases h with ⟨k, e, h⟩ | h
  · exact (wd_right hD).2 k (q, e) h
  · exact hA q (Nat.le_trans hS.1 h)
theorem g_callI (wr : va_W) {S : Type} {y : MethodName} {wc wc' : List Cond} {rm : Room} {As rest : List Value} {w0 : va_W} {w : S → va_W} {post : Int32 → S → Prop} {mc ms index maxL n b ci q0 : Nat} {bytes : ByteArray} {ret : Option FieldType} {fs : List Value} {Cn : String} {T : u_T} {N : Nat} (C : Cx K R nL cc own Ts tys)
    (hM : MetI K.1.2.1 y wc rm K.2.2.2.1 tys (.ref b :: As) w0 w post mc ms) (hG : GoodIn Ts (wsV own index Cn y wc)) (hw : wc = Cond.code y bytes maxL ret :: wc') (hrc : rm.cells = mc) (hrs : rm.slots = ms)
    (hd : y.cls = Cn ∧ y.cls ≠ "java/lang/invoke/MethodHandle" ∧ y.cls ≠ "java/lang/invoke/VarHandle" ∧ (parseMethodDescriptor y.desc).map (fun d => d.parameters.length) = some n) (hR : (rm.frames + 1 ≤ R.frames ∧ 8 + (maxL + 11) + rm.locals ≤ R.locals) ∧ cz + mc ≤ R.cells ∧ sz + ms ≤ R.slots)
    (hc : vwCl[ci]? = some (Cn, T, N)) (he : w0[q0]? = some (b, .inr (ci, fs))) (hn : As.length = n) (hst : st = As.reverse ++ .ref b :: rest) (hro : (rest.map fun v => v.category).sum ≤ 8) (hdg : decode cc pc = .ok (.invokevirtual index, 3))
    (kk : ∀ (r : Int32) (u : S), post r u → G K (cz + mc) (sz + ms) (pc + 3) lv (.int r :: rest) (wr ++ w u)) : G K cz sz pc lv st (wr ++ w0) := by
  intro H locs ls hl hP hD hS
  obtain ⟨hx, hb, hml, hown, hts, hK, hA, hR0, hnL⟩ := C
  have hF := wF hD hS hA
  refine va_calli (va_runV (As := As) (rest := rest) ⟨hx, hb, hml, hown, hts⟩ (hM H.size) (cwV n hts hG hw hrc hrs hd (by rw [hR0]; exact hR.1)) ⟨mBlind, va_recv hK (wl_right hP) hc he, fun U hU hW => ⟨rfl, by rw [hU], by rw [hU]; exact wl_right hP, va_K.moved hW.alike hK, (wd_right hD).weaken (fun _ _ _ _ => trivial)⟩⟩ rfl hn hl.1 hst (lv_room hro) hdg (by rw [hR0]; exact hR.2)) hS (fun q _ h => hF q h) hF (fun r u t H1 locs1 ht hvm hpost hB hz1 hk1 hS1 => ?_)
  obtain ⟨hPu, -, hDu⟩ := hB
  rw [ht] at hPu
  obtain ⟨hP2, hD2⟩ := wj hP hD hk1 hF hPu hDu
  exact kk r u hpost H1 locs1 ls hl hP2 hD2 hS1
theorem g_callV (wr : va_W) {S : Type} {y : MethodName} {wc wc' : List Cond} {rm : Room} {As rest : List Value} {w0 : va_W} {w : S → va_W} {post : S → Prop} {mc ms index maxL n b ci q0 : Nat} {bytes : ByteArray} {ret : Option FieldType} {fs : List Value} {Cn : String} {T : u_T} {N : Nat} (C : Cx K R nL cc own Ts tys)
    (hM : MetV K.1.2.1 y wc rm K.2.2.2.1 tys (.ref b :: As) w0 w post mc ms) (hG : GoodIn Ts (wsV own index Cn y wc)) (hw : wc = Cond.code y bytes maxL ret :: wc') (hrc : rm.cells = mc) (hrs : rm.slots = ms)
    (hd : y.cls = Cn ∧ y.cls ≠ "java/lang/invoke/MethodHandle" ∧ y.cls ≠ "java/lang/invoke/VarHandle" ∧ (parseMethodDescriptor y.desc).map (fun d => d.parameters.length) = some n) (hR : (rm.frames + 1 ≤ R.frames ∧ 8 + (maxL + 11) + rm.locals ≤ R.locals) ∧ cz + mc ≤ R.cells ∧ sz + ms ≤ R.slots)
    (hc : vwCl[ci]? = some (Cn, T, N)) (he : w0[q0]? = some (b, .inr (ci, fs))) (hn : As.length = n) (hst : st = As.reverse ++ .ref b :: rest) (hro : (rest.map fun v => v.category).sum ≤ 8) (hdg : decode cc pc = .ok (.invokevirtual index, 3))
    (kk : ∀ (u : S), post u → G K (cz + mc) (sz + ms) (pc + 3) lv rest (wr ++ w u)) : G K cz sz pc lv st (wr ++ w0) := by
  intro H locs ls hl hP hD hS
  obtain ⟨hx, hb, hml, hown, hts, hK, hA, hR0, hnL⟩ := C
  have hF := wF hD hS hA
  refine va_callv (va_runV (As := As) (rest := rest) ⟨hx, hb, hml, hown, hts⟩ (hM H.size) (cwV n hts hG hw hrc hrs hd (by rw [hR0]; exact hR.1)) ⟨mBlind, va_recv hK (wl_right hP) hc he, fun U hU hW => ⟨rfl, by rw [hU], by rw [hU]; exact wl_right hP, va_K.moved hW.alike hK, (wd_right hD).weaken (fun _ _ _ _ => trivial)⟩⟩ rfl hn hl.1 hst (lv_room hro) hdg (by rw [hR0]; exact hR.2)) hS (fun q _ h => hF q h) hF (fun u t H1 locs1 ht hvm hpost hB hz1 hk1 hS1 => ?_)
  obtain ⟨hPu, -, hDu⟩ := hB
  rw [ht] at hPu
  obtain ⟨hP2, hD2⟩ := wj hP hD hk1 hF hPu hDu
  exact kk u hpost H1 locs1 ls hl hP2 hD2 hS1
/-- a call of a constructor -/
theorem g_callC (wr : va_W) {S : Type} {y : MethodName} {wc wc' : List Cond} {rm : Room} {As rest : List Value} {w0 : va_W} {w : S → va_W} {post : S → Prop} {mc ms index maxL n b : Nat} {bytes : ByteArray} (C : Cx K R nL cc own Ts tys)
    (hM : MetV K.1.2.1 y wc rm K.2.2.2.1 tys (.ref b :: As) w0 w post mc ms) (hG : GoodIn Ts wc) (hw : wc = Cond.code y bytes maxL none :: wc') (hrc : rm.cells = mc) (hrs : rm.slots = ms) (hm : ∀ w ∈ ([Cond.initialized y.cls, Cond.methodLink own index y, Cond.instanceMethod y] : List Cond), w ∈ Ts) (hy1 : y.name = "<init>")
    (hd : y.cls ≠ "java/lang/invoke/MethodHandle" ∧ y.cls ≠ "java/lang/invoke/VarHandle" ∧ (parseMethodDescriptor y.desc).map (fun d => d.parameters.length) = some n) (hR : (rm.frames + 1 ≤ R.frames ∧ 8 + (maxL + 11) + rm.locals ≤ R.locals) ∧ cz + mc ≤ R.cells ∧ sz + ms ≤ R.slots)
    (hn : As.length = n) (hst : st = As.reverse ++ .ref b :: rest) (hro : (rest.map fun v => v.category).sum ≤ 8) (hdg : decode cc pc = .ok (.invokespecial index, 3))
    (kk : ∀ (u : S), post u → G K (cz + mc) (sz + ms) (pc + 3) lv rest (wr ++ w u)) : G K cz sz pc lv st (wr ++ w0) := by
  intro H locs ls hl hP hD hS
  obtain ⟨hx, hb, hml, hown, hts, hK, hA, hR0, hnL⟩ := C
  have hF := wF hD hS hA
  have ok : ∀ w ∈ ([Cond.initialized y.cls, Cond.methodLink own index y, Cond.instanceMethod y] : List Cond), w.before K.2.1.2.1 K.1.2.2.2.2 = true := fun w h => hts w (hm w h)
  refine va_callv (va_runI (As := As) (rest := rest) ⟨hx, hb, hml, hown, hts⟩ (hM H.size) (cwI n hts hG hw hrc hrs (ok _ (List.mem_of_getElem? (i := 0) rfl)) (ok _ (List.mem_of_getElem? (i := 1) rfl)) (ok _ (List.mem_of_getElem? (i := 2) rfl)) hy1 hd (by rw [hR0]; exact hR.1)) ⟨mBlind, fun U hU hW => ⟨rfl, by rw [hU], by rw [hU]; exact wl_right hP, va_K.moved hW.alike hK, (wd_right hD).weaken (fun _ _ _ _ => trivial)⟩⟩ rfl hn hl.1 hst (lv_room hro) hdg (by rw [hR0]; exact hR.2)) hS (fun q _ h => hF q h) hF (fun u t H1 locs1 ht hvm hpost hB hz1 hk1 hS1 => ?_)
  obtain ⟨hPu, -, hDu⟩ := hB
  rw [ht] at hPu
  obtain ⟨hP2, hD2⟩ := wj hP hD hk1 hF hPu hDu
  exact kk u hpost H1 locs1 ls hl hP2 hD2 hS1
/-- a call of a static method that needs no world -/
theorem g_callS {y : MethodName} {wc wc' : List Cond} {rm : Room} {As rest : List Value} {post : Int32 → Unit → Prop} {index maxL n : Nat} {bytes : ByteArray} {ret : Option FieldType} {ws : va_W} (C : Cx K R nL cc own Ts tys)
    (hM : MetI (S := Unit) K.1.2.1 y wc rm K.2.2.2.1 tys As [] (fun _ => []) post 0 0) (hG : GoodIn Ts (va_wsS own index y wc)) (hw : wc = Cond.code y bytes maxL ret :: wc') (hrc : rm.cells = 0) (hrs : rm.slots = 0)
    (hd : y.cls ≠ "java/lang/invoke/MethodHandle" ∧ y.cls ≠ "java/lang/invoke/VarHandle" ∧ (parseMethodDescriptor y.desc).map (fun d => d.parameters.length) = some n) (hR : (rm.frames + 1 ≤ R.frames ∧ 8 + (maxL + 11) + rm.locals ≤ R.locals) ∧ cz + 0 ≤ R.cells ∧ sz + 0 ≤ R.slots)
    (hn : As.length = n) (hst : st = As.reverse ++ rest) (hro : (rest.map fun v => v.category).sum ≤ 8) (hdg : decode cc pc = .ok (.invokestatic index, 3))
    (kk : ∀ (r : Int32), post r () → G K cz sz (pc + 3) lv (.int r :: rest) ws) : G K cz sz pc lv st ws := by
  intro H locs ls hl hP hD hS
  obtain ⟨hx, hb, hml, hown, hts, hK, hA, hR0, hnL⟩ := C
  have hP' : va_P K.2.2.2.1 vwCl (ws ++ []) H := by rw [List.append_nil]; exact hP
  have hD' : va_D K.2.2.2.2.1 (ws ++ []) := by rw [List.append_nil]; exact hD
  have hF := wF hD' hS hA
  refine va_calli (va_runS (As := As) (rest := rest) ⟨hx, hb, hml, hown, hts⟩ (hM H.size) (va_cwS n hts hG hw hrc hrs hd (by rw [hR0]; exact hR.1)) ⟨mBlind, fun U hU hW => ⟨rfl, by rw [hU], by rw [hU]; exact wl_right hP', va_K.moved hW.alike hK, (wd_right hD').weaken (fun _ _ _ _ => trivial)⟩⟩ rfl hn hl.1 hst (lv_room hro) hdg (by rw [hR0]; exact hR.2)) hS (fun q _ h => hF q h) hF (fun r u t H1 locs1 ht hvm hpost hB hz1 hk1 hS1 => ?_)
  obtain ⟨hPu, -, hDu⟩ := hB
  rw [ht] at hPu
  obtain ⟨hP2, hD2⟩ := wj hP' hD' hk1 hF hPu hDu
  rw [List.append_nil] at hP2 hD2
  exact kk r hpost H1 locs1 ls hl hP2 hD2 hS1
/-- a new int array -/
theorem g_newa {ws : va_W} {cA : ClassId} {N : Nat} (C : Cx K R nL cc own Ts [(cA, .int)]) (hm : Cond.arrayClass .int ∈ Ts) (hdg : decode cc pc = .ok (.newarray .int, 2)) (hN : N < 100000) (hR : cz + 1 ≤ R.cells ∧ sz + N ≤ R.slots)
    (kk : ∀ q : Nat, G K (cz + 1) (sz + N) (pc + 2) lv (.ref q :: st) (ws ++ [(q, .inl (cA, N, .inl (fun _ => 0)))])) : G K cz sz pc lv (.int (nI N) :: st) ws := by
  intro H locs ls hl hP hD hS
  obtain ⟨hx, hb, hml, hown, hts, hK, hA, hR0, hnL⟩ := C
  refine va_newa (ty := .int) (N' := N) (a0 := (N, .inl (fun _ => 0))) hx hb (atype := .int) (hts (Cond.arrayClass (newarray.typeOf .int)) hm) rfl hK hP hD hS hA (fun _ => rfl) (nI_pos (by omega)) (nI_clamp (by omega)) (by show N * 4 ≤ 536870912; omega) (by rw [hR0]; exact hR.1) (by rw [hR0]; exact hR.2) hdg (fun q cA' H1 hK1 hP1 hD1 hS1 => ?_)
  have e1 : K.1.2.2.2.2.vm.findClass ("[" ++ FieldType.int.toString) = some cA := (hK.2 0 (cA, .int) rfl).2
  have e2 : K.1.2.2.2.2.vm.findClass ("[" ++ FieldType.int.toString) = some cA' := (hK1.2 1 (cA', .int) rfl).2
  have e3 : cA' = cA := Option.some.inj (e2.symm.trans e1)
  subst e3
  exact kk q H1 locs ls hl hP1 hD1 hS1
/-- Object() -/
theorem g_objInit {ws : va_W} {index a : Nat} (C : Cx K R nL cc own Ts tys) (hm : ∀ w ∈ ([Cond.methodLink own index objectInit, Cond.instanceMethod objectInit, Cond.code objectInit ⟨#[0xb1]⟩ 1 none] : List Cond), w ∈ Ts) (hdg : decode cc pc = .ok (.invokespecial index, 3)) (hR : 1 ≤ R.frames ∧ (st.map fun v => v.category).sum + 12 ≤ R.locals)
    (kk : G K cz sz (pc + 3) lv st ws) : G K cz sz pc lv (.ref a :: st) ws := by
  intro H locs ls hl hP hD hS
  obtain ⟨hx, hb, hml, hown, hts, hK, hA, hR0, hnL⟩ := C
  have ok : ∀ w ∈ ([Cond.methodLink own index objectInit, Cond.instanceMethod objectInit, Cond.code objectInit ⟨#[0xb1]⟩ 1 none] : List Cond), w.before K.2.1.2.1 K.1.2.2.2.2 = true := fun w h => hts w (hm w h)
  refine W.objInit hx hb hown (ok _ (List.mem_of_getElem? (i := 0) rfl)) (ok _ (List.mem_of_getElem? (i := 1) rfl)) (ok _ (List.mem_of_getElem? (i := 2) rfl)) rfl (by rw [hml]; exact hl.1) rfl hdg (by rw [hR0]; exact hR.1) (by rw [hR0]; show 2 * 0 + _ + 12 ≤ _; have := hR.2; omega) ?_
  exact kk H locs ls hl hP hD hS
end GC
section GC0
variable {K : gK} {R : Room} {nL cz sz pc : Nat} {cc : ByteArray} {own : String} {Ts : List Cond} {tys : List (ClassId × FieldType)} {lv : List (Nat × Value)} {st : List Value}
theorem g_callI0 {S : Type} {y : MethodName} {wc wc' : List Cond} {rm : Room} {As rest : List Value} {w0 : va_W} {w : S → va_W} {post : Int32 → S → Prop} {index maxL n b ci q0 : Nat} {bytes : ByteArray} {ret : Option FieldType} {fs : List Value} {Cn : String} {T : u_T} {N : Nat} (C : Cx K R nL cc own Ts tys)
    (hM : MetI K.1.2.1 y wc rm K.2.2.2.1 tys (.ref b :: As) w0 w post 0 0) (hG : GoodIn Ts (wsV own index Cn y wc)) (hw : wc = Cond.code y bytes maxL ret :: wc') (hrc : rm.cells = 0) (hrs : rm.slots = 0)
    (hd : y.cls = Cn ∧ y.cls ≠ "java/lang/invoke/MethodHandle" ∧ y.cls ≠ "java/lang/invoke/VarHandle" ∧ (parseMethodDescriptor y.desc).map (fun d => d.parameters.length) = some n) (hR : (rm.frames + 1 ≤ R.frames ∧ 8 + (maxL + 11) + rm.locals ≤ R.locals) ∧ cz ≤ R.cells ∧ sz ≤ R.slots)
    (hc : vwCl[ci]? = some (Cn, T, N)) (he : w0[q0]? = some (b, .inr (ci, fs))) (hn : As.length = n) (hst : st = As.reverse ++ .ref b :: rest) (hro : (rest.map fun v => v.category).sum ≤ 8) (hdg : decode cc pc = .ok (.invokevirtual index, 3))
    (kk : ∀ (r : Int32) (u : S), post r u → G K cz sz (pc + 3) lv (.int r :: rest) (w u)) : G K cz sz pc lv st w0 :=
  g_callI [] C hM hG hw hrc hrs hd hR hc he hn hst hro hdg kk
theorem g_callV0 {S : Type} {y : MethodName} {wc wc' : List Cond} {rm : Room} {As rest : List Value} {w0 : va_W} {w : S → va_W} {post : S → Prop} {index maxL n b ci q0 : Nat} {bytes : ByteArray} {ret : Option FieldType} {fs : List Value} {Cn : String} {T : u_T} {N : Nat} (C : Cx K R nL cc own Ts tys)
    (hM : MetV K.1.2.1 y wc rm K.2.2.2.1 tys (.ref b :: As) w0 w post 0 0) (hG : GoodIn Ts (wsV own index Cn y wc)) (hw : wc = Cond.code y bytes maxL ret :: wc') (hrc : rm.cells = 0) (hrs : rm.slots = 0)
    (hd : y.cls = Cn ∧ y.cls ≠ "java/lang/invoke/MethodHandle" ∧ y.cls ≠ "java/lang/invoke/VarHandle" ∧ (parseMethodDescriptor y.desc).map (fun d => d.parameters.length) = some n) (hR : (rm.frames + 1 ≤ R.frames ∧ 8 + (maxL + 11) + rm.locals ≤ R.locals) ∧ cz ≤ R.cells ∧ sz ≤ R.slots)
    (hc : vwCl[ci]? = some (Cn, T, N)) (he : w0[q0]? = some (b, .inr (ci, fs))) (hn : As.length = n) (hst : st = As.reverse ++ .ref b :: rest) (hro : (rest.map fun v => v.category).sum ≤ 8) (hdg : decode cc pc = .ok (.invokevirtual index, 3))
    (kk : ∀ (u : S), post u → G K cz sz (pc + 3) lv rest (w u)) : G K cz sz pc lv st w0 :=
  g_callV [] C hM hG hw hrc hrs hd hR hc he hn hst hro hdg kk
end GC0
end
section
/-! pure words of both classes -/
noncomputable def bI (P : Prop) : Int32 := @ite _ P (Classical.propDecidable P) 1 0
theorem bI_t {P : Prop} (h : P) : bI P = nI 1 := by unfold bI; rw [if_pos h]; rfl
theorem bI_f {P : Prop} (h : ¬ P) : bI P = nI 0 := by unfold bI; rw [if_neg h]; rfl
theorem bI_0 {P : Prop} (h : bI P = 0) : ¬ P := fun hp => by rw [bI_t hp] at h; exact absurd h (by decide)
theorem bI_1 {P : Prop} (h : ¬ bI P = 0) : P := Classical.byContradiction (fun hp => h (by rw [bI_f hp]; rfl))
theorem bI_nar (P : Prop) : narrow .boolean (.int (bI P)) = .int (bI P) := by
  by_cases h : P
  · rw [bI_t h]; decide
  · rw [bI_f h]; decide
theorem bI_congr {P Q : Prop} (h : P ↔ Q) : bI P = bI Q := by rw [propext h]
def hh (k : Int32) : Nat := k.toBitVec.toNat % 2 ^ 31
theorem hh_lt (k : Int32) : hh k < 2 ^ 31 := Nat.mod_lt _ (by decide)
theorem hh_and (k : Int32) : k &&& 2147483647 = nI (hh k) := pk_and k 31 (by decide)
def rd (b lv : Nat) : Nat := b * 2 ^ lv
theorem rd_0 (b : Nat) : rd b 0 = b := by unfold rd; omega
theorem rd_s (b lv : Nat) : rd b (lv + 1) = 2 * rd b lv := by unfold rd; rw [Nat.pow_succ, ← Nat.mul_assoc]; omega
theorem rd_pos {b : Nat} (lv : Nat) (h : 1 ≤ b) : 1 ≤ rd b lv := by
  induction lv with
  | zero => rw [rd_0]; exact h
  | succ n ih => rw [rd_s]; omega
theorem rd_ge {b : Nat} (lv : Nat) : b ≤ rd b lv := by
  induction lv with
  | zero => rw [rd_0]; exact Nat.le_refl _
  | succ n ih => rw [rd_s]; omega
theorem rd_lv {b lv : Nat} (hb : 1 ≤ b) (h : rd b lv ≤ 200) : lv ≤ 7 := by
  have h1 : 2 ^ lv ≤ rd b lv := by unfold rd; exact Nat.le_mul_of_pos_left _ hb
  rcases Nat.lt_or_ge 7 lv with h2 | h2
  · have : 2 ^ 8 ≤ 2 ^ lv := Nat.pow_le_pow_right (by decide) h2
    omega
  · exact h2
theorem rd_shl {b lv : Nat} (hl : lv ≤ 7) (h : rd b lv ≤ 200) : nI b <<< (nI lv &&& 31) = nI (rd b lv) := by
  have h31 : ∀ n, n < 8 → ((nI n &&& 31).toBitVec.smod 32).toNat = n := by decide
  unfold rd at h ⊢
  exact pk_shlN _ lv (h31 lv (by omega)) (by omega)
def bk (b lv pt : Nat) (k : Int32) : Nat := if hh k % rd b lv < pt then hh k % (2 * rd b lv) else hh k % rd b lv
theorem bk_lt {b lv pt : Nat} (k : Int32) (h0 : 1 ≤ rd b lv) : bk b lv pt k < rd b lv + pt := by
  unfold bk
  have h1 : hh k % rd b lv < rd b lv := Nat.mod_lt _ (by omega)
  have h2 : hh k % (2 * rd b lv) < 2 * rd b lv := Nat.mod_lt _ (by omega)
  have h3 : hh k % (2 * rd b lv) % rd b lv = hh k % rd b lv := Nat.mod_mod_of_dvd _ ⟨2, Nat.mul_comm _ _⟩
  split
  · rename_i h
    rcases Nat.lt_or_ge (hh k % (2 * rd b lv)) (rd b lv) with h4 | h4
    · omega
    · have h5 := Nat.mod_eq_sub_mod h4
      have h6 : (hh k % (2 * rd b lv) - rd b lv) % rd b lv = hh k % (2 * rd b lv) - rd b lv := Nat.mod_eq_of_lt (by omega)
      omega
  · omega
def okS (b c pl bl n lv pt : Nat) : Prop := 1 ≤ b ∧ b ≤ 8 ∧ 1 ≤ c ∧ c ≤ 8 ∧ 8 ≤ pl ∧ pl ≤ 300 ∧ b ≤ bl ∧ bl ≤ 200 ∧ n ≤ 512 ∧ pt < rd b lv ∧ rd b lv + pt ≤ bl ∧ lv ≤ 7
theorem ok_m1 {b c pl bl n lv pt : Nat} (h : okS b c pl bl n lv pt) : c * (rd b lv + pt) ≤ 1600 := by
  obtain ⟨h1, h2, h3, h4, h5, h6, h7, h8, h9, h10, h11, h12⟩ := h
  have := Nat.mul_le_mul h4 (show rd b lv + pt ≤ 200 by omega)
  omega
theorem ok_m3 {b c pl bl n lv pt : Nat} (h : okS b c pl bl n lv pt) : 3 * c * (rd b lv + pt) ≤ 4800 := by
  have := ok_m1 h
  rw [Nat.mul_assoc]
  omega
def ct (g : Nat → Nat) (q : Nat) : Nat → Nat
  | 0 => 0
  | n + 1 => ct g q n + (if g n = q then 1 else 0)
def sm (F : Nat → Nat) : Nat → Nat
  | 0 => 0
  | n + 1 => sm F n + F n
def pg (c n : Nat) : Nat := if n = 0 then 1 else (n + c - 1) / c
def nd (c : Nat) (g : Nat → Nat) (n B : Nat) : Nat := sm (fun q => pg c (ct g q n)) B
theorem ct_le (g : Nat → Nat) (q n : Nat) : ct g q n ≤ n := by
  induction n with
  | zero => exact Nat.le_refl _
  | succ n ih => unfold ct; split <;> omega
theorem ct_congr {g g' : Nat → Nat} {q n : Nat} (h : ∀ j, j < n → g j = g' j) : ct g q n = ct g' q n := by
  induction n with
  | zero => rfl
  | succ n ih => unfold ct; rw [ih (fun j hj => h j (by omega)), h n (by omega)]
theorem sm_congr {F F' : Nat → Nat} {n : Nat} (h : ∀ j, j < n → F j = F' j) : sm F n = sm F' n := by
  induction n with
  | zero => rfl
  | succ n ih => unfold sm; rw [ih (fun j hj => h j (by omega)), h n (by omega)]
theorem sm_le {F : Nat → Nat} {n M : Nat} (h : ∀ j, j < n → F j ≤ M) : sm F n ≤ n * M := by
  induction n with
  | zero => exact Nat.zero_le _
  | succ n ih =>
    unfold sm
    have h1 := ih (fun j hj => h j (by omega))
    have h2 := h n (by omega)
    rw [Nat.succ_mul]
    omega
theorem sm_mul {F F' : Nat → Nat} {n c : Nat} (h : ∀ j, j < n → F j ≤ c * F' j) : sm F n ≤ c * sm F' n := by
  induction n with
  | zero => exact Nat.zero_le _
  | succ n ih =>
    unfold sm
    have h1 := ih (fun j hj => h j (by omega))
    have h2 := h n (by omega)
    rw [Nat.mul_add]
    omega
theorem sm_one {B x : Nat} : sm (fun q => if x = q then 1 else 0) B = if x < B then 1 else 0 := by
  induction B with
  | zero => rfl
  | succ B ih =>
    unfold sm
    rw [ih]
    split <;> split <;> split <;> omega
theorem sm_add {F F' : Nat → Nat} {n : Nat} : sm (fun q => F q + F' q) n = sm F n + sm F' n := by
  induction n with
  | zero => rfl
  | succ n ih => unfold sm; rw [ih]; omega
theorem sm_zero {n : Nat} : sm (fun _ => 0) n = 0 := by
  induction n with
  | zero => rfl
  | succ n ih => unfold sm; rw [ih]
theorem sm_ct {g : Nat → Nat} {n B : Nat} (h : ∀ j, j < n → g j < B) : sm (fun q => ct g q n) B = n := by
  induction n with
  | zero => exact sm_zero
  | succ n ih =>
    have h1 : sm (fun q => ct g q (n + 1)) B = sm (fun q => ct g q n + (if g n = q then 1 else 0)) B := rfl
    rw [h1, sm_add (F := fun q => ct g q n) (F' := fun q => if g n = q then 1 else 0), ih (fun j hj => h j (by omega)), sm_one, if_pos (h n (by omega))]
theorem pg_le {c n : Nat} (hc : 1 ≤ c) : pg c n ≤ n + 1 := by
  unfold pg
  split
  · omega
  · have : (n + c - 1) / c ≤ n := by
      rw [Nat.div_le_iff_le_mul_add_pred (by omega)]
      have := Nat.mul_le_mul hc (Nat.le_refl n)
      omega
    omega
theorem pg_ge {c n : Nat} (hc : 1 ≤ c) : n ≤ c * pg c n := by
  unfold pg
  split
  · omega
  · have h1 := Nat.div_add_mod (n + c - 1) c
    have h2 := Nat.mod_lt (n + c - 1) (show 0 < c by omega)
    omega
theorem pg_max {c n : Nat} (hc : 1 ≤ c) (hn : n + c < 2 ^ 31) : (if nI 1 < nI ((n + c - 1) / c) then nI ((n + c - 1) / c) else nI 1) = nI (pg c n) := by
  have hq : (n + c - 1) / c ≤ n + c - 1 := Nat.div_le_self _ _
  unfold pg
  by_cases h0 : n = 0
  · subst h0
    rw [if_pos rfl, show (0 + c - 1) / c = 0 from Nat.div_eq_of_lt (by omega), if_neg (by decide)]
  · rw [if_neg h0]
    have h1 : 1 ≤ (n + c - 1) / c := by
      rw [Nat.le_div_iff_mul_le (by omega)]
      omega
    by_cases h : 1 < (n + c - 1) / c
    · rw [if_pos ((nI_ltI (by decide) (by omega)).mpr h)]
    · rw [if_neg (fun q => h ((nI_ltI (by decide) (by omega)).mp q))]
      rw [show (n + c - 1) / c = 1 by omega]
theorem nd_le {c n B : Nat} {g : Nat → Nat} (hc : 1 ≤ c) (hn : n ≤ 600) (hB : B ≤ 200) : nd c g n B ≤ 130000 := by
  have h1 : nd c g n B ≤ B * 601 := sm_le (fun q _ => by have h2 := pg_le (c := c) (n := ct g q n) hc; have h3 := ct_le g q n; omega)
  omega
theorem nd_ge {c n B : Nat} {g : Nat → Nat} (hc : 1 ≤ c) (h : ∀ j, j < n → g j < B) : n ≤ c * nd c g n B := by
  have h1 := sm_mul (F := fun q => ct g q n) (F' := fun q => pg c (ct g q n)) (n := B) (c := c) (fun q _ => pg_ge hc)
  rw [sm_ct h] at h1
  exact h1
theorem nd_congr {c n B : Nat} {g g' : Nat → Nat} (h : ∀ j, j < n → g j = g' j) : nd c g n B = nd c g' n B := sm_congr (fun q _ => by rw [ct_congr h])
-- the pointer goes on and back
def fwL (b lv pt : Nat) : Nat := if pt + 1 = rd b lv then lv + 1 else lv
def fwP (b lv pt : Nat) : Nat := if pt + 1 = rd b lv then 0 else pt + 1
def bwL (pt lv : Nat) : Nat := if pt = 0 then lv - 1 else lv
def bwP (b lv pt : Nat) : Nat := if pt = 0 then rd b (lv - 1) - 1 else pt - 1
theorem ok_fw {b c pl bl n lv pt : Nat} (h : okS b c pl bl n lv pt) (hB : rd b lv + pt < bl) : okS b c pl bl n (fwL b lv pt) (fwP b lv pt) := by
  obtain ⟨h1, h2, h3, h4, h5, h6, h7, h8, h9, h10, h11, h12⟩ := h
  unfold fwL fwP
  by_cases e : pt + 1 = rd b lv
  · rw [if_pos e, if_pos e]
    have hs := rd_s b lv
    exact ⟨h1, h2, h3, h4, h5, h6, h7, h8, h9, by omega, by omega, rd_lv h1 (by omega)⟩
  · rw [if_neg e, if_neg e]
    exact ⟨h1, h2, h3, h4, h5, h6, h7, h8, h9, by omega, by omega, h12⟩
theorem lv_pos {b lv pt : Nat} (hB : b < rd b lv + pt) (hp : pt = 0) : 1 ≤ lv := by
  rcases Nat.eq_zero_or_pos lv with h | h
  · subst h; rw [rd_0] at hB; omega
  · exact h
theorem ok_bw {b c pl bl n lv pt : Nat} (h : okS b c pl bl n lv pt) (hB : b < rd b lv + pt) : okS b c pl bl n (bwL pt lv) (bwP b lv pt) := by
  obtain ⟨h1, h2, h3, h4, h5, h6, h7, h8, h9, h10, h11, h12⟩ := h
  unfold bwL bwP
  by_cases e : pt = 0
  · rw [if_pos e, if_pos e]
    have hl := lv_pos hB e
    have hs := rd_s b (lv - 1)
    rw [show lv - 1 + 1 = lv by omega] at hs
    exact ⟨h1, h2, h3, h4, h5, h6, h7, h8, h9, by omega, by omega, by omega⟩
  · rw [if_neg e, if_neg e]
    exact ⟨h1, h2, h3, h4, h5, h6, h7, h8, h9, by omega, by omega, h12⟩
theorem bw_fw {b lv pt : Nat} (hr : 1 ≤ rd b lv) : bwL (fwP b lv pt) (fwL b lv pt) = lv ∧ bwP b (fwL b lv pt) (fwP b lv pt) = pt := by
  unfold bwL bwP fwL fwP
  by_cases e : pt + 1 = rd b lv
  · simp only [if_pos e, if_true]
    refine ⟨by omega, ?_⟩
    rw [show lv + 1 - 1 = lv by omega]; omega
  · simp only [if_neg e]
    rw [if_neg (by omega), if_neg (by omega)]
    exact ⟨rfl, by omega⟩
theorem ok_n {b c pl bl n n' lv pt : Nat} (h : okS b c pl bl n lv pt) (hn : n' ≤ 512) : okS b c pl bl n' lv pt := by
  obtain ⟨h1, h2, h3, h4, h5, h6, h7, h8, h9, h10, h11, h12⟩ := h
  exact ⟨h1, h2, h3, h4, h5, h6, h7, h8, hn, h10, h11, h12⟩
-- rows
def sh (f : Nat → Int32) (a m : Nat) : Nat → Int32 := fun j => if a ≤ j ∧ j < m then f (j + 1) else f j
theorem sh_0 (f : Nat → Int32) (a : Nat) : sh f a a = f := funext fun j => by unfold sh; rw [if_neg (by omega)]
theorem sh_s (f : Nat → Int32) {a m : Nat} (h : a ≤ m) : upd (sh f a m) m (sh f a m (m + 1)) = sh f a (m + 1) := funext fun j => by
  by_cases e : j = m
  · subst e
    rw [pk_us]; unfold sh; rw [if_neg (by omega), if_pos (by omega)]
  · rw [pk_un e]; unfold sh
    by_cases e2 : a ≤ j ∧ j < m
    · rw [if_pos e2, if_pos (by omega)]
    · rw [if_neg e2, if_neg (by omega)]
theorem sh_lt {f : Nat → Int32} {a m j : Nat} (h : j < a ∨ m ≤ j) : sh f a m j = f j := by unfold sh; rw [if_neg (by omega)]
theorem sh_in {f : Nat → Int32} {a m j : Nat} (h : a ≤ j) (h2 : j < m) : sh f a m j = f (j + 1) := by unfold sh; rw [if_pos ⟨h, h2⟩]
def mv (f : Nat → Int32) (a n : Nat) : Nat → Int32 := upd (sh f a (n - 1)) (n - 1) (f a)
theorem mv_last {f : Nat → Int32} {a n : Nat} : mv f a n (n - 1) = f a := pk_us
theorem mv_ne {f : Nat → Int32} {a n j : Nat} (h : j ≠ n - 1) : mv f a n j = sh f a (n - 1) j := pk_un h
theorem mv_congr {f g : Nat → Int32} {a n : Nat} (ha : a < n) (h : ∀ j, j < n → f j = g j) : ∀ j, j < n → mv f a n j = mv g a n j := by
  intro j hj
  by_cases e : j = n - 1
  · subst e; rw [mv_last, mv_last]; exact h a ha
  · rw [mv_ne e, mv_ne e]; unfold sh
    split
    · exact h _ (by omega)
    · exact h _ hj
theorem sh_congr {f g : Nat → Int32} {a m n : Nat} (hm : m < n) (h : ∀ j, j < n → f j = g j) : ∀ j, j < n → sh f a m j = sh g a m j := by
  intro j hj
  unfold sh
  split
  · exact h _ (by omega)
  · exact h _ hj
def mb (g : Int32 → Nat) (q n : Nat) : Nat → Nat → (Nat → Int32) → (Nat → Int32) → (Nat → Int32) × (Nat → Int32)
  | 0, _, fk, fv => (fk, fv)
  | t + 1, a, fk, fv => if g (fk a) = q then mb g q n t a (mv fk a n) (mv fv a n) else mb g q n t (a + 1) fk fv
theorem mb_congr {g : Int32 → Nat} {q n : Nat} : ∀ (t a : Nat) (fk fv gk gv : Nat → Int32), a + t ≤ n → (∀ j, j < n → fk j = gk j) → (∀ j, j < n → fv j = gv j) → ∀ j, j < n → (mb g q n t a fk fv).1 j = (mb g q n t a gk gv).1 j ∧ (mb g q n t a fk fv).2 j = (mb g q n t a gk gv).2 j := by
  intro t
  induction t with
  | zero => intro a fk fv gk gv _ h1 h2 j hj; exact ⟨h1 j hj, h2 j hj⟩
  | succ t ih =>
    intro a fk fv gk gv ha h1 h2
    unfold mb
    rw [h1 a (by omega)]
    split
    · exact ih a _ _ _ _ (by omega) (mv_congr (by omega) h1) (mv_congr (by omega) h2)
    · exact ih (a + 1) _ _ _ _ (by omega) h1 h2
def dst (f : Nat → Int32) (n : Nat) : Prop := ∀ i j, i < n → j < n → f i = f j → i = j
theorem dst_congr {f g : Nat → Int32} {n : Nat} (h : ∀ j, j < n → f j = g j) (hd : dst f n) : dst g n := fun i j hi hj e => hd i j hi hj (by rw [h i hi, h j hj]; exact e)
theorem mv_at (f : Nat → Int32) {a n : Nat} (ha : a < n) (j : Nat) (hj : j < n) : mv f a n j = f (if j = n - 1 then a else if a ≤ j then j + 1 else j) := by
  by_cases e : j = n - 1
  · rw [if_pos e]; subst e; exact mv_last
  · rw [if_neg e, mv_ne e]
    by_cases e2 : a ≤ j
    · rw [if_pos e2, sh_in e2 (by omega)]
    · rw [if_neg e2, sh_lt (by omega)]
theorem mv_dst {f : Nat → Int32} {a n : Nat} (ha : a < n) (hd : dst f n) : dst (mv f a n) n := by
  intro i j hi hj e
  rw [mv_at f ha i hi, mv_at f ha j hj] at e
  have b1 : ∀ x, x < n → (if x = n - 1 then a else if a ≤ x then x + 1 else x) < n := by
    intro x hx
    split
    · omega
    · split <;> omega
  have h := hd _ _ (b1 i hi) (b1 j hj) e
  split at h <;> split at h <;> (try split at h) <;> (try split at h) <;> omega
theorem mb_dst {g : Int32 → Nat} {q n : Nat} : ∀ (t a : Nat) (fk fv : Nat → Int32), a + t ≤ n → dst fk n → dst (mb g q n t a fk fv).1 n := by
  intro t
  induction t with
  | zero => intro a fk fv _ h; exact h
  | succ t ih =>
    intro a fk fv ha h
    unfold mb
    split
    · exact ih a _ _ (by omega) (mv_dst (by omega) h)
    · exact ih (a + 1) _ _ (by omega) h
/-- a key is taken out: the last of its row comes to its place -/
theorem cut_dst {f : Nat → Int32} {a l n : Nat} (ha : a ≤ l) (hl : l < n) (hd : dst f n) : dst (sh (upd f a (f l)) l (n - 1)) (n - 1) := by
  have at' : ∀ j, j < n - 1 → sh (upd f a (f l)) l (n - 1) j = f (if l ≤ j then j + 1 else if j = a then l else j) := by
    intro j hj
    by_cases e : l ≤ j
    · rw [if_pos e, sh_in e hj, pk_un (by omega)]
    · rw [if_neg e, sh_lt (by omega)]
      by_cases e2 : j = a
      · rw [if_pos e2]; subst e2; exact pk_us
      · rw [if_neg e2, pk_un e2]
  intro i j hi hj e
  rw [at' i hi, at' j hj] at e
  have b1 : ∀ x, x < n - 1 → (if l ≤ x then x + 1 else if x = a then l else x) < n := by
    intro x hx
    split
    · omega
    · split <;> omega
  have h := hd _ _ (b1 i hi) (b1 j hj) e
  split at h <;> split at h <;> (try split at h) <;> (try split at h) <;> omega
theorem add_dst {f : Nat → Int32} {n : Nat} {k : Int32} (hd : dst f n) (hk : ∀ j, j < n → f j ≠ k) : dst (upd f n k) (n + 1) := by
  intro i j hi hj e
  by_cases h1 : i = n <;> by_cases h2 : j = n
  · omega
  · subst h1; rw [pk_us, pk_un h2] at e; exact absurd e.symm (hk j (by omega))
  · subst h2; rw [pk_us, pk_un h1] at e; exact absurd e (hk i (by omega))
  · rw [pk_un h1, pk_un h2] at e; exact hd i j (by omega) (by omega) e
end
section
/-! the two worlds, links -/
abbrev wX (h0 hk hv hr : Nat) (cA : ClassId) (nk nr b c pl bl n lv pt : Nat) (fk fv fr : Nat → Int32) : va_W :=
  [(h0, .inr (0, [.int (nI b), .int (nI c), .int (nI pl), .int (nI bl), .ref hk, .ref hv, .int (nI n), .int (nI lv), .int (nI pt), .ref hr])), (hk, .inl (cA, nk, .inl fk)), (hv, .inl (cA, nk, .inl fv)), (hr, .inl (cA, nr, .inl fr))]
abbrev wM (g0 gk gv gh gc : Nat) (cA : ClassId) (b c pl bl n lv pt : Nat) (fk fv fh fc : Nat → Int32) : va_W :=
  [(g0, .inr (1, [.int (nI b), .int (nI c), .int (nI pl), .int (nI bl), .int (nI n), .ref gk, .ref gv, .ref gh, .int (nI lv), .int (nI pt), .ref gc])), (gk, .inl (cA, 2401, .inl fk)), (gv, .inl (cA, 2401, .inl fv)), (gh, .inl (cA, 2401, .inl fh)), (gc, .inl (cA, 200, .inl fc))]
theorem nI_m1 {j : Nat} (h : j < 2 ^ 31) : ¬ nI j = -1 := fun e => nI_pos h (by rw [e]; decide)
theorem ib_neg {x : Int32} {B : Nat} (h : x < 0) (hB : B < 2 ^ 31) : ¬ ∃ j, j < B ∧ x = nI j := fun ⟨j, h1, h2⟩ => nI_pos (n := j) (by omega) (h2 ▸ h)
theorem ib_big {x : Int32} {B : Nat} (h : nI B ≤ x) (hB : B < 2 ^ 31) : ¬ ∃ j, j < B ∧ x = nI j := fun ⟨j, h1, h2⟩ => nI_ge h1 hB (h2 ▸ h)
theorem ib_ok {x : Int32} {B : Nat} (h0 : ¬ x < 0) (h : ¬ nI B ≤ x) (hB : B < 2 ^ 31) : ∃ j, j < B ∧ x = nI j := by
  rcases pk_ix x hB with q | q | q
  · exact absurd q h0
  · exact absurd q h
  · exact q
theorem pdX0_6 : parseFieldDescriptor (TX0 6).2.2.1 = some .int := by decide +kernel
theorem pdX0_7 : parseFieldDescriptor (TX0 7).2.2.1 = some .int := by decide +kernel
theorem pdX0_8 : parseFieldDescriptor (TX0 8).2.2.1 = some .int := by decide +kernel
theorem pdX1_4 : parseFieldDescriptor (TX1 4).2.2.1 = some .int := by decide +kernel
theorem pdX1_8 : parseFieldDescriptor (TX1 8).2.2.1 = some .int := by decide +kernel
theorem pdX1_9 : parseFieldDescriptor (TX1 9).2.2.1 = some .int := by decide +kernel
theorem dec_x (m : Nat) : (m = 0 ∧ nI m + Int32.ofInt (-1) = -1) ∨ (∃ k, m = k + 1 ∧ nI m + Int32.ofInt (-1) = nI k) := by
  cases m with
  | zero => exact Or.inl ⟨rfl, by decide⟩
  | succ k => exact Or.inr ⟨k, rfl, pk_m1 k⟩
theorem dec_n (m : Nat) : (m = 0 ∧ nI m - nI 1 = -1) ∨ (∃ k, m = k + 1 ∧ nI m - nI 1 = nI k) := by
  cases m with
  | zero => exact Or.inl ⟨rfl, by decide⟩
  | succ k => exact Or.inr ⟨k, rfl, nI_pred k⟩
theorem up_all {f : Nat → Int32} {i : Nat} {z : Int32} (h : ∀ q, q < i → f q = z) : ∀ q, q < i + 1 → upd f i z q = z := fun q hq => by
  by_cases e : q = i
  · rw [e]; exact pk_us
  · rw [pk_un e]; exact h q (by omega)
theorem ct_eq {g : Nat → Nat} {q i : Nat} (h : g i = q) : ct g q (i + 1) = ct g q i + 1 := by
  show ct g q i + (if g i = q then 1 else 0) = _
  rw [if_pos h]
theorem ct_ne {g : Nat → Nat} {q i : Nat} (h : g i ≠ q) : ct g q (i + 1) = ct g q i := by
  show ct g q i + (if g i = q then 1 else 0) = _
  rw [if_neg h]; rfl
theorem ct_up {g : Nat → Nat} {B k : Nat} {f : Nat → Int32} (h : ∀ q, q < B → f q = nI (ct g q k)) : ∀ q, q < B → upd f (g k) (nI (ct g (g k) k + 1)) q = nI (ct g q (k + 1)) := fun q hq => by
  by_cases e : q = g k
  · subst e; rw [pk_us, ct_eq rfl]
  · rw [pk_un e, ct_ne (fun z => e z.symm)]; exact h q hq
theorem mb_t {g : Int32 → Nat} {q n t a : Nat} {fk fv : Nat → Int32} (h : g (fk a) = q) : mb g q n (t + 1) a fk fv = mb g q n t a (mv fk a n) (mv fv a n) := by
  show (if g (fk a) = q then _ else _) = _
  rw [if_pos h]
theorem mb_f {g : Int32 → Nat} {q n t a : Nat} {fk fv : Nat → Int32} (h : g (fk a) ≠ q) : mb g q n (t + 1) a fk fv = mb g q n t (a + 1) fk fv := by
  show (if g (fk a) = q then _ else _) = _
  rw [if_neg h]
/-- level and pointer behind a put of a new key -/
def pL (b c bl n1 lv pt : Nat) : Nat := if 3 * c * (rd b lv + pt) < 4 * n1 ∧ rd b lv + pt < bl then fwL b lv pt else lv
def pP (b c bl n1 lv pt : Nat) : Nat := if 3 * c * (rd b lv + pt) < 4 * n1 ∧ rd b lv + pt < bl then fwP b lv pt else pt
def ndP (b c n L P : Nat) (fk : Nat → Int32) : Nat := nd c (fun j => bk b L P (fk j)) n (rd b L + P)
def newP (b c pl bl n lv pt : Nat) (fk fv : Nat → Int32) (k v r : Int32) (n' lv' pt' : Nat) (fk' fv' : Nat → Int32) : Prop :=
  (ndP b c (n + 1) (pL b c bl (n + 1) lv pt) (pP b c bl (n + 1) lv pt) (upd fk n k) ≤ pl ∧ r = nI 0 ∧ n' = n + 1 ∧ lv' = pL b c bl (n + 1) lv pt ∧ pt' = pP b c bl (n + 1) lv pt ∧ fk' = upd fk n k ∧ fv' = upd fv n v) ∨
  (pl < ndP b c (n + 1) (pL b c bl (n + 1) lv pt) (pP b c bl (n + 1) lv pt) (upd fk n k) ∧ r = nI 2 ∧ n' = n ∧ lv' = lv ∧ pt' = pt ∧ fk' = upd fk n k ∧ fv' = upd fv n v)
abbrev XS : Type := Nat × Nat × Nat × (Nat → Int32) × (Nat → Int32) × (Nat → Int32)
def oldP (n : Nat) (fk fv : Nat → Int32) (k v r : Int32) (n' lv' pt' lv pt : Nat) (fk' fv' : Nat → Int32) : Prop := ∃ j, j < n ∧ fk j = k ∧ r = nI 1 ∧ n' = n ∧ lv' = lv ∧ pt' = pt ∧ fk' = fk ∧ fv' = upd fv j v
/-- m is the last of its bucket's row, a a place of it -/
def lastP (b n lv pt : Nat) (fk : Nat → Int32) (a m : Nat) : Prop := a ≤ m ∧ m < n ∧ bk b lv pt (fk m) = bk b lv pt (fk a) ∧ ∀ i, m < i → i < n → bk b lv pt (fk i) ≠ bk b lv pt (fk a)
def keyP (b n lv pt : Nat) (fk : Nat → Int32) (x y r : Int32) : Prop :=
  (∃ q z i, q < rd b lv + pt ∧ x = nI q ∧ z < 2 ^ 31 ∧ y = nI z ∧ i < n ∧ bk b lv pt (fk i) = q ∧ ct (fun j => bk b lv pt (fk j)) q i = z ∧ (∀ i', i' < i → bk b lv pt (fk i') = q → ct (fun j => bk b lv pt (fk j)) q i' ≠ z) ∧ r = fk i) ∨
  ((∀ q z i, q < rd b lv + pt → x = nI q → z < 2 ^ 31 → y = nI z → i < n → bk b lv pt (fk i) = q → ct (fun j => bk b lv pt (fk j)) q i ≠ z) ∧ r = -1)
theorem inX0_bucketOf : ∀ w ∈ wsX00, w ∈ wsX0_bucketOf := fun w h => List.mem_cons_of_mem _ (List.mem_append_right _ h)
theorem lkX0_bucketOf_70 : Cond.fieldLink RX0 70 (TX0 8).1 (TX0 8).2.1 (TX0 8).2.2.1 ∈ wsX0_bucketOf := by decide +kernel
theorem inX0_buckets : ∀ w ∈ wsX00, w ∈ wsX0_buckets := fun w h => List.mem_cons_of_mem _ (List.mem_append_right _ h)
theorem lkX0_buckets_70 : Cond.fieldLink RX0 70 (TX0 8).1 (TX0 8).2.1 (TX0 8).2.2.1 ∈ wsX0_buckets := by decide +kernel
theorem inX0_bucketsAtLevelStart : ∀ w ∈ wsX00, w ∈ wsX0_bucketsAtLevelStart := fun w h => List.mem_cons_of_mem _ (List.mem_append_right _ h)
theorem lkX0_bucketsAtLevelStart_13 : Cond.fieldLink RX0 13 (TX0 0).1 (TX0 0).2.1 (TX0 0).2.2.1 ∈ wsX0_bucketsAtLevelStart := by decide +kernel
theorem lkX0_bucketsAtLevelStart_73 : Cond.fieldLink RX0 73 (TX0 7).1 (TX0 7).2.1 (TX0 7).2.2.1 ∈ wsX0_bucketsAtLevelStart := by decide +kernel
theorem inX0_clear : ∀ w ∈ wsX00, w ∈ wsX0_clear := fun w h => List.mem_cons_of_mem _ (List.mem_append_right _ h)
theorem lkX0_clear_46 : Cond.fieldLink RX0 46 (TX0 6).1 (TX0 6).2.1 (TX0 6).2.2.1 ∈ wsX0_clear := by decide +kernel
theorem lkX0_clear_70 : Cond.fieldLink RX0 70 (TX0 8).1 (TX0 8).2.1 (TX0 8).2.2.1 ∈ wsX0_clear := by decide +kernel
theorem lkX0_clear_73 : Cond.fieldLink RX0 73 (TX0 7).1 (TX0 7).2.1 (TX0 7).2.2.1 ∈ wsX0_clear := by decide +kernel
theorem inX0_free : ∀ w ∈ wsX00, w ∈ wsX0_free := fun w h => List.mem_cons_of_mem _ (List.mem_append_right _ h)
theorem lkX0_free_20 : Cond.fieldLink RX0 20 (TX0 2).1 (TX0 2).2.1 (TX0 2).2.2.1 ∈ wsX0_free := by decide +kernel
theorem inX0_get : ∀ w ∈ wsX00, w ∈ wsX0_get := fun w h => List.mem_cons_of_mem _ (List.mem_append_right _ h)
theorem lkX0_get_36 : Cond.fieldLink RX0 36 (TX0 5).1 (TX0 5).2.1 (TX0 5).2.2.1 ∈ wsX0_get := by decide +kernel
theorem inX0_isCrowded : ∀ w ∈ wsX00, w ∈ wsX0_isCrowded := fun w h => List.mem_cons_of_mem _ (List.mem_append_right _ h)
theorem lkX0_isCrowded_17 : Cond.fieldLink RX0 17 (TX0 1).1 (TX0 1).2.1 (TX0 1).2.2.1 ∈ wsX0_isCrowded := by decide +kernel
theorem lkX0_isCrowded_46 : Cond.fieldLink RX0 46 (TX0 6).1 (TX0 6).2.1 (TX0 6).2.2.1 ∈ wsX0_isCrowded := by decide +kernel
theorem inX0_isSparse : ∀ w ∈ wsX00, w ∈ wsX0_isSparse := fun w h => List.mem_cons_of_mem _ (List.mem_append_right _ h)
theorem lkX0_isSparse_17 : Cond.fieldLink RX0 17 (TX0 1).1 (TX0 1).2.1 (TX0 1).2.2.1 ∈ wsX0_isSparse := by decide +kernel
theorem lkX0_isSparse_46 : Cond.fieldLink RX0 46 (TX0 6).1 (TX0 6).2.1 (TX0 6).2.2.1 ∈ wsX0_isSparse := by decide +kernel
theorem inX0_join : ∀ w ∈ wsX00, w ∈ wsX0_join := fun w h => List.mem_cons_of_mem _ (List.mem_append_right _ h)
theorem lkX0_join_70 : Cond.fieldLink RX0 70 (TX0 8).1 (TX0 8).2.1 (TX0 8).2.2.1 ∈ wsX0_join := by decide +kernel
theorem lkX0_join_73 : Cond.fieldLink RX0 73 (TX0 7).1 (TX0 7).2.1 (TX0 7).2.2.1 ∈ wsX0_join := by decide +kernel
theorem inX0_key : ∀ w ∈ wsX00, w ∈ wsX0_key := fun w h => List.mem_cons_of_mem _ (List.mem_append_right _ h)
theorem lkX0_key_32 : Cond.fieldLink RX0 32 (TX0 4).1 (TX0 4).2.1 (TX0 4).2.2.1 ∈ wsX0_key := by decide +kernel
theorem lkX0_key_46 : Cond.fieldLink RX0 46 (TX0 6).1 (TX0 6).2.1 (TX0 6).2.2.1 ∈ wsX0_key := by decide +kernel
theorem inX0_lastPlaceOfBucket : ∀ w ∈ wsX00, w ∈ wsX0_lastPlaceOfBucket := fun w h => List.mem_cons_of_mem _ (List.mem_append_right _ h)
theorem lkX0_lastPlaceOfBucket_32 : Cond.fieldLink RX0 32 (TX0 4).1 (TX0 4).2.1 (TX0 4).2.2.1 ∈ wsX0_lastPlaceOfBucket := by decide +kernel
theorem lkX0_lastPlaceOfBucket_46 : Cond.fieldLink RX0 46 (TX0 6).1 (TX0 6).2.1 (TX0 6).2.2.1 ∈ wsX0_lastPlaceOfBucket := by decide +kernel
theorem inX0_level : ∀ w ∈ wsX00, w ∈ wsX0_level := fun w h => List.mem_cons_of_mem _ (List.mem_append_right _ h)
theorem lkX0_level_73 : Cond.fieldLink RX0 73 (TX0 7).1 (TX0 7).2.1 (TX0 7).2.2.1 ∈ wsX0_level := by decide +kernel
theorem inX0_moveBucketToEnd : ∀ w ∈ wsX00, w ∈ wsX0_moveBucketToEnd := fun w h => List.mem_cons_of_mem _ (List.mem_append_right _ h)
theorem lkX0_moveBucketToEnd_32 : Cond.fieldLink RX0 32 (TX0 4).1 (TX0 4).2.1 (TX0 4).2.2.1 ∈ wsX0_moveBucketToEnd := by decide +kernel
theorem lkX0_moveBucketToEnd_46 : Cond.fieldLink RX0 46 (TX0 6).1 (TX0 6).2.1 (TX0 6).2.2.1 ∈ wsX0_moveBucketToEnd := by decide +kernel
theorem inX0_moveToEnd : ∀ w ∈ wsX00, w ∈ wsX0_moveToEnd := fun w h => List.mem_cons_of_mem _ (List.mem_append_right _ h)
theorem lkX0_moveToEnd_32 : Cond.fieldLink RX0 32 (TX0 4).1 (TX0 4).2.1 (TX0 4).2.2.1 ∈ wsX0_moveToEnd := by decide +kernel
theorem lkX0_moveToEnd_36 : Cond.fieldLink RX0 36 (TX0 5).1 (TX0 5).2.1 (TX0 5).2.2.1 ∈ wsX0_moveToEnd := by decide +kernel
theorem lkX0_moveToEnd_46 : Cond.fieldLink RX0 46 (TX0 6).1 (TX0 6).2.1 (TX0 6).2.2.1 ∈ wsX0_moveToEnd := by decide +kernel
theorem inX0_pages : ∀ w ∈ wsX00, w ∈ wsX0_pages := fun w h => List.mem_cons_of_mem _ (List.mem_append_right _ h)
theorem lkX0_pages_32 : Cond.fieldLink RX0 32 (TX0 4).1 (TX0 4).2.1 (TX0 4).2.2.1 ∈ wsX0_pages := by decide +kernel
theorem lkX0_pages_46 : Cond.fieldLink RX0 46 (TX0 6).1 (TX0 6).2.1 (TX0 6).2.2.1 ∈ wsX0_pages := by decide +kernel
theorem inX0_pagesFor : ∀ w ∈ wsX00, w ∈ wsX0_pagesFor := fun w h => List.mem_cons_of_mem _ (List.mem_append_right _ h)
theorem lkX0_pagesFor_17 : Cond.fieldLink RX0 17 (TX0 1).1 (TX0 1).2.1 (TX0 1).2.2.1 ∈ wsX0_pagesFor := by decide +kernel
theorem inX0_pagesNeeded : ∀ w ∈ wsX00, w ∈ wsX0_pagesNeeded := fun w h => List.mem_cons_of_mem _ (List.mem_append_right _ h)
theorem lkX0_pagesNeeded_32 : Cond.fieldLink RX0 32 (TX0 4).1 (TX0 4).2.1 (TX0 4).2.2.1 ∈ wsX0_pagesNeeded := by decide +kernel
theorem lkX0_pagesNeeded_39 : Cond.fieldLink RX0 39 (TX0 9).1 (TX0 9).2.1 (TX0 9).2.2.1 ∈ wsX0_pagesNeeded := by decide +kernel
theorem lkX0_pagesNeeded_46 : Cond.fieldLink RX0 46 (TX0 6).1 (TX0 6).2.1 (TX0 6).2.2.1 ∈ wsX0_pagesNeeded := by decide +kernel
theorem inX0_part : ∀ w ∈ wsX00, w ∈ wsX0_part := fun w h => List.mem_cons_of_mem _ (List.mem_append_right _ h)
theorem lkX0_part_70 : Cond.fieldLink RX0 70 (TX0 8).1 (TX0 8).2.1 (TX0 8).2.2.1 ∈ wsX0_part := by decide +kernel
theorem lkX0_part_73 : Cond.fieldLink RX0 73 (TX0 7).1 (TX0 7).2.1 (TX0 7).2.2.1 ∈ wsX0_part := by decide +kernel
theorem inX0_placeOf : ∀ w ∈ wsX00, w ∈ wsX0_placeOf := fun w h => List.mem_cons_of_mem _ (List.mem_append_right _ h)
theorem lkX0_placeOf_32 : Cond.fieldLink RX0 32 (TX0 4).1 (TX0 4).2.1 (TX0 4).2.2.1 ∈ wsX0_placeOf := by decide +kernel
theorem lkX0_placeOf_46 : Cond.fieldLink RX0 46 (TX0 6).1 (TX0 6).2.1 (TX0 6).2.2.1 ∈ wsX0_placeOf := by decide +kernel
theorem inX0_pointer : ∀ w ∈ wsX00, w ∈ wsX0_pointer := fun w h => List.mem_cons_of_mem _ (List.mem_append_right _ h)
theorem lkX0_pointer_70 : Cond.fieldLink RX0 70 (TX0 8).1 (TX0 8).2.1 (TX0 8).2.2.1 ∈ wsX0_pointer := by decide +kernel
theorem inX0_put : ∀ w ∈ wsX00, w ∈ wsX0_put := fun w h => List.mem_cons_of_mem _ (List.mem_append_right _ h)
theorem lkX0_put_32 : Cond.fieldLink RX0 32 (TX0 4).1 (TX0 4).2.1 (TX0 4).2.2.1 ∈ wsX0_put := by decide +kernel
theorem lkX0_put_36 : Cond.fieldLink RX0 36 (TX0 5).1 (TX0 5).2.1 (TX0 5).2.2.1 ∈ wsX0_put := by decide +kernel
theorem lkX0_put_46 : Cond.fieldLink RX0 46 (TX0 6).1 (TX0 6).2.1 (TX0 6).2.2.1 ∈ wsX0_put := by decide +kernel
theorem inX0_putNew : ∀ w ∈ wsX00, w ∈ wsX0_putNew := fun w h => List.mem_cons_of_mem _ (List.mem_append_right _ h)
theorem lkX0_putNew_20 : Cond.fieldLink RX0 20 (TX0 2).1 (TX0 2).2.1 (TX0 2).2.2.1 ∈ wsX0_putNew := by decide +kernel
theorem lkX0_putNew_23 : Cond.fieldLink RX0 23 (TX0 3).1 (TX0 3).2.1 (TX0 3).2.2.1 ∈ wsX0_putNew := by decide +kernel
theorem lkX0_putNew_32 : Cond.fieldLink RX0 32 (TX0 4).1 (TX0 4).2.1 (TX0 4).2.2.1 ∈ wsX0_putNew := by decide +kernel
theorem lkX0_putNew_36 : Cond.fieldLink RX0 36 (TX0 5).1 (TX0 5).2.1 (TX0 5).2.2.1 ∈ wsX0_putNew := by decide +kernel
theorem lkX0_putNew_46 : Cond.fieldLink RX0 46 (TX0 6).1 (TX0 6).2.1 (TX0 6).2.2.1 ∈ wsX0_putNew := by decide +kernel
theorem lkX0_putNew_70 : Cond.fieldLink RX0 70 (TX0 8).1 (TX0 8).2.1 (TX0 8).2.2.1 ∈ wsX0_putNew := by decide +kernel
theorem lkX0_putNew_73 : Cond.fieldLink RX0 73 (TX0 7).1 (TX0 7).2.1 (TX0 7).2.2.1 ∈ wsX0_putNew := by decide +kernel
theorem inX0_remove : ∀ w ∈ wsX00, w ∈ wsX0_remove := fun w h => List.mem_cons_of_mem _ (List.mem_append_right _ h)
theorem lkX0_remove_13 : Cond.fieldLink RX0 13 (TX0 0).1 (TX0 0).2.1 (TX0 0).2.2.1 ∈ wsX0_remove := by decide +kernel
theorem inX0_size : ∀ w ∈ wsX00, w ∈ wsX0_size := fun w h => List.mem_cons_of_mem _ (List.mem_append_right _ h)
theorem lkX0_size_46 : Cond.fieldLink RX0 46 (TX0 6).1 (TX0 6).2.1 (TX0 6).2.2.1 ∈ wsX0_size := by decide +kernel
theorem inX0_takeOut : ∀ w ∈ wsX00, w ∈ wsX0_takeOut := fun w h => List.mem_cons_of_mem _ (List.mem_append_right _ h)
theorem lkX0_takeOut_32 : Cond.fieldLink RX0 32 (TX0 4).1 (TX0 4).2.1 (TX0 4).2.2.1 ∈ wsX0_takeOut := by decide +kernel
theorem lkX0_takeOut_36 : Cond.fieldLink RX0 36 (TX0 5).1 (TX0 5).2.1 (TX0 5).2.2.1 ∈ wsX0_takeOut := by decide +kernel
theorem lkX0_takeOut_46 : Cond.fieldLink RX0 46 (TX0 6).1 (TX0 6).2.1 (TX0 6).2.2.1 ∈ wsX0_takeOut := by decide +kernel
theorem inX1_back : ∀ w ∈ wsX10, w ∈ wsX1_back := fun w h => List.mem_cons_of_mem _ (List.mem_append_right _ h)
theorem lkX1_back_35 : Cond.fieldLink RX1 35 (TX1 8).1 (TX1 8).2.1 (TX1 8).2.2.1 ∈ wsX1_back := by decide +kernel
theorem lkX1_back_42 : Cond.fieldLink RX1 42 (TX1 9).1 (TX1 9).2.1 (TX1 9).2.2.1 ∈ wsX1_back := by decide +kernel
theorem inX1_bucketOf : ∀ w ∈ wsX10, w ∈ wsX1_bucketOf := fun w h => List.mem_cons_of_mem _ (List.mem_append_right _ h)
theorem lkX1_bucketOf_42 : Cond.fieldLink RX1 42 (TX1 9).1 (TX1 9).2.1 (TX1 9).2.2.1 ∈ wsX1_bucketOf := by decide +kernel
theorem inX1_buckets : ∀ w ∈ wsX10, w ∈ wsX1_buckets := fun w h => List.mem_cons_of_mem _ (List.mem_append_right _ h)
theorem lkX1_buckets_42 : Cond.fieldLink RX1 42 (TX1 9).1 (TX1 9).2.1 (TX1 9).2.2.1 ∈ wsX1_buckets := by decide +kernel
theorem inX1_clear : ∀ w ∈ wsX10, w ∈ wsX1_clear := fun w h => List.mem_cons_of_mem _ (List.mem_append_right _ h)
theorem lkX1_clear_35 : Cond.fieldLink RX1 35 (TX1 8).1 (TX1 8).2.1 (TX1 8).2.2.1 ∈ wsX1_clear := by decide +kernel
theorem lkX1_clear_42 : Cond.fieldLink RX1 42 (TX1 9).1 (TX1 9).2.1 (TX1 9).2.2.1 ∈ wsX1_clear := by decide +kernel
theorem lkX1_clear_46 : Cond.fieldLink RX1 46 (TX1 4).1 (TX1 4).2.1 (TX1 4).2.2.1 ∈ wsX1_clear := by decide +kernel
theorem inX1_count : ∀ w ∈ wsX10, w ∈ wsX1_count := fun w h => List.mem_cons_of_mem _ (List.mem_append_right _ h)
theorem lkX1_count_16 : Cond.fieldLink RX1 16 (TX1 7).1 (TX1 7).2.1 (TX1 7).2.2.1 ∈ wsX1_count := by decide +kernel
theorem lkX1_count_19 : Cond.fieldLink RX1 19 (TX1 10).1 (TX1 10).2.1 (TX1 10).2.2.1 ∈ wsX1_count := by decide +kernel
theorem lkX1_count_46 : Cond.fieldLink RX1 46 (TX1 4).1 (TX1 4).2.1 (TX1 4).2.2.1 ∈ wsX1_count := by decide +kernel
theorem inX1_cut : ∀ w ∈ wsX10, w ∈ wsX1_cut := fun w h => List.mem_cons_of_mem _ (List.mem_append_right _ h)
theorem lkX1_cut_7 : Cond.fieldLink RX1 7 (TX1 5).1 (TX1 5).2.1 (TX1 5).2.2.1 ∈ wsX1_cut := by decide +kernel
theorem lkX1_cut_13 : Cond.fieldLink RX1 13 (TX1 6).1 (TX1 6).2.1 (TX1 6).2.2.1 ∈ wsX1_cut := by decide +kernel
theorem lkX1_cut_16 : Cond.fieldLink RX1 16 (TX1 7).1 (TX1 7).2.1 (TX1 7).2.2.1 ∈ wsX1_cut := by decide +kernel
theorem lkX1_cut_46 : Cond.fieldLink RX1 46 (TX1 4).1 (TX1 4).2.1 (TX1 4).2.2.1 ∈ wsX1_cut := by decide +kernel
theorem inX1_find : ∀ w ∈ wsX10, w ∈ wsX1_find := fun w h => List.mem_cons_of_mem _ (List.mem_append_right _ h)
theorem lkX1_find_7 : Cond.fieldLink RX1 7 (TX1 5).1 (TX1 5).2.1 (TX1 5).2.2.1 ∈ wsX1_find := by decide +kernel
theorem lkX1_find_46 : Cond.fieldLink RX1 46 (TX1 4).1 (TX1 4).2.1 (TX1 4).2.2.1 ∈ wsX1_find := by decide +kernel
theorem inX1_forth : ∀ w ∈ wsX10, w ∈ wsX1_forth := fun w h => List.mem_cons_of_mem _ (List.mem_append_right _ h)
theorem lkX1_forth_35 : Cond.fieldLink RX1 35 (TX1 8).1 (TX1 8).2.1 (TX1 8).2.2.1 ∈ wsX1_forth := by decide +kernel
theorem lkX1_forth_42 : Cond.fieldLink RX1 42 (TX1 9).1 (TX1 9).2.1 (TX1 9).2.2.1 ∈ wsX1_forth := by decide +kernel
theorem inX1_free : ∀ w ∈ wsX10, w ∈ wsX1_free := fun w h => List.mem_cons_of_mem _ (List.mem_append_right _ h)
theorem lkX1_free_29 : Cond.fieldLink RX1 29 (TX1 2).1 (TX1 2).2.1 (TX1 2).2.2.1 ∈ wsX1_free := by decide +kernel
theorem inX1_get : ∀ w ∈ wsX10, w ∈ wsX1_get := fun w h => List.mem_cons_of_mem _ (List.mem_append_right _ h)
theorem lkX1_get_13 : Cond.fieldLink RX1 13 (TX1 6).1 (TX1 6).2.1 (TX1 6).2.2.1 ∈ wsX1_get := by decide +kernel
theorem inX1_key : ∀ w ∈ wsX10, w ∈ wsX1_key := fun w h => List.mem_cons_of_mem _ (List.mem_append_right _ h)
theorem lkX1_key_7 : Cond.fieldLink RX1 7 (TX1 5).1 (TX1 5).2.1 (TX1 5).2.2.1 ∈ wsX1_key := by decide +kernel
theorem lkX1_key_16 : Cond.fieldLink RX1 16 (TX1 7).1 (TX1 7).2.1 (TX1 7).2.2.1 ∈ wsX1_key := by decide +kernel
theorem lkX1_key_46 : Cond.fieldLink RX1 46 (TX1 4).1 (TX1 4).2.1 (TX1 4).2.2.1 ∈ wsX1_key := by decide +kernel
theorem inX1_level : ∀ w ∈ wsX10, w ∈ wsX1_level := fun w h => List.mem_cons_of_mem _ (List.mem_append_right _ h)
theorem lkX1_level_35 : Cond.fieldLink RX1 35 (TX1 8).1 (TX1 8).2.1 (TX1 8).2.2.1 ∈ wsX1_level := by decide +kernel
theorem inX1_needed : ∀ w ∈ wsX10, w ∈ wsX1_needed := fun w h => List.mem_cons_of_mem _ (List.mem_append_right _ h)
theorem lkX1_needed_19 : Cond.fieldLink RX1 19 (TX1 10).1 (TX1 10).2.1 (TX1 10).2.2.1 ∈ wsX1_needed := by decide +kernel
theorem inX1_pages : ∀ w ∈ wsX10, w ∈ wsX1_pages := fun w h => List.mem_cons_of_mem _ (List.mem_append_right _ h)
theorem lkX1_pages_19 : Cond.fieldLink RX1 19 (TX1 10).1 (TX1 10).2.1 (TX1 10).2.2.1 ∈ wsX1_pages := by decide +kernel
theorem inX1_pagesFor : ∀ w ∈ wsX10, w ∈ wsX1_pagesFor := fun w h => List.mem_cons_of_mem _ (List.mem_append_right _ h)
theorem lkX1_pagesFor_26 : Cond.fieldLink RX1 26 (TX1 1).1 (TX1 1).2.1 (TX1 1).2.2.1 ∈ wsX1_pagesFor := by decide +kernel
theorem inX1_pointer : ∀ w ∈ wsX10, w ∈ wsX1_pointer := fun w h => List.mem_cons_of_mem _ (List.mem_append_right _ h)
theorem lkX1_pointer_42 : Cond.fieldLink RX1 42 (TX1 9).1 (TX1 9).2.1 (TX1 9).2.2.1 ∈ wsX1_pointer := by decide +kernel
theorem inX1_put : ∀ w ∈ wsX10, w ∈ wsX1_put := fun w h => List.mem_cons_of_mem _ (List.mem_append_right _ h)
theorem lkX1_put_7 : Cond.fieldLink RX1 7 (TX1 5).1 (TX1 5).2.1 (TX1 5).2.2.1 ∈ wsX1_put := by decide +kernel
theorem lkX1_put_13 : Cond.fieldLink RX1 13 (TX1 6).1 (TX1 6).2.1 (TX1 6).2.2.1 ∈ wsX1_put := by decide +kernel
theorem lkX1_put_26 : Cond.fieldLink RX1 26 (TX1 1).1 (TX1 1).2.1 (TX1 1).2.2.1 ∈ wsX1_put := by decide +kernel
theorem lkX1_put_29 : Cond.fieldLink RX1 29 (TX1 2).1 (TX1 2).2.1 (TX1 2).2.2.1 ∈ wsX1_put := by decide +kernel
theorem lkX1_put_32 : Cond.fieldLink RX1 32 (TX1 3).1 (TX1 3).2.1 (TX1 3).2.2.1 ∈ wsX1_put := by decide +kernel
theorem lkX1_put_46 : Cond.fieldLink RX1 46 (TX1 4).1 (TX1 4).2.1 (TX1 4).2.2.1 ∈ wsX1_put := by decide +kernel
theorem inX1_remove : ∀ w ∈ wsX10, w ∈ wsX1_remove := fun w h => List.mem_cons_of_mem _ (List.mem_append_right _ h)
theorem lkX1_remove_7 : Cond.fieldLink RX1 7 (TX1 5).1 (TX1 5).2.1 (TX1 5).2.2.1 ∈ wsX1_remove := by decide +kernel
theorem lkX1_remove_13 : Cond.fieldLink RX1 13 (TX1 6).1 (TX1 6).2.1 (TX1 6).2.2.1 ∈ wsX1_remove := by decide +kernel
theorem lkX1_remove_16 : Cond.fieldLink RX1 16 (TX1 7).1 (TX1 7).2.1 (TX1 7).2.2.1 ∈ wsX1_remove := by decide +kernel
theorem lkX1_remove_22 : Cond.fieldLink RX1 22 (TX1 0).1 (TX1 0).2.1 (TX1 0).2.2.1 ∈ wsX1_remove := by decide +kernel
theorem lkX1_remove_26 : Cond.fieldLink RX1 26 (TX1 1).1 (TX1 1).2.1 (TX1 1).2.2.1 ∈ wsX1_remove := by decide +kernel
theorem lkX1_remove_46 : Cond.fieldLink RX1 46 (TX1 4).1 (TX1 4).2.1 (TX1 4).2.2.1 ∈ wsX1_remove := by decide +kernel
theorem inX1_round : ∀ w ∈ wsX10, w ∈ wsX1_round := fun w h => List.mem_cons_of_mem _ (List.mem_append_right _ h)
theorem lkX1_round_22 : Cond.fieldLink RX1 22 (TX1 0).1 (TX1 0).2.1 (TX1 0).2.2.1 ∈ wsX1_round := by decide +kernel
theorem lkX1_round_35 : Cond.fieldLink RX1 35 (TX1 8).1 (TX1 8).2.1 (TX1 8).2.2.1 ∈ wsX1_round := by decide +kernel
theorem inX1_settle : ∀ w ∈ wsX10, w ∈ wsX1_settle := fun w h => List.mem_cons_of_mem _ (List.mem_append_right _ h)
theorem lkX1_settle_7 : Cond.fieldLink RX1 7 (TX1 5).1 (TX1 5).2.1 (TX1 5).2.2.1 ∈ wsX1_settle := by decide +kernel
theorem lkX1_settle_16 : Cond.fieldLink RX1 16 (TX1 7).1 (TX1 7).2.1 (TX1 7).2.2.1 ∈ wsX1_settle := by decide +kernel
theorem lkX1_settle_46 : Cond.fieldLink RX1 46 (TX1 4).1 (TX1 4).2.1 (TX1 4).2.2.1 ∈ wsX1_settle := by decide +kernel
theorem inX1_size : ∀ w ∈ wsX10, w ∈ wsX1_size := fun w h => List.mem_cons_of_mem _ (List.mem_append_right _ h)
theorem lkX1_size_46 : Cond.fieldLink RX1 46 (TX1 4).1 (TX1 4).2.1 (TX1 4).2.2.1 ∈ wsX1_size := by decide +kernel
theorem inX1_toEnd : ∀ w ∈ wsX10, w ∈ wsX1_toEnd := fun w h => List.mem_cons_of_mem _ (List.mem_append_right _ h)
theorem lkX1_toEnd_7 : Cond.fieldLink RX1 7 (TX1 5).1 (TX1 5).2.1 (TX1 5).2.2.1 ∈ wsX1_toEnd := by decide +kernel
theorem lkX1_toEnd_13 : Cond.fieldLink RX1 13 (TX1 6).1 (TX1 6).2.1 (TX1 6).2.2.1 ∈ wsX1_toEnd := by decide +kernel
theorem lkX1_toEnd_16 : Cond.fieldLink RX1 16 (TX1 7).1 (TX1 7).2.1 (TX1 7).2.2.1 ∈ wsX1_toEnd := by decide +kernel
theorem lkX1_toEnd_46 : Cond.fieldLink RX1 46 (TX1 4).1 (TX1 4).2.1 (TX1 4).2.2.1 ∈ wsX1_toEnd := by decide +kernel
theorem hdX0_bucketOf : yX0_bucketOf.cls = RX0 ∧ yX0_bucketOf.cls ≠ "java/lang/invoke/MethodHandle" ∧ yX0_bucketOf.cls ≠ "java/lang/invoke/VarHandle" ∧ (parseMethodDescriptor yX0_bucketOf.desc).map (fun d => d.parameters.length) = some 1 := by decide +kernel
theorem hdX0_buckets : yX0_buckets.cls = RX0 ∧ yX0_buckets.cls ≠ "java/lang/invoke/MethodHandle" ∧ yX0_buckets.cls ≠ "java/lang/invoke/VarHandle" ∧ (parseMethodDescriptor yX0_buckets.desc).map (fun d => d.parameters.length) = some 0 := by decide +kernel
theorem hdX0_bucketsAtLevelStart : yX0_bucketsAtLevelStart.cls = RX0 ∧ yX0_bucketsAtLevelStart.cls ≠ "java/lang/invoke/MethodHandle" ∧ yX0_bucketsAtLevelStart.cls ≠ "java/lang/invoke/VarHandle" ∧ (parseMethodDescriptor yX0_bucketsAtLevelStart.desc).map (fun d => d.parameters.length) = some 0 := by decide +kernel
theorem hdX0_isBucket : yX0_isBucket.cls = RX0 ∧ yX0_isBucket.cls ≠ "java/lang/invoke/MethodHandle" ∧ yX0_isBucket.cls ≠ "java/lang/invoke/VarHandle" ∧ (parseMethodDescriptor yX0_isBucket.desc).map (fun d => d.parameters.length) = some 1 := by decide +kernel
theorem hdX0_isCrowded : yX0_isCrowded.cls = RX0 ∧ yX0_isCrowded.cls ≠ "java/lang/invoke/MethodHandle" ∧ yX0_isCrowded.cls ≠ "java/lang/invoke/VarHandle" ∧ (parseMethodDescriptor yX0_isCrowded.desc).map (fun d => d.parameters.length) = some 0 := by decide +kernel
theorem hdX0_isSparse : yX0_isSparse.cls = RX0 ∧ yX0_isSparse.cls ≠ "java/lang/invoke/MethodHandle" ∧ yX0_isSparse.cls ≠ "java/lang/invoke/VarHandle" ∧ (parseMethodDescriptor yX0_isSparse.desc).map (fun d => d.parameters.length) = some 0 := by decide +kernel
theorem hdX0_join : yX0_join.cls = RX0 ∧ yX0_join.cls ≠ "java/lang/invoke/MethodHandle" ∧ yX0_join.cls ≠ "java/lang/invoke/VarHandle" ∧ (parseMethodDescriptor yX0_join.desc).map (fun d => d.parameters.length) = some 0 := by decide +kernel
theorem hdX0_lastPlaceOfBucket : yX0_lastPlaceOfBucket.cls = RX0 ∧ yX0_lastPlaceOfBucket.cls ≠ "java/lang/invoke/MethodHandle" ∧ yX0_lastPlaceOfBucket.cls ≠ "java/lang/invoke/VarHandle" ∧ (parseMethodDescriptor yX0_lastPlaceOfBucket.desc).map (fun d => d.parameters.length) = some 1 := by decide +kernel
theorem hdX0_moveBucketToEnd : yX0_moveBucketToEnd.cls = RX0 ∧ yX0_moveBucketToEnd.cls ≠ "java/lang/invoke/MethodHandle" ∧ yX0_moveBucketToEnd.cls ≠ "java/lang/invoke/VarHandle" ∧ (parseMethodDescriptor yX0_moveBucketToEnd.desc).map (fun d => d.parameters.length) = some 1 := by decide +kernel
theorem hdX0_moveToEnd : yX0_moveToEnd.cls = RX0 ∧ yX0_moveToEnd.cls ≠ "java/lang/invoke/MethodHandle" ∧ yX0_moveToEnd.cls ≠ "java/lang/invoke/VarHandle" ∧ (parseMethodDescriptor yX0_moveToEnd.desc).map (fun d => d.parameters.length) = some 1 := by decide +kernel
theorem hdX0_pagesFor : yX0_pagesFor.cls = RX0 ∧ yX0_pagesFor.cls ≠ "java/lang/invoke/MethodHandle" ∧ yX0_pagesFor.cls ≠ "java/lang/invoke/VarHandle" ∧ (parseMethodDescriptor yX0_pagesFor.desc).map (fun d => d.parameters.length) = some 1 := by decide +kernel
theorem hdX0_pagesNeeded : yX0_pagesNeeded.cls = RX0 ∧ yX0_pagesNeeded.cls ≠ "java/lang/invoke/MethodHandle" ∧ yX0_pagesNeeded.cls ≠ "java/lang/invoke/VarHandle" ∧ (parseMethodDescriptor yX0_pagesNeeded.desc).map (fun d => d.parameters.length) = some 0 := by decide +kernel
theorem hdX0_part : yX0_part.cls = RX0 ∧ yX0_part.cls ≠ "java/lang/invoke/MethodHandle" ∧ yX0_part.cls ≠ "java/lang/invoke/VarHandle" ∧ (parseMethodDescriptor yX0_part.desc).map (fun d => d.parameters.length) = some 0 := by decide +kernel
theorem hdX0_placeOf : yX0_placeOf.cls = RX0 ∧ yX0_placeOf.cls ≠ "java/lang/invoke/MethodHandle" ∧ yX0_placeOf.cls ≠ "java/lang/invoke/VarHandle" ∧ (parseMethodDescriptor yX0_placeOf.desc).map (fun d => d.parameters.length) = some 1 := by decide +kernel
theorem hdX0_putNew : yX0_putNew.cls = RX0 ∧ yX0_putNew.cls ≠ "java/lang/invoke/MethodHandle" ∧ yX0_putNew.cls ≠ "java/lang/invoke/VarHandle" ∧ (parseMethodDescriptor yX0_putNew.desc).map (fun d => d.parameters.length) = some 2 := by decide +kernel
theorem hdX0_takeOut : yX0_takeOut.cls = RX0 ∧ yX0_takeOut.cls ≠ "java/lang/invoke/MethodHandle" ∧ yX0_takeOut.cls ≠ "java/lang/invoke/VarHandle" ∧ (parseMethodDescriptor yX0_takeOut.desc).map (fun d => d.parameters.length) = some 1 := by decide +kernel
theorem hdX1_back : yX1_back.cls = RX1 ∧ yX1_back.cls ≠ "java/lang/invoke/MethodHandle" ∧ yX1_back.cls ≠ "java/lang/invoke/VarHandle" ∧ (parseMethodDescriptor yX1_back.desc).map (fun d => d.parameters.length) = some 0 := by decide +kernel
theorem hdX1_bucketOf : yX1_bucketOf.cls = RX1 ∧ yX1_bucketOf.cls ≠ "java/lang/invoke/MethodHandle" ∧ yX1_bucketOf.cls ≠ "java/lang/invoke/VarHandle" ∧ (parseMethodDescriptor yX1_bucketOf.desc).map (fun d => d.parameters.length) = some 1 := by decide +kernel
theorem hdX1_buckets : yX1_buckets.cls = RX1 ∧ yX1_buckets.cls ≠ "java/lang/invoke/MethodHandle" ∧ yX1_buckets.cls ≠ "java/lang/invoke/VarHandle" ∧ (parseMethodDescriptor yX1_buckets.desc).map (fun d => d.parameters.length) = some 0 := by decide +kernel
theorem hdX1_count : yX1_count.cls = RX1 ∧ yX1_count.cls ≠ "java/lang/invoke/MethodHandle" ∧ yX1_count.cls ≠ "java/lang/invoke/VarHandle" ∧ (parseMethodDescriptor yX1_count.desc).map (fun d => d.parameters.length) = some 0 := by decide +kernel
theorem hdX1_cut : yX1_cut.cls = RX1 ∧ yX1_cut.cls ≠ "java/lang/invoke/MethodHandle" ∧ yX1_cut.cls ≠ "java/lang/invoke/VarHandle" ∧ (parseMethodDescriptor yX1_cut.desc).map (fun d => d.parameters.length) = some 1 := by decide +kernel
theorem hdX1_find : yX1_find.cls = RX1 ∧ yX1_find.cls ≠ "java/lang/invoke/MethodHandle" ∧ yX1_find.cls ≠ "java/lang/invoke/VarHandle" ∧ (parseMethodDescriptor yX1_find.desc).map (fun d => d.parameters.length) = some 1 := by decide +kernel
theorem hdX1_forth : yX1_forth.cls = RX1 ∧ yX1_forth.cls ≠ "java/lang/invoke/MethodHandle" ∧ yX1_forth.cls ≠ "java/lang/invoke/VarHandle" ∧ (parseMethodDescriptor yX1_forth.desc).map (fun d => d.parameters.length) = some 0 := by decide +kernel
theorem hdX1_needed : yX1_needed.cls = RX1 ∧ yX1_needed.cls ≠ "java/lang/invoke/MethodHandle" ∧ yX1_needed.cls ≠ "java/lang/invoke/VarHandle" ∧ (parseMethodDescriptor yX1_needed.desc).map (fun d => d.parameters.length) = some 0 := by decide +kernel
theorem hdX1_pagesFor : yX1_pagesFor.cls = RX1 ∧ yX1_pagesFor.cls ≠ "java/lang/invoke/MethodHandle" ∧ yX1_pagesFor.cls ≠ "java/lang/invoke/VarHandle" ∧ (parseMethodDescriptor yX1_pagesFor.desc).map (fun d => d.parameters.length) = some 1 := by decide +kernel
theorem hdX1_round : yX1_round.cls = RX1 ∧ yX1_round.cls ≠ "java/lang/invoke/MethodHandle" ∧ yX1_round.cls ≠ "java/lang/invoke/VarHandle" ∧ (parseMethodDescriptor yX1_round.desc).map (fun d => d.parameters.length) = some 0 := by decide +kernel
theorem hdX1_settle : yX1_settle.cls = RX1 ∧ yX1_settle.cls ≠ "java/lang/invoke/MethodHandle" ∧ yX1_settle.cls ≠ "java/lang/invoke/VarHandle" ∧ (parseMethodDescriptor yX1_settle.desc).map (fun d => d.parameters.length) = some 0 := by decide +kernel
theorem hdX1_toEnd : yX1_toEnd.cls = RX1 ∧ yX1_toEnd.cls ≠ "java/lang/invoke/MethodHandle" ∧ yX1_toEnd.cls ≠ "java/lang/invoke/VarHandle" ∧ (parseMethodDescriptor yX1_toEnd.desc).map (fun d => d.parameters.length) = some 1 := by decide +kernel
end
section
set_option maxHeartbeats 4000000 in
set_option maxRecDepth 100000 in
theorem c_X0_bucketsAtLevelStart (l : Launch) (D : va_G) {cA : ClassId} {h0 hk hv hr nk nr b c pl bl n lv pt : Nat} {fk fv fr : Nat → Int32} (hl7 : lv ≤ 7) (hr200 : rd b lv ≤ 200)   : MetI (S := Unit) l yX0_bucketsAtLevelStart wsX0_bucketsAtLevelStart ({ frames := 0, cells := 0, slots := 0, locals := 0 } : Room) D [(cA, .int)] [.ref h0] (wX h0 hk hv hr cA nk nr b c pl bl n lv pt fk fv fr) (fun _ => wX h0 hk hv hr cA nk nr b c pl bl n lv pt fk fv fr) (fun r _ => r = nI (rd b lv)) 0 0 := by
  refine MetI_of (cc := cX0_bucketsAtLevelStart) (maxL := 1) (rt := .int) (lv0 := [(0, .ref h0)]) (by decide) rfl (Nat.le_of_ble_eq_true rfl) rfl ?_
  intro K _ _ C hret
  have C : Cx K ({ frames := 0, cells := 0, slots := 0, locals := 0 } : Room) 1 cX0_bucketsAtLevelStart RX0 wsX0_bucketsAtLevelStart [(cA, .int)] := C
  refine g_aload_n C dX0_bucketsAtLevelStart_0 0 rfl rfl ?_
  refine g_get (ci := 0) C inX0_bucketsAtLevelStart rfl 0 0 (by decide) lkX0_bucketsAtLevelStart_13 dX0_bucketsAtLevelStart_1 rfl rfl ?_
  refine g_aload_n C dX0_bucketsAtLevelStart_4 0 rfl rfl ?_
  refine g_get (ci := 0) C inX0_bucketsAtLevelStart rfl 0 7 (by decide) lkX0_bucketsAtLevelStart_73 dX0_bucketsAtLevelStart_5 rfl rfl ?_
  refine g_ishl C dX0_bucketsAtLevelStart_8 ?_
  refine g_top (rd_shl hl7 hr200) ?_
  exact hret _ _ _ () dX0_bucketsAtLevelStart_9 rfl rfl
set_option maxHeartbeats 4000000 in
set_option maxRecDepth 100000 in
theorem c_X0_buckets (l : Launch) (D : va_G) {cA : ClassId} {h0 hk hv hr nk nr b c pl bl n lv pt : Nat} {fk fv fr : Nat → Int32} (ok : okS b c pl bl n lv pt) (hx : n ≤ nk ∧ nk ≤ 512 ∧ nr = bl)   : MetI (S := Unit) l yX0_buckets wsX0_buckets ({ frames := 1, cells := 0, slots := 0, locals := 20 } : Room) D [(cA, .int)] [.ref h0] (wX h0 hk hv hr cA nk nr b c pl bl n lv pt fk fv fr) (fun _ => wX h0 hk hv hr cA nk nr b c pl bl n lv pt fk fv fr) (fun r _ => r = nI (rd b lv + pt)) 0 0 := by
  refine MetI_of (cc := cX0_buckets) (maxL := 1) (rt := .int) (lv0 := [(0, .ref h0)]) (by decide) rfl (Nat.le_of_ble_eq_true rfl) rfl ?_
  intro K _ _ C hret
  have C : Cx K ({ frames := 1, cells := 0, slots := 0, locals := 20 } : Room) 1 cX0_buckets RX0 wsX0_buckets [(cA, .int)] := C
  obtain ⟨o1, o2, o3, o4, o5, o6, o7, o8, o9, o10, o11, o12⟩ := id ok
  obtain ⟨x1, x2, x3⟩ := id hx
  refine g_aload_n C dX0_buckets_0 0 rfl rfl ?_
  refine g_callI0 (ci := 0) (q0 := 0) (rest := []) C (c_X0_bucketsAtLevelStart _ _ o12 (by omega)) gX0_buckets_X0_bucketsAtLevelStart rfl rfl rfl hdX0_bucketsAtLevelStart (by decide) rfl rfl rfl rfl (Nat.le_of_ble_eq_true rfl) dX0_buckets_1 (fun r _ hw => ?_)
  subst hw
  show G K 0 0 4 [(0, .ref h0)] [.int (nI (rd b lv))] (wX h0 hk hv hr cA nk nr b c pl bl n lv pt fk fv fr)
  refine g_aload_n C dX0_buckets_4 0 rfl rfl ?_
  refine g_get (ci := 0) C inX0_buckets rfl 0 8 (by decide) lkX0_buckets_70 dX0_buckets_5 rfl rfl ?_
  refine g_iadd C dX0_buckets_8 ?_
  exact hret _ _ _ () dX0_buckets_9 rfl rfl
set_option maxHeartbeats 4000000 in
set_option maxRecDepth 100000 in
theorem c_X0_bucketOf (l : Launch) (D : va_G) {cA : ClassId} {h0 hk hv hr nk nr b c pl bl n lv pt : Nat} {fk fv fr : Nat → Int32} (ok : okS b c pl bl n lv pt) (hx : n ≤ nk ∧ nk ≤ 512 ∧ nr = bl) (k : Int32)  : MetI (S := Unit) l yX0_bucketOf wsX0_bucketOf ({ frames := 1, cells := 0, slots := 0, locals := 20 } : Room) D [(cA, .int)] [.ref h0, .int k] (wX h0 hk hv hr cA nk nr b c pl bl n lv pt fk fv fr) (fun _ => wX h0 hk hv hr cA nk nr b c pl bl n lv pt fk fv fr) (fun r _ => r = nI (bk b lv pt k)) 0 0 := by
  refine MetI_of (cc := cX0_bucketOf) (maxL := 4) (rt := .int) (lv0 := [(0, .ref h0), (1, .int k)]) (by decide) rfl (Nat.le_of_ble_eq_true rfl) rfl ?_
  intro K _ _ C hret
  have C : Cx K ({ frames := 1, cells := 0, slots := 0, locals := 20 } : Room) 4 cX0_bucketOf RX0 wsX0_bucketOf [(cA, .int)] := C
  obtain ⟨o1, o2, o3, o4, o5, o6, o7, o8, o9, o10, o11, o12⟩ := id ok
  obtain ⟨x1, x2, x3⟩ := id hx
  refine g_iload_n C dX0_bucketOf_0 1 rfl rfl ?_
  refine g_ldc (v := 2147483647) C (by decide +kernel) dX0_bucketOf_1 ?_
  refine g_iand C dX0_bucketOf_3 ?_
  refine g_top (hh_and k) ?_
  refine g_istore_n (lv' := [(2, .int (nI (hh k))), (0, .ref h0), (1, .int k)]) C dX0_bucketOf_4 rfl (by decide) rfl ?_
  refine g_iload_n C dX0_bucketOf_5 0 rfl rfl ?_
  refine g_aload_n C dX0_bucketOf_6 1 rfl rfl ?_
  refine g_callI0 (ci := 0) (q0 := 0) (rest := [.int (nI (hh k))]) C (c_X0_bucketsAtLevelStart _ _ o12 (by omega)) gX0_bucketOf_X0_bucketsAtLevelStart rfl rfl rfl hdX0_bucketsAtLevelStart (by decide) rfl rfl rfl rfl (Nat.le_of_ble_eq_true rfl) dX0_bucketOf_7 (fun r _ hw => ?_)
  subst hw
  show G K 0 0 10 [(2, .int (nI (hh k))), (0, .ref h0), (1, .int k)] [.int (nI (rd b lv)), .int (nI (hh k))] (wX h0 hk hv hr cA nk nr b c pl bl n lv pt fk fv fr)
  refine g_irem C dX0_bucketOf_10 (hh_lt k) (by omega) (by omega) ?_
  refine g_istore_n (lv' := [(3, .int (nI ((hh k) % (rd b lv)))), (2, .int (nI (hh k))), (0, .ref h0), (1, .int k)]) C dX0_bucketOf_11 rfl (by decide) rfl ?_
  have hm := Nat.mod_lt (hh k) (show 0 < rd b lv by omega)
  refine g_iload_n C dX0_bucketOf_12 0 rfl rfl ?_
  refine g_aload_n C dX0_bucketOf_13 2 rfl rfl ?_
  refine g_get (ci := 0) C inX0_bucketOf rfl 0 8 (by decide) lkX0_bucketOf_70 dX0_bucketOf_14 rfl rfl ?_
  refine g_icmp_ge C 31 dX0_bucketOf_17 (by decide) (by omega) (by omega) (fun h17 => ?_) (fun h17 => ?_)
  · refine g_iload_n C dX0_bucketOf_31 0 rfl rfl ?_
    exact hret _ _ _ () dX0_bucketOf_32 rfl (by unfold bk; rw [if_neg (by omega)])
  · refine g_iload_n C dX0_bucketOf_20 1 rfl rfl ?_
    refine g_iconst (v := nI 2) C dX0_bucketOf_21 (by decide) ?_
    refine g_aload_n C dX0_bucketOf_22 2 rfl rfl ?_
    refine g_callI0 (ci := 0) (q0 := 0) (rest := [.int (nI 2), .int (nI (hh k))]) C (c_X0_bucketsAtLevelStart _ _ o12 (by omega)) gX0_bucketOf_X0_bucketsAtLevelStart rfl rfl rfl hdX0_bucketsAtLevelStart (by decide) rfl rfl rfl rfl (Nat.le_of_ble_eq_true rfl) dX0_bucketOf_23 (fun r _ hw => ?_)
    subst hw
    show G K 0 0 26 [(3, .int (nI ((hh k) % (rd b lv)))), (2, .int (nI (hh k))), (0, .ref h0), (1, .int k)] [.int (nI (rd b lv)), .int (nI 2), .int (nI (hh k))] (wX h0 hk hv hr cA nk nr b c pl bl n lv pt fk fv fr)
    refine g_imul C dX0_bucketOf_26 ?_
    refine g_irem C dX0_bucketOf_27 (hh_lt k) (by omega) (by omega) ?_
    refine g_goto C 32 dX0_bucketOf_28 (by decide) ?_
    exact hret _ _ _ () dX0_bucketOf_32 rfl (by unfold bk; rw [if_pos h17])
set_option maxHeartbeats 4000000 in
set_option maxRecDepth 100000 in
theorem c_X0_isBucket (l : Launch) (D : va_G) {cA : ClassId} {h0 hk hv hr nk nr b c pl bl n lv pt : Nat} {fk fv fr : Nat → Int32} (ok : okS b c pl bl n lv pt) (hx : n ≤ nk ∧ nk ≤ 512 ∧ nr = bl) (x : Int32)  : MetI (S := Unit) l yX0_isBucket wsX0_isBucket ({ frames := 2, cells := 0, slots := 0, locals := 40 } : Room) D [(cA, .int)] [.ref h0, .int x] (wX h0 hk hv hr cA nk nr b c pl bl n lv pt fk fv fr) (fun _ => wX h0 hk hv hr cA nk nr b c pl bl n lv pt fk fv fr) (fun r _ => r = bI (∃ j, j < rd b lv + pt ∧ x = nI j)) 0 0 := by
  refine MetI_of (cc := cX0_isBucket) (maxL := 2) (rt := .boolean) (lv0 := [(0, .ref h0), (1, .int x)]) (by decide) rfl (Nat.le_of_ble_eq_true rfl) rfl ?_
  intro K _ _ C hret
  have C : Cx K ({ frames := 2, cells := 0, slots := 0, locals := 40 } : Room) 2 cX0_isBucket RX0 wsX0_isBucket [(cA, .int)] := C
  obtain ⟨o1, o2, o3, o4, o5, o6, o7, o8, o9, o10, o11, o12⟩ := id ok
  obtain ⟨x1, x2, x3⟩ := id hx
  refine g_iload_n C dX0_isBucket_0 1 rfl rfl ?_
  refine g_if_lt C 16 dX0_isBucket_1 (by decide) (fun h1 => ?_) (fun h1 => ?_)
  · refine g_iconst (v := nI 0) C dX0_isBucket_16 (by decide) ?_
    exact hret _ _ _ () dX0_isBucket_17 (by decide) (bI_f (ib_neg h1 (by omega))).symm
  · refine g_iload_n C dX0_isBucket_4 1 rfl rfl ?_
    refine g_aload_n C dX0_isBucket_5 0 rfl rfl ?_
    refine g_callI0 (ci := 0) (q0 := 0) (rest := [.int x]) C (c_X0_buckets _ _ ok hx) gX0_isBucket_X0_buckets rfl rfl rfl hdX0_buckets (by decide) rfl rfl rfl rfl (Nat.le_of_ble_eq_true rfl) dX0_isBucket_6 (fun r _ hw => ?_)
    subst hw
    show G K 0 0 9 [(0, .ref h0), (1, .int x)] [.int (nI (rd b lv + pt)), .int x] (wX h0 hk hv hr cA nk nr b c pl bl n lv pt fk fv fr)
    refine g_icmp_geI C 16 dX0_isBucket_9 (by decide) (fun h9 => ?_) (fun h9 => ?_)
    · refine g_iconst (v := nI 0) C dX0_isBucket_16 (by decide) ?_
      exact hret _ _ _ () dX0_isBucket_17 (by decide) (bI_f (ib_big h9 (by omega))).symm
    · refine g_iconst (v := nI 1) C dX0_isBucket_12 (by decide) ?_
      refine g_goto C 17 dX0_isBucket_13 (by decide) ?_
      exact hret _ _ _ () dX0_isBucket_17 (by decide) (bI_t (ib_ok h1 h9 (by omega))).symm
set_option maxHeartbeats 4000000 in
set_option maxRecDepth 100000 in
theorem c_X0_isCrowded (l : Launch) (D : va_G) {cA : ClassId} {h0 hk hv hr nk nr b c pl bl n lv pt : Nat} {fk fv fr : Nat → Int32} (ok : okS b c pl bl n lv pt) (hx : n ≤ nk ∧ nk ≤ 512 ∧ nr = bl)   : MetI (S := Unit) l yX0_isCrowded wsX0_isCrowded ({ frames := 2, cells := 0, slots := 0, locals := 40 } : Room) D [(cA, .int)] [.ref h0] (wX h0 hk hv hr cA nk nr b c pl bl n lv pt fk fv fr) (fun _ => wX h0 hk hv hr cA nk nr b c pl bl n lv pt fk fv fr) (fun r _ => r = bI (3 * c * (rd b lv + pt) < 4 * n)) 0 0 := by
  refine MetI_of (cc := cX0_isCrowded) (maxL := 1) (rt := .boolean) (lv0 := [(0, .ref h0)]) (by decide) rfl (Nat.le_of_ble_eq_true rfl) rfl ?_
  intro K _ _ C hret
  have C : Cx K ({ frames := 2, cells := 0, slots := 0, locals := 40 } : Room) 1 cX0_isCrowded RX0 wsX0_isCrowded [(cA, .int)] := C
  obtain ⟨o1, o2, o3, o4, o5, o6, o7, o8, o9, o10, o11, o12⟩ := id ok
  obtain ⟨x1, x2, x3⟩ := id hx
  refine g_iconst (v := nI 4) C dX0_isCrowded_0 (by decide) ?_
  refine g_aload_n C dX0_isCrowded_1 0 rfl rfl ?_
  refine g_get (ci := 0) C inX0_isCrowded rfl 0 6 (by decide) lkX0_isCrowded_46 dX0_isCrowded_2 rfl rfl ?_
  refine g_imul C dX0_isCrowded_5 ?_
  refine g_iconst (v := nI 3) C dX0_isCrowded_6 (by decide) ?_
  refine g_aload_n C dX0_isCrowded_7 0 rfl rfl ?_
  refine g_get (ci := 0) C inX0_isCrowded rfl 0 1 (by decide) lkX0_isCrowded_17 dX0_isCrowded_8 rfl rfl ?_
  refine g_imul C dX0_isCrowded_11 ?_
  refine g_aload_n C dX0_isCrowded_12 0 rfl rfl ?_
  refine g_callI0 (ci := 0) (q0 := 0) (rest := [.int (nI (3 * c)), .int (nI (4 * n))]) C (c_X0_buckets _ _ ok hx) gX0_isCrowded_X0_buckets rfl rfl rfl hdX0_buckets (by decide) rfl rfl rfl rfl (Nat.le_of_ble_eq_true rfl) dX0_isCrowded_13 (fun r _ hw => ?_)
  subst hw
  show G K 0 0 16 [(0, .ref h0)] [.int (nI (rd b lv + pt)), .int (nI (3 * c)), .int (nI (4 * n))] (wX h0 hk hv hr cA nk nr b c pl bl n lv pt fk fv fr)
  refine g_imul C dX0_isCrowded_16 ?_
  refine g_icmp_le C 24 dX0_isCrowded_17 (by decide) (by omega) (by have := ok_m3 ok; omega) (fun h17 => ?_) (fun h17 => ?_)
  · refine g_iconst (v := nI 0) C dX0_isCrowded_24 (by decide) ?_
    exact hret _ _ _ () dX0_isCrowded_25 (by decide) (bI_f (by omega)).symm
  · refine g_iconst (v := nI 1) C dX0_isCrowded_20 (by decide) ?_
    refine g_goto C 25 dX0_isCrowded_21 (by decide) ?_
    exact hret _ _ _ () dX0_isCrowded_25 (by decide) (bI_t h17).symm
set_option maxHeartbeats 4000000 in
set_option maxRecDepth 100000 in
theorem c_X0_isSparse (l : Launch) (D : va_G) {cA : ClassId} {h0 hk hv hr nk nr b c pl bl n lv pt : Nat} {fk fv fr : Nat → Int32} (ok : okS b c pl bl n lv pt) (hx : n ≤ nk ∧ nk ≤ 512 ∧ nr = bl)   : MetI (S := Unit) l yX0_isSparse wsX0_isSparse ({ frames := 2, cells := 0, slots := 0, locals := 40 } : Room) D [(cA, .int)] [.ref h0] (wX h0 hk hv hr cA nk nr b c pl bl n lv pt fk fv fr) (fun _ => wX h0 hk hv hr cA nk nr b c pl bl n lv pt fk fv fr) (fun r _ => r = bI (4 * n < c * (rd b lv + pt))) 0 0 := by
  refine MetI_of (cc := cX0_isSparse) (maxL := 1) (rt := .boolean) (lv0 := [(0, .ref h0)]) (by decide) rfl (Nat.le_of_ble_eq_true rfl) rfl ?_
  intro K _ _ C hret
  have C : Cx K ({ frames := 2, cells := 0, slots := 0, locals := 40 } : Room) 1 cX0_isSparse RX0 wsX0_isSparse [(cA, .int)] := C
  obtain ⟨o1, o2, o3, o4, o5, o6, o7, o8, o9, o10, o11, o12⟩ := id ok
  obtain ⟨x1, x2, x3⟩ := id hx
  refine g_iconst (v := nI 4) C dX0_isSparse_0 (by decide) ?_
  refine g_aload_n C dX0_isSparse_1 0 rfl rfl ?_
  refine g_get (ci := 0) C inX0_isSparse rfl 0 6 (by decide) lkX0_isSparse_46 dX0_isSparse_2 rfl rfl ?_
  refine g_imul C dX0_isSparse_5 ?_
  refine g_aload_n C dX0_isSparse_6 0 rfl rfl ?_
  refine g_get (ci := 0) C inX0_isSparse rfl 0 1 (by decide) lkX0_isSparse_17 dX0_isSparse_7 rfl rfl ?_
  refine g_aload_n C dX0_isSparse_10 0 rfl rfl ?_
  refine g_callI0 (ci := 0) (q0 := 0) (rest := [.int (nI c), .int (nI (4 * n))]) C (c_X0_buckets _ _ ok hx) gX0_isSparse_X0_buckets rfl rfl rfl hdX0_buckets (by decide) rfl rfl rfl rfl (Nat.le_of_ble_eq_true rfl) dX0_isSparse_11 (fun r _ hw => ?_)
  subst hw
  show G K 0 0 14 [(0, .ref h0)] [.int (nI (rd b lv + pt)), .int (nI c), .int (nI (4 * n))] (wX h0 hk hv hr cA nk nr b c pl bl n lv pt fk fv fr)
  refine g_imul C dX0_isSparse_14 ?_
  refine g_icmp_ge C 22 dX0_isSparse_15 (by decide) (by omega) (by have := ok_m1 ok; omega) (fun h15 => ?_) (fun h15 => ?_)
  · refine g_iconst (v := nI 0) C dX0_isSparse_22 (by decide) ?_
    exact hret _ _ _ () dX0_isSparse_23 (by decide) (bI_f (by omega)).symm
  · refine g_iconst (v := nI 1) C dX0_isSparse_18 (by decide) ?_
    refine g_goto C 23 dX0_isSparse_19 (by decide) ?_
    exact hret _ _ _ () dX0_isSparse_23 (by decide) (bI_t h15).symm
set_option maxHeartbeats 4000000 in
set_option maxRecDepth 100000 in
theorem c_X0_placeOf (l : Launch) (D : va_G) {cA : ClassId} {h0 hk hv hr nk nr b c pl bl n lv pt : Nat} {fk fv fr : Nat → Int32} (ok : okS b c pl bl n lv pt) (hx : n ≤ nk ∧ nk ≤ 512 ∧ nr = bl) (k : Int32)  : MetI (S := Unit) l yX0_placeOf wsX0_placeOf ({ frames := 0, cells := 0, slots := 0, locals := 0 } : Room) D [(cA, .int)] [.ref h0, .int k] (wX h0 hk hv hr cA nk nr b c pl bl n lv pt fk fv fr) (fun _ => wX h0 hk hv hr cA nk nr b c pl bl n lv pt fk fv fr) (fun r _ => (∃ j, j < n ∧ fk j = k ∧ (∀ i, i < j → fk i ≠ k) ∧ r = nI j) ∨ ((∀ j, j < n → fk j ≠ k) ∧ r = -1)) 0 0 := by
  refine MetI_of (cc := cX0_placeOf) (maxL := 3) (rt := .int) (lv0 := [(0, .ref h0), (1, .int k)]) (by decide) rfl (Nat.le_of_ble_eq_true rfl) rfl ?_
  intro K _ _ C hret
  have C : Cx K ({ frames := 0, cells := 0, slots := 0, locals := 0 } : Room) 3 cX0_placeOf RX0 wsX0_placeOf [(cA, .int)] := C
  obtain ⟨o1, o2, o3, o4, o5, o6, o7, o8, o9, o10, o11, o12⟩ := id ok
  obtain ⟨x1, x2, x3⟩ := id hx
  refine g_iconst (v := nI 0) C dX0_placeOf_0 (by decide) ?_
  refine g_istore_n (lv' := [(2, .int (nI 0)), (0, .ref h0), (1, .int k)]) C dX0_placeOf_1 rfl (by decide) rfl ?_
  have loop2 : ∀ (t : Nat) (i : Nat), i ≤ n → n < i + t → (∀ j, j < i → fk j ≠ k) → G K 0 0 2 [(2, .int (nI i)), (0, .ref h0), (1, .int k)] [] (wX h0 hk hv hr cA nk nr b c pl bl n lv pt fk fv fr) := by
    intro t
    induction t with
    | zero =>
      intro i hi ht hall
      exact absurd ht (by omega)
    | succ t ih =>
      intro i hi ht hall
      refine g_iload_n C dX0_placeOf_2 0 rfl rfl ?_
      refine g_aload_n C dX0_placeOf_3 1 rfl rfl ?_
      refine g_get (ci := 0) C inX0_placeOf rfl 0 6 (by decide) lkX0_placeOf_46 dX0_placeOf_4 rfl rfl ?_
      refine g_icmp_ge C 28 dX0_placeOf_7 (by decide) (by omega) (by omega) (fun h7 => ?_) (fun h7 => ?_)
      · refine g_iconst (v := -1) C dX0_placeOf_28 (by decide) ?_
        exact hret _ _ _ () dX0_placeOf_29 rfl (Or.inr ⟨fun j hj => hall j (by omega), rfl⟩)
      · refine g_aload_n C dX0_placeOf_10 1 rfl rfl ?_
        refine g_get (ci := 0) C inX0_placeOf rfl 0 4 (by decide) lkX0_placeOf_32 dX0_placeOf_11 rfl rfl ?_
        refine g_iload_n C dX0_placeOf_14 0 rfl rfl ?_
        refine g_iald C 1 dX0_placeOf_15 rfl (by omega) (by omega) ?_
        refine g_iload_n C dX0_placeOf_16 2 rfl rfl ?_
        refine g_icmp_neI C 22 dX0_placeOf_17 (by decide) (fun h17 => ?_) (fun h17 => ?_)
        · refine g_iinc (v := nI (i + 1)) (lv' := [(2, .int (nI (i + 1))), (0, .ref h0), (1, .int k)]) C dX0_placeOf_22 0 rfl (nI_add _ 1) (by decide) rfl ?_
          refine g_goto C 2 dX0_placeOf_25 (by decide) ?_
          refine g_lv [0, 1, 2] rfl ?_
          exact ih (i + 1) (by omega) (by omega) (lt_s hall h17)
        · refine g_iload_n C dX0_placeOf_20 0 rfl rfl ?_
          exact hret _ _ _ () dX0_placeOf_21 rfl (Or.inl ⟨i, h7, h17, hall, rfl⟩)
  refine g_lv [0, 1, 2] rfl ?_
  exact loop2 (n + 1) 0 (by omega) (by omega) (fun j hj => absurd hj (by omega))
set_option maxHeartbeats 4000000 in
set_option maxRecDepth 100000 in
theorem c_X0_pagesFor (l : Launch) (D : va_G) {cA : ClassId} {h0 hk hv hr nk nr b c pl bl n lv pt : Nat} {fk fv fr : Nat → Int32} (ok : okS b c pl bl n lv pt) (hx : n ≤ nk ∧ nk ≤ 512 ∧ nr = bl) (m : Nat) (hm : m ≤ 600) : MetI (S := Unit) l yX0_pagesFor wsX0_pagesFor ({ frames := 1, cells := 0, slots := 0, locals := 13 } : Room) D [(cA, .int)] [.ref h0, .int (nI m)] (wX h0 hk hv hr cA nk nr b c pl bl n lv pt fk fv fr) (fun _ => wX h0 hk hv hr cA nk nr b c pl bl n lv pt fk fv fr) (fun r _ => r = nI (pg c m)) 0 0 := by
  refine MetI_of (cc := cX0_pagesFor) (maxL := 2) (rt := .int) (lv0 := [(0, .ref h0), (1, .int (nI m))]) (by decide) rfl (Nat.le_of_ble_eq_true rfl) rfl ?_
  intro K _ _ C hret
  have C : Cx K ({ frames := 1, cells := 0, slots := 0, locals := 13 } : Room) 2 cX0_pagesFor RX0 wsX0_pagesFor [(cA, .int)] := C
  obtain ⟨o1, o2, o3, o4, o5, o6, o7, o8, o9, o10, o11, o12⟩ := id ok
  obtain ⟨x1, x2, x3⟩ := id hx
  refine g_iconst (v := nI 1) C dX0_pagesFor_0 (by decide) ?_
  refine g_iload_n C dX0_pagesFor_1 1 rfl rfl ?_
  refine g_aload_n C dX0_pagesFor_2 0 rfl rfl ?_
  refine g_get (ci := 0) C inX0_pagesFor rfl 0 1 (by decide) lkX0_pagesFor_17 dX0_pagesFor_3 rfl rfl ?_
  refine g_iadd C dX0_pagesFor_6 ?_
  refine g_iconst (v := nI 1) C dX0_pagesFor_7 (by decide) ?_
  refine g_isub C dX0_pagesFor_8 (by omega) ?_
  refine g_aload_n C dX0_pagesFor_9 0 rfl rfl ?_
  refine g_get (ci := 0) C inX0_pagesFor rfl 0 1 (by decide) lkX0_pagesFor_17 dX0_pagesFor_10 rfl rfl ?_
  refine g_idiv C dX0_pagesFor_13 (by omega) (by omega) (by omega) ?_
  refine g_mmax C (by decide +kernel) dX0_pagesFor_14 ⟨by decide, Nat.le_of_ble_eq_true rfl, by decide, by decide⟩ ?_
  refine g_top (pg_max o3 (by omega)) ?_
  exact hret _ _ _ () dX0_pagesFor_17 rfl rfl
set_option maxHeartbeats 4000000 in
set_option maxRecDepth 100000 in
theorem c_X0_size (l : Launch) (D : va_G) {cA : ClassId} {h0 hk hv hr nk nr b c pl bl n lv pt : Nat} {fk fv fr : Nat → Int32} (ok : okS b c pl bl n lv pt) (hx : n ≤ nk ∧ nk ≤ 512 ∧ nr = bl)   : MetI (S := Unit) l yX0_size wsX0_size ({ frames := 0, cells := 0, slots := 0, locals := 0 } : Room) D [(cA, .int)] [.ref h0] (wX h0 hk hv hr cA nk nr b c pl bl n lv pt fk fv fr) (fun _ => wX h0 hk hv hr cA nk nr b c pl bl n lv pt fk fv fr) (fun r _ => r = nI n) 0 0 := by
  refine MetI_of (cc := cX0_size) (maxL := 1) (rt := .int) (lv0 := [(0, .ref h0)]) (by decide) rfl (Nat.le_of_ble_eq_true rfl) rfl ?_
  intro K _ _ C hret
  have C : Cx K ({ frames := 0, cells := 0, slots := 0, locals := 0 } : Room) 1 cX0_size RX0 wsX0_size [(cA, .int)] := C
  obtain ⟨o1, o2, o3, o4, o5, o6, o7, o8, o9, o10, o11, o12⟩ := id ok
  obtain ⟨x1, x2, x3⟩ := id hx
  refine g_aload_n C dX0_size_0 0 rfl rfl ?_
  refine g_get (ci := 0) C inX0_size rfl 0 6 (by decide) lkX0_size_46 dX0_size_1 rfl rfl ?_
  exact hret _ _ _ () dX0_size_4 rfl rfl
set_option maxHeartbeats 4000000 in
set_option maxRecDepth 100000 in
theorem c_X0_level (l : Launch) (D : va_G) {cA : ClassId} {h0 hk hv hr nk nr b c pl bl n lv pt : Nat} {fk fv fr : Nat → Int32} (ok : okS b c pl bl n lv pt) (hx : n ≤ nk ∧ nk ≤ 512 ∧ nr = bl)   : MetI (S := Unit) l yX0_level wsX0_level ({ frames := 0, cells := 0, slots := 0, locals := 0 } : Room) D [(cA, .int)] [.ref h0] (wX h0 hk hv hr cA nk nr b c pl bl n lv pt fk fv fr) (fun _ => wX h0 hk hv hr cA nk nr b c pl bl n lv pt fk fv fr) (fun r _ => r = nI lv) 0 0 := by
  refine MetI_of (cc := cX0_level) (maxL := 1) (rt := .int) (lv0 := [(0, .ref h0)]) (by decide) rfl (Nat.le_of_ble_eq_true rfl) rfl ?_
  intro K _ _ C hret
  have C : Cx K ({ frames := 0, cells := 0, slots := 0, locals := 0 } : Room) 1 cX0_level RX0 wsX0_level [(cA, .int)] := C
  obtain ⟨o1, o2, o3, o4, o5, o6, o7, o8, o9, o10, o11, o12⟩ := id ok
  obtain ⟨x1, x2, x3⟩ := id hx
  refine g_aload_n C dX0_level_0 0 rfl rfl ?_
  refine g_get (ci := 0) C inX0_level rfl 0 7 (by decide) lkX0_level_73 dX0_level_1 rfl rfl ?_
  exact hret _ _ _ () dX0_level_4 rfl rfl
set_option maxHeartbeats 4000000 in
set_option maxRecDepth 100000 in
theorem c_X0_pointer (l : Launch) (D : va_G) {cA : ClassId} {h0 hk hv hr nk nr b c pl bl n lv pt : Nat} {fk fv fr : Nat → Int32} (ok : okS b c pl bl n lv pt) (hx : n ≤ nk ∧ nk ≤ 512 ∧ nr = bl)   : MetI (S := Unit) l yX0_pointer wsX0_pointer ({ frames := 0, cells := 0, slots := 0, locals := 0 } : Room) D [(cA, .int)] [.ref h0] (wX h0 hk hv hr cA nk nr b c pl bl n lv pt fk fv fr) (fun _ => wX h0 hk hv hr cA nk nr b c pl bl n lv pt fk fv fr) (fun r _ => r = nI pt) 0 0 := by
  refine MetI_of (cc := cX0_pointer) (maxL := 1) (rt := .int) (lv0 := [(0, .ref h0)]) (by decide) rfl (Nat.le_of_ble_eq_true rfl) rfl ?_
  intro K _ _ C hret
  have C : Cx K ({ frames := 0, cells := 0, slots := 0, locals := 0 } : Room) 1 cX0_pointer RX0 wsX0_pointer [(cA, .int)] := C
  obtain ⟨o1, o2, o3, o4, o5, o6, o7, o8, o9, o10, o11, o12⟩ := id ok
  obtain ⟨x1, x2, x3⟩ := id hx
  refine g_aload_n C dX0_pointer_0 0 rfl rfl ?_
  refine g_get (ci := 0) C inX0_pointer rfl 0 8 (by decide) lkX0_pointer_70 dX0_pointer_1 rfl rfl ?_
  exact hret _ _ _ () dX0_pointer_4 rfl rfl
set_option maxHeartbeats 4000000 in
set_option maxRecDepth 100000 in
theorem c_X0_get (l : Launch) (D : va_G) {cA : ClassId} {h0 hk hv hr nk nr b c pl bl n lv pt : Nat} {fk fv fr : Nat → Int32} (ok : okS b c pl bl n lv pt) (hx : n ≤ nk ∧ nk ≤ 512 ∧ nr = bl) (k : Int32)  : MetI (S := Unit) l yX0_get wsX0_get ({ frames := 1, cells := 0, slots := 0, locals := 22 } : Room) D [(cA, .int)] [.ref h0, .int k] (wX h0 hk hv hr cA nk nr b c pl bl n lv pt fk fv fr) (fun _ => wX h0 hk hv hr cA nk nr b c pl bl n lv pt fk fv fr) (fun r _ => (∃ j, j < n ∧ fk j = k ∧ r = fv j) ∨ ((∀ j, j < n → fk j ≠ k) ∧ r = nI 0)) 0 0 := by
  refine MetI_of (cc := cX0_get) (maxL := 3) (rt := .int) (lv0 := [(0, .ref h0), (1, .int k)]) (by decide) rfl (Nat.le_of_ble_eq_true rfl) rfl ?_
  intro K _ _ C hret
  have C : Cx K ({ frames := 1, cells := 0, slots := 0, locals := 22 } : Room) 3 cX0_get RX0 wsX0_get [(cA, .int)] := C
  obtain ⟨o1, o2, o3, o4, o5, o6, o7, o8, o9, o10, o11, o12⟩ := id ok
  obtain ⟨x1, x2, x3⟩ := id hx
  refine g_aload_n C dX0_get_0 0 rfl rfl ?_
  refine g_iload_n C dX0_get_1 1 rfl rfl ?_
  refine g_callI0 (ci := 0) (q0 := 0) (rest := []) C (c_X0_placeOf _ _ ok hx k) gX0_get_X0_placeOf rfl rfl rfl hdX0_placeOf (by decide) rfl rfl rfl rfl (Nat.le_of_ble_eq_true rfl) dX0_get_2 (fun r _ hw => ?_)
  show G K 0 0 5 [(0, .ref h0), (1, .int k)] [.int r] (wX h0 hk hv hr cA nk nr b c pl bl n lv pt fk fv fr)
  refine g_istore_n (lv' := [(2, .int r), (0, .ref h0), (1, .int k)]) C dX0_get_5 rfl (by decide) rfl ?_
  refine g_iload_n C dX0_get_6 0 rfl rfl ?_
  refine g_iconst (v := -1) C dX0_get_7 (by decide) ?_
  refine g_icmp_neI C 15 dX0_get_8 (by decide) (fun h8 => ?_) (fun h8 => ?_)
  · obtain ⟨j, hj, hkj, er⟩ : ∃ j, j < n ∧ fk j = k ∧ r = nI j := by
      rcases hw with ⟨j, a1, a2, _, a3⟩ | ⟨_, a3⟩
      · exact ⟨j, a1, a2, a3⟩
      · exact absurd a3 h8
    subst er
    refine g_aload_n C dX0_get_15 1 rfl rfl ?_
    refine g_get (ci := 0) C inX0_get rfl 0 5 (by decide) lkX0_get_36 dX0_get_16 rfl rfl ?_
    refine g_iload_n C dX0_get_19 0 rfl rfl ?_
    refine g_iald C 2 dX0_get_20 rfl (by omega) (by omega) ?_
    exact hret _ _ _ () dX0_get_21 rfl (Or.inl ⟨j, hj, hkj, rfl⟩)
  · have hno : ∀ j, j < n → fk j ≠ k := by
      rcases hw with ⟨j, a1, a2, _, a3⟩ | ⟨a1, _⟩
      · exact absurd (a3.symm.trans h8) (nI_m1 (by omega))
      · exact a1
    refine g_iconst (v := nI 0) C dX0_get_11 (by decide) ?_
    refine g_goto C 21 dX0_get_12 (by decide) ?_
    exact hret _ _ _ () dX0_get_21 rfl (Or.inr ⟨hno, rfl⟩)
set_option maxHeartbeats 4000000 in
set_option maxRecDepth 100000 in
theorem c_X0_has (l : Launch) (D : va_G) {cA : ClassId} {h0 hk hv hr nk nr b c pl bl n lv pt : Nat} {fk fv fr : Nat → Int32} (ok : okS b c pl bl n lv pt) (hx : n ≤ nk ∧ nk ≤ 512 ∧ nr = bl) (k : Int32)  : MetI (S := Unit) l yX0_has wsX0_has ({ frames := 1, cells := 0, slots := 0, locals := 22 } : Room) D [(cA, .int)] [.ref h0, .int k] (wX h0 hk hv hr cA nk nr b c pl bl n lv pt fk fv fr) (fun _ => wX h0 hk hv hr cA nk nr b c pl bl n lv pt fk fv fr) (fun r _ => r = bI (∃ j, j < n ∧ fk j = k)) 0 0 := by
  refine MetI_of (cc := cX0_has) (maxL := 2) (rt := .boolean) (lv0 := [(0, .ref h0), (1, .int k)]) (by decide) rfl (Nat.le_of_ble_eq_true rfl) rfl ?_
  intro K _ _ C hret
  have C : Cx K ({ frames := 1, cells := 0, slots := 0, locals := 22 } : Room) 2 cX0_has RX0 wsX0_has [(cA, .int)] := C
  obtain ⟨o1, o2, o3, o4, o5, o6, o7, o8, o9, o10, o11, o12⟩ := id ok
  obtain ⟨x1, x2, x3⟩ := id hx
  refine g_aload_n C dX0_has_0 0 rfl rfl ?_
  refine g_iload_n C dX0_has_1 1 rfl rfl ?_
  refine g_callI0 (ci := 0) (q0 := 0) (rest := []) C (c_X0_placeOf _ _ ok hx k) gX0_has_X0_placeOf rfl rfl rfl hdX0_placeOf (by decide) rfl rfl rfl rfl (Nat.le_of_ble_eq_true rfl) dX0_has_2 (fun r _ hw => ?_)
  show G K 0 0 5 [(0, .ref h0), (1, .int k)] [.int r] (wX h0 hk hv hr cA nk nr b c pl bl n lv pt fk fv fr)
  refine g_iconst (v := -1) C dX0_has_5 (by decide) ?_
  refine g_icmp_eqI C 13 dX0_has_6 (by decide) (fun h6 => ?_) (fun h6 => ?_)
  · have hno : ∀ j, j < n → fk j ≠ k := by
      rcases hw with ⟨j, a1, a2, _, a3⟩ | ⟨a1, _⟩
      · exact absurd (a3.symm.trans h6) (nI_m1 (by omega))
      · exact a1
    refine g_iconst (v := nI 0) C dX0_has_13 (by decide) ?_
    exact hret _ _ _ () dX0_has_14 (by decide) (bI_f (fun ⟨j, a1, a2⟩ => hno j a1 a2)).symm
  · obtain ⟨j, hj, hkj, er⟩ : ∃ j, j < n ∧ fk j = k ∧ r = nI j := by
      rcases hw with ⟨j, a1, a2, _, a3⟩ | ⟨_, a3⟩
      · exact ⟨j, a1, a2, a3⟩
      · exact absurd a3 h6
    subst er
    refine g_iconst (v := nI 1) C dX0_has_9 (by decide) ?_
    refine g_goto C 14 dX0_has_10 (by decide) ?_
    exact hret _ _ _ () dX0_has_14 (by decide) (bI_t ⟨j, hj, hkj⟩).symm
end
section
set_option maxHeartbeats 4000000 in
set_option maxRecDepth 100000 in
theorem c_X0_lastPlaceOfBucket (l : Launch) (D : va_G) {cA : ClassId} {h0 hk hv hr nk nr b c pl bl n lv pt : Nat} {fk fv fr : Nat → Int32} (ok : okS b c pl bl n lv pt) (hx : n ≤ nk ∧ nk ≤ 512 ∧ nr = bl) (q : Nat) (hq : q < 2 ^ 31) : MetI (S := Unit) l yX0_lastPlaceOfBucket wsX0_lastPlaceOfBucket ({ frames := 2, cells := 0, slots := 0, locals := 43 } : Room) D [(cA, .int)] [.ref h0, .int (nI q)] (wX h0 hk hv hr cA nk nr b c pl bl n lv pt fk fv fr) (fun _ => wX h0 hk hv hr cA nk nr b c pl bl n lv pt fk fv fr) (fun r _ => (∃ j, j < n ∧ bk b lv pt (fk j) = q ∧ (∀ i, j < i → i < n → bk b lv pt (fk i) ≠ q) ∧ r = nI j) ∨ ((∀ j, j < n → bk b lv pt (fk j) ≠ q) ∧ r = -1)) 0 0 := by
  refine MetI_of (cc := cX0_lastPlaceOfBucket) (maxL := 3) (rt := .int) (lv0 := [(0, .ref h0), (1, .int (nI q))]) (by decide) rfl (Nat.le_of_ble_eq_true rfl) rfl ?_
  intro K _ _ C hret
  have C : Cx K ({ frames := 2, cells := 0, slots := 0, locals := 43 } : Room) 3 cX0_lastPlaceOfBucket RX0 wsX0_lastPlaceOfBucket [(cA, .int)] := C
  obtain ⟨o1, o2, o3, o4, o5, o6, o7, o8, o9, o10, o11, o12⟩ := id ok
  obtain ⟨x1, x2, x3⟩ := id hx
  refine g_aload_n C dX0_lastPlaceOfBucket_0 0 rfl rfl ?_
  refine g_get (ci := 0) C inX0_lastPlaceOfBucket rfl 0 6 (by decide) lkX0_lastPlaceOfBucket_46 dX0_lastPlaceOfBucket_1 rfl rfl ?_
  refine g_iconst (v := nI 1) C dX0_lastPlaceOfBucket_4 (by decide) ?_
  refine g_isubI C dX0_lastPlaceOfBucket_5 ?_
  refine g_istore_n (lv' := [(2, .int ((nI n) - (nI 1))), (0, .ref h0), (1, .int (nI q))]) C dX0_lastPlaceOfBucket_6 rfl (by decide) rfl ?_
  have loop7 : ∀ (t : Nat) (i : Nat) (x : Int32), i ≤ n → i < t → ((i = 0 ∧ x = -1) ∨ (∃ m, i = m + 1 ∧ x = nI m)) → (∀ j, i ≤ j → j < n → bk b lv pt (fk j) ≠ q) → G K 0 0 7 [(2, .int x), (0, .ref h0), (1, .int (nI q))] [] (wX h0 hk hv hr cA nk nr b c pl bl n lv pt fk fv fr) := by
    intro t
    induction t with
    | zero =>
      intro i x hi ht hxe hall
      exact absurd ht (by omega)
    | succ t ih =>
      intro i x hi ht hxe hall
      refine g_iload_n C dX0_lastPlaceOfBucket_7 0 rfl rfl ?_
      refine g_if_lt C 33 dX0_lastPlaceOfBucket_8 (by decide) (fun h8 => ?_) (fun h8 => ?_)
      · have hi0 : i = 0 := by
          rcases hxe with ⟨a1, _⟩ | ⟨m, a1, a2⟩
          · exact a1
          · exact absurd (a2 ▸ h8) (nI_pos (by omega))
        refine g_iconst (v := -1) C dX0_lastPlaceOfBucket_33 (by decide) ?_
        exact hret _ _ _ () dX0_lastPlaceOfBucket_34 rfl (Or.inr ⟨fun j hj => hall j (by omega) hj, rfl⟩)
      · obtain ⟨m, em, ex⟩ : ∃ m, i = m + 1 ∧ x = nI m := by
          rcases hxe with ⟨_, a2⟩ | a
          · exact absurd (show x < 0 by rw [a2]; decide) h8
          · exact a
        subst ex
        subst em
        refine g_aload_n C dX0_lastPlaceOfBucket_11 1 rfl rfl ?_
        refine g_aload_n C dX0_lastPlaceOfBucket_12 1 rfl rfl ?_
        refine g_get (ci := 0) C inX0_lastPlaceOfBucket rfl 0 4 (by decide) lkX0_lastPlaceOfBucket_32 dX0_lastPlaceOfBucket_13 rfl rfl ?_
        refine g_iload_n C dX0_lastPlaceOfBucket_16 0 rfl rfl ?_
        refine g_iald C 1 dX0_lastPlaceOfBucket_17 rfl (by omega) (by omega) ?_
        refine g_callI0 (ci := 0) (q0 := 0) (rest := []) C (c_X0_bucketOf _ _ ok hx (fk m)) gX0_lastPlaceOfBucket_X0_bucketOf rfl rfl rfl hdX0_bucketOf (by decide) rfl rfl rfl rfl (Nat.le_of_ble_eq_true rfl) dX0_lastPlaceOfBucket_18 (fun r _ hw => ?_)
        subst hw
        show G K 0 0 21 [(2, .int (nI m)), (0, .ref h0), (1, .int (nI q))] [.int (nI (bk b lv pt (fk m)))] (wX h0 hk hv hr cA nk nr b c pl bl n lv pt fk fv fr)
        refine g_iload_n C dX0_lastPlaceOfBucket_21 2 rfl rfl ?_
        refine g_icmp_ne C 27 dX0_lastPlaceOfBucket_22 (by decide) (by have := bk_lt (b := b) (lv := lv) (pt := pt) (fk m) (by omega); omega) (by omega) (fun h22 => ?_) (fun h22 => ?_)
        · refine g_iinc (v := nI m + Int32.ofInt (-1)) (lv' := [(2, .int (nI m + Int32.ofInt (-1))), (0, .ref h0), (1, .int (nI q))]) C dX0_lastPlaceOfBucket_27 0 rfl rfl (by decide) rfl ?_
          refine g_goto C 7 dX0_lastPlaceOfBucket_30 (by decide) ?_
          refine g_lv [0, 1, 2] rfl ?_
          exact ih m (nI m + Int32.ofInt (-1)) (by omega) (by omega) (dec_x m) (fun j a1 a2 => (Nat.eq_or_lt_of_le a1).elim (fun e => e ▸ h22) (fun e => hall j e a2))
        · refine g_iload_n C dX0_lastPlaceOfBucket_25 0 rfl rfl ?_
          exact hret _ _ _ () dX0_lastPlaceOfBucket_26 rfl (Or.inl ⟨m, by omega, h22, fun i a1 a2 => hall i a1 a2, rfl⟩)
  refine g_lv [0, 1, 2] rfl ?_
  exact loop7 (n + 1) n (nI n - nI 1) (by omega) (by omega) (dec_n n) (fun j a1 a2 => absurd a1 (by omega))
set_option maxHeartbeats 4000000 in
set_option maxRecDepth 100000 in
theorem c_X0_moveToEnd (l : Launch) (D : va_G) {cA : ClassId} {h0 hk hv hr nk nr b c pl bl n lv pt : Nat} {fk fv fr : Nat → Int32} (ok : okS b c pl bl n lv pt) (hx : n ≤ nk ∧ nk ≤ 512 ∧ nr = bl) (a : Nat) (ha : a < n) : MetV (S := Unit) l yX0_moveToEnd wsX0_moveToEnd ({ frames := 0, cells := 0, slots := 0, locals := 0 } : Room) D [(cA, .int)] [.ref h0, .int (nI a)] (wX h0 hk hv hr cA nk nr b c pl bl n lv pt fk fv fr) (fun _ => wX h0 hk hv hr cA nk nr b c pl bl n lv pt (mv fk a n) (mv fv a n) fr) (fun _ => True) 0 0 := by
  refine MetV_of (cc := cX0_moveToEnd) (maxL := 5) (lv0 := [(0, .ref h0), (1, .int (nI a))]) (by decide) rfl (Nat.le_of_ble_eq_true rfl) rfl ?_
  intro K _ _ C _ hret
  have C : Cx K ({ frames := 0, cells := 0, slots := 0, locals := 0 } : Room) 5 cX0_moveToEnd RX0 wsX0_moveToEnd [(cA, .int)] := C
  obtain ⟨o1, o2, o3, o4, o5, o6, o7, o8, o9, o10, o11, o12⟩ := id ok
  obtain ⟨x1, x2, x3⟩ := id hx
  refine g_aload_n C dX0_moveToEnd_0 0 rfl rfl ?_
  refine g_get (ci := 0) C inX0_moveToEnd rfl 0 4 (by decide) lkX0_moveToEnd_32 dX0_moveToEnd_1 rfl rfl ?_
  refine g_iload_n C dX0_moveToEnd_4 1 rfl rfl ?_
  refine g_iald C 1 dX0_moveToEnd_5 rfl (by omega) (by omega) ?_
  refine g_istore_n (lv' := [(2, .int (fk a)), (0, .ref h0), (1, .int (nI a))]) C dX0_moveToEnd_6 rfl (by decide) rfl ?_
  refine g_aload_n C dX0_moveToEnd_7 1 rfl rfl ?_
  refine g_get (ci := 0) C inX0_moveToEnd rfl 0 5 (by decide) lkX0_moveToEnd_36 dX0_moveToEnd_8 rfl rfl ?_
  refine g_iload_n C dX0_moveToEnd_11 2 rfl rfl ?_
  refine g_iald C 2 dX0_moveToEnd_12 rfl (by omega) (by omega) ?_
  refine g_istore_n (lv' := [(3, .int (fv a)), (2, .int (fk a)), (0, .ref h0), (1, .int (nI a))]) C dX0_moveToEnd_13 rfl (by decide) rfl ?_
  refine g_iload_n C dX0_moveToEnd_14 3 rfl rfl ?_
  refine g_istore (lv' := [(4, .int (nI a)), (3, .int (fv a)), (2, .int (fk a)), (0, .ref h0), (1, .int (nI a))]) C dX0_moveToEnd_15 (by decide) rfl ?_
  have loop17 : ∀ (t : Nat) (i : Nat), a ≤ i → i ≤ n - 1 → n - 1 < i + t → G K 0 0 17 [(4, .int (nI i)), (0, .ref h0), (1, .int (nI a)), (2, .int (fk a)), (3, .int (fv a))] [] (wX h0 hk hv hr cA nk nr b c pl bl n lv pt (sh fk a i) (sh fv a i) fr) := by
    intro t
    induction t with
    | zero =>
      intro i hi hi2 ht
      exact absurd ht (by omega)
    | succ t ih =>
      intro i hi hi2 ht
      refine g_iload C dX0_moveToEnd_17 0 rfl ?_
      refine g_aload_n C dX0_moveToEnd_19 1 rfl rfl ?_
      refine g_get (ci := 0) C inX0_moveToEnd rfl 0 6 (by decide) lkX0_moveToEnd_46 dX0_moveToEnd_20 rfl rfl ?_
      refine g_iconst (v := nI 1) C dX0_moveToEnd_23 (by decide) ?_
      refine g_isub C dX0_moveToEnd_24 (by omega) ?_
      refine g_icmp_ge C 66 dX0_moveToEnd_25 (by decide) (by omega) (by omega) (fun h25 => ?_) (fun h25 => ?_)
      · obtain rfl : i = n - 1 := by omega
        refine g_aload_n C dX0_moveToEnd_66 1 rfl rfl ?_
        refine g_get (ci := 0) C inX0_moveToEnd rfl 0 4 (by decide) lkX0_moveToEnd_32 dX0_moveToEnd_67 rfl rfl ?_
        refine g_aload_n C dX0_moveToEnd_70 1 rfl rfl ?_
        refine g_get (ci := 0) C inX0_moveToEnd rfl 0 6 (by decide) lkX0_moveToEnd_46 dX0_moveToEnd_71 rfl rfl ?_
        refine g_iconst (v := nI 1) C dX0_moveToEnd_74 (by decide) ?_
        refine g_isub C dX0_moveToEnd_75 (by omega) ?_
        refine g_iload_n C dX0_moveToEnd_76 3 rfl rfl ?_
        refine g_iast (ws' := wX h0 hk hv hr cA nk nr b c pl bl n lv pt (upd (sh fk a (n - 1)) (n - 1) (fk a)) (sh fv a (n - 1)) fr) C 1 dX0_moveToEnd_77 rfl (by omega) (by omega) rfl ?_
        refine g_aload_n C dX0_moveToEnd_78 1 rfl rfl ?_
        refine g_get (ci := 0) C inX0_moveToEnd rfl 0 5 (by decide) lkX0_moveToEnd_36 dX0_moveToEnd_79 rfl rfl ?_
        refine g_aload_n C dX0_moveToEnd_82 1 rfl rfl ?_
        refine g_get (ci := 0) C inX0_moveToEnd rfl 0 6 (by decide) lkX0_moveToEnd_46 dX0_moveToEnd_83 rfl rfl ?_
        refine g_iconst (v := nI 1) C dX0_moveToEnd_86 (by decide) ?_
        refine g_isub C dX0_moveToEnd_87 (by omega) ?_
        refine g_iload_n C dX0_moveToEnd_88 4 rfl rfl ?_
        refine g_iast (ws' := wX h0 hk hv hr cA nk nr b c pl bl n lv pt (upd (sh fk a (n - 1)) (n - 1) (fk a)) (upd (sh fv a (n - 1)) (n - 1) (fv a)) fr) C 2 dX0_moveToEnd_89 rfl (by omega) (by omega) rfl ?_
        exact hret _ _ () dX0_moveToEnd_90 trivial
      · refine g_aload_n C dX0_moveToEnd_28 1 rfl rfl ?_
        refine g_get (ci := 0) C inX0_moveToEnd rfl 0 4 (by decide) lkX0_moveToEnd_32 dX0_moveToEnd_29 rfl rfl ?_
        refine g_iload C dX0_moveToEnd_32 0 rfl ?_
        refine g_aload_n C dX0_moveToEnd_34 1 rfl rfl ?_
        refine g_get (ci := 0) C inX0_moveToEnd rfl 0 4 (by decide) lkX0_moveToEnd_32 dX0_moveToEnd_35 rfl rfl ?_
        refine g_iload C dX0_moveToEnd_38 0 rfl ?_
        refine g_iconst (v := nI 1) C dX0_moveToEnd_40 (by decide) ?_
        refine g_iadd C dX0_moveToEnd_41 ?_
        refine g_iald C 1 dX0_moveToEnd_42 rfl (by omega) (by omega) ?_
        refine g_iast (ws' := wX h0 hk hv hr cA nk nr b c pl bl n lv pt (upd (sh fk a i) i ((sh fk a i) (i + 1))) (sh fv a i) fr) C 1 dX0_moveToEnd_43 rfl (by omega) (by omega) rfl ?_
        refine g_wd (ws' := wX h0 hk hv hr cA nk nr b c pl bl n lv pt (sh fk a (i + 1)) (sh fv a i) fr) (by rw [sh_s fk hi]) ?_
        refine g_aload_n C dX0_moveToEnd_44 1 rfl rfl ?_
        refine g_get (ci := 0) C inX0_moveToEnd rfl 0 5 (by decide) lkX0_moveToEnd_36 dX0_moveToEnd_45 rfl rfl ?_
        refine g_iload C dX0_moveToEnd_48 0 rfl ?_
        refine g_aload_n C dX0_moveToEnd_50 1 rfl rfl ?_
        refine g_get (ci := 0) C inX0_moveToEnd rfl 0 5 (by decide) lkX0_moveToEnd_36 dX0_moveToEnd_51 rfl rfl ?_
        refine g_iload C dX0_moveToEnd_54 0 rfl ?_
        refine g_iconst (v := nI 1) C dX0_moveToEnd_56 (by decide) ?_
        refine g_iadd C dX0_moveToEnd_57 ?_
        refine g_iald C 2 dX0_moveToEnd_58 rfl (by omega) (by omega) ?_
        refine g_iast (ws' := wX h0 hk hv hr cA nk nr b c pl bl n lv pt (sh fk a (i + 1)) (upd (sh fv a i) i ((sh fv a i) (i + 1))) fr) C 2 dX0_moveToEnd_59 rfl (by omega) (by omega) rfl ?_
        refine g_wd (ws' := wX h0 hk hv hr cA nk nr b c pl bl n lv pt (sh fk a (i + 1)) (sh fv a (i + 1)) fr) (by rw [sh_s fv hi]) ?_
        refine g_iinc (v := nI (i + 1)) (lv' := [(4, .int (nI (i + 1))), (0, .ref h0), (1, .int (nI a)), (2, .int (fk a)), (3, .int (fv a))]) C dX0_moveToEnd_60 0 rfl (nI_add _ 1) (by decide) rfl ?_
        refine g_goto C 17 dX0_moveToEnd_63 (by decide) ?_
        refine g_lv [0, 1, 2, 3, 4] rfl ?_
        exact ih (i + 1) (by omega) (by omega) (by omega)
  refine g_wd (ws' := wX h0 hk hv hr cA nk nr b c pl bl n lv pt (sh fk a a) (sh fv a a) fr) (by rw [sh_0, sh_0]) ?_
  refine g_lv [0, 3, 4, 2, 1] rfl ?_
  exact loop17 n a (Nat.le_refl _) (by omega) (by omega)
set_option maxHeartbeats 4000000 in
set_option maxRecDepth 100000 in
theorem c_X0_moveBucketToEnd (l : Launch) (D : va_G) {cA : ClassId} {h0 hk hv hr nk nr b c pl bl n lv pt : Nat} {fk fv fr : Nat → Int32} (ok : okS b c pl bl n lv pt) (hx : n ≤ nk ∧ nk ≤ 512 ∧ nr = bl) (q : Nat) (hq : q < 2 ^ 31) : MetV (S := Unit) l yX0_moveBucketToEnd wsX0_moveBucketToEnd ({ frames := 2, cells := 0, slots := 0, locals := 43 } : Room) D [(cA, .int)] [.ref h0, .int (nI q)] (wX h0 hk hv hr cA nk nr b c pl bl n lv pt fk fv fr) (fun _ => wX h0 hk hv hr cA nk nr b c pl bl n lv pt ((mb (bk b lv pt) q n n 0 fk fv).1) ((mb (bk b lv pt) q n n 0 fk fv).2) fr) (fun _ => True) 0 0 := by
  refine MetV_of (cc := cX0_moveBucketToEnd) (maxL := 4) (lv0 := [(0, .ref h0), (1, .int (nI q))]) (by decide) rfl (Nat.le_of_ble_eq_true rfl) rfl ?_
  intro K _ _ C _ hret
  have C : Cx K ({ frames := 2, cells := 0, slots := 0, locals := 43 } : Room) 4 cX0_moveBucketToEnd RX0 wsX0_moveBucketToEnd [(cA, .int)] := C
  obtain ⟨o1, o2, o3, o4, o5, o6, o7, o8, o9, o10, o11, o12⟩ := id ok
  obtain ⟨x1, x2, x3⟩ := id hx
  refine g_iconst (v := nI 0) C dX0_moveBucketToEnd_0 (by decide) ?_
  refine g_istore_n (lv' := [(2, .int (nI 0)), (0, .ref h0), (1, .int (nI q))]) C dX0_moveBucketToEnd_1 rfl (by decide) rfl ?_
  refine g_iconst (v := nI 0) C dX0_moveBucketToEnd_2 (by decide) ?_
  refine g_istore_n (lv' := [(3, .int (nI 0)), (2, .int (nI 0)), (0, .ref h0), (1, .int (nI q))]) C dX0_moveBucketToEnd_3 rfl (by decide) rfl ?_
  have loop4 : ∀ (t : Nat) (a : Nat) (s : Nat) (fk2 : Nat → Int32) (fv2 : Nat → Int32), a ≤ s → s ≤ n → n < s + t → mb (bk b lv pt) q n (n - s) a fk2 fv2 = mb (bk b lv pt) q n n 0 fk fv → G K 0 0 4 [(3, .int (nI s)), (2, .int (nI a)), (0, .ref h0), (1, .int (nI q))] [] (wX h0 hk hv hr cA nk nr b c pl bl n lv pt fk2 fv2 fr) := by
    intro t
    induction t with
    | zero =>
      intro a s fk2 fv2 ha hs ht hmb
      exact absurd ht (by omega)
    | succ t ih =>
      intro a s fk2 fv2 ha hs ht hmb
      refine g_iload_n C dX0_moveBucketToEnd_4 0 rfl rfl ?_
      refine g_aload_n C dX0_moveBucketToEnd_5 2 rfl rfl ?_
      refine g_get (ci := 0) C inX0_moveBucketToEnd rfl 0 6 (by decide) lkX0_moveBucketToEnd_46 dX0_moveBucketToEnd_6 rfl rfl ?_
      refine g_icmp_ge C 43 dX0_moveBucketToEnd_9 (by decide) (by omega) (by omega) (fun h9 => ?_) (fun h9 => ?_)
      · have e0 : n - s = 0 := by omega
        rw [e0] at hmb
        have e1 : fk2 = (mb (bk b lv pt) q n n 0 fk fv).1 := by rw [← hmb]; rfl
        have e2 : fv2 = (mb (bk b lv pt) q n n 0 fk fv).2 := by rw [← hmb]; rfl
        refine g_wd (ws' := wX h0 hk hv hr cA nk nr b c pl bl n lv pt ((mb (bk b lv pt) q n n 0 fk fv).1) ((mb (bk b lv pt) q n n 0 fk fv).2) fr) (by rw [← e1, ← e2]) ?_
        exact hret _ _ () dX0_moveBucketToEnd_43 trivial
      · refine g_aload_n C dX0_moveBucketToEnd_12 2 rfl rfl ?_
        refine g_aload_n C dX0_moveBucketToEnd_13 2 rfl rfl ?_
        refine g_get (ci := 0) C inX0_moveBucketToEnd rfl 0 4 (by decide) lkX0_moveBucketToEnd_32 dX0_moveBucketToEnd_14 rfl rfl ?_
        refine g_iload_n C dX0_moveBucketToEnd_17 1 rfl rfl ?_
        refine g_iald C 1 dX0_moveBucketToEnd_18 rfl (by omega) (by omega) ?_
        refine g_callI0 (ci := 0) (q0 := 0) (rest := []) C (c_X0_bucketOf _ _ ok hx (fk2 a)) gX0_moveBucketToEnd_X0_bucketOf rfl rfl rfl hdX0_bucketOf (by decide) rfl rfl rfl rfl (Nat.le_of_ble_eq_true rfl) dX0_moveBucketToEnd_19 (fun r _ hw => ?_)
        subst hw
        show G K 0 0 22 [(3, .int (nI s)), (2, .int (nI a)), (0, .ref h0), (1, .int (nI q))] [.int (nI (bk b lv pt (fk2 a)))] (wX h0 hk hv hr cA nk nr b c pl bl n lv pt fk2 fv2 fr)
        refine g_iload_n C dX0_moveBucketToEnd_22 3 rfl rfl ?_
        refine g_icmp_ne C 34 dX0_moveBucketToEnd_23 (by decide) (by have := bk_lt (b := b) (lv := lv) (pt := pt) (fk2 a) (by omega); omega) (by omega) (fun h23 => ?_) (fun h23 => ?_)
        · refine g_iinc (v := nI (a + 1)) (lv' := [(2, .int (nI (a + 1))), (3, .int (nI s)), (0, .ref h0), (1, .int (nI q))]) C dX0_moveBucketToEnd_34 1 rfl (nI_add _ 1) (by decide) rfl ?_
          refine g_iinc (v := nI (s + 1)) (lv' := [(3, .int (nI (s + 1))), (2, .int (nI (a + 1))), (0, .ref h0), (1, .int (nI q))]) C dX0_moveBucketToEnd_37 1 rfl (nI_add _ 1) (by decide) rfl ?_
          refine g_goto C 4 dX0_moveBucketToEnd_40 (by decide) ?_
          refine g_lv [0, 1, 2, 3] rfl ?_
          exact ih (a + 1) (s + 1) fk2 fv2 (by omega) (by omega) (by omega) (by rw [← hmb, show n - s = (n - (s + 1)) + 1 by omega, mb_f h23])
        · refine g_aload_n C dX0_moveBucketToEnd_26 2 rfl rfl ?_
          refine g_iload_n C dX0_moveBucketToEnd_27 1 rfl rfl ?_
          refine g_callV0 (ci := 0) (q0 := 0) (rest := []) C (c_X0_moveToEnd _ _ ok hx a (by omega)) gX0_moveBucketToEnd_X0_moveToEnd rfl rfl rfl hdX0_moveToEnd (by decide) rfl rfl rfl rfl (Nat.le_of_ble_eq_true rfl) dX0_moveBucketToEnd_28 (fun _ _ => ?_)
          show G K 0 0 31 [(3, .int (nI s)), (2, .int (nI a)), (0, .ref h0), (1, .int (nI q))] [] (wX h0 hk hv hr cA nk nr b c pl bl n lv pt (mv fk2 a n) (mv fv2 a n) fr)
          refine g_goto C 37 dX0_moveBucketToEnd_31 (by decide) ?_
          refine g_iinc (v := nI (s + 1)) (lv' := [(3, .int (nI (s + 1))), (2, .int (nI a)), (0, .ref h0), (1, .int (nI q))]) C dX0_moveBucketToEnd_37 0 rfl (nI_add _ 1) (by decide) rfl ?_
          refine g_goto C 4 dX0_moveBucketToEnd_40 (by decide) ?_
          refine g_lv [0, 1, 2, 3] rfl ?_
          exact ih a (s + 1) (mv fk2 a n) (mv fv2 a n) (by omega) (by omega) (by omega) (by rw [← hmb, show n - s = (n - (s + 1)) + 1 by omega, mb_t h23])
  refine g_lv [0, 1, 2, 3] rfl ?_
  exact loop4 (n + 1) 0 0 fk fv (by omega) (by omega) (by omega) rfl
set_option maxHeartbeats 4000000 in
set_option maxRecDepth 100000 in
theorem c_X0_takeOut (l : Launch) (D : va_G) {cA : ClassId} {h0 hk hv hr nk nr b c pl bl n lv pt : Nat} {fk fv fr : Nat → Int32} (ok : okS b c pl bl n lv pt) (hx : n ≤ nk ∧ nk ≤ 512 ∧ nr = bl) (a : Nat) (ha : a < n) : MetV (S := Nat) l yX0_takeOut wsX0_takeOut ({ frames := 3, cells := 0, slots := 0, locals := 65 } : Room) D [(cA, .int)] [.ref h0, .int (nI a)] (wX h0 hk hv hr cA nk nr b c pl bl n lv pt fk fv fr) (fun m => wX h0 hk hv hr cA nk nr b c pl bl (n - 1) lv pt (mv (upd fk a (fk m)) m n) (mv (upd fv a (fv m)) m n) fr) (fun m => lastP b n lv pt fk a m) 0 0 := by
  refine MetV_of (cc := cX0_takeOut) (maxL := 3) (lv0 := [(0, .ref h0), (1, .int (nI a))]) (by decide) rfl (Nat.le_of_ble_eq_true rfl) rfl ?_
  intro K _ _ C _ hret
  have C : Cx K ({ frames := 3, cells := 0, slots := 0, locals := 65 } : Room) 3 cX0_takeOut RX0 wsX0_takeOut [(cA, .int)] := C
  obtain ⟨o1, o2, o3, o4, o5, o6, o7, o8, o9, o10, o11, o12⟩ := id ok
  obtain ⟨x1, x2, x3⟩ := id hx
  refine g_aload_n C dX0_takeOut_0 0 rfl rfl ?_
  refine g_aload_n C dX0_takeOut_1 0 rfl rfl ?_
  refine g_aload_n C dX0_takeOut_2 0 rfl rfl ?_
  refine g_get (ci := 0) C inX0_takeOut rfl 0 4 (by decide) lkX0_takeOut_32 dX0_takeOut_3 rfl rfl ?_
  refine g_iload_n C dX0_takeOut_6 1 rfl rfl ?_
  refine g_iald C 1 dX0_takeOut_7 rfl (by omega) (by omega) ?_
  refine g_callI0 (ci := 0) (q0 := 0) (rest := [.ref h0]) C (c_X0_bucketOf _ _ ok hx (fk a)) gX0_takeOut_X0_bucketOf rfl rfl rfl hdX0_bucketOf (by decide) rfl rfl rfl rfl (Nat.le_of_ble_eq_true rfl) dX0_takeOut_8 (fun r _ hw => ?_)
  subst hw
  show G K 0 0 11 [(0, .ref h0), (1, .int (nI a))] [.int (nI (bk b lv pt (fk a))), .ref h0] (wX h0 hk hv hr cA nk nr b c pl bl n lv pt fk fv fr)
  refine g_callI0 (ci := 0) (q0 := 0) (rest := []) C (c_X0_lastPlaceOfBucket _ _ ok hx (bk b lv pt (fk a)) (by have := bk_lt (b := b) (lv := lv) (pt := pt) (fk a) (by omega); omega)) gX0_takeOut_X0_lastPlaceOfBucket rfl rfl rfl hdX0_lastPlaceOfBucket (by decide) rfl rfl rfl rfl (Nat.le_of_ble_eq_true rfl) dX0_takeOut_11 (fun r _ hw => ?_)
  show G K 0 0 14 [(0, .ref h0), (1, .int (nI a))] [.int r] (wX h0 hk hv hr cA nk nr b c pl bl n lv pt fk fv fr)
  refine g_istore_n (lv' := [(2, .int r), (0, .ref h0), (1, .int (nI a))]) C dX0_takeOut_14 rfl (by decide) rfl ?_
  refine g_iload_n C dX0_takeOut_15 0 rfl rfl ?_
  refine g_iconst (v := -1) C dX0_takeOut_16 (by decide) ?_
  refine g_icmp_neI C 21 dX0_takeOut_17 (by decide) (fun h17 => ?_) (fun h17 => ?_)
  · obtain ⟨j, hj, hjb, hjl, er⟩ : ∃ j, j < n ∧ bk b lv pt (fk j) = bk b lv pt (fk a) ∧ (∀ i, j < i → i < n → bk b lv pt (fk i) ≠ bk b lv pt (fk a)) ∧ r = nI j := by
      rcases hw with a | ⟨_, a4⟩
      · exact a
      · exact absurd a4 h17
    subst er
    have haj : a ≤ j := by
      rcases Nat.lt_or_ge j a with q | q
      · exact absurd rfl (hjl a q ha)
      · exact q
    refine g_aload_n C dX0_takeOut_21 1 rfl rfl ?_
    refine g_get (ci := 0) C inX0_takeOut rfl 0 4 (by decide) lkX0_takeOut_32 dX0_takeOut_22 rfl rfl ?_
    refine g_iload_n C dX0_takeOut_25 2 rfl rfl ?_
    refine g_aload_n C dX0_takeOut_26 1 rfl rfl ?_
    refine g_get (ci := 0) C inX0_takeOut rfl 0 4 (by decide) lkX0_takeOut_32 dX0_takeOut_27 rfl rfl ?_
    refine g_iload_n C dX0_takeOut_30 0 rfl rfl ?_
    refine g_iald C 1 dX0_takeOut_31 rfl (by omega) (by omega) ?_
    refine g_iast (ws' := wX h0 hk hv hr cA nk nr b c pl bl n lv pt (upd fk a (fk j)) fv fr) C 1 dX0_takeOut_32 rfl (by omega) (by omega) rfl ?_
    refine g_aload_n C dX0_takeOut_33 1 rfl rfl ?_
    refine g_get (ci := 0) C inX0_takeOut rfl 0 5 (by decide) lkX0_takeOut_36 dX0_takeOut_34 rfl rfl ?_
    refine g_iload_n C dX0_takeOut_37 2 rfl rfl ?_
    refine g_aload_n C dX0_takeOut_38 1 rfl rfl ?_
    refine g_get (ci := 0) C inX0_takeOut rfl 0 5 (by decide) lkX0_takeOut_36 dX0_takeOut_39 rfl rfl ?_
    refine g_iload_n C dX0_takeOut_42 0 rfl rfl ?_
    refine g_iald C 2 dX0_takeOut_43 rfl (by omega) (by omega) ?_
    refine g_iast (ws' := wX h0 hk hv hr cA nk nr b c pl bl n lv pt (upd fk a (fk j)) (upd fv a (fv j)) fr) C 2 dX0_takeOut_44 rfl (by omega) (by omega) rfl ?_
    refine g_aload_n C dX0_takeOut_45 1 rfl rfl ?_
    refine g_iload_n C dX0_takeOut_46 0 rfl rfl ?_
    refine g_callV0 (ci := 0) (q0 := 0) (rest := []) C (c_X0_moveToEnd _ _ ok hx j hj) gX0_takeOut_X0_moveToEnd rfl rfl rfl hdX0_moveToEnd (by decide) rfl rfl rfl rfl (Nat.le_of_ble_eq_true rfl) dX0_takeOut_47 (fun _ _ => ?_)
    show G K 0 0 50 [(2, .int (nI j)), (0, .ref h0), (1, .int (nI a))] [] (wX h0 hk hv hr cA nk nr b c pl bl n lv pt (mv (upd fk a (fk j)) j n) (mv (upd fv a (fv j)) j n) fr)
    refine g_aload_n C dX0_takeOut_50 1 rfl rfl ?_
    refine g_dup C dX0_takeOut_51 rfl ?_
    refine g_get (ci := 0) C inX0_takeOut rfl 0 6 (by decide) lkX0_takeOut_46 dX0_takeOut_52 rfl rfl ?_
    refine g_iconst (v := nI 1) C dX0_takeOut_55 (by decide) ?_
    refine g_isub C dX0_takeOut_56 (by omega) ?_
    refine g_put (ci := 0) (ty := .int) (ws' := wX h0 hk hv hr cA nk nr b c pl bl (n - 1) lv pt (mv (upd fk a (fk j)) j n) (mv (upd fv a (fv j)) j n) fr) C inX0_takeOut tyX0 tyX0_ok nmX0 rfl 0 6 (by decide) lkX0_takeOut_46 rfl pdX0_6 dX0_takeOut_57 rfl rfl rfl (Nat.le_of_ble_eq_true rfl) rfl ?_
    exact hret _ _ j dX0_takeOut_60 ⟨haj, hj, hjb, hjl⟩
  · rcases hw with ⟨j, a1, a2, a3, a4⟩ | ⟨a1, _⟩
    · exact absurd (a4.symm.trans h17) (nI_m1 (by omega))
    · exact absurd rfl (a1 a ha)
set_option maxHeartbeats 4000000 in
set_option maxRecDepth 100000 in
theorem c_X0_part (l : Launch) (D : va_G) {cA : ClassId} {h0 hk hv hr nk nr b c pl bl n lv pt : Nat} {fk fv fr : Nat → Int32} (ok : okS b c pl bl n lv pt) (hx : n ≤ nk ∧ nk ≤ 512 ∧ nr = bl)   : MetV (S := Unit) l yX0_part wsX0_part ({ frames := 1, cells := 0, slots := 0, locals := 20 } : Room) D [(cA, .int)] [.ref h0] (wX h0 hk hv hr cA nk nr b c pl bl n lv pt fk fv fr) (fun _ => wX h0 hk hv hr cA nk nr b c pl bl n (fwL b lv pt) (fwP b lv pt) fk fv fr) (fun _ => True) 0 0 := by
  refine MetV_of (cc := cX0_part) (maxL := 1) (lv0 := [(0, .ref h0)]) (by decide) rfl (Nat.le_of_ble_eq_true rfl) rfl ?_
  intro K _ _ C _ hret
  have C : Cx K ({ frames := 1, cells := 0, slots := 0, locals := 20 } : Room) 1 cX0_part RX0 wsX0_part [(cA, .int)] := C
  obtain ⟨o1, o2, o3, o4, o5, o6, o7, o8, o9, o10, o11, o12⟩ := id ok
  obtain ⟨x1, x2, x3⟩ := id hx
  refine g_aload_n C dX0_part_0 0 rfl rfl ?_
  refine g_dup C dX0_part_1 rfl ?_
  refine g_get (ci := 0) C inX0_part rfl 0 8 (by decide) lkX0_part_70 dX0_part_2 rfl rfl ?_
  refine g_iconst (v := nI 1) C dX0_part_5 (by decide) ?_
  refine g_iadd C dX0_part_6 ?_
  refine g_put (ci := 0) (ty := .int) (ws' := wX h0 hk hv hr cA nk nr b c pl bl n lv (pt + 1) fk fv fr) C inX0_part tyX0 tyX0_ok nmX0 rfl 0 8 (by decide) lkX0_part_70 rfl pdX0_8 dX0_part_7 rfl rfl rfl (Nat.le_of_ble_eq_true rfl) rfl ?_
  refine g_aload_n C dX0_part_10 0 rfl rfl ?_
  refine g_get (ci := 0) C inX0_part rfl 0 8 (by decide) lkX0_part_70 dX0_part_11 rfl rfl ?_
  refine g_aload_n C dX0_part_14 0 rfl rfl ?_
  refine g_callI0 (ci := 0) (q0 := 0) (rest := [.int (nI (pt + 1))]) C (c_X0_bucketsAtLevelStart _ _ o12 (by omega)) gX0_part_X0_bucketsAtLevelStart rfl rfl rfl hdX0_bucketsAtLevelStart (by decide) rfl rfl rfl rfl (Nat.le_of_ble_eq_true rfl) dX0_part_15 (fun r _ hw => ?_)
  subst hw
  show G K 0 0 18 [(0, .ref h0)] [.int (nI (rd b lv)), .int (nI (pt + 1))] (wX h0 hk hv hr cA nk nr b c pl bl n lv (pt + 1) fk fv fr)
  refine g_icmp_ne C 36 dX0_part_18 (by decide) (by omega) (by omega) (fun h18 => ?_) (fun h18 => ?_)
  · have e1 : fwL b lv pt = lv := if_neg h18
    have e2 : fwP b lv pt = pt + 1 := if_neg h18
    refine g_wd (ws' := wX h0 hk hv hr cA nk nr b c pl bl n (fwL b lv pt) (fwP b lv pt) fk fv fr) (by rw [e1, e2]) ?_
    exact hret _ _ () dX0_part_36 trivial
  · refine g_aload_n C dX0_part_21 0 rfl rfl ?_
    refine g_iconst (v := nI 0) C dX0_part_22 (by decide) ?_
    refine g_put (ci := 0) (ty := .int) (ws' := wX h0 hk hv hr cA nk nr b c pl bl n lv 0 fk fv fr) C inX0_part tyX0 tyX0_ok nmX0 rfl 0 8 (by decide) lkX0_part_70 rfl pdX0_8 dX0_part_23 rfl rfl rfl (Nat.le_of_ble_eq_true rfl) rfl ?_
    refine g_aload_n C dX0_part_26 0 rfl rfl ?_
    refine g_dup C dX0_part_27 rfl ?_
    refine g_get (ci := 0) C inX0_part rfl 0 7 (by decide) lkX0_part_73 dX0_part_28 rfl rfl ?_
    refine g_iconst (v := nI 1) C dX0_part_31 (by decide) ?_
    refine g_iadd C dX0_part_32 ?_
    refine g_put (ci := 0) (ty := .int) (ws' := wX h0 hk hv hr cA nk nr b c pl bl n (lv + 1) 0 fk fv fr) C inX0_part tyX0 tyX0_ok nmX0 rfl 0 7 (by decide) lkX0_part_73 rfl pdX0_7 dX0_part_33 rfl rfl rfl (Nat.le_of_ble_eq_true rfl) rfl ?_
    have e1 : fwL b lv pt = lv + 1 := if_pos h18
    have e2 : fwP b lv pt = 0 := if_pos h18
    refine g_wd (ws' := wX h0 hk hv hr cA nk nr b c pl bl n (fwL b lv pt) (fwP b lv pt) fk fv fr) (by rw [e1, e2]) ?_
    exact hret _ _ () dX0_part_36 trivial
set_option maxHeartbeats 4000000 in
set_option maxRecDepth 100000 in
theorem c_X0_join (l : Launch) (D : va_G) {cA : ClassId} {h0 hk hv hr nk nr b c pl bl n lv pt : Nat} {fk fv fr : Nat → Int32} (ok : okS b c pl bl n lv pt) (hx : n ≤ nk ∧ nk ≤ 512 ∧ nr = bl)  (hB : b < rd b lv + pt) : MetV (S := Unit) l yX0_join wsX0_join ({ frames := 3, cells := 0, slots := 0, locals := 66 } : Room) D [(cA, .int)] [.ref h0] (wX h0 hk hv hr cA nk nr b c pl bl n lv pt fk fv fr) (fun _ => wX h0 hk hv hr cA nk nr b c pl bl n (bwL pt lv) (bwP b lv pt) ((mb (bk b lv pt) (rd b lv + pt - 1) n n 0 fk fv).1) ((mb (bk b lv pt) (rd b lv + pt - 1) n n 0 fk fv).2) fr) (fun _ => True) 0 0 := by
  refine MetV_of (cc := cX0_join) (maxL := 1) (lv0 := [(0, .ref h0)]) (by decide) rfl (Nat.le_of_ble_eq_true rfl) rfl ?_
  intro K _ _ C _ hret
  have C : Cx K ({ frames := 3, cells := 0, slots := 0, locals := 66 } : Room) 1 cX0_join RX0 wsX0_join [(cA, .int)] := C
  obtain ⟨o1, o2, o3, o4, o5, o6, o7, o8, o9, o10, o11, o12⟩ := id ok
  obtain ⟨x1, x2, x3⟩ := id hx
  refine g_aload_n C dX0_join_0 0 rfl rfl ?_
  refine g_aload_n C dX0_join_1 0 rfl rfl ?_
  refine g_callI0 (ci := 0) (q0 := 0) (rest := [.ref h0]) C (c_X0_buckets _ _ ok hx) gX0_join_X0_buckets rfl rfl rfl hdX0_buckets (by decide) rfl rfl rfl rfl (Nat.le_of_ble_eq_true rfl) dX0_join_2 (fun r _ hw => ?_)
  subst hw
  show G K 0 0 5 [(0, .ref h0)] [.int (nI (rd b lv + pt)), .ref h0] (wX h0 hk hv hr cA nk nr b c pl bl n lv pt fk fv fr)
  refine g_iconst (v := nI 1) C dX0_join_5 (by decide) ?_
  refine g_isub C dX0_join_6 (by omega) ?_
  refine g_callV0 (ci := 0) (q0 := 0) (rest := []) C (c_X0_moveBucketToEnd _ _ ok hx (rd b lv + pt - 1) (by omega)) gX0_join_X0_moveBucketToEnd rfl rfl rfl hdX0_moveBucketToEnd (by decide) rfl rfl rfl rfl (Nat.le_of_ble_eq_true rfl) dX0_join_7 (fun _ _ => ?_)
  show G K 0 0 10 [(0, .ref h0)] [] (wX h0 hk hv hr cA nk nr b c pl bl n lv pt ((mb (bk b lv pt) (rd b lv + pt - 1) n n 0 fk fv).1) ((mb (bk b lv pt) (rd b lv + pt - 1) n n 0 fk fv).2) fr)
  refine g_aload_n C dX0_join_10 0 rfl rfl ?_
  refine g_get (ci := 0) C inX0_join rfl 0 8 (by decide) lkX0_join_70 dX0_join_11 rfl rfl ?_
  refine g_if_ne C 35 dX0_join_14 (by decide) (fun h14 => ?_) (fun h14 => ?_)
  · have hp : ¬ pt = 0 := fun e => h14 (by rw [e]; rfl)
    refine g_aload_n C dX0_join_35 0 rfl rfl ?_
    refine g_dup C dX0_join_36 rfl ?_
    refine g_get (ci := 0) C inX0_join rfl 0 8 (by decide) lkX0_join_70 dX0_join_37 rfl rfl ?_
    refine g_iconst (v := nI 1) C dX0_join_40 (by decide) ?_
    refine g_isub C dX0_join_41 (by omega) ?_
    refine g_put (ci := 0) (ty := .int) (ws' := wX h0 hk hv hr cA nk nr b c pl bl n lv (pt - 1) ((mb (bk b lv pt) (rd b lv + pt - 1) n n 0 fk fv).1) ((mb (bk b lv pt) (rd b lv + pt - 1) n n 0 fk fv).2) fr) C inX0_join tyX0 tyX0_ok nmX0 rfl 0 8 (by decide) lkX0_join_70 rfl pdX0_8 dX0_join_42 rfl rfl rfl (Nat.le_of_ble_eq_true rfl) rfl ?_
    have e1 : bwL pt lv = lv := if_neg hp
    have e2 : bwP b lv pt = pt - 1 := if_neg hp
    refine g_wd (ws' := wX h0 hk hv hr cA nk nr b c pl bl n (bwL pt lv) (bwP b lv pt) ((mb (bk b lv pt) (rd b lv + pt - 1) n n 0 fk fv).1) ((mb (bk b lv pt) (rd b lv + pt - 1) n n 0 fk fv).2) fr) (by rw [e1, e2]) ?_
    exact hret _ _ () dX0_join_45 trivial
  · have hp : pt = 0 := (nI_eq (by omega) (by omega)).mp (h14.trans nI_0.symm)
    have hl := lv_pos hB hp
    have hs := rd_s b (lv - 1)
    rw [show lv - 1 + 1 = lv by omega] at hs
    refine g_aload_n C dX0_join_17 0 rfl rfl ?_
    refine g_dup C dX0_join_18 rfl ?_
    refine g_get (ci := 0) C inX0_join rfl 0 7 (by decide) lkX0_join_73 dX0_join_19 rfl rfl ?_
    refine g_iconst (v := nI 1) C dX0_join_22 (by decide) ?_
    refine g_isub C dX0_join_23 (by omega) ?_
    refine g_put (ci := 0) (ty := .int) (ws' := wX h0 hk hv hr cA nk nr b c pl bl n (lv - 1) pt ((mb (bk b lv pt) (rd b lv + pt - 1) n n 0 fk fv).1) ((mb (bk b lv pt) (rd b lv + pt - 1) n n 0 fk fv).2) fr) C inX0_join tyX0 tyX0_ok nmX0 rfl 0 7 (by decide) lkX0_join_73 rfl pdX0_7 dX0_join_24 rfl rfl rfl (Nat.le_of_ble_eq_true rfl) rfl ?_
    refine g_aload_n C dX0_join_27 0 rfl rfl ?_
    refine g_aload_n C dX0_join_28 0 rfl rfl ?_
    refine g_callI0 (ci := 0) (q0 := 0) (rest := [.ref h0]) C (c_X0_bucketsAtLevelStart _ _ (by omega) (by omega)) gX0_join_X0_bucketsAtLevelStart rfl rfl rfl hdX0_bucketsAtLevelStart (by decide) rfl rfl rfl rfl (Nat.le_of_ble_eq_true rfl) dX0_join_29 (fun r _ hw => ?_)
    subst hw
    show G K 0 0 32 [(0, .ref h0)] [.int (nI (rd b (lv - 1))), .ref h0] (wX h0 hk hv hr cA nk nr b c pl bl n (lv - 1) pt ((mb (bk b lv pt) (rd b lv + pt - 1) n n 0 fk fv).1) ((mb (bk b lv pt) (rd b lv + pt - 1) n n 0 fk fv).2) fr)
    refine g_put (ci := 0) (ty := .int) (ws' := wX h0 hk hv hr cA nk nr b c pl bl n (lv - 1) (rd b (lv - 1)) ((mb (bk b lv pt) (rd b lv + pt - 1) n n 0 fk fv).1) ((mb (bk b lv pt) (rd b lv + pt - 1) n n 0 fk fv).2) fr) C inX0_join tyX0 tyX0_ok nmX0 rfl 0 8 (by decide) lkX0_join_70 rfl pdX0_8 dX0_join_32 rfl rfl rfl (Nat.le_of_ble_eq_true rfl) rfl ?_
    refine g_aload_n C dX0_join_35 0 rfl rfl ?_
    refine g_dup C dX0_join_36 rfl ?_
    refine g_get (ci := 0) C inX0_join rfl 0 8 (by decide) lkX0_join_70 dX0_join_37 rfl rfl ?_
    refine g_iconst (v := nI 1) C dX0_join_40 (by decide) ?_
    refine g_isub C dX0_join_41 (by omega) ?_
    refine g_put (ci := 0) (ty := .int) (ws' := wX h0 hk hv hr cA nk nr b c pl bl n (lv - 1) ((rd b (lv - 1)) - 1) ((mb (bk b lv pt) (rd b lv + pt - 1) n n 0 fk fv).1) ((mb (bk b lv pt) (rd b lv + pt - 1) n n 0 fk fv).2) fr) C inX0_join tyX0 tyX0_ok nmX0 rfl 0 8 (by decide) lkX0_join_70 rfl pdX0_8 dX0_join_42 rfl rfl rfl (Nat.le_of_ble_eq_true rfl) rfl ?_
    have e1 : bwL pt lv = lv - 1 := if_pos hp
    have e2 : bwP b lv pt = rd b (lv - 1) - 1 := if_pos hp
    refine g_wd (ws' := wX h0 hk hv hr cA nk nr b c pl bl n (bwL pt lv) (bwP b lv pt) ((mb (bk b lv pt) (rd b lv + pt - 1) n n 0 fk fv).1) ((mb (bk b lv pt) (rd b lv + pt - 1) n n 0 fk fv).2) fr) (by rw [e1, e2]) ?_
    exact hret _ _ () dX0_join_45 trivial
end
section
set_option maxHeartbeats 4000000 in
set_option maxRecDepth 100000 in
theorem c_X0_pagesNeeded (l : Launch) (D : va_G) {cA : ClassId} {h0 hk hv hr nk nr b c pl bl n lv pt : Nat} {fk fv fr : Nat → Int32} (ok : okS b c pl bl n lv pt) (hx : n ≤ nk ∧ nk ≤ 512 ∧ nr = bl)   : MetI (S := (Nat → Int32)) l yX0_pagesNeeded wsX0_pagesNeeded ({ frames := 2, cells := 0, slots := 0, locals := 43 } : Room) D [(cA, .int)] [.ref h0] (wX h0 hk hv hr cA nk nr b c pl bl n lv pt fk fv fr) (fun u => wX h0 hk hv hr cA nk nr b c pl bl n lv pt fk fv u) (fun r _ => r = nI (ndP b c n lv pt fk)) 0 0 := by
  refine MetI_of (cc := cX0_pagesNeeded) (maxL := 4) (rt := .int) (lv0 := [(0, .ref h0)]) (by decide) rfl (Nat.le_of_ble_eq_true rfl) rfl ?_
  intro K _ _ C hret
  have C : Cx K ({ frames := 2, cells := 0, slots := 0, locals := 43 } : Room) 4 cX0_pagesNeeded RX0 wsX0_pagesNeeded [(cA, .int)] := C
  obtain ⟨o1, o2, o3, o4, o5, o6, o7, o8, o9, o10, o11, o12⟩ := id ok
  obtain ⟨x1, x2, x3⟩ := id hx
  refine g_aload_n C dX0_pagesNeeded_0 0 rfl rfl ?_
  refine g_callI0 (ci := 0) (q0 := 0) (rest := []) C (c_X0_buckets _ _ ok hx) gX0_pagesNeeded_X0_buckets rfl rfl rfl hdX0_buckets (by decide) rfl rfl rfl rfl (Nat.le_of_ble_eq_true rfl) dX0_pagesNeeded_1 (fun r _ hw => ?_)
  subst hw
  show G K 0 0 4 [(0, .ref h0)] [.int (nI (rd b lv + pt))] (wX h0 hk hv hr cA nk nr b c pl bl n lv pt fk fv fr)
  refine g_istore_n (lv' := [(1, .int (nI (rd b lv + pt))), (0, .ref h0)]) C dX0_pagesNeeded_4 rfl (by decide) rfl ?_
  refine g_iconst (v := nI 0) C dX0_pagesNeeded_5 (by decide) ?_
  refine g_istore_n (lv' := [(2, .int (nI 0)), (1, .int (nI (rd b lv + pt))), (0, .ref h0)]) C dX0_pagesNeeded_6 rfl (by decide) rfl ?_
  have loop7 : ∀ (t : Nat) (i : Nat) (f : Nat → Int32), i ≤ rd b lv + pt → rd b lv + pt < i + t → (∀ q, q < i → f q = nI 0) → G K 0 0 7 [(2, .int (nI i)), (1, .int (nI (rd b lv + pt))), (0, .ref h0)] [] (wX h0 hk hv hr cA nk nr b c pl bl n lv pt fk fv f) := by
    intro t
    induction t with
    | zero =>
      intro i f hi ht hz
      exact absurd ht (by omega)
    | succ t ih =>
      intro i f hi ht hz
      refine g_iload_n C dX0_pagesNeeded_7 0 rfl rfl ?_
      refine g_iload_n C dX0_pagesNeeded_8 1 rfl rfl ?_
      refine g_icmp_ge C 25 dX0_pagesNeeded_9 (by decide) (by omega) (by omega) (fun h9 => ?_) (fun h9 => ?_)
      · refine g_iconst (v := nI 0) C dX0_pagesNeeded_25 (by decide) ?_
        refine g_istore_n (lv' := [(2, .int (nI 0)), (1, .int (nI (rd b lv + pt))), (0, .ref h0)]) C dX0_pagesNeeded_26 rfl (by decide) rfl ?_
        have loop27 : ∀ (t : Nat) (k : Nat) (f2 : Nat → Int32), k ≤ n → n < k + t → (∀ q, q < rd b lv + pt → f2 q = nI (ct (fun j => bk b lv pt (fk j)) q k)) → G K 0 0 27 [(2, .int (nI k)), (1, .int (nI (rd b lv + pt))), (0, .ref h0)] [] (wX h0 hk hv hr cA nk nr b c pl bl n lv pt fk fv f2) := by
          intro t
          induction t with
          | zero =>
            intro k f2 hk1 ht hc
            exact absurd ht (by omega)
          | succ t ih =>
            intro k f2 hk1 ht hc
            refine g_iload_n C dX0_pagesNeeded_27 0 rfl rfl ?_
            refine g_aload_n C dX0_pagesNeeded_28 2 rfl rfl ?_
            refine g_get (ci := 0) C inX0_pagesNeeded rfl 0 6 (by decide) lkX0_pagesNeeded_46 dX0_pagesNeeded_29 rfl rfl ?_
            refine g_icmp_ge C 60 dX0_pagesNeeded_32 (by decide) (by omega) (by omega) (fun h32 => ?_) (fun h32 => ?_)
            · obtain rfl : n = k := by omega
              refine g_iconst (v := nI 0) C dX0_pagesNeeded_60 (by decide) ?_
              refine g_istore_n (lv' := [(2, .int (nI 0)), (1, .int (nI (rd b lv + pt))), (0, .ref h0)]) C dX0_pagesNeeded_61 rfl (by decide) rfl ?_
              refine g_iconst (v := nI 0) C dX0_pagesNeeded_62 (by decide) ?_
              refine g_istore_n (lv' := [(3, .int (nI 0)), (2, .int (nI 0)), (1, .int (nI (rd b lv + pt))), (0, .ref h0)]) C dX0_pagesNeeded_63 rfl (by decide) rfl ?_
              have loop64 : ∀ (t : Nat) (m : Nat), m ≤ rd b lv + pt → rd b lv + pt < m + t → G K 0 0 64 [(3, .int (nI m)), (2, .int (nI (sm (fun q => pg c (ct (fun j => bk b lv pt (fk j)) q n)) m))), (1, .int (nI (rd b lv + pt))), (0, .ref h0)] [] (wX h0 hk hv hr cA nk nr b c pl bl n lv pt fk fv f2) := by
                intro t
                induction t with
                | zero =>
                  intro m hm ht
                  exact absurd ht (by omega)
                | succ t ih =>
                  intro m hm ht
                  refine g_iload_n C dX0_pagesNeeded_64 0 rfl rfl ?_
                  refine g_iload_n C dX0_pagesNeeded_65 2 rfl rfl ?_
                  refine g_icmp_ge C 88 dX0_pagesNeeded_66 (by decide) (by omega) (by omega) (fun h66 => ?_) (fun h66 => ?_)
                  · obtain rfl : m = rd b lv + pt := by omega
                    refine g_iload_n C dX0_pagesNeeded_88 1 rfl rfl ?_
                    exact hret _ _ _ f2 dX0_pagesNeeded_89 rfl rfl
                  · refine g_iload_n C dX0_pagesNeeded_69 1 rfl rfl ?_
                    refine g_aload_n C dX0_pagesNeeded_70 3 rfl rfl ?_
                    refine g_aload_n C dX0_pagesNeeded_71 3 rfl rfl ?_
                    refine g_get (ci := 0) C inX0_pagesNeeded rfl 0 9 (by decide) lkX0_pagesNeeded_39 dX0_pagesNeeded_72 rfl rfl ?_
                    refine g_iload_n C dX0_pagesNeeded_75 0 rfl rfl ?_
                    refine g_iald C 3 dX0_pagesNeeded_76 rfl (by omega) (by omega) ?_
                    refine g_top (hc m h66) ?_
                    have hle := ct_le (fun j => bk b lv pt (fk j)) m n
                    refine g_callI0 (ci := 0) (q0 := 0) (rest := [.int (nI (sm (fun q => pg c (ct (fun j => bk b lv pt (fk j)) q n)) m))]) C (c_X0_pagesFor _ _ ok hx (ct (fun j => bk b lv pt (fk j)) m n) (by omega)) gX0_pagesNeeded_X0_pagesFor rfl rfl rfl hdX0_pagesFor (by decide) rfl rfl rfl rfl (Nat.le_of_ble_eq_true rfl) dX0_pagesNeeded_77 (fun r _ hw => ?_)
                    subst hw
                    show G K 0 0 80 [(3, .int (nI m)), (2, .int (nI (sm (fun q => pg c (ct (fun j => bk b lv pt (fk j)) q n)) m))), (1, .int (nI (rd b lv + pt))), (0, .ref h0)] [.int (nI (pg c (ct (fun j => bk b lv pt (fk j)) m n))), .int (nI (sm (fun q => pg c (ct (fun j => bk b lv pt (fk j)) q n)) m))] (wX h0 hk hv hr cA nk nr b c pl bl n lv pt fk fv f2)
                    refine g_iadd C dX0_pagesNeeded_80 ?_
                    refine g_istore_n (lv' := [(2, .int (nI ((sm (fun q => pg c (ct (fun j => bk b lv pt (fk j)) q n)) m) + (pg c (ct (fun j => bk b lv pt (fk j)) m n))))), (3, .int (nI m)), (1, .int (nI (rd b lv + pt))), (0, .ref h0)]) C dX0_pagesNeeded_81 rfl (by decide) rfl ?_
                    refine g_iinc (v := nI (m + 1)) (lv' := [(3, .int (nI (m + 1))), (2, .int (nI ((sm (fun q => pg c (ct (fun j => bk b lv pt (fk j)) q n)) m) + (pg c (ct (fun j => bk b lv pt (fk j)) m n))))), (1, .int (nI (rd b lv + pt))), (0, .ref h0)]) C dX0_pagesNeeded_82 1 rfl (nI_add _ 1) (by decide) rfl ?_
                    refine g_goto C 64 dX0_pagesNeeded_85 (by decide) ?_
                    refine g_lv [0, 1, 2, 3] rfl ?_
                    exact ih (m + 1) (by omega) (by omega)
              refine g_lv [0, 1, 2, 3] rfl ?_
              exact loop64 (rd b lv + pt + 1) 0 (by omega) (by omega)
            · refine g_aload_n C dX0_pagesNeeded_35 2 rfl rfl ?_
              refine g_get (ci := 0) C inX0_pagesNeeded rfl 0 9 (by decide) lkX0_pagesNeeded_39 dX0_pagesNeeded_36 rfl rfl ?_
              refine g_aload_n C dX0_pagesNeeded_39 2 rfl rfl ?_
              refine g_aload_n C dX0_pagesNeeded_40 2 rfl rfl ?_
              refine g_get (ci := 0) C inX0_pagesNeeded rfl 0 4 (by decide) lkX0_pagesNeeded_32 dX0_pagesNeeded_41 rfl rfl ?_
              refine g_iload_n C dX0_pagesNeeded_44 0 rfl rfl ?_
              refine g_iald C 1 dX0_pagesNeeded_45 rfl (by omega) (by omega) ?_
              refine g_callI0 (ci := 0) (q0 := 0) (rest := [.ref hr]) C (c_X0_bucketOf _ _ ok hx (fk k)) gX0_pagesNeeded_X0_bucketOf rfl rfl rfl hdX0_bucketOf (by decide) rfl rfl rfl rfl (Nat.le_of_ble_eq_true rfl) dX0_pagesNeeded_46 (fun r _ hw => ?_)
              subst hw
              show G K 0 0 49 [(2, .int (nI k)), (1, .int (nI (rd b lv + pt))), (0, .ref h0)] [.int (nI (bk b lv pt (fk k))), .ref hr] (wX h0 hk hv hr cA nk nr b c pl bl n lv pt fk fv f2)
              have hb := bk_lt (b := b) (lv := lv) (pt := pt) (fk k) (by omega)
              refine g_dup2 C dX0_pagesNeeded_49 rfl rfl ?_
              refine g_iald C 3 dX0_pagesNeeded_50 rfl (by omega) (by omega) ?_
              refine g_top (hc _ hb) ?_
              refine g_iconst (v := nI 1) C dX0_pagesNeeded_51 (by decide) ?_
              refine g_iadd C dX0_pagesNeeded_52 ?_
              refine g_iast (ws' := wX h0 hk hv hr cA nk nr b c pl bl n lv pt fk fv (upd f2 (bk b lv pt (fk k)) (nI ((ct (fun j => bk b lv pt (fk j)) (bk b lv pt (fk k)) k) + 1)))) C 3 dX0_pagesNeeded_53 rfl (by omega) (by omega) rfl ?_
              refine g_iinc (v := nI (k + 1)) (lv' := [(2, .int (nI (k + 1))), (1, .int (nI (rd b lv + pt))), (0, .ref h0)]) C dX0_pagesNeeded_54 0 rfl (nI_add _ 1) (by decide) rfl ?_
              refine g_goto C 27 dX0_pagesNeeded_57 (by decide) ?_
              refine g_lv [0, 1, 2] rfl ?_
              exact ih (k + 1) _ (by omega) (by omega) (ct_up (g := fun j => bk b lv pt (fk j)) hc)
        refine g_lv [0, 1, 2] rfl ?_
        exact loop27 (n + 1) 0 f (by omega) (by omega) (fun q hq => hz q (by omega))
      · refine g_aload_n C dX0_pagesNeeded_12 2 rfl rfl ?_
        refine g_get (ci := 0) C inX0_pagesNeeded rfl 0 9 (by decide) lkX0_pagesNeeded_39 dX0_pagesNeeded_13 rfl rfl ?_
        refine g_iload_n C dX0_pagesNeeded_16 0 rfl rfl ?_
        refine g_iconst (v := nI 0) C dX0_pagesNeeded_17 (by decide) ?_
        refine g_iast (ws' := wX h0 hk hv hr cA nk nr b c pl bl n lv pt fk fv (upd f i (nI 0))) C 3 dX0_pagesNeeded_18 rfl (by omega) (by omega) rfl ?_
        refine g_iinc (v := nI (i + 1)) (lv' := [(2, .int (nI (i + 1))), (1, .int (nI (rd b lv + pt))), (0, .ref h0)]) C dX0_pagesNeeded_19 0 rfl (nI_add _ 1) (by decide) rfl ?_
        refine g_goto C 7 dX0_pagesNeeded_22 (by decide) ?_
        refine g_lv [0, 1, 2] rfl ?_
        exact ih (i + 1) (upd f i (nI 0)) (by omega) (by omega) (up_all hz)
  refine g_lv [0, 1, 2] rfl ?_
  exact loop7 (rd b lv + pt + 1) 0 fr (by omega) (by omega) (fun q hq => absurd hq (by omega))
set_option maxHeartbeats 4000000 in
set_option maxRecDepth 100000 in
theorem c_X0_putNew (l : Launch) (D : va_G) {cA : ClassId} {h0 hk hv hr nk nr b c pl bl n lv pt : Nat} {fk fv fr : Nat → Int32} (ok : okS b c pl bl n lv pt) (hx : n ≤ nk ∧ nk ≤ 512 ∧ nr = bl) (k v : Int32) (hn : n < nk) : MetI (S := XS) l yX0_putNew wsX0_putNew ({ frames := 3, cells := 0, slots := 0, locals := 66 } : Room) D [(cA, .int)] [.ref h0, .int k, .int v] (wX h0 hk hv hr cA nk nr b c pl bl n lv pt fk fv fr) (fun u => wX h0 hk hv hr cA nk nr b c pl bl u.1 u.2.1 u.2.2.1 u.2.2.2.1 u.2.2.2.2.1 u.2.2.2.2.2) (fun r u => newP b c pl bl n lv pt fk fv k v r u.1 u.2.1 u.2.2.1 u.2.2.2.1 u.2.2.2.2.1) 0 0 := by
  refine MetI_of (cc := cX0_putNew) (maxL := 5) (rt := .int) (lv0 := [(0, .ref h0), (1, .int k), (2, .int v)]) (by decide) rfl (Nat.le_of_ble_eq_true rfl) rfl ?_
  intro K _ _ C hret
  have C : Cx K ({ frames := 3, cells := 0, slots := 0, locals := 66 } : Room) 5 cX0_putNew RX0 wsX0_putNew [(cA, .int)] := C
  obtain ⟨o1, o2, o3, o4, o5, o6, o7, o8, o9, o10, o11, o12⟩ := id ok
  obtain ⟨x1, x2, x3⟩ := id hx
  have ok1 := ok_n (n' := n + 1) ok (by omega)
  have hx1 : n + 1 ≤ nk ∧ nk ≤ 512 ∧ nr = bl := ⟨by omega, x2, x3⟩
  refine g_aload_n C dX0_putNew_0 0 rfl rfl ?_
  refine g_get (ci := 0) C inX0_putNew rfl 0 7 (by decide) lkX0_putNew_73 dX0_putNew_1 rfl rfl ?_
  refine g_istore_n (lv' := [(3, .int (nI lv)), (0, .ref h0), (1, .int k), (2, .int v)]) C dX0_putNew_4 rfl (by decide) rfl ?_
  refine g_aload_n C dX0_putNew_5 1 rfl rfl ?_
  refine g_get (ci := 0) C inX0_putNew rfl 0 8 (by decide) lkX0_putNew_70 dX0_putNew_6 rfl rfl ?_
  refine g_istore (lv' := [(4, .int (nI pt)), (3, .int (nI lv)), (0, .ref h0), (1, .int k), (2, .int v)]) C dX0_putNew_9 (by decide) rfl ?_
  refine g_aload_n C dX0_putNew_11 2 rfl rfl ?_
  refine g_get (ci := 0) C inX0_putNew rfl 0 4 (by decide) lkX0_putNew_32 dX0_putNew_12 rfl rfl ?_
  refine g_aload_n C dX0_putNew_15 2 rfl rfl ?_
  refine g_get (ci := 0) C inX0_putNew rfl 0 6 (by decide) lkX0_putNew_46 dX0_putNew_16 rfl rfl ?_
  refine g_iload_n C dX0_putNew_19 3 rfl rfl ?_
  refine g_iast (ws' := wX h0 hk hv hr cA nk nr b c pl bl n lv pt (upd fk n k) fv fr) C 1 dX0_putNew_20 rfl (by omega) (by omega) rfl ?_
  refine g_aload_n C dX0_putNew_21 2 rfl rfl ?_
  refine g_get (ci := 0) C inX0_putNew rfl 0 5 (by decide) lkX0_putNew_36 dX0_putNew_22 rfl rfl ?_
  refine g_aload_n C dX0_putNew_25 2 rfl rfl ?_
  refine g_get (ci := 0) C inX0_putNew rfl 0 6 (by decide) lkX0_putNew_46 dX0_putNew_26 rfl rfl ?_
  refine g_iload_n C dX0_putNew_29 4 rfl rfl ?_
  refine g_iast (ws' := wX h0 hk hv hr cA nk nr b c pl bl n lv pt (upd fk n k) (upd fv n v) fr) C 2 dX0_putNew_30 rfl (by omega) (by omega) rfl ?_
  refine g_aload_n C dX0_putNew_31 2 rfl rfl ?_
  refine g_dup C dX0_putNew_32 rfl ?_
  refine g_get (ci := 0) C inX0_putNew rfl 0 6 (by decide) lkX0_putNew_46 dX0_putNew_33 rfl rfl ?_
  refine g_iconst (v := nI 1) C dX0_putNew_36 (by decide) ?_
  refine g_iadd C dX0_putNew_37 ?_
  refine g_put (ci := 0) (ty := .int) (ws' := wX h0 hk hv hr cA nk nr b c pl bl (n + 1) lv pt (upd fk n k) (upd fv n v) fr) C inX0_putNew tyX0 tyX0_ok nmX0 rfl 0 6 (by decide) lkX0_putNew_46 rfl pdX0_6 dX0_putNew_38 rfl rfl rfl (Nat.le_of_ble_eq_true rfl) rfl ?_
  refine g_aload_n C dX0_putNew_41 2 rfl rfl ?_
  refine g_callI0 (ci := 0) (q0 := 0) (rest := []) C (c_X0_isCrowded _ _ ok1 hx1) gX0_putNew_X0_isCrowded rfl rfl rfl hdX0_isCrowded (by decide) rfl rfl rfl rfl (Nat.le_of_ble_eq_true rfl) dX0_putNew_42 (fun r _ hw => ?_)
  subst hw
  show G K 0 0 45 [(4, .int (nI pt)), (3, .int (nI lv)), (0, .ref h0), (1, .int k), (2, .int v)] [.int (bI (3 * c * (rd b lv + pt) < 4 * (n + 1)))] (wX h0 hk hv hr cA nk nr b c pl bl (n + 1) lv pt (upd fk n k) (upd fv n v) fr)
  refine g_if_eq C 63 dX0_putNew_45 (by decide) (fun h45 => ?_) (fun h45 => ?_)
  · have q1 := bI_0 h45
    refine g_aload_n C dX0_putNew_63 2 rfl rfl ?_
    have eL : pL b c bl (n + 1) lv pt = lv := if_neg (fun z => q1 z.1)
    have eP : pP b c bl (n + 1) lv pt = pt := if_neg (fun z => q1 z.1)
    have okP : okS b c pl bl (n + 1) lv pt := ok1
    have hB := okP.2.2.2.2.2.2.2.2.2.2.1
    refine g_callI0 (ci := 0) (q0 := 0) (rest := []) C (c_X0_pagesNeeded _ _ okP hx1) gX0_putNew_X0_pagesNeeded rfl rfl rfl hdX0_pagesNeeded (by decide) rfl rfl rfl rfl (Nat.le_of_ble_eq_true rfl) dX0_putNew_64 (fun r f hw => ?_)
    subst hw
    show G K 0 0 67 [(4, .int (nI pt)), (3, .int (nI lv)), (0, .ref h0), (1, .int k), (2, .int v)] [.int (nI (ndP b c (n + 1) lv pt (upd fk n k)))] (wX h0 hk hv hr cA nk nr b c pl bl (n + 1) lv pt (upd fk n k) (upd fv n v) f)
    have hN : ndP b c (n + 1) lv pt (upd fk n k) ≤ 130000 := nd_le o3 (by omega) (by omega)
    refine g_aload_n C dX0_putNew_67 2 rfl rfl ?_
    refine g_get (ci := 0) C inX0_putNew rfl 0 2 (by decide) lkX0_putNew_20 dX0_putNew_68 rfl rfl ?_
    refine g_icmp_le C 97 dX0_putNew_71 (by decide) (by omega) (by omega) (fun h71 => ?_) (fun h71 => ?_)
    · refine g_iconst (v := nI 0) C dX0_putNew_97 (by decide) ?_
      exact hret _ _ _ (n + 1, lv, pt, upd fk n k, upd fv n v, f) dX0_putNew_98 rfl (Or.inl ⟨by rw [eL, eP]; exact h71, rfl, rfl, eL.symm, eP.symm, rfl, rfl⟩)
    · refine g_aload_n C dX0_putNew_74 2 rfl rfl ?_
      refine g_dup C dX0_putNew_75 rfl ?_
      refine g_get (ci := 0) C inX0_putNew rfl 0 6 (by decide) lkX0_putNew_46 dX0_putNew_76 rfl rfl ?_
      refine g_iconst (v := nI 1) C dX0_putNew_79 (by decide) ?_
      refine g_isub C dX0_putNew_80 (by omega) ?_
      refine g_top (by rw [Nat.add_sub_cancel]) ?_
      refine g_put (ci := 0) (ty := .int) (ws' := wX h0 hk hv hr cA nk nr b c pl bl n lv pt (upd fk n k) (upd fv n v) f) C inX0_putNew tyX0 tyX0_ok nmX0 rfl 0 6 (by decide) lkX0_putNew_46 rfl pdX0_6 dX0_putNew_81 rfl rfl rfl (Nat.le_of_ble_eq_true rfl) rfl ?_
      refine g_aload_n C dX0_putNew_84 2 rfl rfl ?_
      refine g_iload_n C dX0_putNew_85 1 rfl rfl ?_
      refine g_put (ci := 0) (ty := .int) (ws' := wX h0 hk hv hr cA nk nr b c pl bl n lv pt (upd fk n k) (upd fv n v) f) C inX0_putNew tyX0 tyX0_ok nmX0 rfl 0 7 (by decide) lkX0_putNew_73 rfl pdX0_7 dX0_putNew_86 rfl rfl rfl (Nat.le_of_ble_eq_true rfl) rfl ?_
      refine g_aload_n C dX0_putNew_89 2 rfl rfl ?_
      refine g_iload C dX0_putNew_90 0 rfl ?_
      refine g_put (ci := 0) (ty := .int) (ws' := wX h0 hk hv hr cA nk nr b c pl bl n lv pt (upd fk n k) (upd fv n v) f) C inX0_putNew tyX0 tyX0_ok nmX0 rfl 0 8 (by decide) lkX0_putNew_70 rfl pdX0_8 dX0_putNew_92 rfl rfl rfl (Nat.le_of_ble_eq_true rfl) rfl ?_
      refine g_iconst (v := nI 2) C dX0_putNew_95 (by decide) ?_
      exact hret _ _ _ (n, lv, pt, upd fk n k, upd fv n v, f) dX0_putNew_96 rfl (Or.inr ⟨by rw [eL, eP]; exact h71, rfl, rfl, rfl, rfl, rfl, rfl⟩)
  · have q1 := bI_1 h45
    refine g_aload_n C dX0_putNew_48 2 rfl rfl ?_
    refine g_callI0 (ci := 0) (q0 := 0) (rest := []) C (c_X0_buckets _ _ ok1 hx1) gX0_putNew_X0_buckets rfl rfl rfl hdX0_buckets (by decide) rfl rfl rfl rfl (Nat.le_of_ble_eq_true rfl) dX0_putNew_49 (fun r _ hw => ?_)
    subst hw
    show G K 0 0 52 [(4, .int (nI pt)), (3, .int (nI lv)), (0, .ref h0), (1, .int k), (2, .int v)] [.int (nI (rd b lv + pt))] (wX h0 hk hv hr cA nk nr b c pl bl (n + 1) lv pt (upd fk n k) (upd fv n v) fr)
    refine g_aload_n C dX0_putNew_52 2 rfl rfl ?_
    refine g_get (ci := 0) C inX0_putNew rfl 0 3 (by decide) lkX0_putNew_23 dX0_putNew_53 rfl rfl ?_
    refine g_icmp_ge C 63 dX0_putNew_56 (by decide) (by omega) (by omega) (fun h56 => ?_) (fun h56 => ?_)
    · refine g_aload_n C dX0_putNew_63 2 rfl rfl ?_
      have eL : pL b c bl (n + 1) lv pt = lv := if_neg (fun z => absurd z.2 (by omega))
      have eP : pP b c bl (n + 1) lv pt = pt := if_neg (fun z => absurd z.2 (by omega))
      have okP : okS b c pl bl (n + 1) lv pt := ok1
      have hB := okP.2.2.2.2.2.2.2.2.2.2.1
      refine g_callI0 (ci := 0) (q0 := 0) (rest := []) C (c_X0_pagesNeeded _ _ okP hx1) gX0_putNew_X0_pagesNeeded rfl rfl rfl hdX0_pagesNeeded (by decide) rfl rfl rfl rfl (Nat.le_of_ble_eq_true rfl) dX0_putNew_64 (fun r f hw => ?_)
      subst hw
      show G K 0 0 67 [(4, .int (nI pt)), (3, .int (nI lv)), (0, .ref h0), (1, .int k), (2, .int v)] [.int (nI (ndP b c (n + 1) lv pt (upd fk n k)))] (wX h0 hk hv hr cA nk nr b c pl bl (n + 1) lv pt (upd fk n k) (upd fv n v) f)
      have hN : ndP b c (n + 1) lv pt (upd fk n k) ≤ 130000 := nd_le o3 (by omega) (by omega)
      refine g_aload_n C dX0_putNew_67 2 rfl rfl ?_
      refine g_get (ci := 0) C inX0_putNew rfl 0 2 (by decide) lkX0_putNew_20 dX0_putNew_68 rfl rfl ?_
      refine g_icmp_le C 97 dX0_putNew_71 (by decide) (by omega) (by omega) (fun h71 => ?_) (fun h71 => ?_)
      · refine g_iconst (v := nI 0) C dX0_putNew_97 (by decide) ?_
        exact hret _ _ _ (n + 1, lv, pt, upd fk n k, upd fv n v, f) dX0_putNew_98 rfl (Or.inl ⟨by rw [eL, eP]; exact h71, rfl, rfl, eL.symm, eP.symm, rfl, rfl⟩)
      · refine g_aload_n C dX0_putNew_74 2 rfl rfl ?_
        refine g_dup C dX0_putNew_75 rfl ?_
        refine g_get (ci := 0) C inX0_putNew rfl 0 6 (by decide) lkX0_putNew_46 dX0_putNew_76 rfl rfl ?_
        refine g_iconst (v := nI 1) C dX0_putNew_79 (by decide) ?_
        refine g_isub C dX0_putNew_80 (by omega) ?_
        refine g_top (by rw [Nat.add_sub_cancel]) ?_
        refine g_put (ci := 0) (ty := .int) (ws' := wX h0 hk hv hr cA nk nr b c pl bl n lv pt (upd fk n k) (upd fv n v) f) C inX0_putNew tyX0 tyX0_ok nmX0 rfl 0 6 (by decide) lkX0_putNew_46 rfl pdX0_6 dX0_putNew_81 rfl rfl rfl (Nat.le_of_ble_eq_true rfl) rfl ?_
        refine g_aload_n C dX0_putNew_84 2 rfl rfl ?_
        refine g_iload_n C dX0_putNew_85 1 rfl rfl ?_
        refine g_put (ci := 0) (ty := .int) (ws' := wX h0 hk hv hr cA nk nr b c pl bl n lv pt (upd fk n k) (upd fv n v) f) C inX0_putNew tyX0 tyX0_ok nmX0 rfl 0 7 (by decide) lkX0_putNew_73 rfl pdX0_7 dX0_putNew_86 rfl rfl rfl (Nat.le_of_ble_eq_true rfl) rfl ?_
        refine g_aload_n C dX0_putNew_89 2 rfl rfl ?_
        refine g_iload C dX0_putNew_90 0 rfl ?_
        refine g_put (ci := 0) (ty := .int) (ws' := wX h0 hk hv hr cA nk nr b c pl bl n lv pt (upd fk n k) (upd fv n v) f) C inX0_putNew tyX0 tyX0_ok nmX0 rfl 0 8 (by decide) lkX0_putNew_70 rfl pdX0_8 dX0_putNew_92 rfl rfl rfl (Nat.le_of_ble_eq_true rfl) rfl ?_
        refine g_iconst (v := nI 2) C dX0_putNew_95 (by decide) ?_
        exact hret _ _ _ (n, lv, pt, upd fk n k, upd fv n v, f) dX0_putNew_96 rfl (Or.inr ⟨by rw [eL, eP]; exact h71, rfl, rfl, rfl, rfl, rfl, rfl⟩)
    · refine g_aload_n C dX0_putNew_59 2 rfl rfl ?_
      refine g_callV0 (ci := 0) (q0 := 0) (rest := []) C (c_X0_part _ _ ok1 hx1) gX0_putNew_X0_part rfl rfl rfl hdX0_part (by decide) rfl rfl rfl rfl (Nat.le_of_ble_eq_true rfl) dX0_putNew_60 (fun _ _ => ?_)
      show G K 0 0 63 [(4, .int (nI pt)), (3, .int (nI lv)), (0, .ref h0), (1, .int k), (2, .int v)] [] (wX h0 hk hv hr cA nk nr b c pl bl (n + 1) (fwL b lv pt) (fwP b lv pt) (upd fk n k) (upd fv n v) fr)
      refine g_aload_n C dX0_putNew_63 2 rfl rfl ?_
      have eL : pL b c bl (n + 1) lv pt = fwL b lv pt := if_pos ⟨q1, h56⟩
      have eP : pP b c bl (n + 1) lv pt = fwP b lv pt := if_pos ⟨q1, h56⟩
      have okP : okS b c pl bl (n + 1) (fwL b lv pt) (fwP b lv pt) := ok_fw ok1 h56
      have hB := okP.2.2.2.2.2.2.2.2.2.2.1
      refine g_callI0 (ci := 0) (q0 := 0) (rest := []) C (c_X0_pagesNeeded _ _ okP hx1) gX0_putNew_X0_pagesNeeded rfl rfl rfl hdX0_pagesNeeded (by decide) rfl rfl rfl rfl (Nat.le_of_ble_eq_true rfl) dX0_putNew_64 (fun r f hw => ?_)
      subst hw
      show G K 0 0 67 [(4, .int (nI pt)), (3, .int (nI lv)), (0, .ref h0), (1, .int k), (2, .int v)] [.int (nI (ndP b c (n + 1) (fwL b lv pt) (fwP b lv pt) (upd fk n k)))] (wX h0 hk hv hr cA nk nr b c pl bl (n + 1) (fwL b lv pt) (fwP b lv pt) (upd fk n k) (upd fv n v) f)
      have hN : ndP b c (n + 1) (fwL b lv pt) (fwP b lv pt) (upd fk n k) ≤ 130000 := nd_le o3 (by omega) (by omega)
      refine g_aload_n C dX0_putNew_67 2 rfl rfl ?_
      refine g_get (ci := 0) C inX0_putNew rfl 0 2 (by decide) lkX0_putNew_20 dX0_putNew_68 rfl rfl ?_
      refine g_icmp_le C 97 dX0_putNew_71 (by decide) (by omega) (by omega) (fun h71 => ?_) (fun h71 => ?_)
      · refine g_iconst (v := nI 0) C dX0_putNew_97 (by decide) ?_
        exact hret _ _ _ (n + 1, fwL b lv pt, fwP b lv pt, upd fk n k, upd fv n v, f) dX0_putNew_98 rfl (Or.inl ⟨by rw [eL, eP]; exact h71, rfl, rfl, eL.symm, eP.symm, rfl, rfl⟩)
      · refine g_aload_n C dX0_putNew_74 2 rfl rfl ?_
        refine g_dup C dX0_putNew_75 rfl ?_
        refine g_get (ci := 0) C inX0_putNew rfl 0 6 (by decide) lkX0_putNew_46 dX0_putNew_76 rfl rfl ?_
        refine g_iconst (v := nI 1) C dX0_putNew_79 (by decide) ?_
        refine g_isub C dX0_putNew_80 (by omega) ?_
        refine g_top (by rw [Nat.add_sub_cancel]) ?_
        refine g_put (ci := 0) (ty := .int) (ws' := wX h0 hk hv hr cA nk nr b c pl bl n (fwL b lv pt) (fwP b lv pt) (upd fk n k) (upd fv n v) f) C inX0_putNew tyX0 tyX0_ok nmX0 rfl 0 6 (by decide) lkX0_putNew_46 rfl pdX0_6 dX0_putNew_81 rfl rfl rfl (Nat.le_of_ble_eq_true rfl) rfl ?_
        refine g_aload_n C dX0_putNew_84 2 rfl rfl ?_
        refine g_iload_n C dX0_putNew_85 1 rfl rfl ?_
        refine g_put (ci := 0) (ty := .int) (ws' := wX h0 hk hv hr cA nk nr b c pl bl n lv (fwP b lv pt) (upd fk n k) (upd fv n v) f) C inX0_putNew tyX0 tyX0_ok nmX0 rfl 0 7 (by decide) lkX0_putNew_73 rfl pdX0_7 dX0_putNew_86 rfl rfl rfl (Nat.le_of_ble_eq_true rfl) rfl ?_
        refine g_aload_n C dX0_putNew_89 2 rfl rfl ?_
        refine g_iload C dX0_putNew_90 0 rfl ?_
        refine g_put (ci := 0) (ty := .int) (ws' := wX h0 hk hv hr cA nk nr b c pl bl n lv pt (upd fk n k) (upd fv n v) f) C inX0_putNew tyX0 tyX0_ok nmX0 rfl 0 8 (by decide) lkX0_putNew_70 rfl pdX0_8 dX0_putNew_92 rfl rfl rfl (Nat.le_of_ble_eq_true rfl) rfl ?_
        refine g_iconst (v := nI 2) C dX0_putNew_95 (by decide) ?_
        exact hret _ _ _ (n, lv, pt, upd fk n k, upd fv n v, f) dX0_putNew_96 rfl (Or.inr ⟨by rw [eL, eP]; exact h71, rfl, rfl, rfl, rfl, rfl, rfl⟩)
set_option maxHeartbeats 4000000 in
set_option maxRecDepth 100000 in
theorem c_X0_put (l : Launch) (D : va_G) {cA : ClassId} {h0 hk hv hr nk nr b c pl bl n lv pt : Nat} {fk fv fr : Nat → Int32} (ok : okS b c pl bl n lv pt) (hx : n ≤ nk ∧ nk ≤ 512 ∧ nr = bl) (k v : Int32)  : MetI (S := XS) l yX0_put wsX0_put ({ frames := 4, cells := 0, slots := 0, locals := 90 } : Room) D [(cA, .int)] [.ref h0, .int k, .int v] (wX h0 hk hv hr cA nk nr b c pl bl n lv pt fk fv fr) (fun u => wX h0 hk hv hr cA nk nr b c pl bl u.1 u.2.1 u.2.2.1 u.2.2.2.1 u.2.2.2.2.1 u.2.2.2.2.2) (fun r u => oldP n fk fv k v r u.1 u.2.1 u.2.2.1 lv pt u.2.2.2.1 u.2.2.2.2.1 ∨ ((∀ j, j < n → fk j ≠ k) ∧ nk ≤ n ∧ r = nI 2 ∧ u.1 = n ∧ u.2.1 = lv ∧ u.2.2.1 = pt ∧ u.2.2.2.1 = fk ∧ u.2.2.2.2.1 = fv) ∨ ((∀ j, j < n → fk j ≠ k) ∧ n < nk ∧ newP b c pl bl n lv pt fk fv k v r u.1 u.2.1 u.2.2.1 u.2.2.2.1 u.2.2.2.2.1)) 0 0 := by
  refine MetI_of (cc := cX0_put) (maxL := 4) (rt := .int) (lv0 := [(0, .ref h0), (1, .int k), (2, .int v)]) (by decide) rfl (Nat.le_of_ble_eq_true rfl) rfl ?_
  intro K _ _ C hret
  have C : Cx K ({ frames := 4, cells := 0, slots := 0, locals := 90 } : Room) 4 cX0_put RX0 wsX0_put [(cA, .int)] := C
  obtain ⟨o1, o2, o3, o4, o5, o6, o7, o8, o9, o10, o11, o12⟩ := id ok
  obtain ⟨x1, x2, x3⟩ := id hx
  refine g_aload_n C dX0_put_0 0 rfl rfl ?_
  refine g_iload_n C dX0_put_1 1 rfl rfl ?_
  refine g_callI0 (ci := 0) (q0 := 0) (rest := []) C (c_X0_placeOf _ _ ok hx k) gX0_put_X0_placeOf rfl rfl rfl hdX0_placeOf (by decide) rfl rfl rfl rfl (Nat.le_of_ble_eq_true rfl) dX0_put_2 (fun r _ hw => ?_)
  show G K 0 0 5 [(0, .ref h0), (1, .int k), (2, .int v)] [.int r] (wX h0 hk hv hr cA nk nr b c pl bl n lv pt fk fv fr)
  refine g_istore_n (lv' := [(3, .int r), (0, .ref h0), (1, .int k), (2, .int v)]) C dX0_put_5 rfl (by decide) rfl ?_
  refine g_iload_n C dX0_put_6 0 rfl rfl ?_
  refine g_iconst (v := -1) C dX0_put_7 (by decide) ?_
  refine g_icmp_eqI C 20 dX0_put_8 (by decide) (fun h8 => ?_) (fun h8 => ?_)
  · have hno : ∀ j, j < n → fk j ≠ k := by
      rcases hw with ⟨j, a1, a2, _, a3⟩ | ⟨a1, _⟩
      · exact absurd (a3.symm.trans h8) (nI_m1 (by omega))
      · exact a1
    refine g_aload_n C dX0_put_20 1 rfl rfl ?_
    refine g_get (ci := 0) C inX0_put rfl 0 6 (by decide) lkX0_put_46 dX0_put_21 rfl rfl ?_
    refine g_aload_n C dX0_put_24 1 rfl rfl ?_
    refine g_get (ci := 0) C inX0_put rfl 0 4 (by decide) lkX0_put_32 dX0_put_25 rfl rfl ?_
    refine g_alen C 1 dX0_put_28 rfl ?_
    refine g_icmp_lt C 34 dX0_put_29 (by decide) (by omega) (by omega) (fun h29 => ?_) (fun h29 => ?_)
    · refine g_aload_n C dX0_put_34 1 rfl rfl ?_
      refine g_iload_n C dX0_put_35 2 rfl rfl ?_
      refine g_iload_n C dX0_put_36 3 rfl rfl ?_
      refine g_callI0 (ci := 0) (q0 := 0) (rest := []) C (c_X0_putNew _ _ ok hx k v h29) gX0_put_X0_putNew rfl rfl rfl hdX0_putNew (by decide) rfl rfl rfl rfl (Nat.le_of_ble_eq_true rfl) dX0_put_37 (fun r2 u hw2 => ?_)
      obtain ⟨n2, l2, p2, fk2, fv2, fr2⟩ := u
      show G K 0 0 40 [(3, .int r), (0, .ref h0), (1, .int k), (2, .int v)] [.int r2] (wX h0 hk hv hr cA nk nr b c pl bl n2 l2 p2 fk2 fv2 fr2)
      exact hret _ _ _ (n2, l2, p2, fk2, fv2, fr2) dX0_put_40 rfl (Or.inr (Or.inr ⟨hno, h29, hw2⟩))
    · refine g_iconst (v := nI 2) C dX0_put_32 (by decide) ?_
      exact hret _ _ _ (n, lv, pt, fk, fv, fr) dX0_put_33 rfl (Or.inr (Or.inl ⟨hno, h29, rfl, rfl, rfl, rfl, rfl, rfl⟩))
  · obtain ⟨j, hj, hkj, er⟩ : ∃ j, j < n ∧ fk j = k ∧ r = nI j := by
      rcases hw with ⟨j, a1, a2, _, a3⟩ | ⟨_, a3⟩
      · exact ⟨j, a1, a2, a3⟩
      · exact absurd a3 h8
    subst er
    refine g_aload_n C dX0_put_11 1 rfl rfl ?_
    refine g_get (ci := 0) C inX0_put rfl 0 5 (by decide) lkX0_put_36 dX0_put_12 rfl rfl ?_
    refine g_iload_n C dX0_put_15 0 rfl rfl ?_
    refine g_iload_n C dX0_put_16 3 rfl rfl ?_
    refine g_iast (ws' := wX h0 hk hv hr cA nk nr b c pl bl n lv pt fk (upd fv j v) fr) C 2 dX0_put_17 rfl (by omega) (by omega) rfl ?_
    refine g_iconst (v := nI 1) C dX0_put_18 (by decide) ?_
    exact hret _ _ _ (n, lv, pt, fk, upd fv j v, fr) dX0_put_19 rfl (Or.inl ⟨j, hj, hkj, rfl, rfl, rfl, rfl, rfl, rfl⟩)
set_option maxHeartbeats 4000000 in
set_option maxRecDepth 100000 in
theorem c_X0_remove (l : Launch) (D : va_G) {cA : ClassId} {h0 hk hv hr nk nr b c pl bl n lv pt : Nat} {fk fv fr : Nat → Int32} (ok : okS b c pl bl n lv pt) (hx : n ≤ nk ∧ nk ≤ 512 ∧ nr = bl) (k : Int32)  : MetI (S := XS) l yX0_remove wsX0_remove ({ frames := 4, cells := 0, slots := 0, locals := 87 } : Room) D [(cA, .int)] [.ref h0, .int k] (wX h0 hk hv hr cA nk nr b c pl bl n lv pt fk fv fr) (fun u => wX h0 hk hv hr cA nk nr b c pl bl u.1 u.2.1 u.2.2.1 u.2.2.2.1 u.2.2.2.2.1 u.2.2.2.2.2) (fun r u => ((∀ j, j < n → fk j ≠ k) ∧ r = nI 0 ∧ u.1 = n ∧ u.2.1 = lv ∧ u.2.2.1 = pt ∧ u.2.2.2.1 = fk ∧ u.2.2.2.2.1 = fv) ∨ (∃ j m, j < n ∧ fk j = k ∧ lastP b n lv pt fk j m ∧ r = nI 1 ∧ u.1 = n - 1 ∧ ((4 * (n - 1) < c * (rd b lv + pt) ∧ b < rd b lv + pt ∧ u.2.1 = bwL pt lv ∧ u.2.2.1 = bwP b lv pt ∧ u.2.2.2.1 = (mb (bk b lv pt) (rd b lv + pt - 1) (n - 1) (n - 1) 0 (mv (upd fk j (fk m)) m n) (mv (upd fv j (fv m)) m n)).1 ∧ u.2.2.2.2.1 = (mb (bk b lv pt) (rd b lv + pt - 1) (n - 1) (n - 1) 0 (mv (upd fk j (fk m)) m n) (mv (upd fv j (fv m)) m n)).2) ∨ (¬ (4 * (n - 1) < c * (rd b lv + pt) ∧ b < rd b lv + pt) ∧ u.2.1 = lv ∧ u.2.2.1 = pt ∧ u.2.2.2.1 = mv (upd fk j (fk m)) m n ∧ u.2.2.2.2.1 = mv (upd fv j (fv m)) m n)))) 0 0 := by
  refine MetI_of (cc := cX0_remove) (maxL := 3) (rt := .boolean) (lv0 := [(0, .ref h0), (1, .int k)]) (by decide) rfl (Nat.le_of_ble_eq_true rfl) rfl ?_
  intro K _ _ C hret
  have C : Cx K ({ frames := 4, cells := 0, slots := 0, locals := 87 } : Room) 3 cX0_remove RX0 wsX0_remove [(cA, .int)] := C
  obtain ⟨o1, o2, o3, o4, o5, o6, o7, o8, o9, o10, o11, o12⟩ := id ok
  obtain ⟨x1, x2, x3⟩ := id hx
  refine g_aload_n C dX0_remove_0 0 rfl rfl ?_
  refine g_iload_n C dX0_remove_1 1 rfl rfl ?_
  refine g_callI0 (ci := 0) (q0 := 0) (rest := []) C (c_X0_placeOf _ _ ok hx k) gX0_remove_X0_placeOf rfl rfl rfl hdX0_placeOf (by decide) rfl rfl rfl rfl (Nat.le_of_ble_eq_true rfl) dX0_remove_2 (fun r _ hw => ?_)
  show G K 0 0 5 [(0, .ref h0), (1, .int k)] [.int r] (wX h0 hk hv hr cA nk nr b c pl bl n lv pt fk fv fr)
  refine g_istore_n (lv' := [(2, .int r), (0, .ref h0), (1, .int k)]) C dX0_remove_5 rfl (by decide) rfl ?_
  refine g_iload_n C dX0_remove_6 0 rfl rfl ?_
  refine g_iconst (v := -1) C dX0_remove_7 (by decide) ?_
  refine g_icmp_neI C 13 dX0_remove_8 (by decide) (fun h8 => ?_) (fun h8 => ?_)
  · obtain ⟨j, hj, hkj, er⟩ : ∃ j, j < n ∧ fk j = k ∧ r = nI j := by
      rcases hw with ⟨j, a1, a2, _, a3⟩ | ⟨_, a3⟩
      · exact ⟨j, a1, a2, a3⟩
      · exact absurd a3 h8
    subst er
    have ok1 := ok_n (n' := n - 1) ok (by omega)
    have hx1 : n - 1 ≤ nk ∧ nk ≤ 512 ∧ nr = bl := ⟨by omega, x2, x3⟩
    refine g_aload_n C dX0_remove_13 1 rfl rfl ?_
    refine g_iload_n C dX0_remove_14 0 rfl rfl ?_
    refine g_callV0 (ci := 0) (q0 := 0) (rest := []) C (c_X0_takeOut _ _ ok hx j hj) gX0_remove_X0_takeOut rfl rfl rfl hdX0_takeOut (by decide) rfl rfl rfl rfl (Nat.le_of_ble_eq_true rfl) dX0_remove_15 (fun m hw2 => ?_)
    show G K 0 0 18 [(2, .int (nI j)), (0, .ref h0), (1, .int k)] [] (wX h0 hk hv hr cA nk nr b c pl bl (n - 1) lv pt (mv (upd fk j (fk m)) m n) (mv (upd fv j (fv m)) m n) fr)
    refine g_aload_n C dX0_remove_18 1 rfl rfl ?_
    refine g_callI0 (ci := 0) (q0 := 0) (rest := []) C (c_X0_isSparse _ _ ok1 hx1) gX0_remove_X0_isSparse rfl rfl rfl hdX0_isSparse (by decide) rfl rfl rfl rfl (Nat.le_of_ble_eq_true rfl) dX0_remove_19 (fun r _ hw => ?_)
    subst hw
    show G K 0 0 22 [(2, .int (nI j)), (0, .ref h0), (1, .int k)] [.int (bI (4 * (n - 1) < c * (rd b lv + pt)))] (wX h0 hk hv hr cA nk nr b c pl bl (n - 1) lv pt (mv (upd fk j (fk m)) m n) (mv (upd fv j (fv m)) m n) fr)
    refine g_if_eq C 40 dX0_remove_22 (by decide) (fun h22 => ?_) (fun h22 => ?_)
    · have q1 := bI_0 h22
      refine g_iconst (v := nI 1) C dX0_remove_40 (by decide) ?_
      exact hret _ _ _ (n - 1, lv, pt, mv (upd fk j (fk m)) m n, mv (upd fv j (fv m)) m n, fr) dX0_remove_41 (by decide) (Or.inr ⟨j, m, hj, hkj, hw2, rfl, rfl, Or.inr ⟨(fun z => q1 z.1), rfl, rfl, rfl, rfl⟩⟩)
    · have q1 := bI_1 h22
      refine g_aload_n C dX0_remove_25 1 rfl rfl ?_
      refine g_callI0 (ci := 0) (q0 := 0) (rest := []) C (c_X0_buckets _ _ ok1 hx1) gX0_remove_X0_buckets rfl rfl rfl hdX0_buckets (by decide) rfl rfl rfl rfl (Nat.le_of_ble_eq_true rfl) dX0_remove_26 (fun r _ hw => ?_)
      subst hw
      show G K 0 0 29 [(2, .int (nI j)), (0, .ref h0), (1, .int k)] [.int (nI (rd b lv + pt))] (wX h0 hk hv hr cA nk nr b c pl bl (n - 1) lv pt (mv (upd fk j (fk m)) m n) (mv (upd fv j (fv m)) m n) fr)
      refine g_aload_n C dX0_remove_29 1 rfl rfl ?_
      refine g_get (ci := 0) C inX0_remove rfl 0 0 (by decide) lkX0_remove_13 dX0_remove_30 rfl rfl ?_
      refine g_icmp_le C 40 dX0_remove_33 (by decide) (by omega) (by omega) (fun h33 => ?_) (fun h33 => ?_)
      · refine g_iconst (v := nI 1) C dX0_remove_40 (by decide) ?_
        exact hret _ _ _ (n - 1, lv, pt, mv (upd fk j (fk m)) m n, mv (upd fv j (fv m)) m n, fr) dX0_remove_41 (by decide) (Or.inr ⟨j, m, hj, hkj, hw2, rfl, rfl, Or.inr ⟨(fun z => absurd z.2 (by omega)), rfl, rfl, rfl, rfl⟩⟩)
      · refine g_aload_n C dX0_remove_36 1 rfl rfl ?_
        refine g_callV0 (ci := 0) (q0 := 0) (rest := []) C (c_X0_join _ _ ok1 hx1 h33) gX0_remove_X0_join rfl rfl rfl hdX0_join (by decide) rfl rfl rfl rfl (Nat.le_of_ble_eq_true rfl) dX0_remove_37 (fun _ _ => ?_)
        show G K 0 0 40 [(2, .int (nI j)), (0, .ref h0), (1, .int k)] [] (wX h0 hk hv hr cA nk nr b c pl bl (n - 1) (bwL pt lv) (bwP b lv pt) ((mb (bk b lv pt) (rd b lv + pt - 1) (n - 1) (n - 1) 0 (mv (upd fk j (fk m)) m n) (mv (upd fv j (fv m)) m n)).1) ((mb (bk b lv pt) (rd b lv + pt - 1) (n - 1) (n - 1) 0 (mv (upd fk j (fk m)) m n) (mv (upd fv j (fv m)) m n)).2) fr)
        refine g_iconst (v := nI 1) C dX0_remove_40 (by decide) ?_
        exact hret _ _ _ (n - 1, bwL pt lv, bwP b lv pt, (mb (bk b lv pt) (rd b lv + pt - 1) (n - 1) (n - 1) 0 (mv (upd fk j (fk m)) m n) (mv (upd fv j (fv m)) m n)).1, (mb (bk b lv pt) (rd b lv + pt - 1) (n - 1) (n - 1) 0 (mv (upd fk j (fk m)) m n) (mv (upd fv j (fv m)) m n)).2, fr) dX0_remove_41 (by decide) (Or.inr ⟨j, m, hj, hkj, hw2, rfl, rfl, Or.inl ⟨q1, h33, rfl, rfl, rfl, rfl⟩⟩)
  · have hno : ∀ j, j < n → fk j ≠ k := by
      rcases hw with ⟨j, a1, a2, _, a3⟩ | ⟨a1, _⟩
      · exact absurd (a3.symm.trans h8) (nI_m1 (by omega))
      · exact a1
    refine g_iconst (v := nI 0) C dX0_remove_11 (by decide) ?_
    exact hret _ _ _ (n, lv, pt, fk, fv, fr) dX0_remove_12 (by decide) (Or.inl ⟨hno, rfl, rfl, rfl, rfl, rfl, rfl⟩)
set_option maxHeartbeats 4000000 in
set_option maxRecDepth 100000 in
theorem c_X0_pages (l : Launch) (D : va_G) {cA : ClassId} {h0 hk hv hr nk nr b c pl bl n lv pt : Nat} {fk fv fr : Nat → Int32} (ok : okS b c pl bl n lv pt) (hx : n ≤ nk ∧ nk ≤ 512 ∧ nr = bl) (x : Int32)  : MetI (S := Unit) l yX0_pages wsX0_pages ({ frames := 3, cells := 0, slots := 0, locals := 61 } : Room) D [(cA, .int)] [.ref h0, .int x] (wX h0 hk hv hr cA nk nr b c pl bl n lv pt fk fv fr) (fun _ => wX h0 hk hv hr cA nk nr b c pl bl n lv pt fk fv fr) (fun r _ => (∃ q, q < rd b lv + pt ∧ x = nI q ∧ r = nI (pg c (ct (fun j => bk b lv pt (fk j)) q n))) ∨ ((¬ ∃ q, q < rd b lv + pt ∧ x = nI q) ∧ r = -1)) 0 0 := by
  refine MetI_of (cc := cX0_pages) (maxL := 4) (rt := .int) (lv0 := [(0, .ref h0), (1, .int x)]) (by decide) rfl (Nat.le_of_ble_eq_true rfl) rfl ?_
  intro K _ _ C hret
  have C : Cx K ({ frames := 3, cells := 0, slots := 0, locals := 61 } : Room) 4 cX0_pages RX0 wsX0_pages [(cA, .int)] := C
  obtain ⟨o1, o2, o3, o4, o5, o6, o7, o8, o9, o10, o11, o12⟩ := id ok
  obtain ⟨x1, x2, x3⟩ := id hx
  refine g_aload_n C dX0_pages_0 0 rfl rfl ?_
  refine g_iload_n C dX0_pages_1 1 rfl rfl ?_
  refine g_callI0 (ci := 0) (q0 := 0) (rest := []) C (c_X0_isBucket _ _ ok hx x) gX0_pages_X0_isBucket rfl rfl rfl hdX0_isBucket (by decide) rfl rfl rfl rfl (Nat.le_of_ble_eq_true rfl) dX0_pages_2 (fun r _ hw => ?_)
  subst hw
  show G K 0 0 5 [(0, .ref h0), (1, .int x)] [.int (bI (∃ j, j < rd b lv + pt ∧ x = nI j))] (wX h0 hk hv hr cA nk nr b c pl bl n lv pt fk fv fr)
  refine g_if_ne C 10 dX0_pages_5 (by decide) (fun h5 => ?_) (fun h5 => ?_)
  · obtain ⟨q, hq, ex⟩ := bI_1 h5
    subst ex
    refine g_iconst (v := nI 0) C dX0_pages_10 (by decide) ?_
    refine g_istore_n (lv' := [(2, .int (nI 0)), (0, .ref h0), (1, .int (nI q))]) C dX0_pages_11 rfl (by decide) rfl ?_
    refine g_iconst (v := nI 0) C dX0_pages_12 (by decide) ?_
    refine g_istore_n (lv' := [(3, .int (nI 0)), (2, .int (nI 0)), (0, .ref h0), (1, .int (nI q))]) C dX0_pages_13 rfl (by decide) rfl ?_
    have loop14 : ∀ (t : Nat) (i : Nat) (m : Nat), i ≤ n → n < i + t → m = ct (fun j => bk b lv pt (fk j)) q i → G K 0 0 14 [(3, .int (nI i)), (2, .int (nI m)), (0, .ref h0), (1, .int (nI q))] [] (wX h0 hk hv hr cA nk nr b c pl bl n lv pt fk fv fr) := by
      intro t
      induction t with
      | zero =>
        intro i m hi ht hm
        exact absurd ht (by omega)
      | succ t ih =>
        intro i m hi ht hm
        refine g_iload_n C dX0_pages_14 0 rfl rfl ?_
        refine g_aload_n C dX0_pages_15 2 rfl rfl ?_
        refine g_get (ci := 0) C inX0_pages rfl 0 6 (by decide) lkX0_pages_46 dX0_pages_16 rfl rfl ?_
        refine g_icmp_ge C 45 dX0_pages_19 (by decide) (by omega) (by omega) (fun h19 => ?_) (fun h19 => ?_)
        · obtain rfl : n = i := by omega
          have hle := ct_le (fun j => bk b lv pt (fk j)) q n
          refine g_aload_n C dX0_pages_45 2 rfl rfl ?_
          refine g_iload_n C dX0_pages_46 1 rfl rfl ?_
          refine g_callI0 (ci := 0) (q0 := 0) (rest := []) C (c_X0_pagesFor _ _ ok hx m (by omega)) gX0_pages_X0_pagesFor rfl rfl rfl hdX0_pagesFor (by decide) rfl rfl rfl rfl (Nat.le_of_ble_eq_true rfl) dX0_pages_47 (fun r _ hw => ?_)
          subst hw
          show G K 0 0 50 [(3, .int (nI n)), (2, .int (nI m)), (0, .ref h0), (1, .int (nI q))] [.int (nI (pg c m))] (wX h0 hk hv hr cA nk nr b c pl bl n lv pt fk fv fr)
          exact hret _ _ _ () dX0_pages_50 rfl (Or.inl ⟨q, hq, rfl, by rw [hm]⟩)
        · refine g_aload_n C dX0_pages_22 2 rfl rfl ?_
          refine g_aload_n C dX0_pages_23 2 rfl rfl ?_
          refine g_get (ci := 0) C inX0_pages rfl 0 4 (by decide) lkX0_pages_32 dX0_pages_24 rfl rfl ?_
          refine g_iload_n C dX0_pages_27 0 rfl rfl ?_
          refine g_iald C 1 dX0_pages_28 rfl (by omega) (by omega) ?_
          refine g_callI0 (ci := 0) (q0 := 0) (rest := []) C (c_X0_bucketOf _ _ ok hx (fk i)) gX0_pages_X0_bucketOf rfl rfl rfl hdX0_bucketOf (by decide) rfl rfl rfl rfl (Nat.le_of_ble_eq_true rfl) dX0_pages_29 (fun r _ hw => ?_)
          subst hw
          show G K 0 0 32 [(3, .int (nI i)), (2, .int (nI m)), (0, .ref h0), (1, .int (nI q))] [.int (nI (bk b lv pt (fk i)))] (wX h0 hk hv hr cA nk nr b c pl bl n lv pt fk fv fr)
          refine g_iload_n C dX0_pages_32 3 rfl rfl ?_
          refine g_icmp_ne C 39 dX0_pages_33 (by decide) (by have := bk_lt (b := b) (lv := lv) (pt := pt) (fk i) (by omega); omega) (by omega) (fun h33 => ?_) (fun h33 => ?_)
          · refine g_iinc (v := nI (i + 1)) (lv' := [(3, .int (nI (i + 1))), (2, .int (nI m)), (0, .ref h0), (1, .int (nI q))]) C dX0_pages_39 0 rfl (nI_add _ 1) (by decide) rfl ?_
            refine g_goto C 14 dX0_pages_42 (by decide) ?_
            refine g_lv [0, 1, 2, 3] rfl ?_
            exact ih (i + 1) m (by omega) (by omega) (by rw [hm]; exact (ct_ne (g := fun j => bk b lv pt (fk j)) h33).symm)
          · refine g_iinc (v := nI (m + 1)) (lv' := [(2, .int (nI (m + 1))), (3, .int (nI i)), (0, .ref h0), (1, .int (nI q))]) C dX0_pages_36 1 rfl (nI_add _ 1) (by decide) rfl ?_
            refine g_iinc (v := nI (i + 1)) (lv' := [(3, .int (nI (i + 1))), (2, .int (nI (m + 1))), (0, .ref h0), (1, .int (nI q))]) C dX0_pages_39 1 rfl (nI_add _ 1) (by decide) rfl ?_
            refine g_goto C 14 dX0_pages_42 (by decide) ?_
            refine g_lv [0, 1, 2, 3] rfl ?_
            exact ih (i + 1) (m + 1) (by omega) (by omega) (by rw [hm]; exact (ct_eq (g := fun j => bk b lv pt (fk j)) h33).symm)
    refine g_lv [0, 1, 2, 3] rfl ?_
    exact loop14 (n + 1) 0 0 (by omega) (by omega) rfl
  · have q1 := bI_0 h5
    refine g_iconst (v := -1) C dX0_pages_8 (by decide) ?_
    exact hret _ _ _ () dX0_pages_9 rfl (Or.inr ⟨q1, rfl⟩)
set_option maxHeartbeats 4000000 in
set_option maxRecDepth 100000 in
theorem c_X0_free (l : Launch) (D : va_G) {cA : ClassId} {h0 hk hv hr nk nr b c pl bl n lv pt : Nat} {fk fv fr : Nat → Int32} (ok : okS b c pl bl n lv pt) (hx : n ≤ nk ∧ nk ≤ 512 ∧ nr = bl)   : MetI (S := (Nat → Int32)) l yX0_free wsX0_free ({ frames := 3, cells := 0, slots := 0, locals := 66 } : Room) D [(cA, .int)] [.ref h0] (wX h0 hk hv hr cA nk nr b c pl bl n lv pt fk fv fr) (fun u => wX h0 hk hv hr cA nk nr b c pl bl n lv pt fk fv u) (fun r _ => r = nI pl - nI (ndP b c n lv pt fk)) 0 0 := by
  refine MetI_of (cc := cX0_free) (maxL := 1) (rt := .int) (lv0 := [(0, .ref h0)]) (by decide) rfl (Nat.le_of_ble_eq_true rfl) rfl ?_
  intro K _ _ C hret
  have C : Cx K ({ frames := 3, cells := 0, slots := 0, locals := 66 } : Room) 1 cX0_free RX0 wsX0_free [(cA, .int)] := C
  obtain ⟨o1, o2, o3, o4, o5, o6, o7, o8, o9, o10, o11, o12⟩ := id ok
  obtain ⟨x1, x2, x3⟩ := id hx
  refine g_aload_n C dX0_free_0 0 rfl rfl ?_
  refine g_get (ci := 0) C inX0_free rfl 0 2 (by decide) lkX0_free_20 dX0_free_1 rfl rfl ?_
  refine g_aload_n C dX0_free_4 0 rfl rfl ?_
  refine g_callI0 (ci := 0) (q0 := 0) (rest := [.int (nI pl)]) C (c_X0_pagesNeeded _ _ ok hx) gX0_free_X0_pagesNeeded rfl rfl rfl hdX0_pagesNeeded (by decide) rfl rfl rfl rfl (Nat.le_of_ble_eq_true rfl) dX0_free_5 (fun r f hw => ?_)
  subst hw
  show G K 0 0 8 [(0, .ref h0)] [.int (nI (ndP b c n lv pt fk)), .int (nI pl)] (wX h0 hk hv hr cA nk nr b c pl bl n lv pt fk fv f)
  refine g_isubI C dX0_free_8 ?_
  exact hret _ _ _ f dX0_free_9 rfl rfl
set_option maxHeartbeats 4000000 in
set_option maxRecDepth 100000 in
theorem c_X0_key (l : Launch) (D : va_G) {cA : ClassId} {h0 hk hv hr nk nr b c pl bl n lv pt : Nat} {fk fv fr : Nat → Int32} (ok : okS b c pl bl n lv pt) (hx : n ≤ nk ∧ nk ≤ 512 ∧ nr = bl) (x y : Int32)  : MetI (S := Unit) l yX0_key wsX0_key ({ frames := 3, cells := 0, slots := 0, locals := 61 } : Room) D [(cA, .int)] [.ref h0, .int x, .int y] (wX h0 hk hv hr cA nk nr b c pl bl n lv pt fk fv fr) (fun _ => wX h0 hk hv hr cA nk nr b c pl bl n lv pt fk fv fr) (fun r _ => keyP b n lv pt fk x y r) 0 0 := by
  refine MetI_of (cc := cX0_key) (maxL := 5) (rt := .int) (lv0 := [(0, .ref h0), (1, .int x), (2, .int y)]) (by decide) rfl (Nat.le_of_ble_eq_true rfl) rfl ?_
  intro K _ _ C hret
  have C : Cx K ({ frames := 3, cells := 0, slots := 0, locals := 61 } : Room) 5 cX0_key RX0 wsX0_key [(cA, .int)] := C
  obtain ⟨o1, o2, o3, o4, o5, o6, o7, o8, o9, o10, o11, o12⟩ := id ok
  obtain ⟨x1, x2, x3⟩ := id hx
  refine g_aload_n C dX0_key_0 0 rfl rfl ?_
  refine g_iload_n C dX0_key_1 1 rfl rfl ?_
  refine g_callI0 (ci := 0) (q0 := 0) (rest := []) C (c_X0_isBucket _ _ ok hx x) gX0_key_X0_isBucket rfl rfl rfl hdX0_isBucket (by decide) rfl rfl rfl rfl (Nat.le_of_ble_eq_true rfl) dX0_key_2 (fun r _ hw => ?_)
  subst hw
  show G K 0 0 5 [(0, .ref h0), (1, .int x), (2, .int y)] [.int (bI (∃ j, j < rd b lv + pt ∧ x = nI j))] (wX h0 hk hv hr cA nk nr b c pl bl n lv pt fk fv fr)
  refine g_if_eq C 12 dX0_key_5 (by decide) (fun h5 => ?_) (fun h5 => ?_)
  · have q1 := bI_0 h5
    refine g_iconst (v := -1) C dX0_key_12 (by decide) ?_
    exact hret _ _ _ () dX0_key_13 rfl (Or.inr ⟨fun q z i a1 a2 => absurd ⟨q, a1, a2⟩ q1, rfl⟩)
  · obtain ⟨q, hq, ex⟩ := bI_1 h5
    subst ex
    refine g_iload_n C dX0_key_8 2 rfl rfl ?_
    refine g_if_ge C 14 dX0_key_9 (by decide) (fun h9 => ?_) (fun h9 => ?_)
    · obtain ⟨z, hz, ez⟩ := nI_of (Int32.not_lt.mpr h9)
      subst ez
      refine g_iconst (v := nI 0) C dX0_key_14 (by decide) ?_
      refine g_istore_n (lv' := [(3, .int (nI 0)), (0, .ref h0), (1, .int (nI q)), (2, .int (nI z))]) C dX0_key_15 rfl (by decide) rfl ?_
      refine g_iconst (v := nI 0) C dX0_key_16 (by decide) ?_
      refine g_istore (lv' := [(4, .int (nI 0)), (3, .int (nI 0)), (0, .ref h0), (1, .int (nI q)), (2, .int (nI z))]) C dX0_key_17 (by decide) rfl ?_
      have loop19 : ∀ (t : Nat) (i : Nat) (m : Nat), i ≤ n → n < i + t → m = ct (fun j => bk b lv pt (fk j)) q i → (∀ i', i' < i → bk b lv pt (fk i') = q → ct (fun j => bk b lv pt (fk j)) q (i') ≠ z) → G K 0 0 19 [(4, .int (nI i)), (3, .int (nI m)), (0, .ref h0), (1, .int (nI q)), (2, .int (nI z))] [] (wX h0 hk hv hr cA nk nr b c pl bl n lv pt fk fv fr) := by
        intro t
        induction t with
        | zero =>
          intro i m hi ht hm hall
          exact absurd ht (by omega)
        | succ t ih =>
          intro i m hi ht hm hall
          refine g_iload C dX0_key_19 0 rfl ?_
          refine g_aload_n C dX0_key_21 2 rfl rfl ?_
          refine g_get (ci := 0) C inX0_key rfl 0 6 (by decide) lkX0_key_46 dX0_key_22 rfl rfl ?_
          refine g_icmp_ge C 65 dX0_key_25 (by decide) (by omega) (by omega) (fun h25 => ?_) (fun h25 => ?_)
          · refine g_iconst (v := -1) C dX0_key_65 (by decide) ?_
            exact hret _ _ _ () dX0_key_66 rfl (Or.inr ⟨fun q2 z2 i2 a1 a2 a3 a4 a5 a6 => by rw [← (nI_eq (by omega) (by omega)).mp a2] at a6 ⊢; rw [← (nI_eq hz a3).mp a4]; exact hall i2 (by omega) a6, rfl⟩)
          · refine g_aload_n C dX0_key_28 2 rfl rfl ?_
            refine g_aload_n C dX0_key_29 2 rfl rfl ?_
            refine g_get (ci := 0) C inX0_key rfl 0 4 (by decide) lkX0_key_32 dX0_key_30 rfl rfl ?_
            refine g_iload C dX0_key_33 0 rfl ?_
            refine g_iald C 1 dX0_key_35 rfl (by omega) (by omega) ?_
            refine g_callI0 (ci := 0) (q0 := 0) (rest := []) C (c_X0_bucketOf _ _ ok hx (fk i)) gX0_key_X0_bucketOf rfl rfl rfl hdX0_bucketOf (by decide) rfl rfl rfl rfl (Nat.le_of_ble_eq_true rfl) dX0_key_36 (fun r _ hw => ?_)
            subst hw
            show G K 0 0 39 [(4, .int (nI i)), (3, .int (nI m)), (0, .ref h0), (1, .int (nI q)), (2, .int (nI z))] [.int (nI (bk b lv pt (fk i)))] (wX h0 hk hv hr cA nk nr b c pl bl n lv pt fk fv fr)
            refine g_iload_n C dX0_key_39 3 rfl rfl ?_
            refine g_icmp_ne C 59 dX0_key_40 (by decide) (by have := bk_lt (b := b) (lv := lv) (pt := pt) (fk i) (by omega); omega) (by omega) (fun h40 => ?_) (fun h40 => ?_)
            · refine g_iinc (v := nI (i + 1)) (lv' := [(4, .int (nI (i + 1))), (3, .int (nI m)), (0, .ref h0), (1, .int (nI q)), (2, .int (nI z))]) C dX0_key_59 0 rfl (nI_add _ 1) (by decide) rfl ?_
              refine g_goto C 19 dX0_key_62 (by decide) ?_
              refine g_lv [0, 1, 2, 3, 4] rfl ?_
              exact ih (i + 1) m (by omega) (by omega) (by rw [hm]; exact (ct_ne (g := fun j => bk b lv pt (fk j)) h40).symm) (lt_s hall (fun e => absurd e h40))
            · have hle := ct_le (fun j => bk b lv pt (fk j)) q i
              refine g_iload_n C dX0_key_43 1 rfl rfl ?_
              refine g_iload_n C dX0_key_44 4 rfl rfl ?_
              refine g_icmp_ne C 56 dX0_key_45 (by decide) (by omega) (by omega) (fun h45 => ?_) (fun h45 => ?_)
              · refine g_iinc (v := nI (m + 1)) (lv' := [(3, .int (nI (m + 1))), (4, .int (nI i)), (0, .ref h0), (1, .int (nI q)), (2, .int (nI z))]) C dX0_key_56 1 rfl (nI_add _ 1) (by decide) rfl ?_
                refine g_iinc (v := nI (i + 1)) (lv' := [(4, .int (nI (i + 1))), (3, .int (nI (m + 1))), (0, .ref h0), (1, .int (nI q)), (2, .int (nI z))]) C dX0_key_59 1 rfl (nI_add _ 1) (by decide) rfl ?_
                refine g_goto C 19 dX0_key_62 (by decide) ?_
                refine g_lv [0, 1, 2, 3, 4] rfl ?_
                exact ih (i + 1) (m + 1) (by omega) (by omega) (by rw [hm]; exact (ct_eq (g := fun j => bk b lv pt (fk j)) h40).symm) (lt_s hall (fun _ => hm ▸ h45))
              · refine g_aload_n C dX0_key_48 2 rfl rfl ?_
                refine g_get (ci := 0) C inX0_key rfl 0 4 (by decide) lkX0_key_32 dX0_key_49 rfl rfl ?_
                refine g_iload C dX0_key_52 0 rfl ?_
                refine g_iald C 1 dX0_key_54 rfl (by omega) (by omega) ?_
                exact hret _ _ _ () dX0_key_55 rfl (Or.inl ⟨q, z, i, hq, rfl, hz, rfl, h25, h40, by rw [← hm]; exact h45, hall, rfl⟩)
      refine g_lv [0, 1, 2, 3, 4] rfl ?_
      exact loop19 (n + 1) 0 0 (by omega) (by omega) rfl (fun i' a => absurd a (by omega))
    · refine g_iconst (v := -1) C dX0_key_12 (by decide) ?_
      exact hret _ _ _ () dX0_key_13 rfl (Or.inr ⟨fun q z i a1 a2 a3 a4 => absurd (a4 ▸ nI_pos' a3) h9, rfl⟩)
set_option maxHeartbeats 4000000 in
set_option maxRecDepth 100000 in
theorem c_X0_clear (l : Launch) (D : va_G) {cA : ClassId} {h0 hk hv hr nk nr b c pl bl n lv pt : Nat} {fk fv fr : Nat → Int32} (ok : okS b c pl bl n lv pt) (hx : n ≤ nk ∧ nk ≤ 512 ∧ nr = bl)   : MetV (S := Unit) l yX0_clear wsX0_clear ({ frames := 0, cells := 0, slots := 0, locals := 0 } : Room) D [(cA, .int)] [.ref h0] (wX h0 hk hv hr cA nk nr b c pl bl n lv pt fk fv fr) (fun _ => wX h0 hk hv hr cA nk nr b c pl bl 0 0 0 fk fv fr) (fun _ => True) 0 0 := by
  refine MetV_of (cc := cX0_clear) (maxL := 1) (lv0 := [(0, .ref h0)]) (by decide) rfl (Nat.le_of_ble_eq_true rfl) rfl ?_
  intro K _ _ C _ hret
  have C : Cx K ({ frames := 0, cells := 0, slots := 0, locals := 0 } : Room) 1 cX0_clear RX0 wsX0_clear [(cA, .int)] := C
  obtain ⟨o1, o2, o3, o4, o5, o6, o7, o8, o9, o10, o11, o12⟩ := id ok
  obtain ⟨x1, x2, x3⟩ := id hx
  refine g_aload_n C dX0_clear_0 0 rfl rfl ?_
  refine g_iconst (v := nI 0) C dX0_clear_1 (by decide) ?_
  refine g_put (ci := 0) (ty := .int) (ws' := wX h0 hk hv hr cA nk nr b c pl bl 0 lv pt fk fv fr) C inX0_clear tyX0 tyX0_ok nmX0 rfl 0 6 (by decide) lkX0_clear_46 rfl pdX0_6 dX0_clear_2 rfl rfl rfl (Nat.le_of_ble_eq_true rfl) rfl ?_
  refine g_aload_n C dX0_clear_5 0 rfl rfl ?_
  refine g_iconst (v := nI 0) C dX0_clear_6 (by decide) ?_
  refine g_put (ci := 0) (ty := .int) (ws' := wX h0 hk hv hr cA nk nr b c pl bl 0 0 pt fk fv fr) C inX0_clear tyX0 tyX0_ok nmX0 rfl 0 7 (by decide) lkX0_clear_73 rfl pdX0_7 dX0_clear_7 rfl rfl rfl (Nat.le_of_ble_eq_true rfl) rfl ?_
  refine g_aload_n C dX0_clear_10 0 rfl rfl ?_
  refine g_iconst (v := nI 0) C dX0_clear_11 (by decide) ?_
  refine g_put (ci := 0) (ty := .int) (ws' := wX h0 hk hv hr cA nk nr b c pl bl 0 0 0 fk fv fr) C inX0_clear tyX0 tyX0_ok nmX0 rfl 0 8 (by decide) lkX0_clear_70 rfl pdX0_8 dX0_clear_12 rfl rfl rfl (Nat.le_of_ble_eq_true rfl) rfl ?_
  exact hret _ _ () dX0_clear_15 trivial
end
section
/-! the reference -/
def hom (b n lv pt : Nat) (fk fh : Nat → Int32) : Prop := ∀ j, j < n → fh j = nI (bk b lv pt (fk j))
abbrev MS : Type := Nat × Nat × Nat × (Nat → Int32) × (Nat → Int32) × (Nat → Int32) × (Nat → Int32)
theorem fd_ne {fk : Nat → Int32} {i : Nat} {k x : Int32} (h : (∃ j, j < i ∧ fk j = k ∧ x = nI j) ∨ ((∀ j, j < i → fk j ≠ k) ∧ x = -1)) (hn : ¬ fk i = k) : (∃ j, j < i + 1 ∧ fk j = k ∧ x = nI j) ∨ ((∀ j, j < i + 1 → fk j ≠ k) ∧ x = -1) := by
  rcases h with ⟨j, a1, a2, a3⟩ | ⟨a1, a2⟩
  · exact Or.inl ⟨j, by omega, a2, a3⟩
  · exact Or.inr ⟨lt_s a1 hn, a2⟩
theorem up_nx {f F : Nat → Int32} {i : Nat} (h : ∀ j, j < i → f j = F j) : ∀ j, j < i + 1 → upd f i (F i) j = F j := fun j hj => by
  by_cases e : j = i
  · subst e; exact pk_us
  · rw [pk_un e]; exact h j (by omega)
theorem hom_mv {b n lv pt a q : Nat} {fk fh : Nat → Int32} (ha : a < n) (hq : bk b lv pt (fk a) = q) (h : hom b n lv pt fk fh) : hom b n lv pt (mv fk a n) (upd (sh fh a (n - 1)) (n - 1) (nI q)) := by
  intro j hj
  by_cases e : j = n - 1
  · subst e; rw [pk_us, mv_last, hq]
  · rw [pk_un e, mv_ne e]
    by_cases e2 : a ≤ j
    · rw [sh_in e2 (by omega), sh_in e2 (by omega)]; exact h (j + 1) (by omega)
    · rw [sh_lt (by omega), sh_lt (by omega)]; exact h j hj
theorem hom_cut {b n lv pt j m : Nat} {fk fh : Nat → Int32} (hjm : j ≤ m) (hmn : m < n) (hb : bk b lv pt (fk m) = bk b lv pt (fk j)) (h : hom b n lv pt fk fh) : hom b (n - 1) lv pt (sh (upd fk j (fk m)) m (n - 1)) (sh fh m (n - 1)) := by
  intro x hx
  by_cases e : m ≤ x
  · rw [sh_in e hx, sh_in e hx, pk_un (by omega)]; exact h (x + 1) (by omega)
  · rw [sh_lt (by omega), sh_lt (by omega)]
    by_cases e2 : x = j
    · subst e2; rw [pk_us, hb]; exact h x (by omega)
    · rw [pk_un e2]; exact h x (by omega)
theorem fw_B {b lv pt : Nat} : rd b (fwL b lv pt) + fwP b lv pt = rd b lv + pt + 1 := by
  unfold fwL fwP
  by_cases e : pt + 1 = rd b lv
  · rw [if_pos e, if_pos e, rd_s]; omega
  · rw [if_neg e, if_neg e]; omega
set_option maxHeartbeats 4000000 in
set_option maxRecDepth 100000 in
theorem c_X1_round (l : Launch) (D : va_G) {cA : ClassId} {g0 gk gv gh gc b c pl bl n lv pt : Nat} {fk fv fh fc : Nat → Int32} (hl7 : lv ≤ 7) (hr200 : rd b lv ≤ 200)   : MetI (S := Unit) l yX1_round wsX1_round ({ frames := 0, cells := 0, slots := 0, locals := 0 } : Room) D [(cA, .int)] [.ref g0] (wM g0 gk gv gh gc cA b c pl bl n lv pt fk fv fh fc) (fun _ => wM g0 gk gv gh gc cA b c pl bl n lv pt fk fv fh fc) (fun r _ => r = nI (rd b lv)) 0 0 := by
  refine MetI_of (cc := cX1_round) (maxL := 3) (rt := .int) (lv0 := [(0, .ref g0)]) (by decide) rfl (Nat.le_of_ble_eq_true rfl) rfl ?_
  intro K _ _ C hret
  have C : Cx K ({ frames := 0, cells := 0, slots := 0, locals := 0 } : Room) 3 cX1_round RX1 wsX1_round [(cA, .int)] := C
  refine g_aload_n C dX1_round_0 0 rfl rfl ?_
  refine g_get (ci := 1) C inX1_round rfl 0 0 (by decide) lkX1_round_22 dX1_round_1 rfl rfl ?_
  refine g_istore_n (lv' := [(1, .int (nI b)), (0, .ref g0)]) C dX1_round_4 rfl (by decide) rfl ?_
  refine g_iconst (v := nI 0) C dX1_round_5 (by decide) ?_
  refine g_istore_n (lv' := [(2, .int (nI 0)), (1, .int (nI b)), (0, .ref g0)]) C dX1_round_6 rfl (by decide) rfl ?_
  have loop7 : ∀ (t : Nat) (i : Nat) (r : Nat), i ≤ lv → lv < i + t → r = rd b i → G K 0 0 7 [(2, .int (nI i)), (1, .int (nI r)), (0, .ref g0)] [] (wM g0 gk gv gh gc cA b c pl bl n lv pt fk fv fh fc) := by
    intro t
    induction t with
    | zero =>
      intro i r hi ht hr
      exact absurd ht (by omega)
    | succ t ih =>
      intro i r hi ht hr
      refine g_iload_n C dX1_round_7 0 rfl rfl ?_
      refine g_aload_n C dX1_round_8 2 rfl rfl ?_
      refine g_get (ci := 1) C inX1_round rfl 0 8 (by decide) lkX1_round_35 dX1_round_9 rfl rfl ?_
      refine g_icmp_ge C 25 dX1_round_12 (by decide) (by omega) (by omega) (fun h12 => ?_) (fun h12 => ?_)
      · obtain rfl : lv = i := by omega
        refine g_iload_n C dX1_round_25 1 rfl rfl ?_
        exact hret _ _ _ () dX1_round_26 rfl (by rw [hr])
      · refine g_iconst (v := nI 2) C dX1_round_15 (by decide) ?_
        refine g_iload_n C dX1_round_16 1 rfl rfl ?_
        refine g_imul C dX1_round_17 ?_
        refine g_istore_n (lv' := [(1, .int (nI (2 * r))), (2, .int (nI i)), (0, .ref g0)]) C dX1_round_18 rfl (by decide) rfl ?_
        refine g_iinc (v := nI (i + 1)) (lv' := [(2, .int (nI (i + 1))), (1, .int (nI (2 * r))), (0, .ref g0)]) C dX1_round_19 1 rfl (nI_add _ 1) (by decide) rfl ?_
        refine g_goto C 7 dX1_round_22 (by decide) ?_
        refine g_lv [0, 1, 2] rfl ?_
        exact ih (i + 1) (2 * r) (by omega) (by omega) (by rw [hr]; exact (rd_s b i).symm)
  refine g_lv [0, 1, 2] rfl ?_
  exact loop7 (lv + 1) 0 b (by omega) (by omega) (rd_0 b).symm
set_option maxHeartbeats 4000000 in
set_option maxRecDepth 100000 in
theorem c_X1_buckets (l : Launch) (D : va_G) {cA : ClassId} {g0 gk gv gh gc b c pl bl n lv pt : Nat} {fk fv fh fc : Nat → Int32} (ok : okS b c pl bl n lv pt)   : MetI (S := Unit) l yX1_buckets wsX1_buckets ({ frames := 1, cells := 0, slots := 0, locals := 22 } : Room) D [(cA, .int)] [.ref g0] (wM g0 gk gv gh gc cA b c pl bl n lv pt fk fv fh fc) (fun _ => wM g0 gk gv gh gc cA b c pl bl n lv pt fk fv fh fc) (fun r _ => r = nI (rd b lv + pt)) 0 0 := by
  refine MetI_of (cc := cX1_buckets) (maxL := 1) (rt := .int) (lv0 := [(0, .ref g0)]) (by decide) rfl (Nat.le_of_ble_eq_true rfl) rfl ?_
  intro K _ _ C hret
  have C : Cx K ({ frames := 1, cells := 0, slots := 0, locals := 22 } : Room) 1 cX1_buckets RX1 wsX1_buckets [(cA, .int)] := C
  obtain ⟨o1, o2, o3, o4, o5, o6, o7, o8, o9, o10, o11, o12⟩ := id ok
  refine g_aload_n C dX1_buckets_0 0 rfl rfl ?_
  refine g_callI0 (ci := 1) (q0 := 0) (rest := []) C (c_X1_round _ _ o12 (by omega)) gX1_buckets_X1_round rfl rfl rfl hdX1_round (by decide) rfl rfl rfl rfl (Nat.le_of_ble_eq_true rfl) dX1_buckets_1 (fun r _ hw => ?_)
  subst hw
  show G K 0 0 4 [(0, .ref g0)] [.int (nI (rd b lv))] (wM g0 gk gv gh gc cA b c pl bl n lv pt fk fv fh fc)
  refine g_aload_n C dX1_buckets_4 0 rfl rfl ?_
  refine g_get (ci := 1) C inX1_buckets rfl 0 9 (by decide) lkX1_buckets_42 dX1_buckets_5 rfl rfl ?_
  refine g_iadd C dX1_buckets_8 ?_
  exact hret _ _ _ () dX1_buckets_9 rfl rfl
set_option maxHeartbeats 4000000 in
set_option maxRecDepth 100000 in
theorem c_X1_bucketOf (l : Launch) (D : va_G) {cA : ClassId} {g0 gk gv gh gc b c pl bl n lv pt : Nat} {fk fv fh fc : Nat → Int32} (ok : okS b c pl bl n lv pt) (k : Int32)  : MetI (S := Unit) l yX1_bucketOf wsX1_bucketOf ({ frames := 1, cells := 0, slots := 0, locals := 22 } : Room) D [(cA, .int)] [.ref g0, .int k] (wM g0 gk gv gh gc cA b c pl bl n lv pt fk fv fh fc) (fun _ => wM g0 gk gv gh gc cA b c pl bl n lv pt fk fv fh fc) (fun r _ => r = nI (bk b lv pt k)) 0 0 := by
  refine MetI_of (cc := cX1_bucketOf) (maxL := 4) (rt := .int) (lv0 := [(0, .ref g0), (1, .int k)]) (by decide) rfl (Nat.le_of_ble_eq_true rfl) rfl ?_
  intro K _ _ C hret
  have C : Cx K ({ frames := 1, cells := 0, slots := 0, locals := 22 } : Room) 4 cX1_bucketOf RX1 wsX1_bucketOf [(cA, .int)] := C
  obtain ⟨o1, o2, o3, o4, o5, o6, o7, o8, o9, o10, o11, o12⟩ := id ok
  refine g_iload_n C dX1_bucketOf_0 1 rfl rfl ?_
  refine g_ldc (v := 2147483647) C (by decide +kernel) dX1_bucketOf_1 ?_
  refine g_iand C dX1_bucketOf_3 ?_
  refine g_top (hh_and k) ?_
  refine g_istore_n (lv' := [(2, .int (nI (hh k))), (0, .ref g0), (1, .int k)]) C dX1_bucketOf_4 rfl (by decide) rfl ?_
  refine g_iload_n C dX1_bucketOf_5 0 rfl rfl ?_
  refine g_aload_n C dX1_bucketOf_6 1 rfl rfl ?_
  refine g_callI0 (ci := 1) (q0 := 0) (rest := [.int (nI (hh k))]) C (c_X1_round _ _ o12 (by omega)) gX1_bucketOf_X1_round rfl rfl rfl hdX1_round (by decide) rfl rfl rfl rfl (Nat.le_of_ble_eq_true rfl) dX1_bucketOf_7 (fun r _ hw => ?_)
  subst hw
  show G K 0 0 10 [(2, .int (nI (hh k))), (0, .ref g0), (1, .int k)] [.int (nI (rd b lv)), .int (nI (hh k))] (wM g0 gk gv gh gc cA b c pl bl n lv pt fk fv fh fc)
  refine g_irem C dX1_bucketOf_10 (hh_lt k) (by omega) (by omega) ?_
  refine g_istore_n (lv' := [(3, .int (nI ((hh k) % (rd b lv)))), (2, .int (nI (hh k))), (0, .ref g0), (1, .int k)]) C dX1_bucketOf_11 rfl (by decide) rfl ?_
  have hm := Nat.mod_lt (hh k) (show 0 < rd b lv by omega)
  refine g_iload_n C dX1_bucketOf_12 0 rfl rfl ?_
  refine g_aload_n C dX1_bucketOf_13 2 rfl rfl ?_
  refine g_get (ci := 1) C inX1_bucketOf rfl 0 9 (by decide) lkX1_bucketOf_42 dX1_bucketOf_14 rfl rfl ?_
  refine g_icmp_ge C 31 dX1_bucketOf_17 (by decide) (by omega) (by omega) (fun h17 => ?_) (fun h17 => ?_)
  · refine g_iload_n C dX1_bucketOf_31 0 rfl rfl ?_
    exact hret _ _ _ () dX1_bucketOf_32 rfl (by unfold bk; rw [if_neg (by omega)])
  · refine g_iload_n C dX1_bucketOf_20 1 rfl rfl ?_
    refine g_iconst (v := nI 2) C dX1_bucketOf_21 (by decide) ?_
    refine g_aload_n C dX1_bucketOf_22 2 rfl rfl ?_
    refine g_callI0 (ci := 1) (q0 := 0) (rest := [.int (nI 2), .int (nI (hh k))]) C (c_X1_round _ _ o12 (by omega)) gX1_bucketOf_X1_round rfl rfl rfl hdX1_round (by decide) rfl rfl rfl rfl (Nat.le_of_ble_eq_true rfl) dX1_bucketOf_23 (fun r _ hw => ?_)
    subst hw
    show G K 0 0 26 [(3, .int (nI ((hh k) % (rd b lv)))), (2, .int (nI (hh k))), (0, .ref g0), (1, .int k)] [.int (nI (rd b lv)), .int (nI 2), .int (nI (hh k))] (wM g0 gk gv gh gc cA b c pl bl n lv pt fk fv fh fc)
    refine g_imul C dX1_bucketOf_26 ?_
    refine g_irem C dX1_bucketOf_27 (hh_lt k) (by omega) (by omega) ?_
    refine g_goto C 32 dX1_bucketOf_28 (by decide) ?_
    exact hret _ _ _ () dX1_bucketOf_32 rfl (by unfold bk; rw [if_pos h17])
set_option maxHeartbeats 4000000 in
set_option maxRecDepth 100000 in
theorem c_X1_find (l : Launch) (D : va_G) {cA : ClassId} {g0 gk gv gh gc b c pl bl n lv pt : Nat} {fk fv fh fc : Nat → Int32} (ok : okS b c pl bl n lv pt) (k : Int32)  : MetI (S := Unit) l yX1_find wsX1_find ({ frames := 0, cells := 0, slots := 0, locals := 0 } : Room) D [(cA, .int)] [.ref g0, .int k] (wM g0 gk gv gh gc cA b c pl bl n lv pt fk fv fh fc) (fun _ => wM g0 gk gv gh gc cA b c pl bl n lv pt fk fv fh fc) (fun r _ => (∃ j, j < n ∧ fk j = k ∧ r = nI j) ∨ ((∀ j, j < n → fk j ≠ k) ∧ r = -1)) 0 0 := by
  refine MetI_of (cc := cX1_find) (maxL := 4) (rt := .int) (lv0 := [(0, .ref g0), (1, .int k)]) (by decide) rfl (Nat.le_of_ble_eq_true rfl) rfl ?_
  intro K _ _ C hret
  have C : Cx K ({ frames := 0, cells := 0, slots := 0, locals := 0 } : Room) 4 cX1_find RX1 wsX1_find [(cA, .int)] := C
  obtain ⟨o1, o2, o3, o4, o5, o6, o7, o8, o9, o10, o11, o12⟩ := id ok
  refine g_iconst (v := -1) C dX1_find_0 (by decide) ?_
  refine g_istore_n (lv' := [(2, .int ((-1))), (0, .ref g0), (1, .int k)]) C dX1_find_1 rfl (by decide) rfl ?_
  refine g_iconst (v := nI 0) C dX1_find_2 (by decide) ?_
  refine g_istore_n (lv' := [(3, .int (nI 0)), (2, .int ((-1))), (0, .ref g0), (1, .int k)]) C dX1_find_3 rfl (by decide) rfl ?_
  have loop4 : ∀ (t : Nat) (i : Nat) (x : Int32), i ≤ n → n < i + t → ((∃ j, j < i ∧ fk j = k ∧ x = nI j) ∨ ((∀ j, j < i → fk j ≠ k) ∧ x = -1)) → G K 0 0 4 [(3, .int (nI i)), (2, .int x), (0, .ref g0), (1, .int k)] [] (wM g0 gk gv gh gc cA b c pl bl n lv pt fk fv fh fc) := by
    intro t
    induction t with
    | zero =>
      intro i x hi ht hfd
      exact absurd ht (by omega)
    | succ t ih =>
      intro i x hi ht hfd
      refine g_iload_n C dX1_find_4 0 rfl rfl ?_
      refine g_aload_n C dX1_find_5 2 rfl rfl ?_
      refine g_get (ci := 1) C inX1_find rfl 0 4 (by decide) lkX1_find_46 dX1_find_6 rfl rfl ?_
      refine g_icmp_ge C 34 dX1_find_9 (by decide) (by omega) (by omega) (fun h9 => ?_) (fun h9 => ?_)
      · obtain rfl : n = i := by omega
        refine g_iload_n C dX1_find_34 1 rfl rfl ?_
        exact hret _ _ _ () dX1_find_35 rfl hfd
      · refine g_aload_n C dX1_find_12 2 rfl rfl ?_
        refine g_get (ci := 1) C inX1_find rfl 0 5 (by decide) lkX1_find_7 dX1_find_13 rfl rfl ?_
        refine g_iload_n C dX1_find_16 0 rfl rfl ?_
        refine g_iald C 1 dX1_find_17 rfl (by omega) (by omega) ?_
        refine g_iload_n C dX1_find_18 3 rfl rfl ?_
        refine g_icmp_neI C 26 dX1_find_19 (by decide) (fun h19 => ?_) (fun h19 => ?_)
        · refine g_iload_n C dX1_find_26 1 rfl rfl ?_
          refine g_istore_n (lv' := [(2, .int x), (3, .int (nI i)), (0, .ref g0), (1, .int k)]) C dX1_find_27 rfl (by decide) rfl ?_
          refine g_iinc (v := nI (i + 1)) (lv' := [(3, .int (nI (i + 1))), (2, .int x), (0, .ref g0), (1, .int k)]) C dX1_find_28 1 rfl (nI_add _ 1) (by decide) rfl ?_
          refine g_goto C 4 dX1_find_31 (by decide) ?_
          refine g_lv [0, 1, 2, 3] rfl ?_
          exact ih (i + 1) x (by omega) (by omega) (fd_ne hfd h19)
        · refine g_iload_n C dX1_find_22 0 rfl rfl ?_
          refine g_goto C 27 dX1_find_23 (by decide) ?_
          refine g_istore_n (lv' := [(2, .int (nI i)), (3, .int (nI i)), (0, .ref g0), (1, .int k)]) C dX1_find_27 rfl (by decide) rfl ?_
          refine g_iinc (v := nI (i + 1)) (lv' := [(3, .int (nI (i + 1))), (2, .int (nI i)), (0, .ref g0), (1, .int k)]) C dX1_find_28 1 rfl (nI_add _ 1) (by decide) rfl ?_
          refine g_goto C 4 dX1_find_31 (by decide) ?_
          refine g_lv [0, 1, 2, 3] rfl ?_
          exact ih (i + 1) (nI i) (by omega) (by omega) (Or.inl ⟨i, by omega, h19, rfl⟩)
  refine g_lv [0, 1, 2, 3] rfl ?_
  exact loop4 (n + 1) 0 (-1) (by omega) (by omega) (Or.inr ⟨fun j a => absurd a (by omega), rfl⟩)
set_option maxHeartbeats 4000000 in
set_option maxRecDepth 100000 in
theorem c_X1_count (l : Launch) (D : va_G) {cA : ClassId} {g0 gk gv gh gc b c pl bl n lv pt : Nat} {fk fv fh fc : Nat → Int32} (ok : okS b c pl bl n lv pt)  (hho : hom b n lv pt fk fh) : MetV (S := (Nat → Int32)) l yX1_count wsX1_count ({ frames := 0, cells := 0, slots := 0, locals := 0 } : Room) D [(cA, .int)] [.ref g0] (wM g0 gk gv gh gc cA b c pl bl n lv pt fk fv fh fc) (fun u => wM g0 gk gv gh gc cA b c pl bl n lv pt fk fv fh u) (fun u => ∀ q, q < 200 → u q = nI (ct (fun j => bk b lv pt (fk j)) q n)) 0 0 := by
  refine MetV_of (cc := cX1_count) (maxL := 2) (lv0 := [(0, .ref g0)]) (by decide) rfl (Nat.le_of_ble_eq_true rfl) rfl ?_
  intro K _ _ C _ hret
  have C : Cx K ({ frames := 0, cells := 0, slots := 0, locals := 0 } : Room) 2 cX1_count RX1 wsX1_count [(cA, .int)] := C
  obtain ⟨o1, o2, o3, o4, o5, o6, o7, o8, o9, o10, o11, o12⟩ := id ok
  refine g_iconst (v := nI 0) C dX1_count_0 (by decide) ?_
  refine g_istore_n (lv' := [(1, .int (nI 0)), (0, .ref g0)]) C dX1_count_1 rfl (by decide) rfl ?_
  have loop2 : ∀ (t : Nat) (i : Nat) (f : Nat → Int32), i ≤ 200 → 200 < i + t → (∀ q, q < i → f q = nI 0) → G K 0 0 2 [(1, .int (nI i)), (0, .ref g0)] [] (wM g0 gk gv gh gc cA b c pl bl n lv pt fk fv fh f) := by
    intro t
    induction t with
    | zero =>
      intro i f hi ht hz
      exact absurd ht (by omega)
    | succ t ih =>
      intro i f hi ht hz
      refine g_iload_n C dX1_count_2 0 rfl rfl ?_
      refine g_sipush (v := nI 200) C dX1_count_3 (by decide) ?_
      refine g_icmp_ge C 22 dX1_count_6 (by decide) (by omega) (by omega) (fun h6 => ?_) (fun h6 => ?_)
      · refine g_iconst (v := nI 0) C dX1_count_22 (by decide) ?_
        refine g_istore_n (lv' := [(1, .int (nI 0)), (0, .ref g0)]) C dX1_count_23 rfl (by decide) rfl ?_
        have loop24 : ∀ (t : Nat) (k : Nat) (f2 : Nat → Int32), k ≤ n → n < k + t → (∀ q, q < 200 → f2 q = nI (ct (fun j => bk b lv pt (fk j)) q k)) → G K 0 0 24 [(1, .int (nI k)), (0, .ref g0)] [] (wM g0 gk gv gh gc cA b c pl bl n lv pt fk fv fh f2) := by
          intro t
          induction t with
          | zero =>
            intro k f2 hk1 ht hc
            exact absurd ht (by omega)
          | succ t ih =>
            intro k f2 hk1 ht hc
            refine g_iload_n C dX1_count_24 0 rfl rfl ?_
            refine g_aload_n C dX1_count_25 1 rfl rfl ?_
            refine g_get (ci := 1) C inX1_count rfl 0 4 (by decide) lkX1_count_46 dX1_count_26 rfl rfl ?_
            refine g_icmp_ge C 53 dX1_count_29 (by decide) (by omega) (by omega) (fun h29 => ?_) (fun h29 => ?_)
            · obtain rfl : n = k := by omega
              exact hret _ _ f2 dX1_count_53 hc
            · refine g_aload_n C dX1_count_32 1 rfl rfl ?_
              refine g_get (ci := 1) C inX1_count rfl 0 10 (by decide) lkX1_count_19 dX1_count_33 rfl rfl ?_
              refine g_aload_n C dX1_count_36 1 rfl rfl ?_
              refine g_get (ci := 1) C inX1_count rfl 0 7 (by decide) lkX1_count_16 dX1_count_37 rfl rfl ?_
              refine g_iload_n C dX1_count_40 0 rfl rfl ?_
              refine g_iald C 3 dX1_count_41 rfl (by omega) (by omega) ?_
              refine g_top (hho k h29) ?_
              have hb := bk_lt (b := b) (lv := lv) (pt := pt) (fk k) (by omega)
              refine g_dup2 C dX1_count_42 rfl rfl ?_
              refine g_iald C 4 dX1_count_43 rfl (by omega) (by omega) ?_
              refine g_top (hc _ (by omega)) ?_
              refine g_iconst (v := nI 1) C dX1_count_44 (by decide) ?_
              refine g_iadd C dX1_count_45 ?_
              refine g_iast (ws' := wM g0 gk gv gh gc cA b c pl bl n lv pt fk fv fh (upd f2 (bk b lv pt (fk k)) (nI ((ct (fun j => bk b lv pt (fk j)) (bk b lv pt (fk k)) k) + 1)))) C 4 dX1_count_46 rfl (by omega) (by omega) rfl ?_
              refine g_iinc (v := nI (k + 1)) (lv' := [(1, .int (nI (k + 1))), (0, .ref g0)]) C dX1_count_47 0 rfl (nI_add _ 1) (by decide) rfl ?_
              refine g_goto C 24 dX1_count_50 (by decide) ?_
              refine g_lv [0, 1] rfl ?_
              exact ih (k + 1) _ (by omega) (by omega) (ct_up (g := fun j => bk b lv pt (fk j)) hc)
        refine g_lv [0, 1] rfl ?_
        exact loop24 (n + 1) 0 f (by omega) (by omega) (fun q hq => hz q (by omega))
      · refine g_aload_n C dX1_count_9 1 rfl rfl ?_
        refine g_get (ci := 1) C inX1_count rfl 0 10 (by decide) lkX1_count_19 dX1_count_10 rfl rfl ?_
        refine g_iload_n C dX1_count_13 0 rfl rfl ?_
        refine g_iconst (v := nI 0) C dX1_count_14 (by decide) ?_
        refine g_iast (ws' := wM g0 gk gv gh gc cA b c pl bl n lv pt fk fv fh (upd f i (nI 0))) C 4 dX1_count_15 rfl (by omega) (by omega) rfl ?_
        refine g_iinc (v := nI (i + 1)) (lv' := [(1, .int (nI (i + 1))), (0, .ref g0)]) C dX1_count_16 0 rfl (nI_add _ 1) (by decide) rfl ?_
        refine g_goto C 2 dX1_count_19 (by decide) ?_
        refine g_lv [0, 1] rfl ?_
        exact ih (i + 1) (upd f i (nI 0)) (by omega) (by omega) (up_all hz)
  refine g_lv [0, 1] rfl ?_
  exact loop2 201 0 fc (by omega) (by omega) (fun q hq => absurd hq (by omega))
set_option maxHeartbeats 4000000 in
set_option maxRecDepth 100000 in
theorem c_X1_pagesFor (l : Launch) (D : va_G) {cA : ClassId} {g0 gk gv gh gc b c pl bl n lv pt : Nat} {fk fv fh fc : Nat → Int32} (ok : okS b c pl bl n lv pt) (m : Nat) (hm : m ≤ 600) : MetI (S := Unit) l yX1_pagesFor wsX1_pagesFor ({ frames := 0, cells := 0, slots := 0, locals := 0 } : Room) D [(cA, .int)] [.ref g0, .int (nI m)] (wM g0 gk gv gh gc cA b c pl bl n lv pt fk fv fh fc) (fun _ => wM g0 gk gv gh gc cA b c pl bl n lv pt fk fv fh fc) (fun r _ => r = nI (pg c m)) 0 0 := by
  refine MetI_of (cc := cX1_pagesFor) (maxL := 2) (rt := .int) (lv0 := [(0, .ref g0), (1, .int (nI m))]) (by decide) rfl (Nat.le_of_ble_eq_true rfl) rfl ?_
  intro K _ _ C hret
  have C : Cx K ({ frames := 0, cells := 0, slots := 0, locals := 0 } : Room) 2 cX1_pagesFor RX1 wsX1_pagesFor [(cA, .int)] := C
  obtain ⟨o1, o2, o3, o4, o5, o6, o7, o8, o9, o10, o11, o12⟩ := id ok
  refine g_iload_n C dX1_pagesFor_0 1 rfl rfl ?_
  refine g_if_ne C 8 dX1_pagesFor_1 (by decide) (fun h1 => ?_) (fun h1 => ?_)
  · have hm0 : ¬ m = 0 := fun e => h1 (by rw [e]; rfl)
    refine g_iload_n C dX1_pagesFor_8 1 rfl rfl ?_
    refine g_aload_n C dX1_pagesFor_9 0 rfl rfl ?_
    refine g_get (ci := 1) C inX1_pagesFor rfl 0 1 (by decide) lkX1_pagesFor_26 dX1_pagesFor_10 rfl rfl ?_
    refine g_iadd C dX1_pagesFor_13 ?_
    refine g_iconst (v := nI 1) C dX1_pagesFor_14 (by decide) ?_
    refine g_isub C dX1_pagesFor_15 (by omega) ?_
    refine g_aload_n C dX1_pagesFor_16 0 rfl rfl ?_
    refine g_get (ci := 1) C inX1_pagesFor rfl 0 1 (by decide) lkX1_pagesFor_26 dX1_pagesFor_17 rfl rfl ?_
    refine g_idiv C dX1_pagesFor_20 (by omega) (by omega) (by omega) ?_
    exact hret _ _ _ () dX1_pagesFor_21 rfl (by unfold pg; rw [if_neg hm0])
  · have hm0 : m = 0 := (nI_eq (by omega) (by omega)).mp (h1.trans nI_0.symm)
    refine g_iconst (v := nI 1) C dX1_pagesFor_4 (by decide) ?_
    refine g_goto C 21 dX1_pagesFor_5 (by decide) ?_
    exact hret _ _ _ () dX1_pagesFor_21 rfl (by unfold pg; rw [if_pos hm0])
set_option maxHeartbeats 4000000 in
set_option maxRecDepth 100000 in
theorem c_X1_needed (l : Launch) (D : va_G) {cA : ClassId} {g0 gk gv gh gc b c pl bl n lv pt : Nat} {fk fv fh fc : Nat → Int32} (ok : okS b c pl bl n lv pt)  (hho : hom b n lv pt fk fh) : MetI (S := (Nat → Int32)) l yX1_needed wsX1_needed ({ frames := 2, cells := 0, slots := 0, locals := 42 } : Room) D [(cA, .int)] [.ref g0] (wM g0 gk gv gh gc cA b c pl bl n lv pt fk fv fh fc) (fun u => wM g0 gk gv gh gc cA b c pl bl n lv pt fk fv fh u) (fun r _ => r = nI (ndP b c n lv pt fk)) 0 0 := by
  refine MetI_of (cc := cX1_needed) (maxL := 3) (rt := .int) (lv0 := [(0, .ref g0)]) (by decide) rfl (Nat.le_of_ble_eq_true rfl) rfl ?_
  intro K _ _ C hret
  have C : Cx K ({ frames := 2, cells := 0, slots := 0, locals := 42 } : Room) 3 cX1_needed RX1 wsX1_needed [(cA, .int)] := C
  obtain ⟨o1, o2, o3, o4, o5, o6, o7, o8, o9, o10, o11, o12⟩ := id ok
  refine g_aload_n C dX1_needed_0 0 rfl rfl ?_
  refine g_callV0 (ci := 1) (q0 := 0) (rest := []) C (c_X1_count _ _ ok hho) gX1_needed_X1_count rfl rfl rfl hdX1_count (by decide) rfl rfl rfl rfl (Nat.le_of_ble_eq_true rfl) dX1_needed_1 (fun f hc => ?_)
  show G K 0 0 4 [(0, .ref g0)] [] (wM g0 gk gv gh gc cA b c pl bl n lv pt fk fv fh f)
  refine g_iconst (v := nI 0) C dX1_needed_4 (by decide) ?_
  refine g_istore_n (lv' := [(1, .int (nI 0)), (0, .ref g0)]) C dX1_needed_5 rfl (by decide) rfl ?_
  refine g_iconst (v := nI 0) C dX1_needed_6 (by decide) ?_
  refine g_istore_n (lv' := [(2, .int (nI 0)), (1, .int (nI 0)), (0, .ref g0)]) C dX1_needed_7 rfl (by decide) rfl ?_
  have loop8 : ∀ (t : Nat) (m : Nat), m ≤ rd b lv + pt → rd b lv + pt < m + t → G K 0 0 8 [(2, .int (nI m)), (1, .int (nI (sm (fun q => pg c (ct (fun j => bk b lv pt (fk j)) q n)) m))), (0, .ref g0)] [] (wM g0 gk gv gh gc cA b c pl bl n lv pt fk fv fh f) := by
    intro t
    induction t with
    | zero =>
      intro m hm ht
      exact absurd ht (by omega)
    | succ t ih =>
      intro m hm ht
      refine g_iload_n C dX1_needed_8 0 rfl rfl ?_
      refine g_aload_n C dX1_needed_9 2 rfl rfl ?_
      refine g_callI0 (ci := 1) (q0 := 0) (rest := [.int (nI m)]) C (c_X1_buckets _ _ ok) gX1_needed_X1_buckets rfl rfl rfl hdX1_buckets (by decide) rfl rfl rfl rfl (Nat.le_of_ble_eq_true rfl) dX1_needed_10 (fun r _ hw => ?_)
      subst hw
      show G K 0 0 13 [(2, .int (nI m)), (1, .int (nI (sm (fun q => pg c (ct (fun j => bk b lv pt (fk j)) q n)) m))), (0, .ref g0)] [.int (nI (rd b lv + pt)), .int (nI m)] (wM g0 gk gv gh gc cA b c pl bl n lv pt fk fv fh f)
      refine g_icmp_ge C 35 dX1_needed_13 (by decide) (by omega) (by omega) (fun h13 => ?_) (fun h13 => ?_)
      · obtain rfl : m = rd b lv + pt := by omega
        refine g_iload_n C dX1_needed_35 1 rfl rfl ?_
        exact hret _ _ _ f dX1_needed_36 rfl rfl
      · refine g_iload_n C dX1_needed_16 1 rfl rfl ?_
        refine g_aload_n C dX1_needed_17 2 rfl rfl ?_
        refine g_aload_n C dX1_needed_18 2 rfl rfl ?_
        refine g_get (ci := 1) C inX1_needed rfl 0 10 (by decide) lkX1_needed_19 dX1_needed_19 rfl rfl ?_
        refine g_iload_n C dX1_needed_22 0 rfl rfl ?_
        refine g_iald C 4 dX1_needed_23 rfl (by omega) (by omega) ?_
        refine g_top (hc m (by omega)) ?_
        have hle := ct_le (fun j => bk b lv pt (fk j)) m n
        refine g_callI0 (ci := 1) (q0 := 0) (rest := [.int (nI (sm (fun q => pg c (ct (fun j => bk b lv pt (fk j)) q n)) m))]) C (c_X1_pagesFor _ _ ok (ct (fun j => bk b lv pt (fk j)) m n) (by omega)) gX1_needed_X1_pagesFor rfl rfl rfl hdX1_pagesFor (by decide) rfl rfl rfl rfl (Nat.le_of_ble_eq_true rfl) dX1_needed_24 (fun r _ hw => ?_)
        subst hw
        show G K 0 0 27 [(2, .int (nI m)), (1, .int (nI (sm (fun q => pg c (ct (fun j => bk b lv pt (fk j)) q n)) m))), (0, .ref g0)] [.int (nI (pg c (ct (fun j => bk b lv pt (fk j)) m n))), .int (nI (sm (fun q => pg c (ct (fun j => bk b lv pt (fk j)) q n)) m))] (wM g0 gk gv gh gc cA b c pl bl n lv pt fk fv fh f)
        refine g_iadd C dX1_needed_27 ?_
        refine g_istore_n (lv' := [(1, .int (nI ((sm (fun q => pg c (ct (fun j => bk b lv pt (fk j)) q n)) m) + (pg c (ct (fun j => bk b lv pt (fk j)) m n))))), (2, .int (nI m)), (0, .ref g0)]) C dX1_needed_28 rfl (by decide) rfl ?_
        refine g_iinc (v := nI (m + 1)) (lv' := [(2, .int (nI (m + 1))), (1, .int (nI ((sm (fun q => pg c (ct (fun j => bk b lv pt (fk j)) q n)) m) + (pg c (ct (fun j => bk b lv pt (fk j)) m n))))), (0, .ref g0)]) C dX1_needed_29 1 rfl (nI_add _ 1) (by decide) rfl ?_
        refine g_goto C 8 dX1_needed_32 (by decide) ?_
        refine g_lv [0, 1, 2] rfl ?_
        exact ih (m + 1) (by omega) (by omega)
  refine g_lv [0, 1, 2] rfl ?_
  exact loop8 (rd b lv + pt + 1) 0 (by omega) (by omega)
set_option maxHeartbeats 4000000 in
set_option maxRecDepth 100000 in
theorem c_X1_settle (l : Launch) (D : va_G) {cA : ClassId} {g0 gk gv gh gc b c pl bl n lv pt : Nat} {fk fv fh fc : Nat → Int32} (ok : okS b c pl bl n lv pt)   : MetV (S := (Nat → Int32)) l yX1_settle wsX1_settle ({ frames := 2, cells := 0, slots := 0, locals := 45 } : Room) D [(cA, .int)] [.ref g0] (wM g0 gk gv gh gc cA b c pl bl n lv pt fk fv fh fc) (fun u => wM g0 gk gv gh gc cA b c pl bl n lv pt fk fv u fc) (fun u => hom b n lv pt fk u) 0 0 := by
  refine MetV_of (cc := cX1_settle) (maxL := 2) (lv0 := [(0, .ref g0)]) (by decide) rfl (Nat.le_of_ble_eq_true rfl) rfl ?_
  intro K _ _ C _ hret
  have C : Cx K ({ frames := 2, cells := 0, slots := 0, locals := 45 } : Room) 2 cX1_settle RX1 wsX1_settle [(cA, .int)] := C
  obtain ⟨o1, o2, o3, o4, o5, o6, o7, o8, o9, o10, o11, o12⟩ := id ok
  refine g_iconst (v := nI 0) C dX1_settle_0 (by decide) ?_
  refine g_istore_n (lv' := [(1, .int (nI 0)), (0, .ref g0)]) C dX1_settle_1 rfl (by decide) rfl ?_
  have loop2 : ∀ (t : Nat) (i : Nat) (f : Nat → Int32), i ≤ n → n < i + t → (∀ j, j < i → f j = nI (bk b lv pt (fk j))) → G K 0 0 2 [(1, .int (nI i)), (0, .ref g0)] [] (wM g0 gk gv gh gc cA b c pl bl n lv pt fk fv f fc) := by
    intro t
    induction t with
    | zero =>
      intro i f hi ht hz
      exact absurd ht (by omega)
    | succ t ih =>
      intro i f hi ht hz
      refine g_iload_n C dX1_settle_2 0 rfl rfl ?_
      refine g_aload_n C dX1_settle_3 1 rfl rfl ?_
      refine g_get (ci := 1) C inX1_settle rfl 0 4 (by decide) lkX1_settle_46 dX1_settle_4 rfl rfl ?_
      refine g_icmp_ge C 32 dX1_settle_7 (by decide) (by omega) (by omega) (fun h7 => ?_) (fun h7 => ?_)
      · obtain rfl : n = i := by omega
        exact hret _ _ f dX1_settle_32 hz
      · refine g_aload_n C dX1_settle_10 1 rfl rfl ?_
        refine g_get (ci := 1) C inX1_settle rfl 0 7 (by decide) lkX1_settle_16 dX1_settle_11 rfl rfl ?_
        refine g_iload_n C dX1_settle_14 0 rfl rfl ?_
        refine g_aload_n C dX1_settle_15 1 rfl rfl ?_
        refine g_aload_n C dX1_settle_16 1 rfl rfl ?_
        refine g_get (ci := 1) C inX1_settle rfl 0 5 (by decide) lkX1_settle_7 dX1_settle_17 rfl rfl ?_
        refine g_iload_n C dX1_settle_20 0 rfl rfl ?_
        refine g_iald C 1 dX1_settle_21 rfl (by omega) (by omega) ?_
        refine g_callI0 (ci := 1) (q0 := 0) (rest := [.int (nI i), .ref gh]) C (c_X1_bucketOf _ _ ok (fk i)) gX1_settle_X1_bucketOf rfl rfl rfl hdX1_bucketOf (by decide) rfl rfl rfl rfl (Nat.le_of_ble_eq_true rfl) dX1_settle_22 (fun r _ hw => ?_)
        subst hw
        show G K 0 0 25 [(1, .int (nI i)), (0, .ref g0)] [.int (nI (bk b lv pt (fk i))), .int (nI i), .ref gh] (wM g0 gk gv gh gc cA b c pl bl n lv pt fk fv f fc)
        refine g_iast (ws' := wM g0 gk gv gh gc cA b c pl bl n lv pt fk fv (upd f i (nI (bk b lv pt (fk i)))) fc) C 3 dX1_settle_25 rfl (by omega) (by omega) rfl ?_
        refine g_iinc (v := nI (i + 1)) (lv' := [(1, .int (nI (i + 1))), (0, .ref g0)]) C dX1_settle_26 0 rfl (nI_add _ 1) (by decide) rfl ?_
        refine g_goto C 2 dX1_settle_29 (by decide) ?_
        refine g_lv [0, 1] rfl ?_
        exact ih (i + 1) _ (by omega) (by omega) (up_nx (F := fun j => nI (bk b lv pt (fk j))) hz)
  refine g_lv [0, 1] rfl ?_
  exact loop2 (n + 1) 0 fh (by omega) (by omega) (fun q hq => absurd hq (by omega))
set_option maxHeartbeats 4000000 in
set_option maxRecDepth 100000 in
theorem c_X1_forth (l : Launch) (D : va_G) {cA : ClassId} {g0 gk gv gh gc b c pl bl n lv pt : Nat} {fk fv fh fc : Nat → Int32} (ok : okS b c pl bl n lv pt)   : MetV (S := Unit) l yX1_forth wsX1_forth ({ frames := 1, cells := 0, slots := 0, locals := 22 } : Room) D [(cA, .int)] [.ref g0] (wM g0 gk gv gh gc cA b c pl bl n lv pt fk fv fh fc) (fun _ => wM g0 gk gv gh gc cA b c pl bl n (fwL b lv pt) (fwP b lv pt) fk fv fh fc) (fun _ => True) 0 0 := by
  refine MetV_of (cc := cX1_forth) (maxL := 1) (lv0 := [(0, .ref g0)]) (by decide) rfl (Nat.le_of_ble_eq_true rfl) rfl ?_
  intro K _ _ C _ hret
  have C : Cx K ({ frames := 1, cells := 0, slots := 0, locals := 22 } : Room) 1 cX1_forth RX1 wsX1_forth [(cA, .int)] := C
  obtain ⟨o1, o2, o3, o4, o5, o6, o7, o8, o9, o10, o11, o12⟩ := id ok
  refine g_aload_n C dX1_forth_0 0 rfl rfl ?_
  refine g_dup C dX1_forth_1 rfl ?_
  refine g_get (ci := 1) C inX1_forth rfl 0 9 (by decide) lkX1_forth_42 dX1_forth_2 rfl rfl ?_
  refine g_iconst (v := nI 1) C dX1_forth_5 (by decide) ?_
  refine g_iadd C dX1_forth_6 ?_
  refine g_put (ci := 1) (ty := .int) (ws' := wM g0 gk gv gh gc cA b c pl bl n lv (pt + 1) fk fv fh fc) C inX1_forth tyX1 tyX1_ok nmX1 rfl 0 9 (by decide) lkX1_forth_42 rfl pdX1_9 dX1_forth_7 rfl rfl rfl (Nat.le_of_ble_eq_true rfl) rfl ?_
  refine g_aload_n C dX1_forth_10 0 rfl rfl ?_
  refine g_get (ci := 1) C inX1_forth rfl 0 9 (by decide) lkX1_forth_42 dX1_forth_11 rfl rfl ?_
  refine g_aload_n C dX1_forth_14 0 rfl rfl ?_
  refine g_callI0 (ci := 1) (q0 := 0) (rest := [.int (nI (pt + 1))]) C (c_X1_round _ _ o12 (by omega)) gX1_forth_X1_round rfl rfl rfl hdX1_round (by decide) rfl rfl rfl rfl (Nat.le_of_ble_eq_true rfl) dX1_forth_15 (fun r _ hw => ?_)
  subst hw
  show G K 0 0 18 [(0, .ref g0)] [.int (nI (rd b lv)), .int (nI (pt + 1))] (wM g0 gk gv gh gc cA b c pl bl n lv (pt + 1) fk fv fh fc)
  refine g_icmp_ne C 36 dX1_forth_18 (by decide) (by omega) (by omega) (fun h18 => ?_) (fun h18 => ?_)
  · have e1 : fwL b lv pt = lv := if_neg h18
    have e2 : fwP b lv pt = pt + 1 := if_neg h18
    refine g_wd (ws' := wM g0 gk gv gh gc cA b c pl bl n (fwL b lv pt) (fwP b lv pt) fk fv fh fc) (by rw [e1, e2]) ?_
    exact hret _ _ () dX1_forth_36 trivial
  · refine g_aload_n C dX1_forth_21 0 rfl rfl ?_
    refine g_iconst (v := nI 0) C dX1_forth_22 (by decide) ?_
    refine g_put (ci := 1) (ty := .int) (ws' := wM g0 gk gv gh gc cA b c pl bl n lv 0 fk fv fh fc) C inX1_forth tyX1 tyX1_ok nmX1 rfl 0 9 (by decide) lkX1_forth_42 rfl pdX1_9 dX1_forth_23 rfl rfl rfl (Nat.le_of_ble_eq_true rfl) rfl ?_
    refine g_aload_n C dX1_forth_26 0 rfl rfl ?_
    refine g_dup C dX1_forth_27 rfl ?_
    refine g_get (ci := 1) C inX1_forth rfl 0 8 (by decide) lkX1_forth_35 dX1_forth_28 rfl rfl ?_
    refine g_iconst (v := nI 1) C dX1_forth_31 (by decide) ?_
    refine g_iadd C dX1_forth_32 ?_
    refine g_put (ci := 1) (ty := .int) (ws' := wM g0 gk gv gh gc cA b c pl bl n (lv + 1) 0 fk fv fh fc) C inX1_forth tyX1 tyX1_ok nmX1 rfl 0 8 (by decide) lkX1_forth_35 rfl pdX1_8 dX1_forth_33 rfl rfl rfl (Nat.le_of_ble_eq_true rfl) rfl ?_
    have e1 : fwL b lv pt = lv + 1 := if_pos h18
    have e2 : fwP b lv pt = 0 := if_pos h18
    refine g_wd (ws' := wM g0 gk gv gh gc cA b c pl bl n (fwL b lv pt) (fwP b lv pt) fk fv fh fc) (by rw [e1, e2]) ?_
    exact hret _ _ () dX1_forth_36 trivial
set_option maxHeartbeats 4000000 in
set_option maxRecDepth 100000 in
theorem c_X1_back (l : Launch) (D : va_G) {cA : ClassId} {g0 gk gv gh gc b c pl bl n lv pt : Nat} {fk fv fh fc : Nat → Int32} (ok : okS b c pl bl n lv pt)  (hB : b < rd b lv + pt) : MetV (S := Unit) l yX1_back wsX1_back ({ frames := 1, cells := 0, slots := 0, locals := 22 } : Room) D [(cA, .int)] [.ref g0] (wM g0 gk gv gh gc cA b c pl bl n lv pt fk fv fh fc) (fun _ => wM g0 gk gv gh gc cA b c pl bl n (bwL pt lv) (bwP b lv pt) fk fv fh fc) (fun _ => True) 0 0 := by
  refine MetV_of (cc := cX1_back) (maxL := 1) (lv0 := [(0, .ref g0)]) (by decide) rfl (Nat.le_of_ble_eq_true rfl) rfl ?_
  intro K _ _ C _ hret
  have C : Cx K ({ frames := 1, cells := 0, slots := 0, locals := 22 } : Room) 1 cX1_back RX1 wsX1_back [(cA, .int)] := C
  obtain ⟨o1, o2, o3, o4, o5, o6, o7, o8, o9, o10, o11, o12⟩ := id ok
  refine g_aload_n C dX1_back_0 0 rfl rfl ?_
  refine g_get (ci := 1) C inX1_back rfl 0 9 (by decide) lkX1_back_42 dX1_back_1 rfl rfl ?_
  refine g_if_ne C 25 dX1_back_4 (by decide) (fun h4 => ?_) (fun h4 => ?_)
  · have hp : ¬ pt = 0 := fun e => h4 (by rw [e]; rfl)
    refine g_aload_n C dX1_back_25 0 rfl rfl ?_
    refine g_dup C dX1_back_26 rfl ?_
    refine g_get (ci := 1) C inX1_back rfl 0 9 (by decide) lkX1_back_42 dX1_back_27 rfl rfl ?_
    refine g_iconst (v := nI 1) C dX1_back_30 (by decide) ?_
    refine g_isub C dX1_back_31 (by omega) ?_
    refine g_put (ci := 1) (ty := .int) (ws' := wM g0 gk gv gh gc cA b c pl bl n lv (pt - 1) fk fv fh fc) C inX1_back tyX1 tyX1_ok nmX1 rfl 0 9 (by decide) lkX1_back_42 rfl pdX1_9 dX1_back_32 rfl rfl rfl (Nat.le_of_ble_eq_true rfl) rfl ?_
    have e1 : bwL pt lv = lv := if_neg hp
    have e2 : bwP b lv pt = pt - 1 := if_neg hp
    refine g_wd (ws' := wM g0 gk gv gh gc cA b c pl bl n (bwL pt lv) (bwP b lv pt) fk fv fh fc) (by rw [e1, e2]) ?_
    exact hret _ _ () dX1_back_35 trivial
  · have hp : pt = 0 := (nI_eq (by omega) (by omega)).mp (h4.trans nI_0.symm)
    have hl := lv_pos hB hp
    have hs := rd_s b (lv - 1)
    rw [show lv - 1 + 1 = lv by omega] at hs
    refine g_aload_n C dX1_back_7 0 rfl rfl ?_
    refine g_dup C dX1_back_8 rfl ?_
    refine g_get (ci := 1) C inX1_back rfl 0 8 (by decide) lkX1_back_35 dX1_back_9 rfl rfl ?_
    refine g_iconst (v := nI 1) C dX1_back_12 (by decide) ?_
    refine g_isub C dX1_back_13 (by omega) ?_
    refine g_put (ci := 1) (ty := .int) (ws' := wM g0 gk gv gh gc cA b c pl bl n (lv - 1) pt fk fv fh fc) C inX1_back tyX1 tyX1_ok nmX1 rfl 0 8 (by decide) lkX1_back_35 rfl pdX1_8 dX1_back_14 rfl rfl rfl (Nat.le_of_ble_eq_true rfl) rfl ?_
    refine g_aload_n C dX1_back_17 0 rfl rfl ?_
    refine g_aload_n C dX1_back_18 0 rfl rfl ?_
    refine g_callI0 (ci := 1) (q0 := 0) (rest := [.ref g0]) C (c_X1_round _ _ (by omega) (by omega)) gX1_back_X1_round rfl rfl rfl hdX1_round (by decide) rfl rfl rfl rfl (Nat.le_of_ble_eq_true rfl) dX1_back_19 (fun r _ hw => ?_)
    subst hw
    show G K 0 0 22 [(0, .ref g0)] [.int (nI (rd b (lv - 1))), .ref g0] (wM g0 gk gv gh gc cA b c pl bl n (lv - 1) pt fk fv fh fc)
    refine g_put (ci := 1) (ty := .int) (ws' := wM g0 gk gv gh gc cA b c pl bl n (lv - 1) (rd b (lv - 1)) fk fv fh fc) C inX1_back tyX1 tyX1_ok nmX1 rfl 0 9 (by decide) lkX1_back_42 rfl pdX1_9 dX1_back_22 rfl rfl rfl (Nat.le_of_ble_eq_true rfl) rfl ?_
    refine g_aload_n C dX1_back_25 0 rfl rfl ?_
    refine g_dup C dX1_back_26 rfl ?_
    refine g_get (ci := 1) C inX1_back rfl 0 9 (by decide) lkX1_back_42 dX1_back_27 rfl rfl ?_
    refine g_iconst (v := nI 1) C dX1_back_30 (by decide) ?_
    refine g_isub C dX1_back_31 (by omega) ?_
    refine g_put (ci := 1) (ty := .int) (ws' := wM g0 gk gv gh gc cA b c pl bl n (lv - 1) ((rd b (lv - 1)) - 1) fk fv fh fc) C inX1_back tyX1 tyX1_ok nmX1 rfl 0 9 (by decide) lkX1_back_42 rfl pdX1_9 dX1_back_32 rfl rfl rfl (Nat.le_of_ble_eq_true rfl) rfl ?_
    have e1 : bwL pt lv = lv - 1 := if_pos hp
    have e2 : bwP b lv pt = rd b (lv - 1) - 1 := if_pos hp
    refine g_wd (ws' := wM g0 gk gv gh gc cA b c pl bl n (bwL pt lv) (bwP b lv pt) fk fv fh fc) (by rw [e1, e2]) ?_
    exact hret _ _ () dX1_back_35 trivial
set_option maxHeartbeats 4000000 in
set_option maxRecDepth 100000 in
theorem c_X1_size (l : Launch) (D : va_G) {cA : ClassId} {g0 gk gv gh gc b c pl bl n lv pt : Nat} {fk fv fh fc : Nat → Int32} (ok : okS b c pl bl n lv pt)   : MetI (S := Unit) l yX1_size wsX1_size ({ frames := 0, cells := 0, slots := 0, locals := 0 } : Room) D [(cA, .int)] [.ref g0] (wM g0 gk gv gh gc cA b c pl bl n lv pt fk fv fh fc) (fun _ => wM g0 gk gv gh gc cA b c pl bl n lv pt fk fv fh fc) (fun r _ => r = nI n) 0 0 := by
  refine MetI_of (cc := cX1_size) (maxL := 1) (rt := .int) (lv0 := [(0, .ref g0)]) (by decide) rfl (Nat.le_of_ble_eq_true rfl) rfl ?_
  intro K _ _ C hret
  have C : Cx K ({ frames := 0, cells := 0, slots := 0, locals := 0 } : Room) 1 cX1_size RX1 wsX1_size [(cA, .int)] := C
  obtain ⟨o1, o2, o3, o4, o5, o6, o7, o8, o9, o10, o11, o12⟩ := id ok
  refine g_aload_n C dX1_size_0 0 rfl rfl ?_
  refine g_get (ci := 1) C inX1_size rfl 0 4 (by decide) lkX1_size_46 dX1_size_1 rfl rfl ?_
  exact hret _ _ _ () dX1_size_4 rfl rfl
set_option maxHeartbeats 4000000 in
set_option maxRecDepth 100000 in
theorem c_X1_level (l : Launch) (D : va_G) {cA : ClassId} {g0 gk gv gh gc b c pl bl n lv pt : Nat} {fk fv fh fc : Nat → Int32} (ok : okS b c pl bl n lv pt)   : MetI (S := Unit) l yX1_level wsX1_level ({ frames := 0, cells := 0, slots := 0, locals := 0 } : Room) D [(cA, .int)] [.ref g0] (wM g0 gk gv gh gc cA b c pl bl n lv pt fk fv fh fc) (fun _ => wM g0 gk gv gh gc cA b c pl bl n lv pt fk fv fh fc) (fun r _ => r = nI lv) 0 0 := by
  refine MetI_of (cc := cX1_level) (maxL := 1) (rt := .int) (lv0 := [(0, .ref g0)]) (by decide) rfl (Nat.le_of_ble_eq_true rfl) rfl ?_
  intro K _ _ C hret
  have C : Cx K ({ frames := 0, cells := 0, slots := 0, locals := 0 } : Room) 1 cX1_level RX1 wsX1_level [(cA, .int)] := C
  obtain ⟨o1, o2, o3, o4, o5, o6, o7, o8, o9, o10, o11, o12⟩ := id ok
  refine g_aload_n C dX1_level_0 0 rfl rfl ?_
  refine g_get (ci := 1) C inX1_level rfl 0 8 (by decide) lkX1_level_35 dX1_level_1 rfl rfl ?_
  exact hret _ _ _ () dX1_level_4 rfl rfl
set_option maxHeartbeats 4000000 in
set_option maxRecDepth 100000 in
theorem c_X1_pointer (l : Launch) (D : va_G) {cA : ClassId} {g0 gk gv gh gc b c pl bl n lv pt : Nat} {fk fv fh fc : Nat → Int32} (ok : okS b c pl bl n lv pt)   : MetI (S := Unit) l yX1_pointer wsX1_pointer ({ frames := 0, cells := 0, slots := 0, locals := 0 } : Room) D [(cA, .int)] [.ref g0] (wM g0 gk gv gh gc cA b c pl bl n lv pt fk fv fh fc) (fun _ => wM g0 gk gv gh gc cA b c pl bl n lv pt fk fv fh fc) (fun r _ => r = nI pt) 0 0 := by
  refine MetI_of (cc := cX1_pointer) (maxL := 1) (rt := .int) (lv0 := [(0, .ref g0)]) (by decide) rfl (Nat.le_of_ble_eq_true rfl) rfl ?_
  intro K _ _ C hret
  have C : Cx K ({ frames := 0, cells := 0, slots := 0, locals := 0 } : Room) 1 cX1_pointer RX1 wsX1_pointer [(cA, .int)] := C
  obtain ⟨o1, o2, o3, o4, o5, o6, o7, o8, o9, o10, o11, o12⟩ := id ok
  refine g_aload_n C dX1_pointer_0 0 rfl rfl ?_
  refine g_get (ci := 1) C inX1_pointer rfl 0 9 (by decide) lkX1_pointer_42 dX1_pointer_1 rfl rfl ?_
  exact hret _ _ _ () dX1_pointer_4 rfl rfl
set_option maxHeartbeats 4000000 in
set_option maxRecDepth 100000 in
theorem c_X1_get (l : Launch) (D : va_G) {cA : ClassId} {g0 gk gv gh gc b c pl bl n lv pt : Nat} {fk fv fh fc : Nat → Int32} (ok : okS b c pl bl n lv pt) (k : Int32)  : MetI (S := Unit) l yX1_get wsX1_get ({ frames := 1, cells := 0, slots := 0, locals := 23 } : Room) D [(cA, .int)] [.ref g0, .int k] (wM g0 gk gv gh gc cA b c pl bl n lv pt fk fv fh fc) (fun _ => wM g0 gk gv gh gc cA b c pl bl n lv pt fk fv fh fc) (fun r _ => (∃ j, j < n ∧ fk j = k ∧ r = fv j) ∨ ((∀ j, j < n → fk j ≠ k) ∧ r = nI 0)) 0 0 := by
  refine MetI_of (cc := cX1_get) (maxL := 3) (rt := .int) (lv0 := [(0, .ref g0), (1, .int k)]) (by decide) rfl (Nat.le_of_ble_eq_true rfl) rfl ?_
  intro K _ _ C hret
  have C : Cx K ({ frames := 1, cells := 0, slots := 0, locals := 23 } : Room) 3 cX1_get RX1 wsX1_get [(cA, .int)] := C
  obtain ⟨o1, o2, o3, o4, o5, o6, o7, o8, o9, o10, o11, o12⟩ := id ok
  refine g_aload_n C dX1_get_0 0 rfl rfl ?_
  refine g_iload_n C dX1_get_1 1 rfl rfl ?_
  refine g_callI0 (ci := 1) (q0 := 0) (rest := []) C (c_X1_find _ _ ok k) gX1_get_X1_find rfl rfl rfl hdX1_find (by decide) rfl rfl rfl rfl (Nat.le_of_ble_eq_true rfl) dX1_get_2 (fun r _ hw => ?_)
  show G K 0 0 5 [(0, .ref g0), (1, .int k)] [.int r] (wM g0 gk gv gh gc cA b c pl bl n lv pt fk fv fh fc)
  refine g_istore_n (lv' := [(2, .int r), (0, .ref g0), (1, .int k)]) C dX1_get_5 rfl (by decide) rfl ?_
  refine g_iload_n C dX1_get_6 0 rfl rfl ?_
  refine g_if_ge C 14 dX1_get_7 (by decide) (fun h7 => ?_) (fun h7 => ?_)
  · obtain ⟨j, hj, hkj, er⟩ : ∃ j, j < n ∧ fk j = k ∧ r = nI j := by
      rcases hw with a | ⟨_, a3⟩
      · exact a
      · exact absurd h7 (by rw [a3]; decide)
    subst er
    refine g_aload_n C dX1_get_14 1 rfl rfl ?_
    refine g_get (ci := 1) C inX1_get rfl 0 6 (by decide) lkX1_get_13 dX1_get_15 rfl rfl ?_
    refine g_iload_n C dX1_get_18 0 rfl rfl ?_
    refine g_iald C 2 dX1_get_19 rfl (by omega) (by omega) ?_
    exact hret _ _ _ () dX1_get_20 rfl (Or.inl ⟨j, hj, hkj, rfl⟩)
  · have hno : ∀ j, j < n → fk j ≠ k := by
      rcases hw with ⟨j, a1, a2, a3⟩ | ⟨a1, _⟩
      · exact absurd (show 0 ≤ r by rw [a3]; exact nI_pos' (by omega)) h7
      · exact a1
    refine g_iconst (v := nI 0) C dX1_get_10 (by decide) ?_
    refine g_goto C 20 dX1_get_11 (by decide) ?_
    exact hret _ _ _ () dX1_get_20 rfl (Or.inr ⟨hno, rfl⟩)
set_option maxHeartbeats 4000000 in
set_option maxRecDepth 100000 in
theorem c_X1_has (l : Launch) (D : va_G) {cA : ClassId} {g0 gk gv gh gc b c pl bl n lv pt : Nat} {fk fv fh fc : Nat → Int32} (ok : okS b c pl bl n lv pt) (k : Int32)  : MetI (S := Unit) l yX1_has wsX1_has ({ frames := 1, cells := 0, slots := 0, locals := 23 } : Room) D [(cA, .int)] [.ref g0, .int k] (wM g0 gk gv gh gc cA b c pl bl n lv pt fk fv fh fc) (fun _ => wM g0 gk gv gh gc cA b c pl bl n lv pt fk fv fh fc) (fun r _ => r = bI (∃ j, j < n ∧ fk j = k)) 0 0 := by
  refine MetI_of (cc := cX1_has) (maxL := 2) (rt := .boolean) (lv0 := [(0, .ref g0), (1, .int k)]) (by decide) rfl (Nat.le_of_ble_eq_true rfl) rfl ?_
  intro K _ _ C hret
  have C : Cx K ({ frames := 1, cells := 0, slots := 0, locals := 23 } : Room) 2 cX1_has RX1 wsX1_has [(cA, .int)] := C
  obtain ⟨o1, o2, o3, o4, o5, o6, o7, o8, o9, o10, o11, o12⟩ := id ok
  refine g_aload_n C dX1_has_0 0 rfl rfl ?_
  refine g_iload_n C dX1_has_1 1 rfl rfl ?_
  refine g_callI0 (ci := 1) (q0 := 0) (rest := []) C (c_X1_find _ _ ok k) gX1_has_X1_find rfl rfl rfl hdX1_find (by decide) rfl rfl rfl rfl (Nat.le_of_ble_eq_true rfl) dX1_has_2 (fun r _ hw => ?_)
  show G K 0 0 5 [(0, .ref g0), (1, .int k)] [.int r] (wM g0 gk gv gh gc cA b c pl bl n lv pt fk fv fh fc)
  refine g_if_lt C 12 dX1_has_5 (by decide) (fun h5 => ?_) (fun h5 => ?_)
  · have hno : ∀ j, j < n → fk j ≠ k := by
      rcases hw with ⟨j, a1, a2, a3⟩ | ⟨a1, _⟩
      · exact absurd h5 (by rw [a3]; exact nI_pos (by omega))
      · exact a1
    refine g_iconst (v := nI 0) C dX1_has_12 (by decide) ?_
    exact hret _ _ _ () dX1_has_13 (by decide) (bI_f (fun ⟨j, a1, a2⟩ => hno j a1 a2)).symm
  · obtain ⟨j, hj, hkj, er⟩ : ∃ j, j < n ∧ fk j = k ∧ r = nI j := by
      rcases hw with a | ⟨_, a3⟩
      · exact a
      · exact absurd (show r < 0 by rw [a3]; decide) h5
    subst er
    refine g_iconst (v := nI 1) C dX1_has_8 (by decide) ?_
    refine g_goto C 13 dX1_has_9 (by decide) ?_
    exact hret _ _ _ () dX1_has_13 (by decide) (bI_t ⟨j, hj, hkj⟩).symm
set_option maxHeartbeats 4000000 in
set_option maxRecDepth 100000 in
theorem c_X1_cut (l : Launch) (D : va_G) {cA : ClassId} {g0 gk gv gh gc b c pl bl n lv pt : Nat} {fk fv fh fc : Nat → Int32} (ok : okS b c pl bl n lv pt) (a : Nat) (ha : a < n) : MetV (S := Unit) l yX1_cut wsX1_cut ({ frames := 0, cells := 0, slots := 0, locals := 0 } : Room) D [(cA, .int)] [.ref g0, .int (nI a)] (wM g0 gk gv gh gc cA b c pl bl n lv pt fk fv fh fc) (fun _ => wM g0 gk gv gh gc cA b c pl bl (n - 1) lv pt (sh fk a (n - 1)) (sh fv a (n - 1)) (sh fh a (n - 1)) fc) (fun _ => True) 0 0 := by
  refine MetV_of (cc := cX1_cut) (maxL := 3) (lv0 := [(0, .ref g0), (1, .int (nI a))]) (by decide) rfl (Nat.le_of_ble_eq_true rfl) rfl ?_
  intro K _ _ C _ hret
  have C : Cx K ({ frames := 0, cells := 0, slots := 0, locals := 0 } : Room) 3 cX1_cut RX1 wsX1_cut [(cA, .int)] := C
  obtain ⟨o1, o2, o3, o4, o5, o6, o7, o8, o9, o10, o11, o12⟩ := id ok
  refine g_aload_n C dX1_cut_0 0 rfl rfl ?_
  refine g_dup C dX1_cut_1 rfl ?_
  refine g_get (ci := 1) C inX1_cut rfl 0 4 (by decide) lkX1_cut_46 dX1_cut_2 rfl rfl ?_
  refine g_iconst (v := nI 1) C dX1_cut_5 (by decide) ?_
  refine g_isub C dX1_cut_6 (by omega) ?_
  refine g_put (ci := 1) (ty := .int) (ws' := wM g0 gk gv gh gc cA b c pl bl (n - 1) lv pt fk fv fh fc) C inX1_cut tyX1 tyX1_ok nmX1 rfl 0 4 (by decide) lkX1_cut_46 rfl pdX1_4 dX1_cut_7 rfl rfl rfl (Nat.le_of_ble_eq_true rfl) rfl ?_
  refine g_iload_n C dX1_cut_10 1 rfl rfl ?_
  refine g_istore_n (lv' := [(2, .int (nI a)), (0, .ref g0), (1, .int (nI a))]) C dX1_cut_11 rfl (by decide) rfl ?_
  have loop12 : ∀ (t : Nat) (i : Nat), a ≤ i → i ≤ n - 1 → n - 1 < i + t → G K 0 0 12 [(2, .int (nI i)), (0, .ref g0), (1, .int (nI a))] [] (wM g0 gk gv gh gc cA b c pl bl (n - 1) lv pt (sh fk a i) (sh fv a i) (sh fh a i) fc) := by
    intro t
    induction t with
    | zero =>
      intro i hi hi2 ht
      exact absurd ht (by omega)
    | succ t ih =>
      intro i hi hi2 ht
      refine g_iload_n C dX1_cut_12 0 rfl rfl ?_
      refine g_aload_n C dX1_cut_13 1 rfl rfl ?_
      refine g_get (ci := 1) C inX1_cut rfl 0 4 (by decide) lkX1_cut_46 dX1_cut_14 rfl rfl ?_
      refine g_icmp_ge C 68 dX1_cut_17 (by decide) (by omega) (by omega) (fun h17 => ?_) (fun h17 => ?_)
      · obtain rfl : i = n - 1 := by omega
        exact hret _ _ () dX1_cut_68 trivial
      · refine g_aload_n C dX1_cut_20 1 rfl rfl ?_
        refine g_get (ci := 1) C inX1_cut rfl 0 5 (by decide) lkX1_cut_7 dX1_cut_21 rfl rfl ?_
        refine g_iload_n C dX1_cut_24 0 rfl rfl ?_
        refine g_aload_n C dX1_cut_25 1 rfl rfl ?_
        refine g_get (ci := 1) C inX1_cut rfl 0 5 (by decide) lkX1_cut_7 dX1_cut_26 rfl rfl ?_
        refine g_iload_n C dX1_cut_29 0 rfl rfl ?_
        refine g_iconst (v := nI 1) C dX1_cut_30 (by decide) ?_
        refine g_iadd C dX1_cut_31 ?_
        refine g_iald C 1 dX1_cut_32 rfl (by omega) (by omega) ?_
        refine g_iast (ws' := wM g0 gk gv gh gc cA b c pl bl (n - 1) lv pt (upd (sh fk a i) i ((sh fk a i) (i + 1))) (sh fv a i) (sh fh a i) fc) C 1 dX1_cut_33 rfl (by omega) (by omega) rfl ?_
        refine g_wd (ws' := wM g0 gk gv gh gc cA b c pl bl (n - 1) lv pt (sh fk a (i + 1)) (sh fv a i) (sh fh a i) fc) (by rw [sh_s fk hi]) ?_
        refine g_aload_n C dX1_cut_34 1 rfl rfl ?_
        refine g_get (ci := 1) C inX1_cut rfl 0 6 (by decide) lkX1_cut_13 dX1_cut_35 rfl rfl ?_
        refine g_iload_n C dX1_cut_38 0 rfl rfl ?_
        refine g_aload_n C dX1_cut_39 1 rfl rfl ?_
        refine g_get (ci := 1) C inX1_cut rfl 0 6 (by decide) lkX1_cut_13 dX1_cut_40 rfl rfl ?_
        refine g_iload_n C dX1_cut_43 0 rfl rfl ?_
        refine g_iconst (v := nI 1) C dX1_cut_44 (by decide) ?_
        refine g_iadd C dX1_cut_45 ?_
        refine g_iald C 2 dX1_cut_46 rfl (by omega) (by omega) ?_
        refine g_iast (ws' := wM g0 gk gv gh gc cA b c pl bl (n - 1) lv pt (sh fk a (i + 1)) (upd (sh fv a i) i ((sh fv a i) (i + 1))) (sh fh a i) fc) C 2 dX1_cut_47 rfl (by omega) (by omega) rfl ?_
        refine g_wd (ws' := wM g0 gk gv gh gc cA b c pl bl (n - 1) lv pt (sh fk a (i + 1)) (sh fv a (i + 1)) (sh fh a i) fc) (by rw [sh_s fv hi]) ?_
        refine g_aload_n C dX1_cut_48 1 rfl rfl ?_
        refine g_get (ci := 1) C inX1_cut rfl 0 7 (by decide) lkX1_cut_16 dX1_cut_49 rfl rfl ?_
        refine g_iload_n C dX1_cut_52 0 rfl rfl ?_
        refine g_aload_n C dX1_cut_53 1 rfl rfl ?_
        refine g_get (ci := 1) C inX1_cut rfl 0 7 (by decide) lkX1_cut_16 dX1_cut_54 rfl rfl ?_
        refine g_iload_n C dX1_cut_57 0 rfl rfl ?_
        refine g_iconst (v := nI 1) C dX1_cut_58 (by decide) ?_
        refine g_iadd C dX1_cut_59 ?_
        refine g_iald C 3 dX1_cut_60 rfl (by omega) (by omega) ?_
        refine g_iast (ws' := wM g0 gk gv gh gc cA b c pl bl (n - 1) lv pt (sh fk a (i + 1)) (sh fv a (i + 1)) (upd (sh fh a i) i ((sh fh a i) (i + 1))) fc) C 3 dX1_cut_61 rfl (by omega) (by omega) rfl ?_
        refine g_wd (ws' := wM g0 gk gv gh gc cA b c pl bl (n - 1) lv pt (sh fk a (i + 1)) (sh fv a (i + 1)) (sh fh a (i + 1)) fc) (by rw [sh_s fh hi]) ?_
        refine g_iinc (v := nI (i + 1)) (lv' := [(2, .int (nI (i + 1))), (0, .ref g0), (1, .int (nI a))]) C dX1_cut_62 0 rfl (nI_add _ 1) (by decide) rfl ?_
        refine g_goto C 12 dX1_cut_65 (by decide) ?_
        refine g_lv [0, 1, 2] rfl ?_
        exact ih (i + 1) (by omega) (by omega) (by omega)
  refine g_wd (ws' := wM g0 gk gv gh gc cA b c pl bl (n - 1) lv pt (sh fk a a) (sh fv a a) (sh fh a a) fc) (by rw [sh_0, sh_0, sh_0]) ?_
  refine g_lv [0, 1, 2] rfl ?_
  exact loop12 n a (Nat.le_refl _) (by omega) (by omega)
set_option maxHeartbeats 4000000 in
set_option maxRecDepth 100000 in
theorem c_X1_toEnd (l : Launch) (D : va_G) {cA : ClassId} {g0 gk gv gh gc b c pl bl n lv pt : Nat} {fk fv fh fc : Nat → Int32} (ok : okS b c pl bl n lv pt) (q : Nat) (hq : q < 2 ^ 31) (hho : hom b n lv pt fk fh) : MetV (S := (Nat → Int32)) l yX1_toEnd wsX1_toEnd ({ frames := 1, cells := 0, slots := 0, locals := 22 } : Room) D [(cA, .int)] [.ref g0, .int (nI q)] (wM g0 gk gv gh gc cA b c pl bl n lv pt fk fv fh fc) (fun u => wM g0 gk gv gh gc cA b c pl bl n lv pt ((mb (bk b lv pt) q n n 0 fk fv).1) ((mb (bk b lv pt) q n n 0 fk fv).2) u fc) (fun u => hom b n lv pt (mb (bk b lv pt) q n n 0 fk fv).1 u) 0 0 := by
  refine MetV_of (cc := cX1_toEnd) (maxL := 6) (lv0 := [(0, .ref g0), (1, .int (nI q))]) (by decide) rfl (Nat.le_of_ble_eq_true rfl) rfl ?_
  intro K _ _ C _ hret
  have C : Cx K ({ frames := 1, cells := 0, slots := 0, locals := 22 } : Room) 6 cX1_toEnd RX1 wsX1_toEnd [(cA, .int)] := C
  obtain ⟨o1, o2, o3, o4, o5, o6, o7, o8, o9, o10, o11, o12⟩ := id ok
  refine g_iconst (v := nI 0) C dX1_toEnd_0 (by decide) ?_
  refine g_istore_n (lv' := [(2, .int (nI 0)), (0, .ref g0), (1, .int (nI q))]) C dX1_toEnd_1 rfl (by decide) rfl ?_
  refine g_aload_n C dX1_toEnd_2 1 rfl rfl ?_
  refine g_get (ci := 1) C inX1_toEnd rfl 0 4 (by decide) lkX1_toEnd_46 dX1_toEnd_3 rfl rfl ?_
  refine g_istore_n (lv' := [(3, .int (nI n)), (2, .int (nI 0)), (0, .ref g0), (1, .int (nI q))]) C dX1_toEnd_6 rfl (by decide) rfl ?_
  have loop7 : ∀ (t : Nat) (a : Nat) (s : Nat) (fk2 : Nat → Int32) (fv2 : Nat → Int32) (fh2 : Nat → Int32), a + s ≤ n → s < t → mb (bk b lv pt) q n s a fk2 fv2 = mb (bk b lv pt) q n n 0 fk fv → hom b n lv pt fk2 fh2 → G K 0 0 7 [(3, .int (nI s)), (2, .int (nI a)), (0, .ref g0), (1, .int (nI q))] [] (wM g0 gk gv gh gc cA b c pl bl n lv pt fk2 fv2 fh2 fc) := by
    intro t
    induction t with
    | zero =>
      intro a s fk2 fv2 fh2 ha ht hmb hho2
      exact absurd ht (by omega)
    | succ t ih =>
      intro a s fk2 fv2 fh2 ha ht hmb hho2
      refine g_iload_n C dX1_toEnd_7 0 rfl rfl ?_
      refine g_if_le C 96 dX1_toEnd_8 (by decide) (fun h8 => ?_) (fun h8 => ?_)
      · have hs0 : s = 0 := by have := (nI_leI (b := 0) (show s < 2 ^ 31 by omega) (by omega)).mp h8; omega
        subst hs0
        have e1 : fk2 = (mb (bk b lv pt) q n n 0 fk fv).1 := by rw [← hmb]; rfl
        have e2 : fv2 = (mb (bk b lv pt) q n n 0 fk fv).2 := by rw [← hmb]; rfl
        refine g_wd (ws' := wM g0 gk gv gh gc cA b c pl bl n lv pt ((mb (bk b lv pt) q n n 0 fk fv).1) ((mb (bk b lv pt) q n n 0 fk fv).2) fh2 fc) (by rw [← e1, ← e2]) ?_
        exact hret _ _ fh2 dX1_toEnd_96 (by rw [← e1]; exact hho2)
      · obtain ⟨s1, rfl⟩ : ∃ s1, s = s1 + 1 := ⟨s - 1, by have : 0 < s := Nat.pos_of_ne_zero (fun e => h8 (by rw [e]; decide)); omega⟩
        refine g_aload_n C dX1_toEnd_11 2 rfl rfl ?_
        refine g_get (ci := 1) C inX1_toEnd rfl 0 7 (by decide) lkX1_toEnd_16 dX1_toEnd_12 rfl rfl ?_
        refine g_iload_n C dX1_toEnd_15 1 rfl rfl ?_
        refine g_iald C 3 dX1_toEnd_16 rfl (by omega) (by omega) ?_
        refine g_top (hho2 a (by omega)) ?_
        refine g_iload_n C dX1_toEnd_17 3 rfl rfl ?_
        refine g_icmp_eq C 27 dX1_toEnd_18 (by decide) (by have := bk_lt (b := b) (lv := lv) (pt := pt) (fk2 a) (by omega); omega) (by omega) (fun h18 => ?_) (fun h18 => ?_)
        · refine g_aload_n C dX1_toEnd_27 2 rfl rfl ?_
          refine g_get (ci := 1) C inX1_toEnd rfl 0 5 (by decide) lkX1_toEnd_7 dX1_toEnd_28 rfl rfl ?_
          refine g_iload_n C dX1_toEnd_31 1 rfl rfl ?_
          refine g_iald C 1 dX1_toEnd_32 rfl (by omega) (by omega) ?_
          refine g_istore (lv' := [(4, .int (fk2 a)), (3, .int (nI ((s1 + 1)))), (2, .int (nI a)), (0, .ref g0), (1, .int (nI q))]) C dX1_toEnd_33 (by decide) rfl ?_
          refine g_aload_n C dX1_toEnd_35 3 rfl rfl ?_
          refine g_get (ci := 1) C inX1_toEnd rfl 0 6 (by decide) lkX1_toEnd_13 dX1_toEnd_36 rfl rfl ?_
          refine g_iload_n C dX1_toEnd_39 2 rfl rfl ?_
          refine g_iald C 2 dX1_toEnd_40 rfl (by omega) (by omega) ?_
          refine g_istore (lv' := [(5, .int (fv2 a)), (4, .int (fk2 a)), (3, .int (nI ((s1 + 1)))), (2, .int (nI a)), (0, .ref g0), (1, .int (nI q))]) C dX1_toEnd_41 (by decide) rfl ?_
          refine g_aload_n C dX1_toEnd_43 4 rfl rfl ?_
          refine g_iload_n C dX1_toEnd_44 3 rfl rfl ?_
          refine g_callV0 (ci := 1) (q0 := 0) (rest := []) C (c_X1_cut _ _ ok a (by omega)) gX1_toEnd_X1_cut rfl rfl rfl hdX1_cut (by decide) rfl rfl rfl rfl (Nat.le_of_ble_eq_true rfl) dX1_toEnd_45 (fun _ _ => ?_)
          show G K 0 0 48 [(5, .int (fv2 a)), (4, .int (fk2 a)), (3, .int (nI ((s1 + 1)))), (2, .int (nI a)), (0, .ref g0), (1, .int (nI q))] [] (wM g0 gk gv gh gc cA b c pl bl (n - 1) lv pt (sh fk2 a (n - 1)) (sh fv2 a (n - 1)) (sh fh2 a (n - 1)) fc)
          refine g_aload_n C dX1_toEnd_48 4 rfl rfl ?_
          refine g_get (ci := 1) C inX1_toEnd rfl 0 5 (by decide) lkX1_toEnd_7 dX1_toEnd_49 rfl rfl ?_
          refine g_aload_n C dX1_toEnd_52 4 rfl rfl ?_
          refine g_get (ci := 1) C inX1_toEnd rfl 0 4 (by decide) lkX1_toEnd_46 dX1_toEnd_53 rfl rfl ?_
          refine g_iload C dX1_toEnd_56 1 rfl ?_
          refine g_iast (ws' := wM g0 gk gv gh gc cA b c pl bl (n - 1) lv pt (upd (sh fk2 a (n - 1)) (n - 1) (fk2 a)) (sh fv2 a (n - 1)) (sh fh2 a (n - 1)) fc) C 1 dX1_toEnd_58 rfl (by omega) (by omega) rfl ?_
          refine g_wd (ws' := wM g0 gk gv gh gc cA b c pl bl (n - 1) lv pt (mv fk2 a n) (sh fv2 a (n - 1)) (sh fh2 a (n - 1)) fc) rfl ?_
          refine g_aload_n C dX1_toEnd_59 4 rfl rfl ?_
          refine g_get (ci := 1) C inX1_toEnd rfl 0 6 (by decide) lkX1_toEnd_13 dX1_toEnd_60 rfl rfl ?_
          refine g_aload_n C dX1_toEnd_63 4 rfl rfl ?_
          refine g_get (ci := 1) C inX1_toEnd rfl 0 4 (by decide) lkX1_toEnd_46 dX1_toEnd_64 rfl rfl ?_
          refine g_iload C dX1_toEnd_67 0 rfl ?_
          refine g_iast (ws' := wM g0 gk gv gh gc cA b c pl bl (n - 1) lv pt (mv fk2 a n) (upd (sh fv2 a (n - 1)) (n - 1) (fv2 a)) (sh fh2 a (n - 1)) fc) C 2 dX1_toEnd_69 rfl (by omega) (by omega) rfl ?_
          refine g_wd (ws' := wM g0 gk gv gh gc cA b c pl bl (n - 1) lv pt (mv fk2 a n) (mv fv2 a n) (sh fh2 a (n - 1)) fc) rfl ?_
          refine g_aload_n C dX1_toEnd_70 4 rfl rfl ?_
          refine g_get (ci := 1) C inX1_toEnd rfl 0 7 (by decide) lkX1_toEnd_16 dX1_toEnd_71 rfl rfl ?_
          refine g_aload_n C dX1_toEnd_74 4 rfl rfl ?_
          refine g_get (ci := 1) C inX1_toEnd rfl 0 4 (by decide) lkX1_toEnd_46 dX1_toEnd_75 rfl rfl ?_
          refine g_iload_n C dX1_toEnd_78 5 rfl rfl ?_
          refine g_iast (ws' := wM g0 gk gv gh gc cA b c pl bl (n - 1) lv pt (mv fk2 a n) (mv fv2 a n) (upd (sh fh2 a (n - 1)) (n - 1) (nI q)) fc) C 3 dX1_toEnd_79 rfl (by omega) (by omega) rfl ?_
          refine g_aload_n C dX1_toEnd_80 4 rfl rfl ?_
          refine g_dup C dX1_toEnd_81 rfl ?_
          refine g_get (ci := 1) C inX1_toEnd rfl 0 4 (by decide) lkX1_toEnd_46 dX1_toEnd_82 rfl rfl ?_
          refine g_iconst (v := nI 1) C dX1_toEnd_85 (by decide) ?_
          refine g_iadd C dX1_toEnd_86 ?_
          refine g_top (by rw [Nat.sub_add_cancel (by omega)]) ?_
          refine g_put (ci := 1) (ty := .int) (ws' := wM g0 gk gv gh gc cA b c pl bl n lv pt (mv fk2 a n) (mv fv2 a n) (upd (sh fh2 a (n - 1)) (n - 1) (nI q)) fc) C inX1_toEnd tyX1 tyX1_ok nmX1 rfl 0 4 (by decide) lkX1_toEnd_46 rfl pdX1_4 dX1_toEnd_87 rfl rfl rfl (Nat.le_of_ble_eq_true rfl) rfl ?_
          refine g_iinc (v := nI s1) (lv' := [(3, .int (nI s1)), (5, .int (fv2 a)), (4, .int (fk2 a)), (2, .int (nI a)), (0, .ref g0), (1, .int (nI q))]) C dX1_toEnd_90 2 rfl (pk_m1 s1) (by decide) rfl ?_
          refine g_goto C 7 dX1_toEnd_93 (by decide) ?_
          refine g_lv [0, 3, 4, 5] rfl ?_
          exact ih a s1 (mv fk2 a n) (mv fv2 a n) _ (by omega) (by omega) (by rw [← hmb, mb_t h18]) (hom_mv (by omega) h18 hho2)
        · refine g_iinc (v := nI (a + 1)) (lv' := [(2, .int (nI (a + 1))), (3, .int (nI ((s1 + 1)))), (0, .ref g0), (1, .int (nI q))]) C dX1_toEnd_21 1 rfl (nI_add _ 1) (by decide) rfl ?_
          refine g_goto C 90 dX1_toEnd_24 (by decide) ?_
          refine g_iinc (v := nI s1) (lv' := [(3, .int (nI s1)), (2, .int (nI (a + 1))), (0, .ref g0), (1, .int (nI q))]) C dX1_toEnd_90 1 rfl (pk_m1 s1) (by decide) rfl ?_
          refine g_goto C 7 dX1_toEnd_93 (by decide) ?_
          refine g_lv [0, 1, 2, 3] rfl ?_
          exact ih (a + 1) s1 fk2 fv2 fh2 (by omega) (by omega) (by rw [← hmb, mb_f h18]) hho2
  refine g_lv [0, 1, 2, 3] rfl ?_
  exact loop7 (n + 1) 0 n fk fv fh (by omega) (by omega) rfl hho
end
section
set_option maxHeartbeats 4000000 in
set_option maxRecDepth 100000 in
theorem c_X1_put (l : Launch) (D : va_G) {cA : ClassId} {g0 gk gv gh gc b c pl bl n lv pt : Nat} {fk fv fh fc : Nat → Int32} (ok : okS b c pl bl n lv pt) (k v : Int32) (hn : n < 512) (hho : hom b n lv pt fk fh) : MetI (S := MS) l yX1_put wsX1_put ({ frames := 3, cells := 0, slots := 0, locals := 66 } : Room) D [(cA, .int)] [.ref g0, .int k, .int v] (wM g0 gk gv gh gc cA b c pl bl n lv pt fk fv fh fc) (fun u => wM g0 gk gv gh gc cA b c pl bl u.1 u.2.1 u.2.2.1 u.2.2.2.1 u.2.2.2.2.1 u.2.2.2.2.2.1 u.2.2.2.2.2.2) (fun r u => (oldP n fk fv k v r u.1 u.2.1 u.2.2.1 lv pt u.2.2.2.1 u.2.2.2.2.1 ∨ ((∀ j, j < n → fk j ≠ k) ∧ newP b c pl bl n lv pt fk fv k v r u.1 u.2.1 u.2.2.1 u.2.2.2.1 u.2.2.2.2.1)) ∧ hom b u.1 u.2.1 u.2.2.1 u.2.2.2.1 u.2.2.2.2.2.1) 0 0 := by
  refine MetI_of (cc := cX1_put) (maxL := 5) (rt := .int) (lv0 := [(0, .ref g0), (1, .int k), (2, .int v)]) (by decide) rfl (Nat.le_of_ble_eq_true rfl) rfl ?_
  intro K _ _ C hret
  have C : Cx K ({ frames := 3, cells := 0, slots := 0, locals := 66 } : Room) 5 cX1_put RX1 wsX1_put [(cA, .int)] := C
  obtain ⟨o1, o2, o3, o4, o5, o6, o7, o8, o9, o10, o11, o12⟩ := id ok
  have ok1 := ok_n (n' := n + 1) ok (by omega)
  refine g_aload_n C dX1_put_0 0 rfl rfl ?_
  refine g_iload_n C dX1_put_1 1 rfl rfl ?_
  refine g_callI0 (ci := 1) (q0 := 0) (rest := []) C (c_X1_find _ _ ok k) gX1_put_X1_find rfl rfl rfl hdX1_find (by decide) rfl rfl rfl rfl (Nat.le_of_ble_eq_true rfl) dX1_put_2 (fun r _ hw => ?_)
  show G K 0 0 5 [(0, .ref g0), (1, .int k), (2, .int v)] [.int r] (wM g0 gk gv gh gc cA b c pl bl n lv pt fk fv fh fc)
  refine g_istore_n (lv' := [(3, .int r), (0, .ref g0), (1, .int k), (2, .int v)]) C dX1_put_5 rfl (by decide) rfl ?_
  refine g_iload_n C dX1_put_6 0 rfl rfl ?_
  refine g_if_lt C 19 dX1_put_7 (by decide) (fun h7 => ?_) (fun h7 => ?_)
  · have hno : ∀ j, j < n → fk j ≠ k := by
      rcases hw with ⟨j, a1, a2, a3⟩ | ⟨a1, _⟩
      · exact absurd h7 (by rw [a3]; exact nI_pos (by omega))
      · exact a1
    refine g_aload_n C dX1_put_19 1 rfl rfl ?_
    refine g_get (ci := 1) C inX1_put rfl 0 5 (by decide) lkX1_put_7 dX1_put_20 rfl rfl ?_
    refine g_aload_n C dX1_put_23 1 rfl rfl ?_
    refine g_get (ci := 1) C inX1_put rfl 0 4 (by decide) lkX1_put_46 dX1_put_24 rfl rfl ?_
    refine g_iload_n C dX1_put_27 2 rfl rfl ?_
    refine g_iast (ws' := wM g0 gk gv gh gc cA b c pl bl n lv pt (upd fk n k) fv fh fc) C 1 dX1_put_28 rfl (by omega) (by omega) rfl ?_
    refine g_aload_n C dX1_put_29 1 rfl rfl ?_
    refine g_get (ci := 1) C inX1_put rfl 0 6 (by decide) lkX1_put_13 dX1_put_30 rfl rfl ?_
    refine g_aload_n C dX1_put_33 1 rfl rfl ?_
    refine g_get (ci := 1) C inX1_put rfl 0 4 (by decide) lkX1_put_46 dX1_put_34 rfl rfl ?_
    refine g_iload_n C dX1_put_37 3 rfl rfl ?_
    refine g_iast (ws' := wM g0 gk gv gh gc cA b c pl bl n lv pt (upd fk n k) (upd fv n v) fh fc) C 2 dX1_put_38 rfl (by omega) (by omega) rfl ?_
    refine g_aload_n C dX1_put_39 1 rfl rfl ?_
    refine g_dup C dX1_put_40 rfl ?_
    refine g_get (ci := 1) C inX1_put rfl 0 4 (by decide) lkX1_put_46 dX1_put_41 rfl rfl ?_
    refine g_iconst (v := nI 1) C dX1_put_44 (by decide) ?_
    refine g_iadd C dX1_put_45 ?_
    refine g_put (ci := 1) (ty := .int) (ws' := wM g0 gk gv gh gc cA b c pl bl (n + 1) lv pt (upd fk n k) (upd fv n v) fh fc) C inX1_put tyX1 tyX1_ok nmX1 rfl 0 4 (by decide) lkX1_put_46 rfl pdX1_4 dX1_put_46 rfl rfl rfl (Nat.le_of_ble_eq_true rfl) rfl ?_
    refine g_iconst (v := nI 4) C dX1_put_49 (by decide) ?_
    refine g_aload_n C dX1_put_50 1 rfl rfl ?_
    refine g_get (ci := 1) C inX1_put rfl 0 4 (by decide) lkX1_put_46 dX1_put_51 rfl rfl ?_
    refine g_imul C dX1_put_54 ?_
    refine g_iconst (v := nI 3) C dX1_put_55 (by decide) ?_
    refine g_aload_n C dX1_put_56 1 rfl rfl ?_
    refine g_get (ci := 1) C inX1_put rfl 0 1 (by decide) lkX1_put_26 dX1_put_57 rfl rfl ?_
    refine g_imul C dX1_put_60 ?_
    refine g_aload_n C dX1_put_61 1 rfl rfl ?_
    refine g_callI0 (ci := 1) (q0 := 0) (rest := [.int (nI (3 * c)), .int (nI (4 * (n + 1)))]) C (c_X1_buckets _ _ ok1) gX1_put_X1_buckets rfl rfl rfl hdX1_buckets (by decide) rfl rfl rfl rfl (Nat.le_of_ble_eq_true rfl) dX1_put_62 (fun r _ hw => ?_)
    subst hw
    show G K 0 0 65 [(3, .int r), (0, .ref g0), (1, .int k), (2, .int v)] [.int (nI (rd b lv + pt)), .int (nI (3 * c)), .int (nI (4 * (n + 1)))] (wM g0 gk gv gh gc cA b c pl bl (n + 1) lv pt (upd fk n k) (upd fv n v) fh fc)
    refine g_imul C dX1_put_65 ?_
    refine g_icmp_le C 84 dX1_put_66 (by decide) (by omega) (by have := ok_m3 ok; omega) (fun h66 => ?_) (fun h66 => ?_)
    · refine g_iconst (v := nI 0) C dX1_put_84 (by decide) ?_
      refine g_istore (lv' := [(4, .int (nI 0)), (3, .int r), (0, .ref g0), (1, .int k), (2, .int v)]) C dX1_put_85 (by decide) rfl ?_
      refine g_iload C dX1_put_87 0 rfl ?_
      refine g_if_eq C 96 dX1_put_89 (by decide) (fun h89 => ?_) (fun h89 => ?_)
      · refine g_aload_n C dX1_put_96 2 rfl rfl ?_
        have eL : pL b c bl (n + 1) lv pt = lv := if_neg (fun z => absurd z.1 (by omega))
        have eP : pP b c bl (n + 1) lv pt = pt := if_neg (fun z => absurd z.1 (by omega))
        have okP : okS b c pl bl (n + 1) lv pt := ok1
        have hB := okP.2.2.2.2.2.2.2.2.2.2.1
        refine g_callV0 (ci := 1) (q0 := 0) (rest := []) C (c_X1_settle _ _ okP) gX1_put_X1_settle rfl rfl rfl hdX1_settle (by decide) rfl rfl rfl rfl (Nat.le_of_ble_eq_true rfl) dX1_put_97 (fun f1 hh1 => ?_)
        show G K 0 0 100 [(4, .int (nI 0)), (3, .int r), (0, .ref g0), (1, .int k), (2, .int v)] [] (wM g0 gk gv gh gc cA b c pl bl (n + 1) lv pt (upd fk n k) (upd fv n v) f1 fc)
        refine g_aload_n C dX1_put_100 2 rfl rfl ?_
        refine g_callI0 (ci := 1) (q0 := 0) (rest := []) C (c_X1_needed _ _ okP hh1) gX1_put_X1_needed rfl rfl rfl hdX1_needed (by decide) rfl rfl rfl rfl (Nat.le_of_ble_eq_true rfl) dX1_put_101 (fun r3 f2 hw3 => ?_)
        subst hw3
        show G K 0 0 104 [(4, .int (nI 0)), (3, .int r), (0, .ref g0), (1, .int k), (2, .int v)] [.int (nI (ndP b c (n + 1) lv pt (upd fk n k)))] (wM g0 gk gv gh gc cA b c pl bl (n + 1) lv pt (upd fk n k) (upd fv n v) f1 f2)
        have hN : ndP b c (n + 1) lv pt (upd fk n k) ≤ 130000 := nd_le o3 (by omega) (by omega)
        refine g_aload_n C dX1_put_104 2 rfl rfl ?_
        refine g_get (ci := 1) C inX1_put rfl 0 2 (by decide) lkX1_put_29 dX1_put_105 rfl rfl ?_
        refine g_icmp_gt C 113 dX1_put_108 (by decide) (by omega) (by omega) (fun h108 => ?_) (fun h108 => ?_)
        · refine g_iload C dX1_put_113 0 rfl ?_
          refine g_if_eq C 122 dX1_put_115 (by decide) (fun h115 => ?_) (fun h115 => ?_)
          · refine g_aload_n C dX1_put_122 2 rfl rfl ?_
            refine g_dup C dX1_put_123 rfl ?_
            refine g_get (ci := 1) C inX1_put rfl 0 4 (by decide) lkX1_put_46 dX1_put_124 rfl rfl ?_
            refine g_iconst (v := nI 1) C dX1_put_127 (by decide) ?_
            refine g_isub C dX1_put_128 (by omega) ?_
            refine g_top (by rw [Nat.add_sub_cancel]) ?_
            refine g_put (ci := 1) (ty := .int) (ws' := wM g0 gk gv gh gc cA b c pl bl n lv pt (upd fk n k) (upd fv n v) f1 f2) C inX1_put tyX1 tyX1_ok nmX1 rfl 0 4 (by decide) lkX1_put_46 rfl pdX1_4 dX1_put_129 rfl rfl rfl (Nat.le_of_ble_eq_true rfl) rfl ?_
            refine g_aload_n C dX1_put_132 2 rfl rfl ?_
            refine g_callV0 (ci := 1) (q0 := 0) (rest := []) C (c_X1_settle _ _ ok) gX1_put_X1_settle rfl rfl rfl hdX1_settle (by decide) rfl rfl rfl rfl (Nat.le_of_ble_eq_true rfl) dX1_put_133 (fun f3 hh3 => ?_)
            show G K 0 0 136 [(4, .int (nI 0)), (3, .int r), (0, .ref g0), (1, .int k), (2, .int v)] [] (wM g0 gk gv gh gc cA b c pl bl n lv pt (upd fk n k) (upd fv n v) f3 f2)
            refine g_iconst (v := nI 2) C dX1_put_136 (by decide) ?_
            exact hret _ _ _ (n, lv, pt, upd fk n k, upd fv n v, f3, f2) dX1_put_137 rfl ⟨Or.inr ⟨hno, Or.inr ⟨by rw [eL, eP]; exact h108, rfl, rfl, rfl, rfl, rfl, rfl⟩⟩, hh3⟩
          · exact absurd (show nI 0 = 0 from rfl) h115
        · refine g_iconst (v := nI 0) C dX1_put_111 (by decide) ?_
          exact hret _ _ _ (n + 1, lv, pt, upd fk n k, upd fv n v, f1, f2) dX1_put_112 rfl ⟨Or.inr ⟨hno, Or.inl ⟨by rw [eL, eP]; exact h108, rfl, rfl, eL.symm, eP.symm, rfl, rfl⟩⟩, hh1⟩
      · exact absurd (show nI 0 = 0 from rfl) h89
    · refine g_aload_n C dX1_put_69 1 rfl rfl ?_
      refine g_callI0 (ci := 1) (q0 := 0) (rest := []) C (c_X1_buckets _ _ ok1) gX1_put_X1_buckets rfl rfl rfl hdX1_buckets (by decide) rfl rfl rfl rfl (Nat.le_of_ble_eq_true rfl) dX1_put_70 (fun r _ hw => ?_)
      subst hw
      show G K 0 0 73 [(3, .int r), (0, .ref g0), (1, .int k), (2, .int v)] [.int (nI (rd b lv + pt))] (wM g0 gk gv gh gc cA b c pl bl (n + 1) lv pt (upd fk n k) (upd fv n v) fh fc)
      refine g_aload_n C dX1_put_73 1 rfl rfl ?_
      refine g_get (ci := 1) C inX1_put rfl 0 3 (by decide) lkX1_put_32 dX1_put_74 rfl rfl ?_
      refine g_icmp_ge C 84 dX1_put_77 (by decide) (by omega) (by omega) (fun h77 => ?_) (fun h77 => ?_)
      · refine g_iconst (v := nI 0) C dX1_put_84 (by decide) ?_
        refine g_istore (lv' := [(4, .int (nI 0)), (3, .int r), (0, .ref g0), (1, .int k), (2, .int v)]) C dX1_put_85 (by decide) rfl ?_
        refine g_iload C dX1_put_87 0 rfl ?_
        refine g_if_eq C 96 dX1_put_89 (by decide) (fun h89 => ?_) (fun h89 => ?_)
        · refine g_aload_n C dX1_put_96 2 rfl rfl ?_
          have eL : pL b c bl (n + 1) lv pt = lv := if_neg (fun z => absurd z.2 (by omega))
          have eP : pP b c bl (n + 1) lv pt = pt := if_neg (fun z => absurd z.2 (by omega))
          have okP : okS b c pl bl (n + 1) lv pt := ok1
          have hB := okP.2.2.2.2.2.2.2.2.2.2.1
          refine g_callV0 (ci := 1) (q0 := 0) (rest := []) C (c_X1_settle _ _ okP) gX1_put_X1_settle rfl rfl rfl hdX1_settle (by decide) rfl rfl rfl rfl (Nat.le_of_ble_eq_true rfl) dX1_put_97 (fun f1 hh1 => ?_)
          show G K 0 0 100 [(4, .int (nI 0)), (3, .int r), (0, .ref g0), (1, .int k), (2, .int v)] [] (wM g0 gk gv gh gc cA b c pl bl (n + 1) lv pt (upd fk n k) (upd fv n v) f1 fc)
          refine g_aload_n C dX1_put_100 2 rfl rfl ?_
          refine g_callI0 (ci := 1) (q0 := 0) (rest := []) C (c_X1_needed _ _ okP hh1) gX1_put_X1_needed rfl rfl rfl hdX1_needed (by decide) rfl rfl rfl rfl (Nat.le_of_ble_eq_true rfl) dX1_put_101 (fun r3 f2 hw3 => ?_)
          subst hw3
          show G K 0 0 104 [(4, .int (nI 0)), (3, .int r), (0, .ref g0), (1, .int k), (2, .int v)] [.int (nI (ndP b c (n + 1) lv pt (upd fk n k)))] (wM g0 gk gv gh gc cA b c pl bl (n + 1) lv pt (upd fk n k) (upd fv n v) f1 f2)
          have hN : ndP b c (n + 1) lv pt (upd fk n k) ≤ 130000 := nd_le o3 (by omega) (by omega)
          refine g_aload_n C dX1_put_104 2 rfl rfl ?_
          refine g_get (ci := 1) C inX1_put rfl 0 2 (by decide) lkX1_put_29 dX1_put_105 rfl rfl ?_
          refine g_icmp_gt C 113 dX1_put_108 (by decide) (by omega) (by omega) (fun h108 => ?_) (fun h108 => ?_)
          · refine g_iload C dX1_put_113 0 rfl ?_
            refine g_if_eq C 122 dX1_put_115 (by decide) (fun h115 => ?_) (fun h115 => ?_)
            · refine g_aload_n C dX1_put_122 2 rfl rfl ?_
              refine g_dup C dX1_put_123 rfl ?_
              refine g_get (ci := 1) C inX1_put rfl 0 4 (by decide) lkX1_put_46 dX1_put_124 rfl rfl ?_
              refine g_iconst (v := nI 1) C dX1_put_127 (by decide) ?_
              refine g_isub C dX1_put_128 (by omega) ?_
              refine g_top (by rw [Nat.add_sub_cancel]) ?_
              refine g_put (ci := 1) (ty := .int) (ws' := wM g0 gk gv gh gc cA b c pl bl n lv pt (upd fk n k) (upd fv n v) f1 f2) C inX1_put tyX1 tyX1_ok nmX1 rfl 0 4 (by decide) lkX1_put_46 rfl pdX1_4 dX1_put_129 rfl rfl rfl (Nat.le_of_ble_eq_true rfl) rfl ?_
              refine g_aload_n C dX1_put_132 2 rfl rfl ?_
              refine g_callV0 (ci := 1) (q0 := 0) (rest := []) C (c_X1_settle _ _ ok) gX1_put_X1_settle rfl rfl rfl hdX1_settle (by decide) rfl rfl rfl rfl (Nat.le_of_ble_eq_true rfl) dX1_put_133 (fun f3 hh3 => ?_)
              show G K 0 0 136 [(4, .int (nI 0)), (3, .int r), (0, .ref g0), (1, .int k), (2, .int v)] [] (wM g0 gk gv gh gc cA b c pl bl n lv pt (upd fk n k) (upd fv n v) f3 f2)
              refine g_iconst (v := nI 2) C dX1_put_136 (by decide) ?_
              exact hret _ _ _ (n, lv, pt, upd fk n k, upd fv n v, f3, f2) dX1_put_137 rfl ⟨Or.inr ⟨hno, Or.inr ⟨by rw [eL, eP]; exact h108, rfl, rfl, rfl, rfl, rfl, rfl⟩⟩, hh3⟩
            · exact absurd (show nI 0 = 0 from rfl) h115
          · refine g_iconst (v := nI 0) C dX1_put_111 (by decide) ?_
            exact hret _ _ _ (n + 1, lv, pt, upd fk n k, upd fv n v, f1, f2) dX1_put_112 rfl ⟨Or.inr ⟨hno, Or.inl ⟨by rw [eL, eP]; exact h108, rfl, rfl, eL.symm, eP.symm, rfl, rfl⟩⟩, hh1⟩
        · exact absurd (show nI 0 = 0 from rfl) h89
      · refine g_iconst (v := nI 1) C dX1_put_80 (by decide) ?_
        refine g_goto C 85 dX1_put_81 (by decide) ?_
        refine g_istore (lv' := [(4, .int (nI 1)), (3, .int r), (0, .ref g0), (1, .int k), (2, .int v)]) C dX1_put_85 (by decide) rfl ?_
        refine g_iload C dX1_put_87 0 rfl ?_
        refine g_if_eq C 96 dX1_put_89 (by decide) (fun h89 => ?_) (fun h89 => ?_)
        · exact absurd h89 (by decide)
        · refine g_aload_n C dX1_put_92 2 rfl rfl ?_
          refine g_callV0 (ci := 1) (q0 := 0) (rest := []) C (c_X1_forth _ _ ok1) gX1_put_X1_forth rfl rfl rfl hdX1_forth (by decide) rfl rfl rfl rfl (Nat.le_of_ble_eq_true rfl) dX1_put_93 (fun _ _ => ?_)
          show G K 0 0 96 [(4, .int (nI 1)), (3, .int r), (0, .ref g0), (1, .int k), (2, .int v)] [] (wM g0 gk gv gh gc cA b c pl bl (n + 1) (fwL b lv pt) (fwP b lv pt) (upd fk n k) (upd fv n v) fh fc)
          refine g_aload_n C dX1_put_96 2 rfl rfl ?_
          have eL : pL b c bl (n + 1) lv pt = fwL b lv pt := if_pos ⟨h66, h77⟩
          have eP : pP b c bl (n + 1) lv pt = fwP b lv pt := if_pos ⟨h66, h77⟩
          have okP : okS b c pl bl (n + 1) (fwL b lv pt) (fwP b lv pt) := ok_fw ok1 h77
          have hB := okP.2.2.2.2.2.2.2.2.2.2.1
          refine g_callV0 (ci := 1) (q0 := 0) (rest := []) C (c_X1_settle _ _ okP) gX1_put_X1_settle rfl rfl rfl hdX1_settle (by decide) rfl rfl rfl rfl (Nat.le_of_ble_eq_true rfl) dX1_put_97 (fun f1 hh1 => ?_)
          show G K 0 0 100 [(4, .int (nI 1)), (3, .int r), (0, .ref g0), (1, .int k), (2, .int v)] [] (wM g0 gk gv gh gc cA b c pl bl (n + 1) (fwL b lv pt) (fwP b lv pt) (upd fk n k) (upd fv n v) f1 fc)
          refine g_aload_n C dX1_put_100 2 rfl rfl ?_
          refine g_callI0 (ci := 1) (q0 := 0) (rest := []) C (c_X1_needed _ _ okP hh1) gX1_put_X1_needed rfl rfl rfl hdX1_needed (by decide) rfl rfl rfl rfl (Nat.le_of_ble_eq_true rfl) dX1_put_101 (fun r3 f2 hw3 => ?_)
          subst hw3
          show G K 0 0 104 [(4, .int (nI 1)), (3, .int r), (0, .ref g0), (1, .int k), (2, .int v)] [.int (nI (ndP b c (n + 1) (fwL b lv pt) (fwP b lv pt) (upd fk n k)))] (wM g0 gk gv gh gc cA b c pl bl (n + 1) (fwL b lv pt) (fwP b lv pt) (upd fk n k) (upd fv n v) f1 f2)
          have hN : ndP b c (n + 1) (fwL b lv pt) (fwP b lv pt) (upd fk n k) ≤ 130000 := nd_le o3 (by omega) (by omega)
          refine g_aload_n C dX1_put_104 2 rfl rfl ?_
          refine g_get (ci := 1) C inX1_put rfl 0 2 (by decide) lkX1_put_29 dX1_put_105 rfl rfl ?_
          refine g_icmp_gt C 113 dX1_put_108 (by decide) (by omega) (by omega) (fun h108 => ?_) (fun h108 => ?_)
          · refine g_iload C dX1_put_113 0 rfl ?_
            refine g_if_eq C 122 dX1_put_115 (by decide) (fun h115 => ?_) (fun h115 => ?_)
            · exact absurd h115 (by decide)
            · refine g_aload_n C dX1_put_118 2 rfl rfl ?_
              refine g_callV0 (ci := 1) (q0 := 0) (rest := []) C (c_X1_back _ _ okP (by rw [fw_B]; have := rd_ge (b := b) lv; omega)) gX1_put_X1_back rfl rfl rfl hdX1_back (by decide) rfl rfl rfl rfl (Nat.le_of_ble_eq_true rfl) dX1_put_119 (fun _ _ => ?_)
              show G K 0 0 122 [(4, .int (nI 1)), (3, .int r), (0, .ref g0), (1, .int k), (2, .int v)] [] (wM g0 gk gv gh gc cA b c pl bl (n + 1) (bwL (fwP b lv pt) (fwL b lv pt)) (bwP b (fwL b lv pt) (fwP b lv pt)) (upd fk n k) (upd fv n v) f1 f2)
              refine g_wd (ws' := wM g0 gk gv gh gc cA b c pl bl (n + 1) lv pt (upd fk n k) (upd fv n v) f1 f2) (by rw [(bw_fw (b := b) (lv := lv) (pt := pt) (by omega)).1, (bw_fw (b := b) (lv := lv) (pt := pt) (by omega)).2]) ?_
              refine g_aload_n C dX1_put_122 2 rfl rfl ?_
              refine g_dup C dX1_put_123 rfl ?_
              refine g_get (ci := 1) C inX1_put rfl 0 4 (by decide) lkX1_put_46 dX1_put_124 rfl rfl ?_
              refine g_iconst (v := nI 1) C dX1_put_127 (by decide) ?_
              refine g_isub C dX1_put_128 (by omega) ?_
              refine g_top (by rw [Nat.add_sub_cancel]) ?_
              refine g_put (ci := 1) (ty := .int) (ws' := wM g0 gk gv gh gc cA b c pl bl n lv pt (upd fk n k) (upd fv n v) f1 f2) C inX1_put tyX1 tyX1_ok nmX1 rfl 0 4 (by decide) lkX1_put_46 rfl pdX1_4 dX1_put_129 rfl rfl rfl (Nat.le_of_ble_eq_true rfl) rfl ?_
              refine g_aload_n C dX1_put_132 2 rfl rfl ?_
              refine g_callV0 (ci := 1) (q0 := 0) (rest := []) C (c_X1_settle _ _ ok) gX1_put_X1_settle rfl rfl rfl hdX1_settle (by decide) rfl rfl rfl rfl (Nat.le_of_ble_eq_true rfl) dX1_put_133 (fun f3 hh3 => ?_)
              show G K 0 0 136 [(4, .int (nI 1)), (3, .int r), (0, .ref g0), (1, .int k), (2, .int v)] [] (wM g0 gk gv gh gc cA b c pl bl n lv pt (upd fk n k) (upd fv n v) f3 f2)
              refine g_iconst (v := nI 2) C dX1_put_136 (by decide) ?_
              exact hret _ _ _ (n, lv, pt, upd fk n k, upd fv n v, f3, f2) dX1_put_137 rfl ⟨Or.inr ⟨hno, Or.inr ⟨by rw [eL, eP]; exact h108, rfl, rfl, rfl, rfl, rfl, rfl⟩⟩, hh3⟩
          · refine g_iconst (v := nI 0) C dX1_put_111 (by decide) ?_
            exact hret _ _ _ (n + 1, fwL b lv pt, fwP b lv pt, upd fk n k, upd fv n v, f1, f2) dX1_put_112 rfl ⟨Or.inr ⟨hno, Or.inl ⟨by rw [eL, eP]; exact h108, rfl, rfl, eL.symm, eP.symm, rfl, rfl⟩⟩, hh1⟩
  · obtain ⟨j, hj, hkj, er⟩ : ∃ j, j < n ∧ fk j = k ∧ r = nI j := by
      rcases hw with a | ⟨_, a3⟩
      · exact a
      · exact absurd (show r < 0 by rw [a3]; decide) h7
    subst er
    refine g_aload_n C dX1_put_10 1 rfl rfl ?_
    refine g_get (ci := 1) C inX1_put rfl 0 6 (by decide) lkX1_put_13 dX1_put_11 rfl rfl ?_
    refine g_iload_n C dX1_put_14 0 rfl rfl ?_
    refine g_iload_n C dX1_put_15 3 rfl rfl ?_
    refine g_iast (ws' := wM g0 gk gv gh gc cA b c pl bl n lv pt fk (upd fv j v) fh fc) C 2 dX1_put_16 rfl (by omega) (by omega) rfl ?_
    refine g_iconst (v := nI 1) C dX1_put_17 (by decide) ?_
    exact hret _ _ _ (n, lv, pt, fk, upd fv j v, fh, fc) dX1_put_18 rfl ⟨Or.inl ⟨j, hj, hkj, rfl, rfl, rfl, rfl, rfl, rfl⟩, hho⟩
set_option maxHeartbeats 4000000 in
set_option maxRecDepth 100000 in
theorem c_X1_remove (l : Launch) (D : va_G) {cA : ClassId} {g0 gk gv gh gc b c pl bl n lv pt : Nat} {fk fv fh fc : Nat → Int32} (ok : okS b c pl bl n lv pt) (k : Int32) (hho : hom b n lv pt fk fh) : MetI (S := MS) l yX1_remove wsX1_remove ({ frames := 3, cells := 0, slots := 0, locals := 66 } : Room) D [(cA, .int)] [.ref g0, .int k] (wM g0 gk gv gh gc cA b c pl bl n lv pt fk fv fh fc) (fun u => wM g0 gk gv gh gc cA b c pl bl u.1 u.2.1 u.2.2.1 u.2.2.2.1 u.2.2.2.2.1 u.2.2.2.2.2.1 u.2.2.2.2.2.2) (fun r u => (((∀ j, j < n → fk j ≠ k) ∧ r = nI 0 ∧ u.1 = n ∧ u.2.1 = lv ∧ u.2.2.1 = pt ∧ u.2.2.2.1 = fk ∧ u.2.2.2.2.1 = fv) ∨ (∃ j m, j < n ∧ fk j = k ∧ lastP b n lv pt fk j m ∧ r = nI 1 ∧ u.1 = n - 1 ∧ ((4 * (n - 1) < c * (rd b lv + pt) ∧ b < rd b lv + pt ∧ u.2.1 = bwL pt lv ∧ u.2.2.1 = bwP b lv pt ∧ u.2.2.2.1 = (mb (bk b lv pt) (rd b lv + pt - 1) (n - 1) (n - 1) 0 (sh (upd fk j (fk m)) m (n - 1)) (sh (upd fv j (fv m)) m (n - 1))).1 ∧ u.2.2.2.2.1 = (mb (bk b lv pt) (rd b lv + pt - 1) (n - 1) (n - 1) 0 (sh (upd fk j (fk m)) m (n - 1)) (sh (upd fv j (fv m)) m (n - 1))).2) ∨ (¬ (4 * (n - 1) < c * (rd b lv + pt) ∧ b < rd b lv + pt) ∧ u.2.1 = lv ∧ u.2.2.1 = pt ∧ u.2.2.2.1 = sh (upd fk j (fk m)) m (n - 1) ∧ u.2.2.2.2.1 = sh (upd fv j (fv m)) m (n - 1))))) ∧ hom b u.1 u.2.1 u.2.2.1 u.2.2.2.1 u.2.2.2.2.2.1) 0 0 := by
  refine MetI_of (cc := cX1_remove) (maxL := 5) (rt := .boolean) (lv0 := [(0, .ref g0), (1, .int k)]) (by decide) rfl (Nat.le_of_ble_eq_true rfl) rfl ?_
  intro K _ _ C hret
  have C : Cx K ({ frames := 3, cells := 0, slots := 0, locals := 66 } : Room) 5 cX1_remove RX1 wsX1_remove [(cA, .int)] := C
  obtain ⟨o1, o2, o3, o4, o5, o6, o7, o8, o9, o10, o11, o12⟩ := id ok
  refine g_aload_n C dX1_remove_0 0 rfl rfl ?_
  refine g_iload_n C dX1_remove_1 1 rfl rfl ?_
  refine g_callI0 (ci := 1) (q0 := 0) (rest := []) C (c_X1_find _ _ ok k) gX1_remove_X1_find rfl rfl rfl hdX1_find (by decide) rfl rfl rfl rfl (Nat.le_of_ble_eq_true rfl) dX1_remove_2 (fun r _ hw => ?_)
  show G K 0 0 5 [(0, .ref g0), (1, .int k)] [.int r] (wM g0 gk gv gh gc cA b c pl bl n lv pt fk fv fh fc)
  refine g_istore_n (lv' := [(2, .int r), (0, .ref g0), (1, .int k)]) C dX1_remove_5 rfl (by decide) rfl ?_
  refine g_iload_n C dX1_remove_6 0 rfl rfl ?_
  refine g_if_ge C 12 dX1_remove_7 (by decide) (fun h7 => ?_) (fun h7 => ?_)
  · obtain ⟨j, hj, hkj, er⟩ : ∃ j, j < n ∧ fk j = k ∧ r = nI j := by
      rcases hw with a | ⟨_, a3⟩
      · exact a
      · exact absurd h7 (by rw [a3]; decide)
    subst er
    have ok1 := ok_n (n' := n - 1) ok (by omega)
    refine g_iload_n C dX1_remove_12 0 rfl rfl ?_
    refine g_istore_n (lv' := [(3, .int (nI j)), (2, .int (nI j)), (0, .ref g0), (1, .int k)]) C dX1_remove_13 rfl (by decide) rfl ?_
    refine g_iload_n C dX1_remove_14 1 rfl rfl ?_
    refine g_istore (lv' := [(4, .int (nI j)), (3, .int (nI j)), (2, .int (nI j)), (0, .ref g0), (1, .int k)]) C dX1_remove_15 (by decide) rfl ?_
    have loop17 : ∀ (t : Nat) (m : Nat) (i : Nat), j ≤ m → m < n → j ≤ i → i ≤ n → n < i + t → bk b lv pt (fk m) = bk b lv pt (fk j) → (∀ x, m < x → x < i → bk b lv pt (fk x) ≠ bk b lv pt (fk j)) → G K 0 0 17 [(4, .int (nI i)), (3, .int (nI m)), (0, .ref g0), (1, .int k), (2, .int (nI j))] [] (wM g0 gk gv gh gc cA b c pl bl n lv pt fk fv fh fc) := by
      intro t
      induction t with
      | zero =>
        intro m i hjm hmn hji hi ht hmb hall
        exact absurd ht (by omega)
      | succ t ih =>
        intro m i hjm hmn hji hi ht hmb hall
        refine g_iload C dX1_remove_17 0 rfl ?_
        refine g_aload_n C dX1_remove_19 2 rfl rfl ?_
        refine g_get (ci := 1) C inX1_remove rfl 0 4 (by decide) lkX1_remove_46 dX1_remove_20 rfl rfl ?_
        refine g_icmp_ge C 55 dX1_remove_23 (by decide) (by omega) (by omega) (fun h23 => ?_) (fun h23 => ?_)
        · obtain rfl : n = i := by omega
          refine g_aload_n C dX1_remove_55 2 rfl rfl ?_
          refine g_get (ci := 1) C inX1_remove rfl 0 5 (by decide) lkX1_remove_7 dX1_remove_56 rfl rfl ?_
          refine g_iload_n C dX1_remove_59 4 rfl rfl ?_
          refine g_aload_n C dX1_remove_60 2 rfl rfl ?_
          refine g_get (ci := 1) C inX1_remove rfl 0 5 (by decide) lkX1_remove_7 dX1_remove_61 rfl rfl ?_
          refine g_iload_n C dX1_remove_64 1 rfl rfl ?_
          refine g_iald C 1 dX1_remove_65 rfl (by omega) (by omega) ?_
          refine g_iast (ws' := wM g0 gk gv gh gc cA b c pl bl n lv pt (upd fk j (fk m)) fv fh fc) C 1 dX1_remove_66 rfl (by omega) (by omega) rfl ?_
          refine g_aload_n C dX1_remove_67 2 rfl rfl ?_
          refine g_get (ci := 1) C inX1_remove rfl 0 6 (by decide) lkX1_remove_13 dX1_remove_68 rfl rfl ?_
          refine g_iload_n C dX1_remove_71 4 rfl rfl ?_
          refine g_aload_n C dX1_remove_72 2 rfl rfl ?_
          refine g_get (ci := 1) C inX1_remove rfl 0 6 (by decide) lkX1_remove_13 dX1_remove_73 rfl rfl ?_
          refine g_iload_n C dX1_remove_76 1 rfl rfl ?_
          refine g_iald C 2 dX1_remove_77 rfl (by omega) (by omega) ?_
          refine g_iast (ws' := wM g0 gk gv gh gc cA b c pl bl n lv pt (upd fk j (fk m)) (upd fv j (fv m)) fh fc) C 2 dX1_remove_78 rfl (by omega) (by omega) rfl ?_
          refine g_aload_n C dX1_remove_79 2 rfl rfl ?_
          refine g_iload_n C dX1_remove_80 1 rfl rfl ?_
          refine g_callV0 (ci := 1) (q0 := 0) (rest := []) C (c_X1_cut _ _ ok m hmn) gX1_remove_X1_cut rfl rfl rfl hdX1_cut (by decide) rfl rfl rfl rfl (Nat.le_of_ble_eq_true rfl) dX1_remove_81 (fun _ _ => ?_)
          show G K 0 0 84 [(4, .int (nI n)), (3, .int (nI m)), (0, .ref g0), (1, .int k), (2, .int (nI j))] [] (wM g0 gk gv gh gc cA b c pl bl (n - 1) lv pt (sh (upd fk j (fk m)) m (n - 1)) (sh (upd fv j (fv m)) m (n - 1)) (sh fh m (n - 1)) fc)
          have hho1 : hom b (n - 1) lv pt (sh (upd fk j (fk m)) m (n - 1)) (sh fh m (n - 1)) := hom_cut hjm hmn hmb hho
          refine g_iconst (v := nI 4) C dX1_remove_84 (by decide) ?_
          refine g_aload_n C dX1_remove_85 2 rfl rfl ?_
          refine g_get (ci := 1) C inX1_remove rfl 0 4 (by decide) lkX1_remove_46 dX1_remove_86 rfl rfl ?_
          refine g_imul C dX1_remove_89 ?_
          refine g_aload_n C dX1_remove_90 2 rfl rfl ?_
          refine g_get (ci := 1) C inX1_remove rfl 0 1 (by decide) lkX1_remove_26 dX1_remove_91 rfl rfl ?_
          refine g_aload_n C dX1_remove_94 2 rfl rfl ?_
          refine g_callI0 (ci := 1) (q0 := 0) (rest := [.int (nI c), .int (nI (4 * (n - 1)))]) C (c_X1_buckets _ _ ok1) gX1_remove_X1_buckets rfl rfl rfl hdX1_buckets (by decide) rfl rfl rfl rfl (Nat.le_of_ble_eq_true rfl) dX1_remove_95 (fun r _ hw => ?_)
          subst hw
          show G K 0 0 98 [(4, .int (nI n)), (3, .int (nI m)), (0, .ref g0), (1, .int k), (2, .int (nI j))] [.int (nI (rd b lv + pt)), .int (nI c), .int (nI (4 * (n - 1)))] (wM g0 gk gv gh gc cA b c pl bl (n - 1) lv pt (sh (upd fk j (fk m)) m (n - 1)) (sh (upd fv j (fv m)) m (n - 1)) (sh fh m (n - 1)) fc)
          refine g_imul C dX1_remove_98 ?_
          refine g_icmp_ge C 131 dX1_remove_99 (by decide) (by omega) (by have := ok_m1 ok; omega) (fun h99 => ?_) (fun h99 => ?_)
          · refine g_iconst (v := nI 1) C dX1_remove_131 (by decide) ?_
            exact hret _ _ _ (n - 1, lv, pt, sh (upd fk j (fk m)) m (n - 1), sh (upd fv j (fv m)) m (n - 1), sh fh m (n - 1), fc) dX1_remove_132 (by decide) ⟨Or.inr ⟨j, m, hj, hkj, ⟨hjm, hmn, hmb, hall⟩, rfl, rfl, Or.inr ⟨(fun z => absurd z.1 (by omega)), rfl, rfl, rfl, rfl⟩⟩, hho1⟩
          · refine g_aload_n C dX1_remove_102 2 rfl rfl ?_
            refine g_callI0 (ci := 1) (q0 := 0) (rest := []) C (c_X1_buckets _ _ ok1) gX1_remove_X1_buckets rfl rfl rfl hdX1_buckets (by decide) rfl rfl rfl rfl (Nat.le_of_ble_eq_true rfl) dX1_remove_103 (fun r _ hw => ?_)
            subst hw
            show G K 0 0 106 [(4, .int (nI n)), (3, .int (nI m)), (0, .ref g0), (1, .int k), (2, .int (nI j))] [.int (nI (rd b lv + pt))] (wM g0 gk gv gh gc cA b c pl bl (n - 1) lv pt (sh (upd fk j (fk m)) m (n - 1)) (sh (upd fv j (fv m)) m (n - 1)) (sh fh m (n - 1)) fc)
            refine g_aload_n C dX1_remove_106 2 rfl rfl ?_
            refine g_get (ci := 1) C inX1_remove rfl 0 0 (by decide) lkX1_remove_22 dX1_remove_107 rfl rfl ?_
            refine g_icmp_le C 131 dX1_remove_110 (by decide) (by omega) (by omega) (fun h110 => ?_) (fun h110 => ?_)
            · refine g_iconst (v := nI 1) C dX1_remove_131 (by decide) ?_
              exact hret _ _ _ (n - 1, lv, pt, sh (upd fk j (fk m)) m (n - 1), sh (upd fv j (fv m)) m (n - 1), sh fh m (n - 1), fc) dX1_remove_132 (by decide) ⟨Or.inr ⟨j, m, hj, hkj, ⟨hjm, hmn, hmb, hall⟩, rfl, rfl, Or.inr ⟨(fun z => absurd z.2 (by omega)), rfl, rfl, rfl, rfl⟩⟩, hho1⟩
            · refine g_aload_n C dX1_remove_113 2 rfl rfl ?_
              refine g_aload_n C dX1_remove_114 2 rfl rfl ?_
              refine g_callI0 (ci := 1) (q0 := 0) (rest := [.ref g0]) C (c_X1_buckets _ _ ok1) gX1_remove_X1_buckets rfl rfl rfl hdX1_buckets (by decide) rfl rfl rfl rfl (Nat.le_of_ble_eq_true rfl) dX1_remove_115 (fun r _ hw => ?_)
              subst hw
              show G K 0 0 118 [(4, .int (nI n)), (3, .int (nI m)), (0, .ref g0), (1, .int k), (2, .int (nI j))] [.int (nI (rd b lv + pt)), .ref g0] (wM g0 gk gv gh gc cA b c pl bl (n - 1) lv pt (sh (upd fk j (fk m)) m (n - 1)) (sh (upd fv j (fv m)) m (n - 1)) (sh fh m (n - 1)) fc)
              refine g_iconst (v := nI 1) C dX1_remove_118 (by decide) ?_
              refine g_isub C dX1_remove_119 (by omega) ?_
              refine g_callV0 (ci := 1) (q0 := 0) (rest := []) C (c_X1_toEnd _ _ ok1 (rd b lv + pt - 1) (by omega) hho1) gX1_remove_X1_toEnd rfl rfl rfl hdX1_toEnd (by decide) rfl rfl rfl rfl (Nat.le_of_ble_eq_true rfl) dX1_remove_120 (fun f1 hh1 => ?_)
              show G K 0 0 123 [(4, .int (nI n)), (3, .int (nI m)), (0, .ref g0), (1, .int k), (2, .int (nI j))] [] (wM g0 gk gv gh gc cA b c pl bl (n - 1) lv pt ((mb (bk b lv pt) (rd b lv + pt - 1) (n - 1) (n - 1) 0 (sh (upd fk j (fk m)) m (n - 1)) (sh (upd fv j (fv m)) m (n - 1))).1) ((mb (bk b lv pt) (rd b lv + pt - 1) (n - 1) (n - 1) 0 (sh (upd fk j (fk m)) m (n - 1)) (sh (upd fv j (fv m)) m (n - 1))).2) f1 fc)
              refine g_aload_n C dX1_remove_123 2 rfl rfl ?_
              refine g_callV0 (ci := 1) (q0 := 0) (rest := []) C (c_X1_back _ _ ok1 h110) gX1_remove_X1_back rfl rfl rfl hdX1_back (by decide) rfl rfl rfl rfl (Nat.le_of_ble_eq_true rfl) dX1_remove_124 (fun _ _ => ?_)
              show G K 0 0 127 [(4, .int (nI n)), (3, .int (nI m)), (0, .ref g0), (1, .int k), (2, .int (nI j))] [] (wM g0 gk gv gh gc cA b c pl bl (n - 1) (bwL pt lv) (bwP b lv pt) ((mb (bk b lv pt) (rd b lv + pt - 1) (n - 1) (n - 1) 0 (sh (upd fk j (fk m)) m (n - 1)) (sh (upd fv j (fv m)) m (n - 1))).1) ((mb (bk b lv pt) (rd b lv + pt - 1) (n - 1) (n - 1) 0 (sh (upd fk j (fk m)) m (n - 1)) (sh (upd fv j (fv m)) m (n - 1))).2) f1 fc)
              refine g_aload_n C dX1_remove_127 2 rfl rfl ?_
              refine g_callV0 (ci := 1) (q0 := 0) (rest := []) C (c_X1_settle _ _ (ok_bw ok1 h110)) gX1_remove_X1_settle rfl rfl rfl hdX1_settle (by decide) rfl rfl rfl rfl (Nat.le_of_ble_eq_true rfl) dX1_remove_128 (fun f2 hh2 => ?_)
              show G K 0 0 131 [(4, .int (nI n)), (3, .int (nI m)), (0, .ref g0), (1, .int k), (2, .int (nI j))] [] (wM g0 gk gv gh gc cA b c pl bl (n - 1) (bwL pt lv) (bwP b lv pt) ((mb (bk b lv pt) (rd b lv + pt - 1) (n - 1) (n - 1) 0 (sh (upd fk j (fk m)) m (n - 1)) (sh (upd fv j (fv m)) m (n - 1))).1) ((mb (bk b lv pt) (rd b lv + pt - 1) (n - 1) (n - 1) 0 (sh (upd fk j (fk m)) m (n - 1)) (sh (upd fv j (fv m)) m (n - 1))).2) f2 fc)
              refine g_iconst (v := nI 1) C dX1_remove_131 (by decide) ?_
              exact hret _ _ _ (n - 1, bwL pt lv, bwP b lv pt, (mb (bk b lv pt) (rd b lv + pt - 1) (n - 1) (n - 1) 0 (sh (upd fk j (fk m)) m (n - 1)) (sh (upd fv j (fv m)) m (n - 1))).1, (mb (bk b lv pt) (rd b lv + pt - 1) (n - 1) (n - 1) 0 (sh (upd fk j (fk m)) m (n - 1)) (sh (upd fv j (fv m)) m (n - 1))).2, f2, fc) dX1_remove_132 (by decide) ⟨Or.inr ⟨j, m, hj, hkj, ⟨hjm, hmn, hmb, hall⟩, rfl, rfl, Or.inl ⟨h99, h110, rfl, rfl, rfl, rfl⟩⟩, hh2⟩
        · refine g_aload_n C dX1_remove_26 2 rfl rfl ?_
          refine g_get (ci := 1) C inX1_remove rfl 0 7 (by decide) lkX1_remove_16 dX1_remove_27 rfl rfl ?_
          refine g_iload C dX1_remove_30 0 rfl ?_
          refine g_iald C 3 dX1_remove_32 rfl (by omega) (by omega) ?_
          refine g_top (hho i h23) ?_
          refine g_aload_n C dX1_remove_33 2 rfl rfl ?_
          refine g_get (ci := 1) C inX1_remove rfl 0 7 (by decide) lkX1_remove_16 dX1_remove_34 rfl rfl ?_
          refine g_iload_n C dX1_remove_37 4 rfl rfl ?_
          refine g_iald C 3 dX1_remove_38 rfl (by omega) (by omega) ?_
          refine g_top (hho j hj) ?_
          refine g_icmp_ne C 47 dX1_remove_39 (by decide) (by have := bk_lt (b := b) (lv := lv) (pt := pt) (fk i) (by omega); omega) (by have := bk_lt (b := b) (lv := lv) (pt := pt) (fk j) (by omega); omega) (fun h39 => ?_) (fun h39 => ?_)
          · refine g_iload_n C dX1_remove_47 1 rfl rfl ?_
            refine g_istore_n (lv' := [(3, .int (nI m)), (4, .int (nI i)), (0, .ref g0), (1, .int k), (2, .int (nI j))]) C dX1_remove_48 rfl (by decide) rfl ?_
            refine g_iinc (v := nI (i + 1)) (lv' := [(4, .int (nI (i + 1))), (3, .int (nI m)), (0, .ref g0), (1, .int k), (2, .int (nI j))]) C dX1_remove_49 1 rfl (nI_add _ 1) (by decide) rfl ?_
            refine g_goto C 17 dX1_remove_52 (by decide) ?_
            refine g_lv [0, 1, 2, 3, 4] rfl ?_
            exact ih m (i + 1) (by omega) (by omega) (by omega) (by omega) (by omega) hmb (fun x a1 a2 => (Nat.lt_succ_iff_lt_or_eq.mp a2).elim (fun e => hall x a1 e) (fun e => e ▸ h39))
          · refine g_iload C dX1_remove_42 0 rfl ?_
            refine g_goto C 48 dX1_remove_44 (by decide) ?_
            refine g_istore_n (lv' := [(3, .int (nI i)), (4, .int (nI i)), (0, .ref g0), (1, .int k), (2, .int (nI j))]) C dX1_remove_48 rfl (by decide) rfl ?_
            refine g_iinc (v := nI (i + 1)) (lv' := [(4, .int (nI (i + 1))), (3, .int (nI i)), (0, .ref g0), (1, .int k), (2, .int (nI j))]) C dX1_remove_49 1 rfl (nI_add _ 1) (by decide) rfl ?_
            refine g_goto C 17 dX1_remove_52 (by decide) ?_
            refine g_lv [0, 1, 2, 3, 4] rfl ?_
            exact ih i (i + 1) (by omega) (by omega) (by omega) (by omega) (by omega) h39 (fun x a1 a2 => absurd a1 (by omega))
    refine g_lv [0, 1, 3, 4, 2] rfl ?_
    exact loop17 (n + 1) j j (by omega) (by omega) (by omega) (by omega) (by omega) rfl (fun x a1 a2 => absurd a1 (by omega))
  · have hno : ∀ j, j < n → fk j ≠ k := by
      rcases hw with ⟨j, a1, a2, a3⟩ | ⟨a1, _⟩
      · exact absurd (show 0 ≤ r by rw [a3]; exact nI_pos' (by omega)) h7
      · exact a1
    refine g_iconst (v := nI 0) C dX1_remove_10 (by decide) ?_
    exact hret _ _ _ (n, lv, pt, fk, fv, fh, fc) dX1_remove_11 (by decide) ⟨Or.inl ⟨hno, rfl, rfl, rfl, rfl, rfl, rfl⟩, hho⟩
set_option maxHeartbeats 4000000 in
set_option maxRecDepth 100000 in
theorem c_X1_pages (l : Launch) (D : va_G) {cA : ClassId} {g0 gk gv gh gc b c pl bl n lv pt : Nat} {fk fv fh fc : Nat → Int32} (ok : okS b c pl bl n lv pt) (x : Int32) (hho : hom b n lv pt fk fh) : MetI (S := (Nat → Int32)) l yX1_pages wsX1_pages ({ frames := 2, cells := 0, slots := 0, locals := 42 } : Room) D [(cA, .int)] [.ref g0, .int x] (wM g0 gk gv gh gc cA b c pl bl n lv pt fk fv fh fc) (fun u => wM g0 gk gv gh gc cA b c pl bl n lv pt fk fv fh u) (fun r _ => (∃ q, q < rd b lv + pt ∧ x = nI q ∧ r = nI (pg c (ct (fun j => bk b lv pt (fk j)) q n))) ∨ ((¬ ∃ q, q < rd b lv + pt ∧ x = nI q) ∧ r = -1)) 0 0 := by
  refine MetI_of (cc := cX1_pages) (maxL := 2) (rt := .int) (lv0 := [(0, .ref g0), (1, .int x)]) (by decide) rfl (Nat.le_of_ble_eq_true rfl) rfl ?_
  intro K _ _ C hret
  have C : Cx K ({ frames := 2, cells := 0, slots := 0, locals := 42 } : Room) 2 cX1_pages RX1 wsX1_pages [(cA, .int)] := C
  obtain ⟨o1, o2, o3, o4, o5, o6, o7, o8, o9, o10, o11, o12⟩ := id ok
  refine g_iload_n C dX1_pages_0 1 rfl rfl ?_
  refine g_if_lt C 12 dX1_pages_1 (by decide) (fun h1 => ?_) (fun h1 => ?_)
  · refine g_iconst (v := -1) C dX1_pages_12 (by decide) ?_
    exact hret _ _ _ fc dX1_pages_13 rfl (Or.inr ⟨ib_neg h1 (by omega), rfl⟩)
  · refine g_iload_n C dX1_pages_4 1 rfl rfl ?_
    refine g_aload_n C dX1_pages_5 0 rfl rfl ?_
    refine g_callI0 (ci := 1) (q0 := 0) (rest := [.int x]) C (c_X1_buckets _ _ ok) gX1_pages_X1_buckets rfl rfl rfl hdX1_buckets (by decide) rfl rfl rfl rfl (Nat.le_of_ble_eq_true rfl) dX1_pages_6 (fun r _ hw => ?_)
    subst hw
    show G K 0 0 9 [(0, .ref g0), (1, .int x)] [.int (nI (rd b lv + pt)), .int x] (wM g0 gk gv gh gc cA b c pl bl n lv pt fk fv fh fc)
    refine g_icmp_ltI C 14 dX1_pages_9 (by decide) (fun h9 => ?_) (fun h9 => ?_)
    · obtain ⟨q, hq, ex⟩ := ib_ok h1 (Int32.not_le.mpr h9) (by omega)
      subst ex
      refine g_aload_n C dX1_pages_14 0 rfl rfl ?_
      refine g_callV0 (ci := 1) (q0 := 0) (rest := []) C (c_X1_count _ _ ok hho) gX1_pages_X1_count rfl rfl rfl hdX1_count (by decide) rfl rfl rfl rfl (Nat.le_of_ble_eq_true rfl) dX1_pages_15 (fun f hc => ?_)
      show G K 0 0 18 [(0, .ref g0), (1, .int (nI q))] [] (wM g0 gk gv gh gc cA b c pl bl n lv pt fk fv fh f)
      refine g_aload_n C dX1_pages_18 0 rfl rfl ?_
      refine g_aload_n C dX1_pages_19 0 rfl rfl ?_
      refine g_get (ci := 1) C inX1_pages rfl 0 10 (by decide) lkX1_pages_19 dX1_pages_20 rfl rfl ?_
      refine g_iload_n C dX1_pages_23 1 rfl rfl ?_
      refine g_iald C 4 dX1_pages_24 rfl (by omega) (by omega) ?_
      refine g_top (hc q (by omega)) ?_
      have hle := ct_le (fun j => bk b lv pt (fk j)) q n
      refine g_callI0 (ci := 1) (q0 := 0) (rest := []) C (c_X1_pagesFor _ _ ok (ct (fun j => bk b lv pt (fk j)) q n) (by omega)) gX1_pages_X1_pagesFor rfl rfl rfl hdX1_pagesFor (by decide) rfl rfl rfl rfl (Nat.le_of_ble_eq_true rfl) dX1_pages_25 (fun r _ hw => ?_)
      subst hw
      show G K 0 0 28 [(0, .ref g0), (1, .int (nI q))] [.int (nI (pg c (ct (fun j => bk b lv pt (fk j)) q n)))] (wM g0 gk gv gh gc cA b c pl bl n lv pt fk fv fh f)
      exact hret _ _ _ f dX1_pages_28 rfl (Or.inl ⟨q, hq, rfl, rfl⟩)
    · have q1 := ib_big (Int32.not_lt.mp h9) (show rd b lv + pt < 2 ^ 31 by omega)
      refine g_iconst (v := -1) C dX1_pages_12 (by decide) ?_
      exact hret _ _ _ fc dX1_pages_13 rfl (Or.inr ⟨q1, rfl⟩)
set_option maxHeartbeats 4000000 in
set_option maxRecDepth 100000 in
theorem c_X1_free (l : Launch) (D : va_G) {cA : ClassId} {g0 gk gv gh gc b c pl bl n lv pt : Nat} {fk fv fh fc : Nat → Int32} (ok : okS b c pl bl n lv pt)  (hho : hom b n lv pt fk fh) : MetI (S := (Nat → Int32)) l yX1_free wsX1_free ({ frames := 3, cells := 0, slots := 0, locals := 64 } : Room) D [(cA, .int)] [.ref g0] (wM g0 gk gv gh gc cA b c pl bl n lv pt fk fv fh fc) (fun u => wM g0 gk gv gh gc cA b c pl bl n lv pt fk fv fh u) (fun r _ => r = nI pl - nI (ndP b c n lv pt fk)) 0 0 := by
  refine MetI_of (cc := cX1_free) (maxL := 1) (rt := .int) (lv0 := [(0, .ref g0)]) (by decide) rfl (Nat.le_of_ble_eq_true rfl) rfl ?_
  intro K _ _ C hret
  have C : Cx K ({ frames := 3, cells := 0, slots := 0, locals := 64 } : Room) 1 cX1_free RX1 wsX1_free [(cA, .int)] := C
  obtain ⟨o1, o2, o3, o4, o5, o6, o7, o8, o9, o10, o11, o12⟩ := id ok
  refine g_aload_n C dX1_free_0 0 rfl rfl ?_
  refine g_get (ci := 1) C inX1_free rfl 0 2 (by decide) lkX1_free_29 dX1_free_1 rfl rfl ?_
  refine g_aload_n C dX1_free_4 0 rfl rfl ?_
  refine g_callI0 (ci := 1) (q0 := 0) (rest := [.int (nI pl)]) C (c_X1_needed _ _ ok hho) gX1_free_X1_needed rfl rfl rfl hdX1_needed (by decide) rfl rfl rfl rfl (Nat.le_of_ble_eq_true rfl) dX1_free_5 (fun r f hw => ?_)
  subst hw
  show G K 0 0 8 [(0, .ref g0)] [.int (nI (ndP b c n lv pt fk)), .int (nI pl)] (wM g0 gk gv gh gc cA b c pl bl n lv pt fk fv fh f)
  refine g_isubI C dX1_free_8 ?_
  exact hret _ _ _ f dX1_free_9 rfl rfl
set_option maxHeartbeats 4000000 in
set_option maxRecDepth 100000 in
theorem c_X1_key (l : Launch) (D : va_G) {cA : ClassId} {g0 gk gv gh gc b c pl bl n lv pt : Nat} {fk fv fh fc : Nat → Int32} (ok : okS b c pl bl n lv pt) (x y : Int32) (hho : hom b n lv pt fk fh) : MetI (S := Unit) l yX1_key wsX1_key ({ frames := 2, cells := 0, slots := 0, locals := 42 } : Room) D [(cA, .int)] [.ref g0, .int x, .int y] (wM g0 gk gv gh gc cA b c pl bl n lv pt fk fv fh fc) (fun _ => wM g0 gk gv gh gc cA b c pl bl n lv pt fk fv fh fc) (fun r _ => keyP b n lv pt fk x y r) 0 0 := by
  refine MetI_of (cc := cX1_key) (maxL := 5) (rt := .int) (lv0 := [(0, .ref g0), (1, .int x), (2, .int y)]) (by decide) rfl (Nat.le_of_ble_eq_true rfl) rfl ?_
  intro K _ _ C hret
  have C : Cx K ({ frames := 2, cells := 0, slots := 0, locals := 42 } : Room) 5 cX1_key RX1 wsX1_key [(cA, .int)] := C
  obtain ⟨o1, o2, o3, o4, o5, o6, o7, o8, o9, o10, o11, o12⟩ := id ok
  refine g_iload_n C dX1_key_0 1 rfl rfl ?_
  refine g_if_lt C 16 dX1_key_1 (by decide) (fun h1 => ?_) (fun h1 => ?_)
  · refine g_iconst (v := -1) C dX1_key_16 (by decide) ?_
    exact hret _ _ _ () dX1_key_17 rfl (Or.inr ⟨fun q z i a1 a2 => absurd ⟨q, a1, a2⟩ (ib_neg h1 (show rd b lv + pt < 2 ^ 31 by omega)), rfl⟩)
  · refine g_iload_n C dX1_key_4 1 rfl rfl ?_
    refine g_aload_n C dX1_key_5 0 rfl rfl ?_
    refine g_callI0 (ci := 1) (q0 := 0) (rest := [.int x]) C (c_X1_buckets _ _ ok) gX1_key_X1_buckets rfl rfl rfl hdX1_buckets (by decide) rfl rfl rfl rfl (Nat.le_of_ble_eq_true rfl) dX1_key_6 (fun r _ hw => ?_)
    subst hw
    show G K 0 0 9 [(0, .ref g0), (1, .int x), (2, .int y)] [.int (nI (rd b lv + pt)), .int x] (wM g0 gk gv gh gc cA b c pl bl n lv pt fk fv fh fc)
    refine g_icmp_geI C 16 dX1_key_9 (by decide) (fun h9 => ?_) (fun h9 => ?_)
    · have q1 := ib_big h9 (show rd b lv + pt < 2 ^ 31 by omega)
      refine g_iconst (v := -1) C dX1_key_16 (by decide) ?_
      exact hret _ _ _ () dX1_key_17 rfl (Or.inr ⟨fun q z i a1 a2 => absurd ⟨q, a1, a2⟩ q1, rfl⟩)
    · obtain ⟨q, hq, ex⟩ := ib_ok h1 h9 (by omega)
      subst ex
      refine g_iload_n C dX1_key_12 2 rfl rfl ?_
      refine g_if_ge C 18 dX1_key_13 (by decide) (fun h13 => ?_) (fun h13 => ?_)
      · obtain ⟨z, hz, ez⟩ := nI_of (Int32.not_lt.mpr h13)
        subst ez
        refine g_iload_n C dX1_key_18 2 rfl rfl ?_
        refine g_istore_n (lv' := [(3, .int (nI z)), (0, .ref g0), (1, .int (nI q)), (2, .int (nI z))]) C dX1_key_19 rfl (by decide) rfl ?_
        refine g_iconst (v := nI 0) C dX1_key_20 (by decide) ?_
        refine g_istore (lv' := [(4, .int (nI 0)), (3, .int (nI z)), (0, .ref g0), (1, .int (nI q)), (2, .int (nI z))]) C dX1_key_21 (by decide) rfl ?_
        have loop23 : ∀ (t : Nat) (i : Nat) (m : Nat), i ≤ n → n < i + t → ct (fun j => bk b lv pt (fk j)) q i + m = z → (∀ i', i' < i → bk b lv pt (fk i') = q → ct (fun j => bk b lv pt (fk j)) q (i') ≠ z) → G K 0 0 23 [(4, .int (nI i)), (3, .int (nI m)), (0, .ref g0), (1, .int (nI q)), (2, .int (nI z))] [] (wM g0 gk gv gh gc cA b c pl bl n lv pt fk fv fh fc) := by
          intro t
          induction t with
          | zero =>
            intro i m hi ht hm hall
            exact absurd ht (by omega)
          | succ t ih =>
            intro i m hi ht hm hall
            refine g_iload C dX1_key_23 0 rfl ?_
            refine g_aload_n C dX1_key_25 2 rfl rfl ?_
            refine g_get (ci := 1) C inX1_key rfl 0 4 (by decide) lkX1_key_46 dX1_key_26 rfl rfl ?_
            refine g_icmp_ge C 64 dX1_key_29 (by decide) (by omega) (by omega) (fun h29 => ?_) (fun h29 => ?_)
            · refine g_iconst (v := -1) C dX1_key_64 (by decide) ?_
              exact hret _ _ _ () dX1_key_65 rfl (Or.inr ⟨fun q2 z2 i2 a1 a2 a3 a4 a5 a6 => by rw [← (nI_eq (by omega) (by omega)).mp a2] at a6 ⊢; rw [← (nI_eq hz a3).mp a4]; exact hall i2 (by omega) a6, rfl⟩)
            · refine g_aload_n C dX1_key_32 2 rfl rfl ?_
              refine g_get (ci := 1) C inX1_key rfl 0 7 (by decide) lkX1_key_16 dX1_key_33 rfl rfl ?_
              refine g_iload C dX1_key_36 0 rfl ?_
              refine g_iald C 3 dX1_key_38 rfl (by omega) (by omega) ?_
              refine g_top (hho i h29) ?_
              refine g_iload_n C dX1_key_39 3 rfl rfl ?_
              refine g_icmp_ne C 58 dX1_key_40 (by decide) (by have := bk_lt (b := b) (lv := lv) (pt := pt) (fk i) (by omega); omega) (by omega) (fun h40 => ?_) (fun h40 => ?_)
              · refine g_iinc (v := nI (i + 1)) (lv' := [(4, .int (nI (i + 1))), (3, .int (nI m)), (0, .ref g0), (1, .int (nI q)), (2, .int (nI z))]) C dX1_key_58 0 rfl (nI_add _ 1) (by decide) rfl ?_
                refine g_goto C 23 dX1_key_61 (by decide) ?_
                refine g_lv [0, 1, 2, 3, 4] rfl ?_
                exact ih (i + 1) m (by omega) (by omega) (by rw [ct_ne (g := fun j => bk b lv pt (fk j)) h40]; exact hm) (lt_s hall (fun e => absurd e h40))
              · refine g_iload_n C dX1_key_43 1 rfl rfl ?_
                refine g_if_ne C 55 dX1_key_44 (by decide) (fun h44 => ?_) (fun h44 => ?_)
                · obtain ⟨m1, rfl⟩ : ∃ m1, m = m1 + 1 := ⟨m - 1, by have : 0 < m := Nat.pos_of_ne_zero (fun e => h44 (by rw [e]; rfl)); omega⟩
                  refine g_iinc (v := nI m1) (lv' := [(3, .int (nI m1)), (4, .int (nI i)), (0, .ref g0), (1, .int (nI q)), (2, .int (nI z))]) C dX1_key_55 1 rfl (pk_m1 m1) (by decide) rfl ?_
                  refine g_iinc (v := nI (i + 1)) (lv' := [(4, .int (nI (i + 1))), (3, .int (nI m1)), (0, .ref g0), (1, .int (nI q)), (2, .int (nI z))]) C dX1_key_58 1 rfl (nI_add _ 1) (by decide) rfl ?_
                  refine g_goto C 23 dX1_key_61 (by decide) ?_
                  refine g_lv [0, 1, 2, 3, 4] rfl ?_
                  exact ih (i + 1) m1 (by omega) (by omega) (by rw [ct_eq (g := fun j => bk b lv pt (fk j)) h40]; omega) (lt_s hall (fun _ => by omega))
                · have hm0 : m = 0 := (nI_eq (by omega) (by omega)).mp (h44.trans nI_0.symm)
                  refine g_aload_n C dX1_key_47 2 rfl rfl ?_
                  refine g_get (ci := 1) C inX1_key rfl 0 5 (by decide) lkX1_key_7 dX1_key_48 rfl rfl ?_
                  refine g_iload C dX1_key_51 0 rfl ?_
                  refine g_iald C 1 dX1_key_53 rfl (by omega) (by omega) ?_
                  exact hret _ _ _ () dX1_key_54 rfl (Or.inl ⟨q, z, i, hq, rfl, hz, rfl, h29, h40, by rw [← hm, hm0]; rfl, hall, rfl⟩)
        refine g_lv [0, 1, 2, 3, 4] rfl ?_
        exact loop23 (n + 1) 0 z (by omega) (by omega) (Nat.zero_add z) (fun i' a => absurd a (by omega))
      · refine g_iconst (v := -1) C dX1_key_16 (by decide) ?_
        exact hret _ _ _ () dX1_key_17 rfl (Or.inr ⟨fun q z i a1 a2 a3 a4 => absurd (a4 ▸ nI_pos' a3) h13, rfl⟩)
set_option maxHeartbeats 4000000 in
set_option maxRecDepth 100000 in
theorem c_X1_clear (l : Launch) (D : va_G) {cA : ClassId} {g0 gk gv gh gc b c pl bl n lv pt : Nat} {fk fv fh fc : Nat → Int32} (ok : okS b c pl bl n lv pt)   : MetV (S := Unit) l yX1_clear wsX1_clear ({ frames := 0, cells := 0, slots := 0, locals := 0 } : Room) D [(cA, .int)] [.ref g0] (wM g0 gk gv gh gc cA b c pl bl n lv pt fk fv fh fc) (fun _ => wM g0 gk gv gh gc cA b c pl bl 0 0 0 fk fv fh fc) (fun _ => True) 0 0 := by
  refine MetV_of (cc := cX1_clear) (maxL := 1) (lv0 := [(0, .ref g0)]) (by decide) rfl (Nat.le_of_ble_eq_true rfl) rfl ?_
  intro K _ _ C _ hret
  have C : Cx K ({ frames := 0, cells := 0, slots := 0, locals := 0 } : Room) 1 cX1_clear RX1 wsX1_clear [(cA, .int)] := C
  obtain ⟨o1, o2, o3, o4, o5, o6, o7, o8, o9, o10, o11, o12⟩ := id ok
  refine g_aload_n C dX1_clear_0 0 rfl rfl ?_
  refine g_iconst (v := nI 0) C dX1_clear_1 (by decide) ?_
  refine g_put (ci := 1) (ty := .int) (ws' := wM g0 gk gv gh gc cA b c pl bl 0 lv pt fk fv fh fc) C inX1_clear tyX1 tyX1_ok nmX1 rfl 0 4 (by decide) lkX1_clear_46 rfl pdX1_4 dX1_clear_2 rfl rfl rfl (Nat.le_of_ble_eq_true rfl) rfl ?_
  refine g_aload_n C dX1_clear_5 0 rfl rfl ?_
  refine g_iconst (v := nI 0) C dX1_clear_6 (by decide) ?_
  refine g_put (ci := 1) (ty := .int) (ws' := wM g0 gk gv gh gc cA b c pl bl 0 0 pt fk fv fh fc) C inX1_clear tyX1 tyX1_ok nmX1 rfl 0 8 (by decide) lkX1_clear_35 rfl pdX1_8 dX1_clear_7 rfl rfl rfl (Nat.le_of_ble_eq_true rfl) rfl ?_
  refine g_aload_n C dX1_clear_10 0 rfl rfl ?_
  refine g_iconst (v := nI 0) C dX1_clear_11 (by decide) ?_
  refine g_put (ci := 1) (ty := .int) (ws' := wM g0 gk gv gh gc cA b c pl bl 0 0 0 fk fv fh fc) C inX1_clear tyX1 tyX1_ok nmX1 rfl 0 9 (by decide) lkX1_clear_42 rfl pdX1_9 dX1_clear_12 rfl rfl rfl (Nat.le_of_ble_eq_true rfl) rfl ?_
  exact hret _ _ () dX1_clear_15 trivial
end
section
/-! bounds brought within, constructors -/
def cl3 (x lo hi : Int32) : Int32 := if lo < (if x < hi then x else hi) then (if x < hi then x else hi) else lo
def clM (x lo hi : Int32) : Int32 := if x < lo then lo else if hi < x then hi else x
theorem cl_mid {x : Int32} {lo hi : Nat} (h1 : ¬ x < nI lo) (h2 : ¬ nI hi < x) (hl : lo < 2 ^ 31) (hh : hi < 2 ^ 31) : ∃ j, lo ≤ j ∧ j ≤ hi ∧ x = nI j := by
  rw [Int32.lt_iff_toInt_lt, nI_toInt hl] at h1
  rw [Int32.lt_iff_toInt_lt, nI_toInt hh] at h2
  have h0 : ¬ x < 0 := by
    rw [Int32.lt_iff_toInt_lt, show (0 : Int32).toInt = 0 from rfl]
    omega
  obtain ⟨j, hj, rfl⟩ := nI_of h0
  rw [nI_toInt hj] at h1 h2
  exact ⟨j, by omega, by omega, rfl⟩
theorem cl_both (x : Int32) {lo hi : Nat} (h : lo ≤ hi) (hh : hi < 2 ^ 31) : ∃ j, lo ≤ j ∧ j ≤ hi ∧ cl3 x (nI lo) (nI hi) = nI j ∧ clM x (nI lo) (nI hi) = nI j := by
  unfold cl3 clM
  by_cases h1 : x < nI lo
  · refine ⟨lo, Nat.le_refl _, h, ?_, by rw [if_pos h1]⟩
    have h2 : x < nI hi := by
      rw [Int32.lt_iff_toInt_lt, nI_toInt (by omega)] at h1
      rw [Int32.lt_iff_toInt_lt, nI_toInt hh]
      omega
    have h3 : ¬ nI lo < x := by
      rw [Int32.lt_iff_toInt_lt, nI_toInt (by omega)] at h1 ⊢
      omega
    rw [if_pos h2, if_neg h3]
  · by_cases h2 : nI hi < x
    · refine ⟨hi, h, Nat.le_refl _, ?_, by rw [if_neg h1, if_pos h2]⟩
      have h3 : ¬ x < nI hi := by
        rw [Int32.lt_iff_toInt_lt, nI_toInt hh] at h2 ⊢
        omega
      rw [if_neg h3]
      by_cases h4 : lo = hi
      · subst h4
        split <;> rfl
      · rw [if_pos ((nI_ltI (by omega) hh).mpr (by omega))]
    · obtain ⟨j, a1, a2, rfl⟩ := cl_mid h1 h2 (by omega) hh
      refine ⟨j, a1, a2, ?_, by rw [if_neg h1, if_neg h2]⟩
      have h5 : (if nI j < nI hi then nI j else nI hi) = nI j := by
        by_cases e : j < hi
        · rw [if_pos ((nI_ltI (by omega) hh).mpr e)]
        · rw [show j = hi by omega]; split <;> rfl
      rw [h5]
      by_cases e : lo < j
      · rw [if_pos ((nI_ltI (by omega) (by omega)).mpr e)]
      · rw [show j = lo by omega]; split <;> rfl
theorem mn_512 {m : Nat} (h : m < 2 ^ 31) : (if nI 512 < nI m then nI 512 else nI m) = nI (min m 512) := by
  by_cases e : 512 < m
  · rw [if_pos ((nI_ltI (by omega) h).mpr e), Nat.min_eq_right (by omega)]
  · rw [if_neg (fun q => e ((nI_ltI (by omega) h).mp q)), Nat.min_eq_left (by omega)]
theorem pdX0_4 : parseFieldDescriptor (TX0 4).2.2.1 = some (.array .int) := by decide +kernel
theorem pdX0_5 : parseFieldDescriptor (TX0 5).2.2.1 = some (.array .int) := by decide +kernel
theorem pdX0_9 : parseFieldDescriptor (TX0 9).2.2.1 = some (.array .int) := by decide +kernel
theorem pdX0_0 : parseFieldDescriptor (TX0 0).2.2.1 = some .int := by decide +kernel
theorem pdX0_1 : parseFieldDescriptor (TX0 1).2.2.1 = some .int := by decide +kernel
theorem pdX0_2 : parseFieldDescriptor (TX0 2).2.2.1 = some .int := by decide +kernel
theorem pdX0_3 : parseFieldDescriptor (TX0 3).2.2.1 = some .int := by decide +kernel
theorem pdX1_5 : parseFieldDescriptor (TX1 5).2.2.1 = some (.array .int) := by decide +kernel
theorem pdX1_6 : parseFieldDescriptor (TX1 6).2.2.1 = some (.array .int) := by decide +kernel
theorem pdX1_7 : parseFieldDescriptor (TX1 7).2.2.1 = some (.array .int) := by decide +kernel
theorem pdX1_10 : parseFieldDescriptor (TX1 10).2.2.1 = some (.array .int) := by decide +kernel
theorem pdX1_0 : parseFieldDescriptor (TX1 0).2.2.1 = some .int := by decide +kernel
theorem pdX1_1 : parseFieldDescriptor (TX1 1).2.2.1 = some .int := by decide +kernel
theorem pdX1_2 : parseFieldDescriptor (TX1 2).2.2.1 = some .int := by decide +kernel
theorem pdX1_3 : parseFieldDescriptor (TX1 3).2.2.1 = some .int := by decide +kernel
theorem inX0_init : ∀ w ∈ wsX00, w ∈ wsX0_init := fun w h => List.mem_cons_of_mem _ (List.mem_append_right _ h)
theorem lkX0_init_13 : Cond.fieldLink RX0 13 (TX0 0).1 (TX0 0).2.1 (TX0 0).2.2.1 ∈ wsX0_init := by decide +kernel
theorem lkX0_init_17 : Cond.fieldLink RX0 17 (TX0 1).1 (TX0 1).2.1 (TX0 1).2.2.1 ∈ wsX0_init := by decide +kernel
theorem lkX0_init_20 : Cond.fieldLink RX0 20 (TX0 2).1 (TX0 2).2.1 (TX0 2).2.2.1 ∈ wsX0_init := by decide +kernel
theorem lkX0_init_23 : Cond.fieldLink RX0 23 (TX0 3).1 (TX0 3).2.1 (TX0 3).2.2.1 ∈ wsX0_init := by decide +kernel
theorem lkX0_init_32 : Cond.fieldLink RX0 32 (TX0 4).1 (TX0 4).2.1 (TX0 4).2.2.1 ∈ wsX0_init := by decide +kernel
theorem lkX0_init_36 : Cond.fieldLink RX0 36 (TX0 5).1 (TX0 5).2.1 (TX0 5).2.2.1 ∈ wsX0_init := by decide +kernel
theorem lkX0_init_39 : Cond.fieldLink RX0 39 (TX0 9).1 (TX0 9).2.1 (TX0 9).2.2.1 ∈ wsX0_init := by decide +kernel
theorem inX1_init : ∀ w ∈ wsX10, w ∈ wsX1_init := fun w h => List.mem_cons_of_mem _ (List.mem_append_right _ h)
theorem lkX1_init_7 : Cond.fieldLink RX1 7 (TX1 5).1 (TX1 5).2.1 (TX1 5).2.2.1 ∈ wsX1_init := by decide +kernel
theorem lkX1_init_13 : Cond.fieldLink RX1 13 (TX1 6).1 (TX1 6).2.1 (TX1 6).2.2.1 ∈ wsX1_init := by decide +kernel
theorem lkX1_init_16 : Cond.fieldLink RX1 16 (TX1 7).1 (TX1 7).2.1 (TX1 7).2.2.1 ∈ wsX1_init := by decide +kernel
theorem lkX1_init_19 : Cond.fieldLink RX1 19 (TX1 10).1 (TX1 10).2.1 (TX1 10).2.2.1 ∈ wsX1_init := by decide +kernel
theorem lkX1_init_22 : Cond.fieldLink RX1 22 (TX1 0).1 (TX1 0).2.1 (TX1 0).2.2.1 ∈ wsX1_init := by decide +kernel
theorem lkX1_init_26 : Cond.fieldLink RX1 26 (TX1 1).1 (TX1 1).2.1 (TX1 1).2.2.1 ∈ wsX1_init := by decide +kernel
theorem lkX1_init_29 : Cond.fieldLink RX1 29 (TX1 2).1 (TX1 2).2.1 (TX1 2).2.2.1 ∈ wsX1_init := by decide +kernel
theorem lkX1_init_32 : Cond.fieldLink RX1 32 (TX1 3).1 (TX1 3).2.1 (TX1 3).2.2.1 ∈ wsX1_init := by decide +kernel
set_option maxHeartbeats 4000000 in
set_option maxRecDepth 100000 in
theorem c_X0_within (l : Launch) (D : va_G) {cA : ClassId} (x lo hi : Int32) : MetI (S := Unit) l yX0_within wsX0_within ({ frames := 1, cells := 0, slots := 0, locals := 14 } : Room) D [(cA, .int)] [.int x, .int lo, .int hi] [] (fun _ => []) (fun r _ => r = cl3 x lo hi) 0 0 := by
  refine MetI_of (cc := cX0_within) (maxL := 3) (rt := .int) (lv0 := [(0, .int x), (1, .int lo), (2, .int hi)]) (by decide) rfl (Nat.le_of_ble_eq_true rfl) rfl ?_
  intro K _ _ C hret
  have C : Cx K ({ frames := 1, cells := 0, slots := 0, locals := 14 } : Room) 3 cX0_within RX0 wsX0_within [(cA, .int)] := C
  refine g_iload_n C dX0_within_0 1 rfl rfl ?_
  refine g_iload_n C dX0_within_1 2 rfl rfl ?_
  refine g_iload_n C dX0_within_2 0 rfl rfl ?_
  refine g_mmin C (by decide +kernel) dX0_within_3 ⟨by decide, Nat.le_of_ble_eq_true rfl, by decide, by decide⟩ ?_
  refine g_mmax C (by decide +kernel) dX0_within_6 ⟨by decide, Nat.le_of_ble_eq_true rfl, by decide, by decide⟩ ?_
  exact hret _ _ _ () dX0_within_9 rfl rfl
theorem hdX0_within : yX0_within.cls ≠ "java/lang/invoke/MethodHandle" ∧ yX0_within.cls ≠ "java/lang/invoke/VarHandle" ∧ (parseMethodDescriptor yX0_within.desc).map (fun d => d.parameters.length) = some 3 := by decide +kernel
set_option maxHeartbeats 4000000 in
set_option maxRecDepth 100000 in
theorem c_X0_init (l : Launch) (D : va_G) {cA : ClassId} {h0 b c pl bl nk : Nat} (a1 a2 a3 a4 : Int32) (eb : cl3 a1 (nI 1) (nI 8) = nI b) (ec : cl3 a2 (nI 1) (nI 8) = nI c) (ep : cl3 a3 (nI 8) (nI 300) = nI pl) (el : cl3 a4 (nI b) (nI 200) = nI bl) (enk : nk = min (pl * c) 512) (hpc : pl * c < 2 ^ 31) (hbl : bl ≤ 200) : MetV (S := Nat × Nat × Nat) l yX0_init wsX0_init ({ frames := 2, cells := 3, slots := 1224, locals := 36 } : Room) D [(cA, .int)] [.ref h0, .int a1, .int a2, .int a3, .int a4] [(h0, .inr (0, [.int 0, .int 0, .int 0, .int 0, .null, .null, .int 0, .int 0, .int 0, .null]))] (fun u => wX h0 u.1 u.2.1 u.2.2 cA nk bl b c pl bl 0 0 0 (fun _ => 0) (fun _ => 0) (fun _ => 0)) (fun _ => True) 3 1224 := by
  refine MetV_of (cc := cX0_init) (maxL := 6) (lv0 := [(0, .ref h0), (1, .int a1), (2, .int a2), (3, .int a3), (4, .int a4)]) (by decide) rfl (Nat.le_of_ble_eq_true rfl) rfl ?_
  intro K _ _ C hnm hret
  have C : Cx K ({ frames := 2, cells := 3, slots := 1224, locals := 36 } : Room) 6 cX0_init RX0 wsX0_init [(cA, .int)] := C
  have hnk : nk ≤ 512 := by rw [enk]; exact Nat.min_le_right _ _
  refine g_aload_n C dX0_init_0 0 rfl rfl ?_
  refine g_objInit C (by decide +kernel) dX0_init_1 ⟨by decide, Nat.le_of_ble_eq_true rfl⟩ ?_
  refine g_aload_n C dX0_init_4 0 rfl rfl ?_
  refine g_iload_n C dX0_init_5 1 rfl rfl ?_
  refine g_iconst (v := nI 1) C dX0_init_6 (by decide) ?_
  refine g_bipush (v := nI 8) C dX0_init_7 (by decide) ?_
  refine g_callS (rest := [.ref h0]) C (c_X0_within _ _ a1 (nI 1) (nI 8)) gX0_init_X0_within rfl rfl rfl hdX0_within (by decide) rfl rfl (Nat.le_of_ble_eq_true rfl) dX0_init_9 (fun r hw => ?_)
  rw [eb] at hw
  subst hw
  refine g_putF (ci := 0) (ty := .int) (ws' := [(h0, .inr (0, [.int (nI b), .int 0, .int 0, .int 0, .null, .null, .int 0, .int 0, .int 0, .null]))]) C inX0_init tyX0 tyX0_ok nmX0 rfl hnm 0 0 (by decide) lkX0_init_13 rfl rfl pdX0_0 dX0_init_12 rfl rfl rfl (Nat.le_of_ble_eq_true rfl) rfl ?_
  refine g_aload_n C dX0_init_15 0 rfl rfl ?_
  refine g_iload_n C dX0_init_16 2 rfl rfl ?_
  refine g_iconst (v := nI 1) C dX0_init_17 (by decide) ?_
  refine g_bipush (v := nI 8) C dX0_init_18 (by decide) ?_
  refine g_callS (rest := [.ref h0]) C (c_X0_within _ _ a2 (nI 1) (nI 8)) gX0_init_X0_within rfl rfl rfl hdX0_within (by decide) rfl rfl (Nat.le_of_ble_eq_true rfl) dX0_init_20 (fun r hw => ?_)
  rw [ec] at hw
  subst hw
  refine g_putF (ci := 0) (ty := .int) (ws' := [(h0, .inr (0, [.int (nI b), .int (nI c), .int 0, .int 0, .null, .null, .int 0, .int 0, .int 0, .null]))]) C inX0_init tyX0 tyX0_ok nmX0 rfl hnm 0 1 (by decide) lkX0_init_17 rfl rfl pdX0_1 dX0_init_23 rfl rfl rfl (Nat.le_of_ble_eq_true rfl) rfl ?_
  refine g_aload_n C dX0_init_26 0 rfl rfl ?_
  refine g_iload_n C dX0_init_27 3 rfl rfl ?_
  refine g_bipush (v := nI 8) C dX0_init_28 (by decide) ?_
  refine g_sipush (v := nI 300) C dX0_init_30 (by decide) ?_
  refine g_callS (rest := [.ref h0]) C (c_X0_within _ _ a3 (nI 8) (nI 300)) gX0_init_X0_within rfl rfl rfl hdX0_within (by decide) rfl rfl (Nat.le_of_ble_eq_true rfl) dX0_init_33 (fun r hw => ?_)
  rw [ep] at hw
  subst hw
  refine g_putF (ci := 0) (ty := .int) (ws' := [(h0, .inr (0, [.int (nI b), .int (nI c), .int (nI pl), .int 0, .null, .null, .int 0, .int 0, .int 0, .null]))]) C inX0_init tyX0 tyX0_ok nmX0 rfl hnm 0 2 (by decide) lkX0_init_20 rfl rfl pdX0_2 dX0_init_36 rfl rfl rfl (Nat.le_of_ble_eq_true rfl) rfl ?_
  refine g_aload_n C dX0_init_39 0 rfl rfl ?_
  refine g_iload C dX0_init_40 4 rfl ?_
  refine g_aload_n C dX0_init_42 0 rfl rfl ?_
  refine g_get (ci := 0) C inX0_init rfl 0 0 (by decide) lkX0_init_13 dX0_init_43 rfl rfl ?_
  refine g_sipush (v := nI 200) C dX0_init_46 (by decide) ?_
  refine g_callS (rest := [.ref h0]) C (c_X0_within _ _ a4 (nI b) (nI 200)) gX0_init_X0_within rfl rfl rfl hdX0_within (by decide) rfl rfl (Nat.le_of_ble_eq_true rfl) dX0_init_49 (fun r hw => ?_)
  rw [el] at hw
  subst hw
  refine g_putF (ci := 0) (ty := .int) (ws' := [(h0, .inr (0, [.int (nI b), .int (nI c), .int (nI pl), .int (nI bl), .null, .null, .int 0, .int 0, .int 0, .null]))]) C inX0_init tyX0 tyX0_ok nmX0 rfl hnm 0 3 (by decide) lkX0_init_23 rfl rfl pdX0_3 dX0_init_52 rfl rfl rfl (Nat.le_of_ble_eq_true rfl) rfl ?_
  refine g_aload_n C dX0_init_55 0 rfl rfl ?_
  refine g_get (ci := 0) C inX0_init rfl 0 2 (by decide) lkX0_init_20 dX0_init_56 rfl rfl ?_
  refine g_aload_n C dX0_init_59 0 rfl rfl ?_
  refine g_get (ci := 0) C inX0_init rfl 0 1 (by decide) lkX0_init_17 dX0_init_60 rfl rfl ?_
  refine g_imul C dX0_init_63 ?_
  refine g_sipush (v := nI 512) C dX0_init_64 (by decide) ?_
  refine g_mmin C (by decide +kernel) dX0_init_67 ⟨by decide, Nat.le_of_ble_eq_true rfl, by decide, by decide⟩ ?_
  refine g_top (y := nI nk) (by rw [enk]; exact mn_512 (by omega)) ?_
  refine g_istore (lv' := [(5, .int (nI nk)), (0, .ref h0), (1, .int a1), (2, .int a2), (3, .int a3), (4, .int a4)]) C dX0_init_70 (by decide) rfl ?_
  refine g_aload_n C dX0_init_72 1 rfl rfl ?_
  refine g_iload C dX0_init_73 0 rfl ?_
  refine g_newa (N := nk) C (by decide +kernel) dX0_init_75 (by omega) ⟨by decide, by show 0 + nk ≤ 1224; omega⟩ (fun q1 => ?_)
  refine g_putF (ci := 0) (ty := .array .int) (ws' := [(h0, .inr (0, [.int (nI b), .int (nI c), .int (nI pl), .int (nI bl), .ref q1, .null, .int 0, .int 0, .int 0, .null])), (q1, .inl (cA, nk, .inl (fun _ => 0)))]) C inX0_init tyX0 tyX0_ok nmX0 rfl hnm 0 4 (by decide) lkX0_init_32 rfl rfl pdX0_4 dX0_init_77 rfl rfl rfl (Nat.le_of_ble_eq_true rfl) rfl ?_
  refine g_aload_n C dX0_init_80 1 rfl rfl ?_
  refine g_iload C dX0_init_81 0 rfl ?_
  refine g_newa (N := nk) C (by decide +kernel) dX0_init_83 (by omega) ⟨by decide, by show 0 + nk + nk ≤ 1224; omega⟩ (fun q2 => ?_)
  refine g_putF (ci := 0) (ty := .array .int) (ws' := [(h0, .inr (0, [.int (nI b), .int (nI c), .int (nI pl), .int (nI bl), .ref q1, .ref q2, .int 0, .int 0, .int 0, .null])), (q1, .inl (cA, nk, .inl (fun _ => 0))), (q2, .inl (cA, nk, .inl (fun _ => 0)))]) C inX0_init tyX0 tyX0_ok nmX0 rfl hnm 0 5 (by decide) lkX0_init_36 rfl rfl pdX0_5 dX0_init_85 rfl rfl rfl (Nat.le_of_ble_eq_true rfl) rfl ?_
  refine g_aload_n C dX0_init_88 1 rfl rfl ?_
  refine g_aload_n C dX0_init_89 1 rfl rfl ?_
  refine g_get (ci := 0) C inX0_init rfl 0 3 (by decide) lkX0_init_23 dX0_init_90 rfl rfl ?_
  refine g_newa (N := bl) C (by decide +kernel) dX0_init_93 (by omega) ⟨by decide, by show 0 + nk + nk + bl ≤ 1224; omega⟩ (fun q3 => ?_)
  refine g_putF (ci := 0) (ty := .array .int) (ws' := [(h0, .inr (0, [.int (nI b), .int (nI c), .int (nI pl), .int (nI bl), .ref q1, .ref q2, .int 0, .int 0, .int 0, .ref q3])), (q1, .inl (cA, nk, .inl (fun _ => 0))), (q2, .inl (cA, nk, .inl (fun _ => 0))), (q3, .inl (cA, bl, .inl (fun _ => 0)))]) C inX0_init tyX0 tyX0_ok nmX0 rfl hnm 0 9 (by decide) lkX0_init_39 rfl rfl pdX0_9 dX0_init_95 rfl rfl rfl (Nat.le_of_ble_eq_true rfl) rfl ?_
  refine g_widen (k := 3) (n := 1224) (by omega) (by omega) ?_
  exact hret _ _ (q1, q2, q3) dX0_init_98 trivial
set_option maxHeartbeats 4000000 in
set_option maxRecDepth 100000 in
theorem c_X1_init (l : Launch) (D : va_G) {cA : ClassId} {g0 b c pl bl : Nat} (a1 a2 a3 a4 : Int32) (eb : clM a1 (nI 1) (nI 8) = nI b) (ec : clM a2 (nI 1) (nI 8) = nI c) (ep : clM a3 (nI 8) (nI 300) = nI pl) (el : clM a4 (nI b) (nI 200) = nI bl) : MetV (S := Nat × Nat × Nat × Nat) l yX1_init wsX1_init ({ frames := 1, cells := 4, slots := 7403, locals := 12 } : Room) D [(cA, .int)] [.ref g0, .int a1, .int a2, .int a3, .int a4] [(g0, .inr (1, [.int 0, .int 0, .int 0, .int 0, .int 0, .null, .null, .null, .int 0, .int 0, .null]))] (fun u => wM g0 u.1 u.2.1 u.2.2.1 u.2.2.2 cA b c pl bl 0 0 0 (fun _ => 0) (fun _ => 0) (fun _ => 0) (fun _ => 0)) (fun _ => True) 4 7403 := by
  refine MetV_of (cc := cX1_init) (maxL := 5) (lv0 := [(0, .ref g0), (1, .int a1), (2, .int a2), (3, .int a3), (4, .int a4)]) (by decide) rfl (Nat.le_of_ble_eq_true rfl) rfl ?_
  intro K _ _ C hnm hret
  have C : Cx K ({ frames := 1, cells := 4, slots := 7403, locals := 12 } : Room) 5 cX1_init RX1 wsX1_init [(cA, .int)] := C
  refine g_aload_n C dX1_init_0 0 rfl rfl ?_
  refine g_objInit C (by decide +kernel) dX1_init_1 ⟨by decide, Nat.le_of_ble_eq_true rfl⟩ ?_
  refine g_aload_n C dX1_init_4 0 rfl rfl ?_
  refine g_sipush (v := nI 2401) C dX1_init_5 (by decide) ?_
  refine g_newa (N := 2401) C (by decide +kernel) dX1_init_8 (by omega) (by decide) (fun q1 => ?_)
  refine g_putF (ci := 1) (ty := .array .int) (ws' := [(g0, .inr (1, [.int 0, .int 0, .int 0, .int 0, .int 0, .ref q1, .null, .null, .int 0, .int 0, .null])), (q1, .inl (cA, 2401, .inl (fun _ => 0)))]) C inX1_init tyX1 tyX1_ok nmX1 rfl hnm 0 5 (by decide) lkX1_init_7 rfl rfl pdX1_5 dX1_init_10 rfl rfl rfl (Nat.le_of_ble_eq_true rfl) rfl ?_
  refine g_aload_n C dX1_init_13 0 rfl rfl ?_
  refine g_sipush (v := nI 2401) C dX1_init_14 (by decide) ?_
  refine g_newa (N := 2401) C (by decide +kernel) dX1_init_17 (by omega) (by decide) (fun q2 => ?_)
  refine g_putF (ci := 1) (ty := .array .int) (ws' := [(g0, .inr (1, [.int 0, .int 0, .int 0, .int 0, .int 0, .ref q1, .ref q2, .null, .int 0, .int 0, .null])), (q1, .inl (cA, 2401, .inl (fun _ => 0))), (q2, .inl (cA, 2401, .inl (fun _ => 0)))]) C inX1_init tyX1 tyX1_ok nmX1 rfl hnm 0 6 (by decide) lkX1_init_13 rfl rfl pdX1_6 dX1_init_19 rfl rfl rfl (Nat.le_of_ble_eq_true rfl) rfl ?_
  refine g_aload_n C dX1_init_22 0 rfl rfl ?_
  refine g_sipush (v := nI 2401) C dX1_init_23 (by decide) ?_
  refine g_newa (N := 2401) C (by decide +kernel) dX1_init_26 (by omega) (by decide) (fun q3 => ?_)
  refine g_putF (ci := 1) (ty := .array .int) (ws' := [(g0, .inr (1, [.int 0, .int 0, .int 0, .int 0, .int 0, .ref q1, .ref q2, .ref q3, .int 0, .int 0, .null])), (q1, .inl (cA, 2401, .inl (fun _ => 0))), (q2, .inl (cA, 2401, .inl (fun _ => 0))), (q3, .inl (cA, 2401, .inl (fun _ => 0)))]) C inX1_init tyX1 tyX1_ok nmX1 rfl hnm 0 7 (by decide) lkX1_init_16 rfl rfl pdX1_7 dX1_init_28 rfl rfl rfl (Nat.le_of_ble_eq_true rfl) rfl ?_
  refine g_aload_n C dX1_init_31 0 rfl rfl ?_
  refine g_sipush (v := nI 200) C dX1_init_32 (by decide) ?_
  refine g_newa (N := 200) C (by decide +kernel) dX1_init_35 (by omega) (by decide) (fun q4 => ?_)
  refine g_putF (ci := 1) (ty := .array .int) (ws' := [(g0, .inr (1, [.int 0, .int 0, .int 0, .int 0, .int 0, .ref q1, .ref q2, .ref q3, .int 0, .int 0, .ref q4])), (q1, .inl (cA, 2401, .inl (fun _ => 0))), (q2, .inl (cA, 2401, .inl (fun _ => 0))), (q3, .inl (cA, 2401, .inl (fun _ => 0))), (q4, .inl (cA, 200, .inl (fun _ => 0)))]) C inX1_init tyX1 tyX1_ok nmX1 rfl hnm 0 10 (by decide) lkX1_init_19 rfl rfl pdX1_10 dX1_init_37 rfl rfl rfl (Nat.le_of_ble_eq_true rfl) rfl ?_
  show G K 4 7403 40 [(0, .ref g0), (1, .int a1), (2, .int a2), (3, .int a3), (4, .int a4)] [] [(g0, .inr (1, [.int 0, .int 0, .int 0, .int 0, .int 0, .ref q1, .ref q2, .ref q3, .int 0, .int 0, .ref q4])), (q1, .inl (cA, 2401, .inl (fun _ => 0))), (q2, .inl (cA, 2401, .inl (fun _ => 0))), (q3, .inl (cA, 2401, .inl (fun _ => 0))), (q4, .inl (cA, 200, .inl (fun _ => 0)))]
  refine g_aload_n C dX1_init_40 0 rfl rfl ?_
  suffices kj : G K 4 7403 62 [(0, .ref g0), (1, .int a1), (2, .int a2), (3, .int a3), (4, .int a4)] [.int (nI b), .ref g0] [(g0, .inr (1, [.int 0, .int 0, .int 0, .int 0, .int 0, .ref q1, .ref q2, .ref q3, .int 0, .int 0, .ref q4])), (q1, .inl (cA, 2401, .inl (fun _ => 0))), (q2, .inl (cA, 2401, .inl (fun _ => 0))), (q3, .inl (cA, 2401, .inl (fun _ => 0))), (q4, .inl (cA, 200, .inl (fun _ => 0)))] by
    refine g_iload_n C dX1_init_41 1 rfl rfl ?_
    refine g_iconst (v := nI 1) C dX1_init_42 (by decide) ?_
    refine g_icmp_geI C 50 dX1_init_43 (by decide) (fun hge => ?_) (fun hlt => ?_)
    · refine g_iload_n C dX1_init_50 1 rfl rfl ?_
      refine g_bipush (v := nI 8) C dX1_init_51 (by decide) ?_
      refine g_icmp_leI C 61 dX1_init_53 (by decide) (fun hle => ?_) (fun hgt => ?_)
      · refine g_iload_n C dX1_init_61 1 rfl rfl ?_
        refine g_top (y := nI b) (by rw [← eb]; unfold clM; rw [if_neg (Int32.not_lt.mpr hge), if_neg (Int32.not_lt.mpr hle)]) ?_
        exact kj
      · refine g_bipush (v := nI 8) C dX1_init_56 (by decide) ?_
        refine g_goto C 62 dX1_init_58 (by decide) ?_
        refine g_top (y := nI b) (by rw [← eb]; unfold clM; rw [if_neg (Int32.not_lt.mpr hge), if_pos (Int32.not_le.mp hgt)]) ?_
        exact kj
    · refine g_iconst (v := nI 1) C dX1_init_46 (by decide) ?_
      refine g_goto C 62 dX1_init_47 (by decide) ?_
      refine g_top (y := nI b) (by rw [← eb]; unfold clM; rw [if_pos (Int32.not_le.mp hlt)]) ?_
      exact kj
  refine g_putF (ci := 1) (ty := .int) (ws' := [(g0, .inr (1, [.int (nI b), .int 0, .int 0, .int 0, .int 0, .ref q1, .ref q2, .ref q3, .int 0, .int 0, .ref q4])), (q1, .inl (cA, 2401, .inl (fun _ => 0))), (q2, .inl (cA, 2401, .inl (fun _ => 0))), (q3, .inl (cA, 2401, .inl (fun _ => 0))), (q4, .inl (cA, 200, .inl (fun _ => 0)))]) C inX1_init tyX1 tyX1_ok nmX1 rfl hnm 0 0 (by decide) lkX1_init_22 rfl rfl pdX1_0 dX1_init_62 rfl rfl rfl (Nat.le_of_ble_eq_true rfl) rfl ?_
  refine g_aload_n C dX1_init_65 0 rfl rfl ?_
  suffices kj : G K 4 7403 87 [(0, .ref g0), (1, .int a1), (2, .int a2), (3, .int a3), (4, .int a4)] [.int (nI c), .ref g0] [(g0, .inr (1, [.int (nI b), .int 0, .int 0, .int 0, .int 0, .ref q1, .ref q2, .ref q3, .int 0, .int 0, .ref q4])), (q1, .inl (cA, 2401, .inl (fun _ => 0))), (q2, .inl (cA, 2401, .inl (fun _ => 0))), (q3, .inl (cA, 2401, .inl (fun _ => 0))), (q4, .inl (cA, 200, .inl (fun _ => 0)))] by
    refine g_iload_n C dX1_init_66 2 rfl rfl ?_
    refine g_iconst (v := nI 1) C dX1_init_67 (by decide) ?_
    refine g_icmp_geI C 75 dX1_init_68 (by decide) (fun hge => ?_) (fun hlt => ?_)
    · refine g_iload_n C dX1_init_75 2 rfl rfl ?_
      refine g_bipush (v := nI 8) C dX1_init_76 (by decide) ?_
      refine g_icmp_leI C 86 dX1_init_78 (by decide) (fun hle => ?_) (fun hgt => ?_)
      · refine g_iload_n C dX1_init_86 2 rfl rfl ?_
        refine g_top (y := nI c) (by rw [← ec]; unfold clM; rw [if_neg (Int32.not_lt.mpr hge), if_neg (Int32.not_lt.mpr hle)]) ?_
        exact kj
      · refine g_bipush (v := nI 8) C dX1_init_81 (by decide) ?_
        refine g_goto C 87 dX1_init_83 (by decide) ?_
        refine g_top (y := nI c) (by rw [← ec]; unfold clM; rw [if_neg (Int32.not_lt.mpr hge), if_pos (Int32.not_le.mp hgt)]) ?_
        exact kj
    · refine g_iconst (v := nI 1) C dX1_init_71 (by decide) ?_
      refine g_goto C 87 dX1_init_72 (by decide) ?_
      refine g_top (y := nI c) (by rw [← ec]; unfold clM; rw [if_pos (Int32.not_le.mp hlt)]) ?_
      exact kj
  refine g_putF (ci := 1) (ty := .int) (ws' := [(g0, .inr (1, [.int (nI b), .int (nI c), .int 0, .int 0, .int 0, .ref q1, .ref q2, .ref q3, .int 0, .int 0, .ref q4])), (q1, .inl (cA, 2401, .inl (fun _ => 0))), (q2, .inl (cA, 2401, .inl (fun _ => 0))), (q3, .inl (cA, 2401, .inl (fun _ => 0))), (q4, .inl (cA, 200, .inl (fun _ => 0)))]) C inX1_init tyX1 tyX1_ok nmX1 rfl hnm 0 1 (by decide) lkX1_init_26 rfl rfl pdX1_1 dX1_init_87 rfl rfl rfl (Nat.le_of_ble_eq_true rfl) rfl ?_
  refine g_aload_n C dX1_init_90 0 rfl rfl ?_
  suffices kj : G K 4 7403 116 [(0, .ref g0), (1, .int a1), (2, .int a2), (3, .int a3), (4, .int a4)] [.int (nI pl), .ref g0] [(g0, .inr (1, [.int (nI b), .int (nI c), .int 0, .int 0, .int 0, .ref q1, .ref q2, .ref q3, .int 0, .int 0, .ref q4])), (q1, .inl (cA, 2401, .inl (fun _ => 0))), (q2, .inl (cA, 2401, .inl (fun _ => 0))), (q3, .inl (cA, 2401, .inl (fun _ => 0))), (q4, .inl (cA, 200, .inl (fun _ => 0)))] by
    refine g_iload_n C dX1_init_91 3 rfl rfl ?_
    refine g_bipush (v := nI 8) C dX1_init_92 (by decide) ?_
    refine g_icmp_geI C 102 dX1_init_94 (by decide) (fun hge => ?_) (fun hlt => ?_)
    · refine g_iload_n C dX1_init_102 3 rfl rfl ?_
      refine g_sipush (v := nI 300) C dX1_init_103 (by decide) ?_
      refine g_icmp_leI C 115 dX1_init_106 (by decide) (fun hle => ?_) (fun hgt => ?_)
      · refine g_iload_n C dX1_init_115 3 rfl rfl ?_
        refine g_top (y := nI pl) (by rw [← ep]; unfold clM; rw [if_neg (Int32.not_lt.mpr hge), if_neg (Int32.not_lt.mpr hle)]) ?_
        exact kj
      · refine g_sipush (v := nI 300) C dX1_init_109 (by decide) ?_
        refine g_goto C 116 dX1_init_112 (by decide) ?_
        refine g_top (y := nI pl) (by rw [← ep]; unfold clM; rw [if_neg (Int32.not_lt.mpr hge), if_pos (Int32.not_le.mp hgt)]) ?_
        exact kj
    · refine g_bipush (v := nI 8) C dX1_init_97 (by decide) ?_
      refine g_goto C 116 dX1_init_99 (by decide) ?_
      refine g_top (y := nI pl) (by rw [← ep]; unfold clM; rw [if_pos (Int32.not_le.mp hlt)]) ?_
      exact kj
  refine g_putF (ci := 1) (ty := .int) (ws' := [(g0, .inr (1, [.int (nI b), .int (nI c), .int (nI pl), .int 0, .int 0, .ref q1, .ref q2, .ref q3, .int 0, .int 0, .ref q4])), (q1, .inl (cA, 2401, .inl (fun _ => 0))), (q2, .inl (cA, 2401, .inl (fun _ => 0))), (q3, .inl (cA, 2401, .inl (fun _ => 0))), (q4, .inl (cA, 200, .inl (fun _ => 0)))]) C inX1_init tyX1 tyX1_ok nmX1 rfl hnm 0 2 (by decide) lkX1_init_29 rfl rfl pdX1_2 dX1_init_116 rfl rfl rfl (Nat.le_of_ble_eq_true rfl) rfl ?_
  refine g_aload_n C dX1_init_119 0 rfl rfl ?_
  suffices kj : G K 4 7403 152 [(0, .ref g0), (1, .int a1), (2, .int a2), (3, .int a3), (4, .int a4)] [.int (nI bl), .ref g0] [(g0, .inr (1, [.int (nI b), .int (nI c), .int (nI pl), .int 0, .int 0, .ref q1, .ref q2, .ref q3, .int 0, .int 0, .ref q4])), (q1, .inl (cA, 2401, .inl (fun _ => 0))), (q2, .inl (cA, 2401, .inl (fun _ => 0))), (q3, .inl (cA, 2401, .inl (fun _ => 0))), (q4, .inl (cA, 200, .inl (fun _ => 0)))] by
    refine g_iload C dX1_init_120 4 rfl ?_
    refine g_aload_n C dX1_init_122 0 rfl rfl ?_
    refine g_get (ci := 1) C inX1_init rfl 0 0 (by decide) lkX1_init_22 dX1_init_123 rfl rfl ?_
    refine g_icmp_geI C 136 dX1_init_126 (by decide) (fun hge => ?_) (fun hlt => ?_)
    · refine g_iload C dX1_init_136 4 rfl ?_
      refine g_sipush (v := nI 200) C dX1_init_138 (by decide) ?_
      refine g_icmp_leI C 150 dX1_init_141 (by decide) (fun hle => ?_) (fun hgt => ?_)
      · refine g_iload C dX1_init_150 4 rfl ?_
        refine g_top (y := nI bl) (by rw [← el]; unfold clM; rw [if_neg (Int32.not_lt.mpr hge), if_neg (Int32.not_lt.mpr hle)]) ?_
        exact kj
      · refine g_sipush (v := nI 200) C dX1_init_144 (by decide) ?_
        refine g_goto C 152 dX1_init_147 (by decide) ?_
        refine g_top (y := nI bl) (by rw [← el]; unfold clM; rw [if_neg (Int32.not_lt.mpr hge), if_pos (Int32.not_le.mp hgt)]) ?_
        exact kj
    · refine g_aload_n C dX1_init_129 0 rfl rfl ?_
      refine g_get (ci := 1) C inX1_init rfl 0 0 (by decide) lkX1_init_22 dX1_init_130 rfl rfl ?_
      refine g_goto C 152 dX1_init_133 (by decide) ?_
      refine g_top (y := nI bl) (by rw [← el]; unfold clM; rw [if_pos (Int32.not_le.mp hlt)]) ?_
      exact kj
  refine g_putF (ci := 1) (ty := .int) (ws' := [(g0, .inr (1, [.int (nI b), .int (nI c), .int (nI pl), .int (nI bl), .int 0, .ref q1, .ref q2, .ref q3, .int 0, .int 0, .ref q4])), (q1, .inl (cA, 2401, .inl (fun _ => 0))), (q2, .inl (cA, 2401, .inl (fun _ => 0))), (q3, .inl (cA, 2401, .inl (fun _ => 0))), (q4, .inl (cA, 200, .inl (fun _ => 0)))]) C inX1_init tyX1 tyX1_ok nmX1 rfl hnm 0 3 (by decide) lkX1_init_32 rfl rfl pdX1_3 dX1_init_152 rfl rfl rfl (Nat.le_of_ble_eq_true rfl) rfl ?_
  exact hret _ _ (q1, q2, q3, q4) dX1_init_155 trivial
end
section
/-! the class's state and the reference's, tied -/
def Rel (b c pl bl nk t n lv pt : Nat) (fk fv gk gv gh : Nat → Int32) : Prop :=
  okS b c pl bl n lv pt ∧ nk = min (pl * c) 512 ∧ n ≤ nk ∧ n ≤ t ∧ (∀ j, j < n → fk j = gk j) ∧ (∀ j, j < n → fv j = gv j) ∧ dst fk n ∧ hom b n lv pt gk gh
theorem Rel.later {b c pl bl nk t n lv pt : Nat} {fk fv gk gv gh : Nat → Int32} (h : Rel b c pl bl nk t n lv pt fk fv gk gv gh) : Rel b c pl bl nk (t + 1) n lv pt fk fv gk gv gh := ⟨h.1, h.2.1, h.2.2.1, Nat.le_succ_of_le h.2.2.2.1, h.2.2.2.2⟩
theorem rel_clear {b c pl bl nk t n lv pt : Nat} {fk fv gk gv gh : Nat → Int32} (h : Rel b c pl bl nk t n lv pt fk fv gk gv gh) : Rel b c pl bl nk (t + 1) 0 0 0 fk fv gk gv gh := by
  obtain ⟨⟨h1, h2, h3, h4, h5, h6, h7, h8, h9, h10, h11, h12⟩, e, -⟩ := h
  refine ⟨⟨h1, h2, h3, h4, h5, h6, h7, h8, by omega, by rw [rd_0]; omega, by rw [rd_0]; omega, by omega⟩, e, Nat.zero_le _, Nat.zero_le _, fun j hj => absurd hj (by omega), fun j hj => absurd hj (by omega), fun i j hi => absurd hi (by omega), fun j hj => absurd hj (by omega)⟩
theorem ok_pLP {b c pl bl n lv pt : Nat} (h : okS b c pl bl n lv pt) : okS b c pl bl n (pL b c bl n lv pt) (pP b c bl n lv pt) := by
  unfold pL pP
  by_cases e : 3 * c * (rd b lv + pt) < 4 * n ∧ rd b lv + pt < bl
  · rw [if_pos e, if_pos e]; exact ok_fw h e.2
  · rw [if_neg e, if_neg e]; exact h
theorem upd_agree {f g : Nat → Int32} {n a : Nat} {x y : Int32} (h : ∀ j, j < n → f j = g j) (e : x = y) : ∀ j, j < n → upd f a x j = upd g a y j := fun j hj => by
  by_cases q : j = a
  · subst q; rw [pk_us, pk_us]; exact e
  · rw [pk_un q, pk_un q]; exact h j hj
theorem upd_agree1 {f g : Nat → Int32} {n : Nat} {x : Int32} (h : ∀ j, j < n → f j = g j) : ∀ j, j < n + 1 → upd f n x j = upd g n x j := fun j hj => by
  by_cases q : j = n
  · subst q; rw [pk_us, pk_us]
  · rw [pk_un q, pk_un q]; exact h j (by omega)
theorem upd_beyond {f g : Nat → Int32} {n : Nat} {x : Int32} (h : ∀ j, j < n → f j = g j) : ∀ j, j < n → f j = upd g n x j := fun j hj => by
  rw [pk_un (by omega)]; exact h j hj
theorem dst_beyond {f : Nat → Int32} {n : Nat} {x : Int32} (h : dst f n) : dst (upd f n x) n := fun i j hi hj e => h i j hi hj (by rw [pk_un (by omega), pk_un (by omega)] at e; exact e)
theorem ndP_congr {b c n L P : Nat} {f g : Nat → Int32} (h : ∀ j, j < n → f j = g j) : ndP b c n L P f = ndP b c n L P g := nd_congr (fun j hj => by rw [h j hj])
theorem rel_put {b c pl bl nk t n lv pt : Nat} {fk fv gk gv gh : Nat → Int32} {k v r1 r2 : Int32} {n1 l1 p1 n2 l2 p2 : Nat} {fk1 fv1 gk2 gv2 gh2 : Nat → Int32} (R : Rel b c pl bl nk t n lv pt fk fv gk gv gh) (ht : t < 512)
    (h1 : oldP n fk fv k v r1 n1 l1 p1 lv pt fk1 fv1 ∨ ((∀ j, j < n → fk j ≠ k) ∧ nk ≤ n ∧ r1 = nI 2 ∧ n1 = n ∧ l1 = lv ∧ p1 = pt ∧ fk1 = fk ∧ fv1 = fv) ∨ ((∀ j, j < n → fk j ≠ k) ∧ n < nk ∧ newP b c pl bl n lv pt fk fv k v r1 n1 l1 p1 fk1 fv1))
    (h2 : (oldP n gk gv k v r2 n2 l2 p2 lv pt gk2 gv2 ∨ ((∀ j, j < n → gk j ≠ k) ∧ newP b c pl bl n lv pt gk gv k v r2 n2 l2 p2 gk2 gv2)) ∧ hom b n2 l2 p2 gk2 gh2) :
    r1 = r2 ∧ n2 = n1 ∧ l2 = l1 ∧ p2 = p1 ∧ Rel b c pl bl nk (t + 1) n1 l1 p1 fk1 fv1 gk2 gv2 gh2 := by
  obtain ⟨ok, enk, hn, hnt, ak, av, hd, hh⟩ := R
  obtain ⟨h2, hh2⟩ := h2
  rcases h1 with ⟨j, hj, hk, e1, e2, e3, e4, e5, e6⟩ | ⟨hno, hfull, e1, e2, e3, e4, e5, e6⟩ | ⟨hno, hlt, hnew⟩
  · rcases h2 with ⟨j2, hj2, hk2, d1, d2, d3, d4, d5, d6⟩ | ⟨hno2, -⟩
    · have ej : j = j2 := hd j j2 hj hj2 (by rw [hk, ak j2 hj2, hk2])
      subst ej e1 e2 e3 e4 e5 e6 d1 d2 d3 d4 d5 d6
      exact ⟨rfl, rfl, rfl, rfl, ok, enk, hn, by omega, ak, upd_agree av rfl, hd, hh2⟩
    · exact absurd (by rw [← ak j hj]; exact hk) (hno2 j hj)
  · rcases h2 with ⟨j2, hj2, hk2, -⟩ | ⟨hno2, hnew⟩
    · exact absurd (by rw [ak j2 hj2]; exact hk2) (hno j2 hj2)
    · have enk2 : nk = pl * c := by
        rcases Nat.le_total (pl * c) 512 with q | q
        · rw [enk, Nat.min_eq_left q]
        · rw [Nat.min_eq_right q] at enk; omega
      have ok1 : okS b c pl bl (n + 1) (pL b c bl (n + 1) lv pt) (pP b c bl (n + 1) lv pt) := ok_pLP (ok_n ok (by omega))
      rcases hnew with ⟨hle, -⟩ | ⟨-, d1, d2, d3, d4, d5, d6⟩
      · have q1 : n + 1 ≤ c * ndP b c (n + 1) (pL b c bl (n + 1) lv pt) (pP b c bl (n + 1) lv pt) (upd gk n k) := nd_ge ok.2.2.1 (fun j hj => bk_lt _ (by have := ok1.2.2.2.2.2.2.2.2.2.1; omega))
        have q2 := Nat.mul_le_mul (Nat.le_refl c) hle
        rw [Nat.mul_comm c pl] at q2
        omega
      · subst e1 e2 e3 e4 e5 e6 d1 d2 d3 d4 d5 d6
        exact ⟨rfl, rfl, rfl, rfl, ok, enk, hn, by omega, upd_beyond ak, upd_beyond av, hd, hh2⟩
  · rcases h2 with ⟨j2, hj2, hk2, -⟩ | ⟨hno2, hnew2⟩
    · exact absurd (by rw [ak j2 hj2]; exact hk2) (hno j2 hj2)
    · have end1 := ndP_congr (b := b) (c := c) (L := pL b c bl (n + 1) lv pt) (P := pP b c bl (n + 1) lv pt) (upd_agree1 (x := k) ak)
      have ok1 : okS b c pl bl (n + 1) (pL b c bl (n + 1) lv pt) (pP b c bl (n + 1) lv pt) := ok_pLP (ok_n ok (by omega))
      rcases hnew with ⟨hle, e1, e2, e3, e4, e5, e6⟩ | ⟨hgt, e1, e2, e3, e4, e5, e6⟩
      · rcases hnew2 with ⟨hle2, d1, d2, d3, d4, d5, d6⟩ | ⟨hgt2, -⟩
        · subst e1 e2 e3 e4 e5 e6 d1 d2 d3 d4 d5 d6
          exact ⟨rfl, rfl, rfl, rfl, ok1, enk, by omega, by omega, upd_agree1 ak, upd_agree1 av, add_dst hd hno, hh2⟩
        · omega
      · rcases hnew2 with ⟨hle2, -⟩ | ⟨hgt2, d1, d2, d3, d4, d5, d6⟩
        · omega
        · subst e1 e2 e3 e4 e5 e6 d1 d2 d3 d4 d5 d6
          exact ⟨rfl, rfl, rfl, rfl, ok, enk, hn, by omega, upd_agree ak rfl, upd_agree av rfl, dst_beyond hd, hh2⟩
theorem last_eq {b n lv pt j m m2 : Nat} {fk gk : Nat → Int32} (hj : j < n) (ak : ∀ j, j < n → fk j = gk j) (h1 : lastP b n lv pt fk j m) (h2 : lastP b n lv pt gk j m2) : m = m2 := by
  obtain ⟨a1, a2, a3, a4⟩ := h1
  obtain ⟨c1, c2, c3, c4⟩ := h2
  rcases Nat.lt_trichotomy m m2 with q | q | q
  · exact absurd (by rw [ak m2 c2, ak j hj]; exact c3) (a4 m2 q c2)
  · exact q
  · exact absurd (by rw [← ak m a2, ← ak j hj]; exact a3) (c4 m q a2)
theorem cut_agree {fk gk : Nat → Int32} {j m n : Nat} (hm : m < n) (ak : ∀ x, x < n → fk x = gk x) : ∀ x, x < n - 1 → mv (upd fk j (fk m)) m n x = sh (upd gk j (gk m)) m (n - 1) x := fun x hx => by
  rw [mv_ne (by omega)]
  exact sh_congr (n := n) (by omega) (upd_agree ak (ak m hm)) x (by omega)
theorem rel_rem {b c pl bl nk t n lv pt : Nat} {fk fv gk gv gh : Nat → Int32} {k r1 r2 : Int32} {n1 l1 p1 n2 l2 p2 : Nat} {fk1 fv1 gk2 gv2 gh2 : Nat → Int32} (R : Rel b c pl bl nk t n lv pt fk fv gk gv gh)
    (h1 : ((∀ j, j < n → fk j ≠ k) ∧ r1 = nI 0 ∧ n1 = n ∧ l1 = lv ∧ p1 = pt ∧ fk1 = fk ∧ fv1 = fv) ∨ (∃ j m, j < n ∧ fk j = k ∧ lastP b n lv pt fk j m ∧ r1 = nI 1 ∧ n1 = n - 1 ∧ ((4 * (n - 1) < c * (rd b lv + pt) ∧ b < rd b lv + pt ∧ l1 = bwL pt lv ∧ p1 = bwP b lv pt ∧ fk1 = (mb (bk b lv pt) (rd b lv + pt - 1) (n - 1) (n - 1) 0 (mv (upd fk j (fk m)) m n) (mv (upd fv j (fv m)) m n)).1 ∧ fv1 = (mb (bk b lv pt) (rd b lv + pt - 1) (n - 1) (n - 1) 0 (mv (upd fk j (fk m)) m n) (mv (upd fv j (fv m)) m n)).2) ∨ (¬ (4 * (n - 1) < c * (rd b lv + pt) ∧ b < rd b lv + pt) ∧ l1 = lv ∧ p1 = pt ∧ fk1 = mv (upd fk j (fk m)) m n ∧ fv1 = mv (upd fv j (fv m)) m n))))
    (h2 : (((∀ j, j < n → gk j ≠ k) ∧ r2 = nI 0 ∧ n2 = n ∧ l2 = lv ∧ p2 = pt ∧ gk2 = gk ∧ gv2 = gv) ∨ (∃ j m, j < n ∧ gk j = k ∧ lastP b n lv pt gk j m ∧ r2 = nI 1 ∧ n2 = n - 1 ∧ ((4 * (n - 1) < c * (rd b lv + pt) ∧ b < rd b lv + pt ∧ l2 = bwL pt lv ∧ p2 = bwP b lv pt ∧ gk2 = (mb (bk b lv pt) (rd b lv + pt - 1) (n - 1) (n - 1) 0 (sh (upd gk j (gk m)) m (n - 1)) (sh (upd gv j (gv m)) m (n - 1))).1 ∧ gv2 = (mb (bk b lv pt) (rd b lv + pt - 1) (n - 1) (n - 1) 0 (sh (upd gk j (gk m)) m (n - 1)) (sh (upd gv j (gv m)) m (n - 1))).2) ∨ (¬ (4 * (n - 1) < c * (rd b lv + pt) ∧ b < rd b lv + pt) ∧ l2 = lv ∧ p2 = pt ∧ gk2 = sh (upd gk j (gk m)) m (n - 1) ∧ gv2 = sh (upd gv j (gv m)) m (n - 1))))) ∧ hom b n2 l2 p2 gk2 gh2) :
    r1 = r2 ∧ n2 = n1 ∧ l2 = l1 ∧ p2 = p1 ∧ Rel b c pl bl nk (t + 1) n1 l1 p1 fk1 fv1 gk2 gv2 gh2 := by
  obtain ⟨ok, enk, hn, hnt, ak, av, hd, hh⟩ := R
  obtain ⟨h2, hh2⟩ := h2
  rcases h1 with ⟨hno, e1, e2, e3, e4, e5, e6⟩ | ⟨j, m, hj, hk, hl, e1, e2, h1⟩
  · rcases h2 with ⟨hno2, d1, d2, d3, d4, d5, d6⟩ | ⟨j2, m2, hj2, hk2, -⟩
    · subst e1 e2 e3 e4 e5 e6 d1 d2 d3 d4 d5 d6
      exact ⟨rfl, rfl, rfl, rfl, ok, enk, hn, by omega, ak, av, hd, hh2⟩
    · exact absurd (by rw [ak j2 hj2]; exact hk2) (hno j2 hj2)
  · rcases h2 with ⟨hno2, -⟩ | ⟨j2, m2, hj2, hk2, hl2, d1, d2, h2⟩
    · exact absurd (by rw [← ak j hj]; exact hk) (hno2 j hj)
    · have ej : j = j2 := hd j j2 hj hj2 (by rw [hk, ak j2 hj2, hk2])
      subst ej
      have em : m = m2 := last_eq hj ak hl hl2
      subst em
      have hm : m < n := hl.2.1
      have ck := cut_agree (j := j) hm ak
      have cv := cut_agree (j := j) hm av
      have dk : dst (mv (upd fk j (fk m)) m n) (n - 1) := dst_congr (fun x hx => (mv_ne (f := upd fk j (fk m)) (a := m) (n := n) (j := x) (by omega)).symm) (cut_dst hl.1 hm hd)
      rcases h1 with ⟨q1, q2, e3, e4, e5, e6⟩ | ⟨q1, e3, e4, e5, e6⟩
      · rcases h2 with ⟨z1, z2, d3, d4, d5, d6⟩ | ⟨z1, -⟩
        · subst e1 e2 e3 e4 e5 e6 d1 d2 d3 d4 d5 d6
          exact ⟨rfl, rfl, rfl, rfl, ok_bw (ok_n ok (by omega)) q2, enk, by omega, by omega, fun x hx => (mb_congr _ _ _ _ _ _ (by omega) ck cv x hx).1, fun x hx => (mb_congr _ _ _ _ _ _ (by omega) ck cv x hx).2, mb_dst _ _ _ _ (by omega) dk, hh2⟩
        · exact absurd ⟨q1, q2⟩ z1
      · rcases h2 with ⟨z1, z2, -⟩ | ⟨z1, d3, d4, d5, d6⟩
        · exact absurd ⟨z1, z2⟩ q1
        · subst e1 e2 e3 e4 e5 e6 d1 d2 d3 d4 d5 d6
          exact ⟨rfl, rfl, rfl, rfl, ok_n ok (by omega), enk, by omega, by omega, ck, cv, dk, hh2⟩
theorem rel_get {n : Nat} {fk fv gk gv : Nat → Int32} {k r1 r2 : Int32} (ak : ∀ j, j < n → fk j = gk j) (av : ∀ j, j < n → fv j = gv j) (hd : dst fk n) (h1 : (∃ j, j < n ∧ fk j = k ∧ r1 = fv j) ∨ ((∀ j, j < n → fk j ≠ k) ∧ r1 = nI 0)) (h2 : (∃ j, j < n ∧ gk j = k ∧ r2 = gv j) ∨ ((∀ j, j < n → gk j ≠ k) ∧ r2 = nI 0)) : r1 = r2 := by
  rcases h1 with ⟨j, hj, hk, e1⟩ | ⟨hno, e1⟩ <;> rcases h2 with ⟨j2, hj2, hk2, e2⟩ | ⟨hno2, e2⟩
  · have ej : j = j2 := hd j j2 hj hj2 (by rw [hk, ak j2 hj2, hk2])
    subst ej
    rw [e1, e2]; exact av j hj
  · exact absurd (by rw [← ak j hj]; exact hk) (hno2 j hj)
  · exact absurd (by rw [ak j2 hj2]; exact hk2) (hno j2 hj2)
  · rw [e1, e2]
theorem rel_has {n : Nat} {fk gk : Nat → Int32} {k r1 r2 : Int32} (ak : ∀ j, j < n → fk j = gk j) (h1 : r1 = bI (∃ j, j < n ∧ fk j = k)) (h2 : r2 = bI (∃ j, j < n ∧ gk j = k)) : r1 = r2 := by
  rw [h1, h2]
  exact bI_congr ⟨fun ⟨j, a1, a2⟩ => ⟨j, a1, by rw [← ak j a1]; exact a2⟩, fun ⟨j, a1, a2⟩ => ⟨j, a1, by rw [ak j a1]; exact a2⟩⟩
theorem rel_pages {b c n lv pt : Nat} {fk gk : Nat → Int32} {x r1 r2 : Int32} (ak : ∀ j, j < n → fk j = gk j) (hB : rd b lv + pt ≤ 200) (h1 : (∃ q, q < rd b lv + pt ∧ x = nI q ∧ r1 = nI (pg c (ct (fun j => bk b lv pt (fk j)) q n))) ∨ ((¬ ∃ q, q < rd b lv + pt ∧ x = nI q) ∧ r1 = -1)) (h2 : (∃ q, q < rd b lv + pt ∧ x = nI q ∧ r2 = nI (pg c (ct (fun j => bk b lv pt (gk j)) q n))) ∨ ((¬ ∃ q, q < rd b lv + pt ∧ x = nI q) ∧ r2 = -1)) : r1 = r2 := by
  rcases h1 with ⟨q, hq, ex, e1⟩ | ⟨hno, e1⟩ <;> rcases h2 with ⟨q2, hq2, ex2, e2⟩ | ⟨hno2, e2⟩
  · have eq : q = q2 := (nI_eq (by omega) (by omega)).mp (ex.symm.trans ex2)
    subst eq
    rw [e1, e2, ct_congr (g := fun j => bk b lv pt (fk j)) (g' := fun j => bk b lv pt (gk j)) (fun j hj => by rw [ak j hj])]
  · exact absurd ⟨q, hq, ex⟩ hno2
  · exact absurd ⟨q2, hq2, ex2⟩ hno
  · rw [e1, e2]
theorem rel_key {b n lv pt : Nat} {fk gk : Nat → Int32} {x y r1 r2 : Int32} (ak : ∀ j, j < n → fk j = gk j) (hB : rd b lv + pt ≤ 200) (h1 : keyP b n lv pt fk x y r1) (h2 : keyP b n lv pt gk x y r2) : r1 = r2 := by
  have hct : ∀ q i, i < n → ct (fun j => bk b lv pt (fk j)) q i = ct (fun j => bk b lv pt (gk j)) q i := fun q i hi => ct_congr (fun j hj => by rw [ak j (by omega)])
  rcases h1 with ⟨q, z, i, hq, ex, hz, ey, hi, hb, hc, hf, e1⟩ | ⟨hno, e1⟩ <;> rcases h2 with ⟨q2, z2, i2, hq2, ex2, hz2, ey2, hi2, hb2, hc2, hf2, e2⟩ | ⟨hno2, e2⟩
  · have eq : q = q2 := (nI_eq (by omega) (by omega)).mp (ex.symm.trans ex2)
    have ez : z = z2 := (nI_eq hz hz2).mp (ey.symm.trans ey2)
    subst eq; subst ez
    rcases Nat.lt_trichotomy i i2 with w | w | w
    · exact absurd (by rw [← hct q i hi]; exact hc) (hf2 i w (by rw [← ak i hi]; exact hb))
    · subst w; rw [e1, e2]; exact ak i hi
    · exact absurd (by rw [hct q i2 hi2]; exact hc2) (hf i2 w (by rw [ak i2 hi2]; exact hb2))
  · exact absurd (by rw [← hct q i hi]; exact hc) (hno2 q z i hq ex hz ey hi (by rw [← ak i hi]; exact hb))
  · exact absurd (by rw [hct q2 i2 hi2]; exact hc2) (hno q2 z2 i2 hq2 ex2 hz2 ey2 hi2 (by rw [ak i2 hi2]; exact hb2))
  · rw [e1, e2]
end
section
/-! the law's own rows -/
section GL
variable {K : gK} {R : Room} {nL cz sz pc : Nat} {cc : ByteArray} {own : String} {Ts : List Cond} {tys : List (ClassId × FieldType)} {lv : List (Nat × Value)} {st : List Value} {ws : va_W}
theorem g_swap {a b : va_W} (kk : G K cz sz pc lv st (b ++ a)) : G K cz sz pc lv st (a ++ b) := fun H locs ls hl hP hD hS => kk H locs ls hl (wp_swap hP) (wd_swap hD) hS
theorem g_sld {sb L i : Nat} {xs : Nat → Int32} (C : Cx K R nL cc own Ts tys) (hX : va_X sb L xs K.1.2.2.2.2 K.1.2.2.2.2.heap) (hbl : sb < K.1.2.2.2.2.heap.size) (hbA : ¬ K.2.2.2.2.1 sb) (hL : L < 2 ^ 31) (hdg : decode cc pc = .ok (.iaload, 1)) (hi : i < L) (kk : G K cz sz (pc + 1) lv (.int (xs i) :: st) ws) : G K cz sz pc lv (.int (nI i) :: .ref sb :: st) ws :=
  fun H locs ls hl hP hD hS => va_sld C.1 C.2.1 hX hbl hbA hS (vp_in_nI hi hL) hdg (by rw [nI_clamp (by omega)]; exact kk H locs ls hl hP hD hS)
theorem g_slen {sb L : Nat} {xs : Nat → Int32} (C : Cx K R nL cc own Ts tys) (hX : va_X sb L xs K.1.2.2.2.2 K.1.2.2.2.2.heap) (hbl : sb < K.1.2.2.2.2.heap.size) (hbA : ¬ K.2.2.2.2.1 sb) (hdg : decode cc pc = .ok (.arraylength, 1)) (kk : G K cz sz (pc + 1) lv (.int (nI L) :: st) ws) : G K cz sz pc lv (.ref sb :: st) ws :=
  fun H locs ls hl hP hD hS => va_slen C.1 C.2.1 hX hbl hbA hS hdg (kk H locs ls hl hP hD hS)
theorem g_tableIn (C : Cx K R nL cc own Ts tys) {dflt lo hi : Int} {offs : Array Int} {len : Nat} {x : Int32} {off : Int} (tgt : Nat) (hdg : decode cc pc = .ok (.tableswitch dflt lo hi offs, len)) (h1 : ¬ x.toInt < lo) (h2 : ¬ hi < x.toInt) (ho : offs[(x.toInt - lo).toNat]? = some off) (ht : (pc : Int) + off = (tgt : Int)) (kk : G K cz sz tgt lv st ws) : G K cz sz pc lv (.int x :: st) ws :=
  fun H locs ls hl hP hD hS => lv_tableIn C.1 C.2.1 hdg h1 h2 ho ht (kk H locs ls hl hP hD hS)
theorem g_tableOut (C : Cx K R nL cc own Ts tys) {dflt lo hi : Int} {offs : Array Int} {len : Nat} {x : Int32} (tgt : Nat) (hdg : decode cc pc = .ok (.tableswitch dflt lo hi offs, len)) (h : x.toInt < lo ∨ hi < x.toInt) (ht : (pc : Int) + dflt = (tgt : Int)) (kk : G K cz sz tgt lv st ws) : G K cz sz pc lv (.int x :: st) ws :=
  fun H locs ls hl hP hD hS => lv_tableOut C.1 C.2.1 hdg h ht (kk H locs ls hl hP hD hS)
theorem g_new (C : Cx K R nL cc own Ts tys) {Cn : String} {T : u_T} {N ci index : Nat} (hin : ∀ w ∈ u_ws Cn T N, w ∈ Ts) (ty : Nat → FieldType) (hty : ∀ k, k < N → parseFieldDescriptor (T k).2.2.1 = some (ty k)) (hm : ∀ w ∈ ([Cond.classLink own index Cn, Cond.instantiable Cn N, Cond.initialized Cn] : List Cond), w ∈ Ts) (hc : vwCl[ci]? = some (Cn, T, N)) {fs : List Value} (hfs : ∀ j, j < N → defaultValue (ty j) = vp_V fs j) (hdg : decode cc pc = .ok (.new index, 3)) (hR : cz + 1 ≤ R.cells ∧ sz + N ≤ R.slots)
    (kk : ∀ q : Nat, G K (cz + 1) (sz + N) (pc + 3) lv (.ref q :: st) (ws ++ [(q, .inr (ci, fs))])) : G K cz sz pc lv st ws := by
  intro H locs ls hl hP hD hS
  obtain ⟨hx, hb, hml, hown, hts, hK, hA, hR0, hnL⟩ := C
  have ok : ∀ w ∈ ([Cond.classLink own index Cn, Cond.instantiable Cn N, Cond.initialized Cn] : List Cond), w.before K.2.1.2.1 K.1.2.2.2.2 = true := fun w h => hts w (hm w h)
  exact va_new hx hb hts hin ty hty hown (ok _ (List.mem_of_getElem? (i := 0) rfl)) (ok _ (List.mem_of_getElem? (i := 1) rfl)) (ok _ (List.mem_of_getElem? (i := 2) rfl)) hK hP hD hS hA hc hfs (by rw [hR0]; exact hR.1) (by rw [hR0]; exact hR.2) hdg (fun q H1 hP1 hD1 hS1 => kk q H1 locs ls hl hP1 hD1 hS1)
end GL
def cellP (L : Nat) (xs : Nat → Int32) (k : Nat) : Int32 := if k < L then xs k else 0
set_option maxHeartbeats 4000000 in
set_option maxRecDepth 100000 in
theorem c_L_cell (l : Launch) (sb L : Nat) (xs : Nat → Int32) (hL : L < 2 ^ 31) (sz k : Nat) (hk : k < 2 ^ 31) : Met l yL_cell wsL_cell ({ frames := 0, cells := 0, slots := 0, locals := 0 } : Room) (va_Pc [.ref sb, .int (nI k)] (fun U => U.heap.size = sz ∧ sb < sz ∧ va_X sb L xs U U.heap)) (va_Qi (fun (r : Int32) (_ : Unit) => r = cellP L xs k) (fun _ _ => True) (fun q => sz ≤ q)) 0 0 (fun q => sz ≤ q) := by
  refine Met.ofW (cc := cL_cell) (maxL := 2) (ret := some .int) (by decide) rfl ?_
  intro p e s m args below meth c s₁ B hml hv
  obtain ⟨rfl, hsz, hbl, hX⟩ := hv
  have hx := B.exec
  have hb := B.bytes
  have hr := B.returns
  have hlocks := B.notSynchronized
  subst hsz
  have hbA : ¬ (fun q : Nat => s.heap.size ≤ q) sb := Nat.not_le.mpr hbl
  have hS : va_S (fun q : Nat => s.heap.size ≤ q) s.heap s.heap [] := va_S.rf
  have hl := lv_entry ([.ref sb, .int (nI k)]) (n := 2) (Nat.le_of_ble_eq_true rfl)
  rw [lg_entry_eq]
  generalize (lg_sl ([.ref sb, .int (nI k)]) ++ List.replicate (2 - (lg_sl ([.ref sb, .int (nI k)])).length) Slot.unset).toArray = ls at hl ⊢
  have hl : lv_has ls 2 [(0, .ref sb), (1, .int (nI k))] := hl
  refine lv_iload_n hx hb dL_cell_0 rfl (lv_at hl 1 rfl) ?_
  refine lv_aload_n hx hb dL_cell_1 rfl (lv_at hl 0 rfl) ?_
  refine va_slen hx hb hX hbl hbA hS dL_cell_2 ?_
  refine lv_icmp_ge (tgt := 12) hx hb dL_cell_3 (by decide) (fun h => ?_) (fun h => ?_)
  · have hn : ¬ k < L := Nat.not_lt.mpr ((nI_leI hL hk).mp h)
    refine lv_iconst (v := 0) hx hb dL_cell_12 (by decide) ?_
    exact W.iret (v := 0) hx hb hr (fun t ht hW => ⟨⟨0, (), rfl, by unfold cellP; rw [if_neg hn], trivial⟩, hS.F ht⟩) hS.2.2 dL_cell_13
  · have hn : k < L := Nat.lt_of_not_le (fun q => h ((nI_leI hL hk).mpr q))
    refine lv_aload_n hx hb dL_cell_6 rfl (lv_at hl 0 rfl) ?_
    refine lv_iload_n hx hb dL_cell_7 rfl (lv_at hl 1 rfl) ?_
    refine va_sld hx hb hX hbl hbA hS (vp_in_nI hn hL) dL_cell_8 ?_
    refine lv_goto (tgt := 13) hx hb dL_cell_9 (by decide) ?_
    exact W.iret (v := xs (nI k).toNatClampNeg) hx hb hr (fun t ht hW => ⟨⟨_, (), rfl, by unfold cellP; rw [if_pos hn, nI_clamp hk], trivial⟩, hS.F ht⟩) hS.2.2 dL_cell_13
theorem hdL_cell : yL_cell.cls ≠ "java/lang/invoke/MethodHandle" ∧ yL_cell.cls ≠ "java/lang/invoke/VarHandle" ∧ (parseMethodDescriptor yL_cell.desc).map (fun d => d.parameters.length) = some 2 := by decide +kernel
theorem g_cell {K : gK} {nL cz sz pc : Nat} {tys : List (ClassId × FieldType)} {lv : List (Nat × Value)} {rest : List Value} {ws : va_W} {sb L : Nat} {xs : Nat → Int32} (C : Cx K room_1 nL cL_law RL wsL_law tys) (hX : va_X sb L xs K.1.2.2.2.2 K.1.2.2.2.2.heap) (hbl : sb < K.1.2.2.2.2.heap.size) (hbA : ¬ K.2.2.2.2.1 sb) (hL : L < 2 ^ 31) (k : Nat) (hk : k < 2 ^ 31) (hR : cz ≤ 600000 ∧ sz ≤ 7302250) (hro : (rest.map fun v => v.category).sum ≤ 8) (hdg : decode cL_law pc = .ok (.invokestatic 9, 3))
    (kk : G K cz sz (pc + 3) lv (.int (cellP L xs k) :: rest) ws) : G K cz sz pc lv (.int (nI k) :: .ref sb :: rest) ws := by
  intro H locs ls hl hP hD hS
  obtain ⟨hx, hb, hml, hown, hts, hK, hA, hR0, hnL⟩ := C
  have hXH : va_X sb L xs K.1.2.2.2.2 H := hX.kept (hS.2.1 sb hbl hbA)
  have hF : ∀ q, H.size ≤ q → K.2.2.2.2.1 q := fun q h => hA q (Nat.le_trans hS.1 h)
  refine va_calli (va_runS (As := [.ref sb, .int (nI k)]) (rest := rest) ⟨hx, hb, hml, hown, hts⟩ (c_L_cell _ sb L xs hL H.size k hk) (va_cwS 2 hts gL_law_L_cell rfl rfl rfl hdL_cell (by rw [hR0]; decide)) ⟨fun a U g mk q => by
      obtain ⟨q0, q1, q2, q3⟩ := q
      exact ⟨q0, q1, q2, q3.moved (u := U) (U := U.calling g mk a) (Vm.Alike.refl U.vm)⟩, fun U hU hW => ⟨rfl, by rw [hU], Nat.lt_of_lt_of_le hbl hS.1, by rw [hU]; exact hXH.moved hW.alike⟩⟩ rfl rfl hl.1 rfl (lv_room hro) hdg (by rw [hR0]; exact hR)) hS (fun q _ h => hF q h) hF (fun r u t H1 locs1 ht hvm hpost _ hz1 hk1 hS1 => ?_)
  subst hpost
  exact kk H1 locs1 ls hl (hP.kept (fun j q hq => hk1 q.1 ((hP j q hq).lt) (Nat.not_le.mpr ((hP j q hq).lt)))) hD hS1
theorem hdX0_put : yX0_put.cls = RX0 ∧ yX0_put.cls ≠ "java/lang/invoke/MethodHandle" ∧ yX0_put.cls ≠ "java/lang/invoke/VarHandle" ∧ (parseMethodDescriptor yX0_put.desc).map (fun d => d.parameters.length) = some 2 := by decide +kernel
theorem hdX0_get : yX0_get.cls = RX0 ∧ yX0_get.cls ≠ "java/lang/invoke/MethodHandle" ∧ yX0_get.cls ≠ "java/lang/invoke/VarHandle" ∧ (parseMethodDescriptor yX0_get.desc).map (fun d => d.parameters.length) = some 1 := by decide +kernel
theorem hdX0_has : yX0_has.cls = RX0 ∧ yX0_has.cls ≠ "java/lang/invoke/MethodHandle" ∧ yX0_has.cls ≠ "java/lang/invoke/VarHandle" ∧ (parseMethodDescriptor yX0_has.desc).map (fun d => d.parameters.length) = some 1 := by decide +kernel
theorem hdX0_remove : yX0_remove.cls = RX0 ∧ yX0_remove.cls ≠ "java/lang/invoke/MethodHandle" ∧ yX0_remove.cls ≠ "java/lang/invoke/VarHandle" ∧ (parseMethodDescriptor yX0_remove.desc).map (fun d => d.parameters.length) = some 1 := by decide +kernel
theorem hdX0_size : yX0_size.cls = RX0 ∧ yX0_size.cls ≠ "java/lang/invoke/MethodHandle" ∧ yX0_size.cls ≠ "java/lang/invoke/VarHandle" ∧ (parseMethodDescriptor yX0_size.desc).map (fun d => d.parameters.length) = some 0 := by decide +kernel
theorem hdX0_level : yX0_level.cls = RX0 ∧ yX0_level.cls ≠ "java/lang/invoke/MethodHandle" ∧ yX0_level.cls ≠ "java/lang/invoke/VarHandle" ∧ (parseMethodDescriptor yX0_level.desc).map (fun d => d.parameters.length) = some 0 := by decide +kernel
theorem hdX0_pointer : yX0_pointer.cls = RX0 ∧ yX0_pointer.cls ≠ "java/lang/invoke/MethodHandle" ∧ yX0_pointer.cls ≠ "java/lang/invoke/VarHandle" ∧ (parseMethodDescriptor yX0_pointer.desc).map (fun d => d.parameters.length) = some 0 := by decide +kernel
theorem hdX0_pages : yX0_pages.cls = RX0 ∧ yX0_pages.cls ≠ "java/lang/invoke/MethodHandle" ∧ yX0_pages.cls ≠ "java/lang/invoke/VarHandle" ∧ (parseMethodDescriptor yX0_pages.desc).map (fun d => d.parameters.length) = some 1 := by decide +kernel
theorem hdX0_free : yX0_free.cls = RX0 ∧ yX0_free.cls ≠ "java/lang/invoke/MethodHandle" ∧ yX0_free.cls ≠ "java/lang/invoke/VarHandle" ∧ (parseMethodDescriptor yX0_free.desc).map (fun d => d.parameters.length) = some 0 := by decide +kernel
theorem hdX0_key : yX0_key.cls = RX0 ∧ yX0_key.cls ≠ "java/lang/invoke/MethodHandle" ∧ yX0_key.cls ≠ "java/lang/invoke/VarHandle" ∧ (parseMethodDescriptor yX0_key.desc).map (fun d => d.parameters.length) = some 2 := by decide +kernel
theorem hdX0_clear : yX0_clear.cls = RX0 ∧ yX0_clear.cls ≠ "java/lang/invoke/MethodHandle" ∧ yX0_clear.cls ≠ "java/lang/invoke/VarHandle" ∧ (parseMethodDescriptor yX0_clear.desc).map (fun d => d.parameters.length) = some 0 := by decide +kernel
theorem hcX0_init : yX0_init.cls ≠ "java/lang/invoke/MethodHandle" ∧ yX0_init.cls ≠ "java/lang/invoke/VarHandle" ∧ (parseMethodDescriptor yX0_init.desc).map (fun d => d.parameters.length) = some 4 := by decide +kernel
theorem hdX1_put : yX1_put.cls = RX1 ∧ yX1_put.cls ≠ "java/lang/invoke/MethodHandle" ∧ yX1_put.cls ≠ "java/lang/invoke/VarHandle" ∧ (parseMethodDescriptor yX1_put.desc).map (fun d => d.parameters.length) = some 2 := by decide +kernel
theorem hdX1_get : yX1_get.cls = RX1 ∧ yX1_get.cls ≠ "java/lang/invoke/MethodHandle" ∧ yX1_get.cls ≠ "java/lang/invoke/VarHandle" ∧ (parseMethodDescriptor yX1_get.desc).map (fun d => d.parameters.length) = some 1 := by decide +kernel
theorem hdX1_has : yX1_has.cls = RX1 ∧ yX1_has.cls ≠ "java/lang/invoke/MethodHandle" ∧ yX1_has.cls ≠ "java/lang/invoke/VarHandle" ∧ (parseMethodDescriptor yX1_has.desc).map (fun d => d.parameters.length) = some 1 := by decide +kernel
theorem hdX1_remove : yX1_remove.cls = RX1 ∧ yX1_remove.cls ≠ "java/lang/invoke/MethodHandle" ∧ yX1_remove.cls ≠ "java/lang/invoke/VarHandle" ∧ (parseMethodDescriptor yX1_remove.desc).map (fun d => d.parameters.length) = some 1 := by decide +kernel
theorem hdX1_size : yX1_size.cls = RX1 ∧ yX1_size.cls ≠ "java/lang/invoke/MethodHandle" ∧ yX1_size.cls ≠ "java/lang/invoke/VarHandle" ∧ (parseMethodDescriptor yX1_size.desc).map (fun d => d.parameters.length) = some 0 := by decide +kernel
theorem hdX1_level : yX1_level.cls = RX1 ∧ yX1_level.cls ≠ "java/lang/invoke/MethodHandle" ∧ yX1_level.cls ≠ "java/lang/invoke/VarHandle" ∧ (parseMethodDescriptor yX1_level.desc).map (fun d => d.parameters.length) = some 0 := by decide +kernel
theorem hdX1_pointer : yX1_pointer.cls = RX1 ∧ yX1_pointer.cls ≠ "java/lang/invoke/MethodHandle" ∧ yX1_pointer.cls ≠ "java/lang/invoke/VarHandle" ∧ (parseMethodDescriptor yX1_pointer.desc).map (fun d => d.parameters.length) = some 0 := by decide +kernel
theorem hdX1_pages : yX1_pages.cls = RX1 ∧ yX1_pages.cls ≠ "java/lang/invoke/MethodHandle" ∧ yX1_pages.cls ≠ "java/lang/invoke/VarHandle" ∧ (parseMethodDescriptor yX1_pages.desc).map (fun d => d.parameters.length) = some 1 := by decide +kernel
theorem hdX1_free : yX1_free.cls = RX1 ∧ yX1_free.cls ≠ "java/lang/invoke/MethodHandle" ∧ yX1_free.cls ≠ "java/lang/invoke/VarHandle" ∧ (parseMethodDescriptor yX1_free.desc).map (fun d => d.parameters.length) = some 0 := by decide +kernel
theorem hdX1_key : yX1_key.cls = RX1 ∧ yX1_key.cls ≠ "java/lang/invoke/MethodHandle" ∧ yX1_key.cls ≠ "java/lang/invoke/VarHandle" ∧ (parseMethodDescriptor yX1_key.desc).map (fun d => d.parameters.length) = some 2 := by decide +kernel
theorem hdX1_clear : yX1_clear.cls = RX1 ∧ yX1_clear.cls ≠ "java/lang/invoke/MethodHandle" ∧ yX1_clear.cls ≠ "java/lang/invoke/VarHandle" ∧ (parseMethodDescriptor yX1_clear.desc).map (fun d => d.parameters.length) = some 0 := by decide +kernel
theorem hcX1_init : yX1_init.cls ≠ "java/lang/invoke/MethodHandle" ∧ yX1_init.cls ≠ "java/lang/invoke/VarHandle" ∧ (parseMethodDescriptor yX1_init.desc).map (fun d => d.parameters.length) = some 4 := by decide +kernel
end
section
/-! the law's loop: t calls are done -/
set_option maxHeartbeats 8000000 in
set_option maxRecDepth 100000 in
theorem law_loop {K : gK} {cA : ClassId} {sb L : Nat} {xs : Nat → Int32} (C : Cx K room_1 4 cL_law RL wsL_law [(cA, .int)]) (hX : va_X sb L xs K.1.2.2.2.2 K.1.2.2.2.2.heap) (hbl : sb < K.1.2.2.2.2.heap.size) (hbA : ¬ K.2.2.2.2.1 sb) (hL : L ≤ 1540) (hend : ∀ lv ws, G K 600000 7302250 404 lv [.int 1] ws) {h0 hk hv hr g0 ak av ah ac b c pl bl nk : Nat} :
    ∀ (f t n lv pt : Nat) (fk fv fr gk gv gh gc : Nat → Int32), L < 4 + 3 * t + f → t ≤ 513 → Rel b c pl bl nk t n lv pt fk fv gk gv gh → G K 9 8648 58 [(3, .int (nI (4 + 3 * t))), (0, .ref sb), (1, .ref h0), (2, .ref g0)] [] (wX h0 hk hv hr cA nk bl b c pl bl n lv pt fk fv fr ++ wM g0 ak av ah ac cA b c pl bl n lv pt gk gv gh gc) := by
  intro f
  induction f with
  | zero =>
    intro t n lv pt fk fv fr gk gv gh gc hf ht R0
    refine g_iload_n C dL_law_58 0 rfl rfl ?_
    refine g_aload_n C dL_law_59 1 rfl rfl ?_
    refine g_slen C hX hbl hbA dL_law_60 ?_
    refine g_iconst (v := nI 3) C dL_law_61 (by decide) ?_
    refine g_isubI C dL_law_62 ?_
    refine g_icmp_gtI C 403 dL_law_63 (by decide) (fun h63 => ?_) (fun h63 => ?_)
    · refine g_iconst (v := 1) C dL_law_403 (by decide) ?_
      exact g_widen (by omega) (by omega) (hend _ _)
    · rw [Int32.lt_iff_toInt_lt, pk_sub_toInt (by omega) (by omega), nI_toInt (by omega)] at h63
      exact absurd hf (by omega)
  | succ f ih =>
    intro t n lv pt fk fv fr gk gv gh gc hf ht R0
    refine g_iload_n C dL_law_58 0 rfl rfl ?_
    refine g_aload_n C dL_law_59 1 rfl rfl ?_
    refine g_slen C hX hbl hbA dL_law_60 ?_
    refine g_iconst (v := nI 3) C dL_law_61 (by decide) ?_
    refine g_isubI C dL_law_62 ?_
    refine g_icmp_gtI C 403 dL_law_63 (by decide) (fun h63 => ?_) (fun h63 => ?_)
    · refine g_iconst (v := 1) C dL_law_403 (by decide) ?_
      exact g_widen (by omega) (by omega) (hend _ _)
    rw [Int32.lt_iff_toInt_lt, pk_sub_toInt (by omega) (by omega), nI_toInt (by omega)] at h63
    have hi : 4 + 3 * t + 3 ≤ L := by omega
    obtain ⟨ok, enk, hn, hnt, ak1, av1, hd, hho⟩ := id R0
    obtain ⟨o1, o2, o3, o4, o5, o6, o7, o8, o9, o10, o11, o12⟩ := id ok
    have hnk : nk ≤ 512 := by rw [enk]; exact Nat.min_le_right _ _
    have hx : n ≤ nk ∧ nk ≤ 512 ∧ bl = bl := ⟨hn, hnk, rfl⟩
    have tail : ∀ (n lv pt : Nat) (fk fv fr gk gv gh gc : Nat → Int32), Rel b c pl bl nk (t + 1) n lv pt fk fv gk gv gh → G K 9 8648 397 [(3, .int (nI (4 + 3 * t))), (0, .ref sb), (1, .ref h0), (2, .ref g0)] [] (wX h0 hk hv hr cA nk bl b c pl bl n lv pt fk fv fr ++ wM g0 ak av ah ac cA b c pl bl n lv pt gk gv gh gc) := by
      intro n lv pt fk fv fr gk gv gh gc R1
      refine g_iinc (v := nI (4 + 3 * (t + 1))) (lv' := [(3, .int (nI (4 + 3 * (t + 1)))), (0, .ref sb), (1, .ref h0), (2, .ref g0)]) C dL_law_397 0 rfl (by rw [show 4 + 3 * (t + 1) = 4 + 3 * t + 3 by omega]; exact nI_add _ 3) (by decide) rfl ?_
      refine g_goto C 58 dL_law_400 (by decide) ?_
      exact ih (t + 1) n lv pt fk fv fr gk gv gh gc (by omega) (by omega) R1
    refine g_aload_n C dL_law_66 1 rfl rfl ?_
    refine g_iload_n C dL_law_67 0 rfl rfl ?_
    refine g_sld C hX hbl hbA (by omega) dL_law_68 (by omega) ?_
    refine g_bipush (v := nI 15) C dL_law_69 (by decide) ?_
    refine g_iand C dL_law_71 ?_
    obtain ⟨op, hop, eop⟩ := pk_andE (xs (4 + 3 * t)) (m := nI 15) 4 (by decide)
    refine g_top eop ?_
    rcases (show op = 0 ∨ op = 1 ∨ op = 2 ∨ op = 3 ∨ op = 4 ∨ op = 5 ∨ op = 6 ∨ op = 7 ∨ op = 8 ∨ op = 9 ∨ op = 10 ∨ op = 11 ∨ op = 12 ∨ 13 ≤ op by omega) with rfl | rfl | rfl | rfl | rfl | rfl | rfl | rfl | rfl | rfl | rfl | rfl | rfl | hbig
    · refine g_tableIn C 140 dL_law_72 (by decide) (by decide) rfl (by decide) ?_
      refine g_aload_n C dL_law_140 2 rfl rfl ?_
      refine g_aload_n C dL_law_141 1 rfl rfl ?_
      refine g_iload_n C dL_law_142 0 rfl rfl ?_
      refine g_iconst (v := nI 1) C dL_law_143 (by decide) ?_
      refine g_iadd C dL_law_144 ?_
      refine g_sld C hX hbl hbA (by omega) dL_law_145 (by omega) ?_
      refine g_aload_n C dL_law_146 1 rfl rfl ?_
      refine g_iload_n C dL_law_147 0 rfl rfl ?_
      refine g_iconst (v := nI 2) C dL_law_148 (by decide) ?_
      refine g_iadd C dL_law_149 ?_
      refine g_sld C hX hbl hbA (by omega) dL_law_150 (by omega) ?_
      refine g_swap ?_
      refine g_callI (wM g0 ak av ah ac cA b c pl bl n lv pt gk gv gh gc) (ci := 0) (q0 := 0) (rest := []) C (c_X0_put _ _ ok hx (xs (4 + 3 * t + 1)) (xs (4 + 3 * t + 2))) gL_law_X0_put rfl rfl rfl hdX0_put (by decide) rfl rfl rfl rfl (Nat.le_of_ble_eq_true rfl) dL_law_151 (fun r1 ⟨n1, l1, p1, fk1, fv1, fr1⟩ hw1 => ?_)
      refine g_swap ?_
      show G K 9 8648 154 [(3, .int (nI (4 + 3 * t))), (0, .ref sb), (1, .ref h0), (2, .ref g0)] [.int r1] (wX h0 hk hv hr cA nk bl b c pl bl n1 l1 p1 fk1 fv1 fr1 ++ wM g0 ak av ah ac cA b c pl bl n lv pt gk gv gh gc)
      refine g_aload_n C dL_law_154 3 rfl rfl ?_
      refine g_aload_n C dL_law_155 1 rfl rfl ?_
      refine g_iload_n C dL_law_156 0 rfl rfl ?_
      refine g_iconst (v := nI 1) C dL_law_157 (by decide) ?_
      refine g_iadd C dL_law_158 ?_
      refine g_sld C hX hbl hbA (by omega) dL_law_159 (by omega) ?_
      refine g_aload_n C dL_law_160 1 rfl rfl ?_
      refine g_iload_n C dL_law_161 0 rfl rfl ?_
      refine g_iconst (v := nI 2) C dL_law_162 (by decide) ?_
      refine g_iadd C dL_law_163 ?_
      refine g_sld C hX hbl hbA (by omega) dL_law_164 (by omega) ?_
      refine g_callI (wX h0 hk hv hr cA nk bl b c pl bl n1 l1 p1 fk1 fv1 fr1) (ci := 1) (q0 := 0) (rest := [.int r1]) C (c_X1_put _ _ ok (xs (4 + 3 * t + 1)) (xs (4 + 3 * t + 2)) (by omega) hho) gL_law_X1_put rfl rfl rfl hdX1_put (by decide) rfl rfl rfl rfl (Nat.le_of_ble_eq_true rfl) dL_law_165 (fun r2 ⟨n2, l2, p2, gk2, gv2, gh2, gc2⟩ hw2 => ?_)
      show G K 9 8648 168 [(3, .int (nI (4 + 3 * t))), (0, .ref sb), (1, .ref h0), (2, .ref g0)] [.int r2, .int r1] (wX h0 hk hv hr cA nk bl b c pl bl n1 l1 p1 fk1 fv1 fr1 ++ wM g0 ak av ah ac cA b c pl bl n2 l2 p2 gk2 gv2 gh2 gc2)
      obtain ⟨er, en, el, ep, R1⟩ := rel_put R0 (by omega) hw1 hw2
      subst en el ep
      refine g_icmp_eqI C 397 dL_law_168 (by decide) (fun _ => ?_) (fun hne => absurd er hne)
      exact tail _ _ _ _ _ _ _ _ _ _ R1
    · refine g_tableIn C 173 dL_law_72 (by decide) (by decide) rfl (by decide) ?_
      refine g_aload_n C dL_law_173 2 rfl rfl ?_
      refine g_aload_n C dL_law_174 1 rfl rfl ?_
      refine g_iload_n C dL_law_175 0 rfl rfl ?_
      refine g_iconst (v := nI 1) C dL_law_176 (by decide) ?_
      refine g_iadd C dL_law_177 ?_
      refine g_sld C hX hbl hbA (by omega) dL_law_178 (by omega) ?_
      refine g_swap ?_
      refine g_callI (wM g0 ak av ah ac cA b c pl bl n lv pt gk gv gh gc) (ci := 0) (q0 := 0) (rest := []) C (c_X0_get _ _ ok hx (xs (4 + 3 * t + 1))) gL_law_X0_get rfl rfl rfl hdX0_get (by decide) rfl rfl rfl rfl (Nat.le_of_ble_eq_true rfl) dL_law_179 (fun r1 _ hw1 => ?_)
      refine g_swap ?_
      show G K 9 8648 182 [(3, .int (nI (4 + 3 * t))), (0, .ref sb), (1, .ref h0), (2, .ref g0)] [.int r1] (wX h0 hk hv hr cA nk bl b c pl bl n lv pt fk fv fr ++ wM g0 ak av ah ac cA b c pl bl n lv pt gk gv gh gc)
      refine g_aload_n C dL_law_182 3 rfl rfl ?_
      refine g_aload_n C dL_law_183 1 rfl rfl ?_
      refine g_iload_n C dL_law_184 0 rfl rfl ?_
      refine g_iconst (v := nI 1) C dL_law_185 (by decide) ?_
      refine g_iadd C dL_law_186 ?_
      refine g_sld C hX hbl hbA (by omega) dL_law_187 (by omega) ?_
      refine g_callI (wX h0 hk hv hr cA nk bl b c pl bl n lv pt fk fv fr) (ci := 1) (q0 := 0) (rest := [.int r1]) C (c_X1_get _ _ ok (xs (4 + 3 * t + 1))) gL_law_X1_get rfl rfl rfl hdX1_get (by decide) rfl rfl rfl rfl (Nat.le_of_ble_eq_true rfl) dL_law_188 (fun r2 _ hw2 => ?_)
      show G K 9 8648 191 [(3, .int (nI (4 + 3 * t))), (0, .ref sb), (1, .ref h0), (2, .ref g0)] [.int r2, .int r1] (wX h0 hk hv hr cA nk bl b c pl bl n lv pt fk fv fr ++ wM g0 ak av ah ac cA b c pl bl n lv pt gk gv gh gc)
      have er : r1 = r2 := rel_get ak1 av1 hd hw1 hw2
      have R1 := R0.later
      refine g_icmp_eqI C 397 dL_law_191 (by decide) (fun _ => ?_) (fun hne => absurd er hne)
      exact tail _ _ _ _ _ _ _ _ _ _ R1
    · refine g_tableIn C 196 dL_law_72 (by decide) (by decide) rfl (by decide) ?_
      refine g_aload_n C dL_law_196 2 rfl rfl ?_
      refine g_aload_n C dL_law_197 1 rfl rfl ?_
      refine g_iload_n C dL_law_198 0 rfl rfl ?_
      refine g_iconst (v := nI 1) C dL_law_199 (by decide) ?_
      refine g_iadd C dL_law_200 ?_
      refine g_sld C hX hbl hbA (by omega) dL_law_201 (by omega) ?_
      refine g_swap ?_
      refine g_callI (wM g0 ak av ah ac cA b c pl bl n lv pt gk gv gh gc) (ci := 0) (q0 := 0) (rest := []) C (c_X0_has _ _ ok hx (xs (4 + 3 * t + 1))) gL_law_X0_has rfl rfl rfl hdX0_has (by decide) rfl rfl rfl rfl (Nat.le_of_ble_eq_true rfl) dL_law_202 (fun r1 _ hw1 => ?_)
      refine g_swap ?_
      show G K 9 8648 205 [(3, .int (nI (4 + 3 * t))), (0, .ref sb), (1, .ref h0), (2, .ref g0)] [.int r1] (wX h0 hk hv hr cA nk bl b c pl bl n lv pt fk fv fr ++ wM g0 ak av ah ac cA b c pl bl n lv pt gk gv gh gc)
      refine g_aload_n C dL_law_205 3 rfl rfl ?_
      refine g_aload_n C dL_law_206 1 rfl rfl ?_
      refine g_iload_n C dL_law_207 0 rfl rfl ?_
      refine g_iconst (v := nI 1) C dL_law_208 (by decide) ?_
      refine g_iadd C dL_law_209 ?_
      refine g_sld C hX hbl hbA (by omega) dL_law_210 (by omega) ?_
      refine g_callI (wX h0 hk hv hr cA nk bl b c pl bl n lv pt fk fv fr) (ci := 1) (q0 := 0) (rest := [.int r1]) C (c_X1_has _ _ ok (xs (4 + 3 * t + 1))) gL_law_X1_has rfl rfl rfl hdX1_has (by decide) rfl rfl rfl rfl (Nat.le_of_ble_eq_true rfl) dL_law_211 (fun r2 _ hw2 => ?_)
      show G K 9 8648 214 [(3, .int (nI (4 + 3 * t))), (0, .ref sb), (1, .ref h0), (2, .ref g0)] [.int r2, .int r1] (wX h0 hk hv hr cA nk bl b c pl bl n lv pt fk fv fr ++ wM g0 ak av ah ac cA b c pl bl n lv pt gk gv gh gc)
      have er : r1 = r2 := rel_has ak1 hw1 hw2
      have R1 := R0.later
      refine g_icmp_eqI C 397 dL_law_214 (by decide) (fun _ => ?_) (fun hne => absurd er hne)
      exact tail _ _ _ _ _ _ _ _ _ _ R1
    · refine g_tableIn C 219 dL_law_72 (by decide) (by decide) rfl (by decide) ?_
      refine g_aload_n C dL_law_219 2 rfl rfl ?_
      refine g_aload_n C dL_law_220 1 rfl rfl ?_
      refine g_iload_n C dL_law_221 0 rfl rfl ?_
      refine g_iconst (v := nI 1) C dL_law_222 (by decide) ?_
      refine g_iadd C dL_law_223 ?_
      refine g_sld C hX hbl hbA (by omega) dL_law_224 (by omega) ?_
      refine g_swap ?_
      refine g_callI (wM g0 ak av ah ac cA b c pl bl n lv pt gk gv gh gc) (ci := 0) (q0 := 0) (rest := []) C (c_X0_remove _ _ ok hx (xs (4 + 3 * t + 1))) gL_law_X0_remove rfl rfl rfl hdX0_remove (by decide) rfl rfl rfl rfl (Nat.le_of_ble_eq_true rfl) dL_law_225 (fun r1 ⟨n1, l1, p1, fk1, fv1, fr1⟩ hw1 => ?_)
      refine g_swap ?_
      show G K 9 8648 228 [(3, .int (nI (4 + 3 * t))), (0, .ref sb), (1, .ref h0), (2, .ref g0)] [.int r1] (wX h0 hk hv hr cA nk bl b c pl bl n1 l1 p1 fk1 fv1 fr1 ++ wM g0 ak av ah ac cA b c pl bl n lv pt gk gv gh gc)
      refine g_aload_n C dL_law_228 3 rfl rfl ?_
      refine g_aload_n C dL_law_229 1 rfl rfl ?_
      refine g_iload_n C dL_law_230 0 rfl rfl ?_
      refine g_iconst (v := nI 1) C dL_law_231 (by decide) ?_
      refine g_iadd C dL_law_232 ?_
      refine g_sld C hX hbl hbA (by omega) dL_law_233 (by omega) ?_
      refine g_callI (wX h0 hk hv hr cA nk bl b c pl bl n1 l1 p1 fk1 fv1 fr1) (ci := 1) (q0 := 0) (rest := [.int r1]) C (c_X1_remove _ _ ok (xs (4 + 3 * t + 1)) hho) gL_law_X1_remove rfl rfl rfl hdX1_remove (by decide) rfl rfl rfl rfl (Nat.le_of_ble_eq_true rfl) dL_law_234 (fun r2 ⟨n2, l2, p2, gk2, gv2, gh2, gc2⟩ hw2 => ?_)
      show G K 9 8648 237 [(3, .int (nI (4 + 3 * t))), (0, .ref sb), (1, .ref h0), (2, .ref g0)] [.int r2, .int r1] (wX h0 hk hv hr cA nk bl b c pl bl n1 l1 p1 fk1 fv1 fr1 ++ wM g0 ak av ah ac cA b c pl bl n2 l2 p2 gk2 gv2 gh2 gc2)
      obtain ⟨er, en, el, ep, R1⟩ := rel_rem R0 hw1 hw2
      subst en el ep
      refine g_icmp_eqI C 397 dL_law_237 (by decide) (fun _ => ?_) (fun hne => absurd er hne)
      exact tail _ _ _ _ _ _ _ _ _ _ R1
    · refine g_tableIn C 242 dL_law_72 (by decide) (by decide) rfl (by decide) ?_
      refine g_aload_n C dL_law_242 2 rfl rfl ?_
      refine g_swap ?_
      refine g_callI (wM g0 ak av ah ac cA b c pl bl n lv pt gk gv gh gc) (ci := 0) (q0 := 0) (rest := []) C (c_X0_size _ _ ok hx) gL_law_X0_size rfl rfl rfl hdX0_size (by decide) rfl rfl rfl rfl (Nat.le_of_ble_eq_true rfl) dL_law_243 (fun r1 _ hw1 => ?_)
      refine g_swap ?_
      show G K 9 8648 246 [(3, .int (nI (4 + 3 * t))), (0, .ref sb), (1, .ref h0), (2, .ref g0)] [.int r1] (wX h0 hk hv hr cA nk bl b c pl bl n lv pt fk fv fr ++ wM g0 ak av ah ac cA b c pl bl n lv pt gk gv gh gc)
      refine g_aload_n C dL_law_246 3 rfl rfl ?_
      refine g_callI (wX h0 hk hv hr cA nk bl b c pl bl n lv pt fk fv fr) (ci := 1) (q0 := 0) (rest := [.int r1]) C (c_X1_size _ _ ok) gL_law_X1_size rfl rfl rfl hdX1_size (by decide) rfl rfl rfl rfl (Nat.le_of_ble_eq_true rfl) dL_law_247 (fun r2 _ hw2 => ?_)
      show G K 9 8648 250 [(3, .int (nI (4 + 3 * t))), (0, .ref sb), (1, .ref h0), (2, .ref g0)] [.int r2, .int r1] (wX h0 hk hv hr cA nk bl b c pl bl n lv pt fk fv fr ++ wM g0 ak av ah ac cA b c pl bl n lv pt gk gv gh gc)
      have er : r1 = r2 := hw1.trans hw2.symm
      have R1 := R0.later
      refine g_icmp_eqI C 397 dL_law_250 (by decide) (fun _ => ?_) (fun hne => absurd er hne)
      exact tail _ _ _ _ _ _ _ _ _ _ R1
    · refine g_tableIn C 255 dL_law_72 (by decide) (by decide) rfl (by decide) ?_
      refine g_aload_n C dL_law_255 2 rfl rfl ?_
      refine g_swap ?_
      refine g_callI (wM g0 ak av ah ac cA b c pl bl n lv pt gk gv gh gc) (ci := 0) (q0 := 0) (rest := []) C (c_X0_buckets _ _ ok hx) gL_law_X0_buckets rfl rfl rfl hdX0_buckets (by decide) rfl rfl rfl rfl (Nat.le_of_ble_eq_true rfl) dL_law_256 (fun r1 _ hw1 => ?_)
      refine g_swap ?_
      show G K 9 8648 259 [(3, .int (nI (4 + 3 * t))), (0, .ref sb), (1, .ref h0), (2, .ref g0)] [.int r1] (wX h0 hk hv hr cA nk bl b c pl bl n lv pt fk fv fr ++ wM g0 ak av ah ac cA b c pl bl n lv pt gk gv gh gc)
      refine g_aload_n C dL_law_259 3 rfl rfl ?_
      refine g_callI (wX h0 hk hv hr cA nk bl b c pl bl n lv pt fk fv fr) (ci := 1) (q0 := 0) (rest := [.int r1]) C (c_X1_buckets _ _ ok) gL_law_X1_buckets rfl rfl rfl hdX1_buckets (by decide) rfl rfl rfl rfl (Nat.le_of_ble_eq_true rfl) dL_law_260 (fun r2 _ hw2 => ?_)
      show G K 9 8648 263 [(3, .int (nI (4 + 3 * t))), (0, .ref sb), (1, .ref h0), (2, .ref g0)] [.int r2, .int r1] (wX h0 hk hv hr cA nk bl b c pl bl n lv pt fk fv fr ++ wM g0 ak av ah ac cA b c pl bl n lv pt gk gv gh gc)
      have er : r1 = r2 := hw1.trans hw2.symm
      have R1 := R0.later
      refine g_icmp_eqI C 397 dL_law_263 (by decide) (fun _ => ?_) (fun hne => absurd er hne)
      exact tail _ _ _ _ _ _ _ _ _ _ R1
    · refine g_tableIn C 268 dL_law_72 (by decide) (by decide) rfl (by decide) ?_
      refine g_aload_n C dL_law_268 2 rfl rfl ?_
      refine g_swap ?_
      refine g_callI (wM g0 ak av ah ac cA b c pl bl n lv pt gk gv gh gc) (ci := 0) (q0 := 0) (rest := []) C (c_X0_level _ _ ok hx) gL_law_X0_level rfl rfl rfl hdX0_level (by decide) rfl rfl rfl rfl (Nat.le_of_ble_eq_true rfl) dL_law_269 (fun r1 _ hw1 => ?_)
      refine g_swap ?_
      show G K 9 8648 272 [(3, .int (nI (4 + 3 * t))), (0, .ref sb), (1, .ref h0), (2, .ref g0)] [.int r1] (wX h0 hk hv hr cA nk bl b c pl bl n lv pt fk fv fr ++ wM g0 ak av ah ac cA b c pl bl n lv pt gk gv gh gc)
      refine g_aload_n C dL_law_272 3 rfl rfl ?_
      refine g_callI (wX h0 hk hv hr cA nk bl b c pl bl n lv pt fk fv fr) (ci := 1) (q0 := 0) (rest := [.int r1]) C (c_X1_level _ _ ok) gL_law_X1_level rfl rfl rfl hdX1_level (by decide) rfl rfl rfl rfl (Nat.le_of_ble_eq_true rfl) dL_law_273 (fun r2 _ hw2 => ?_)
      show G K 9 8648 276 [(3, .int (nI (4 + 3 * t))), (0, .ref sb), (1, .ref h0), (2, .ref g0)] [.int r2, .int r1] (wX h0 hk hv hr cA nk bl b c pl bl n lv pt fk fv fr ++ wM g0 ak av ah ac cA b c pl bl n lv pt gk gv gh gc)
      have er : r1 = r2 := hw1.trans hw2.symm
      have R1 := R0.later
      refine g_icmp_eqI C 397 dL_law_276 (by decide) (fun _ => ?_) (fun hne => absurd er hne)
      exact tail _ _ _ _ _ _ _ _ _ _ R1
    · refine g_tableIn C 281 dL_law_72 (by decide) (by decide) rfl (by decide) ?_
      refine g_aload_n C dL_law_281 2 rfl rfl ?_
      refine g_swap ?_
      refine g_callI (wM g0 ak av ah ac cA b c pl bl n lv pt gk gv gh gc) (ci := 0) (q0 := 0) (rest := []) C (c_X0_pointer _ _ ok hx) gL_law_X0_pointer rfl rfl rfl hdX0_pointer (by decide) rfl rfl rfl rfl (Nat.le_of_ble_eq_true rfl) dL_law_282 (fun r1 _ hw1 => ?_)
      refine g_swap ?_
      show G K 9 8648 285 [(3, .int (nI (4 + 3 * t))), (0, .ref sb), (1, .ref h0), (2, .ref g0)] [.int r1] (wX h0 hk hv hr cA nk bl b c pl bl n lv pt fk fv fr ++ wM g0 ak av ah ac cA b c pl bl n lv pt gk gv gh gc)
      refine g_aload_n C dL_law_285 3 rfl rfl ?_
      refine g_callI (wX h0 hk hv hr cA nk bl b c pl bl n lv pt fk fv fr) (ci := 1) (q0 := 0) (rest := [.int r1]) C (c_X1_pointer _ _ ok) gL_law_X1_pointer rfl rfl rfl hdX1_pointer (by decide) rfl rfl rfl rfl (Nat.le_of_ble_eq_true rfl) dL_law_286 (fun r2 _ hw2 => ?_)
      show G K 9 8648 289 [(3, .int (nI (4 + 3 * t))), (0, .ref sb), (1, .ref h0), (2, .ref g0)] [.int r2, .int r1] (wX h0 hk hv hr cA nk bl b c pl bl n lv pt fk fv fr ++ wM g0 ak av ah ac cA b c pl bl n lv pt gk gv gh gc)
      have er : r1 = r2 := hw1.trans hw2.symm
      have R1 := R0.later
      refine g_icmp_eqI C 397 dL_law_289 (by decide) (fun _ => ?_) (fun hne => absurd er hne)
      exact tail _ _ _ _ _ _ _ _ _ _ R1
    · refine g_tableIn C 294 dL_law_72 (by decide) (by decide) rfl (by decide) ?_
      refine g_aload_n C dL_law_294 2 rfl rfl ?_
      refine g_aload_n C dL_law_295 1 rfl rfl ?_
      refine g_iload_n C dL_law_296 0 rfl rfl ?_
      refine g_iconst (v := nI 1) C dL_law_297 (by decide) ?_
      refine g_iadd C dL_law_298 ?_
      refine g_sld C hX hbl hbA (by omega) dL_law_299 (by omega) ?_
      refine g_swap ?_
      refine g_callI (wM g0 ak av ah ac cA b c pl bl n lv pt gk gv gh gc) (ci := 0) (q0 := 0) (rest := []) C (c_X0_bucketOf _ _ ok hx (xs (4 + 3 * t + 1))) gL_law_X0_bucketOf rfl rfl rfl hdX0_bucketOf (by decide) rfl rfl rfl rfl (Nat.le_of_ble_eq_true rfl) dL_law_300 (fun r1 _ hw1 => ?_)
      refine g_swap ?_
      show G K 9 8648 303 [(3, .int (nI (4 + 3 * t))), (0, .ref sb), (1, .ref h0), (2, .ref g0)] [.int r1] (wX h0 hk hv hr cA nk bl b c pl bl n lv pt fk fv fr ++ wM g0 ak av ah ac cA b c pl bl n lv pt gk gv gh gc)
      refine g_aload_n C dL_law_303 3 rfl rfl ?_
      refine g_aload_n C dL_law_304 1 rfl rfl ?_
      refine g_iload_n C dL_law_305 0 rfl rfl ?_
      refine g_iconst (v := nI 1) C dL_law_306 (by decide) ?_
      refine g_iadd C dL_law_307 ?_
      refine g_sld C hX hbl hbA (by omega) dL_law_308 (by omega) ?_
      refine g_callI (wX h0 hk hv hr cA nk bl b c pl bl n lv pt fk fv fr) (ci := 1) (q0 := 0) (rest := [.int r1]) C (c_X1_bucketOf _ _ ok (xs (4 + 3 * t + 1))) gL_law_X1_bucketOf rfl rfl rfl hdX1_bucketOf (by decide) rfl rfl rfl rfl (Nat.le_of_ble_eq_true rfl) dL_law_309 (fun r2 _ hw2 => ?_)
      show G K 9 8648 312 [(3, .int (nI (4 + 3 * t))), (0, .ref sb), (1, .ref h0), (2, .ref g0)] [.int r2, .int r1] (wX h0 hk hv hr cA nk bl b c pl bl n lv pt fk fv fr ++ wM g0 ak av ah ac cA b c pl bl n lv pt gk gv gh gc)
      have er : r1 = r2 := hw1.trans hw2.symm
      have R1 := R0.later
      refine g_icmp_eqI C 397 dL_law_312 (by decide) (fun _ => ?_) (fun hne => absurd er hne)
      exact tail _ _ _ _ _ _ _ _ _ _ R1
    · refine g_tableIn C 317 dL_law_72 (by decide) (by decide) rfl (by decide) ?_
      refine g_aload_n C dL_law_317 2 rfl rfl ?_
      refine g_aload_n C dL_law_318 1 rfl rfl ?_
      refine g_iload_n C dL_law_319 0 rfl rfl ?_
      refine g_iconst (v := nI 1) C dL_law_320 (by decide) ?_
      refine g_iadd C dL_law_321 ?_
      refine g_sld C hX hbl hbA (by omega) dL_law_322 (by omega) ?_
      refine g_swap ?_
      refine g_callI (wM g0 ak av ah ac cA b c pl bl n lv pt gk gv gh gc) (ci := 0) (q0 := 0) (rest := []) C (c_X0_pages _ _ ok hx (xs (4 + 3 * t + 1))) gL_law_X0_pages rfl rfl rfl hdX0_pages (by decide) rfl rfl rfl rfl (Nat.le_of_ble_eq_true rfl) dL_law_323 (fun r1 _ hw1 => ?_)
      refine g_swap ?_
      show G K 9 8648 326 [(3, .int (nI (4 + 3 * t))), (0, .ref sb), (1, .ref h0), (2, .ref g0)] [.int r1] (wX h0 hk hv hr cA nk bl b c pl bl n lv pt fk fv fr ++ wM g0 ak av ah ac cA b c pl bl n lv pt gk gv gh gc)
      refine g_aload_n C dL_law_326 3 rfl rfl ?_
      refine g_aload_n C dL_law_327 1 rfl rfl ?_
      refine g_iload_n C dL_law_328 0 rfl rfl ?_
      refine g_iconst (v := nI 1) C dL_law_329 (by decide) ?_
      refine g_iadd C dL_law_330 ?_
      refine g_sld C hX hbl hbA (by omega) dL_law_331 (by omega) ?_
      refine g_callI (wX h0 hk hv hr cA nk bl b c pl bl n lv pt fk fv fr) (ci := 1) (q0 := 0) (rest := [.int r1]) C (c_X1_pages _ _ ok (xs (4 + 3 * t + 1)) hho) gL_law_X1_pages rfl rfl rfl hdX1_pages (by decide) rfl rfl rfl rfl (Nat.le_of_ble_eq_true rfl) dL_law_332 (fun r2 f2 hw2 => ?_)
      show G K 9 8648 335 [(3, .int (nI (4 + 3 * t))), (0, .ref sb), (1, .ref h0), (2, .ref g0)] [.int r2, .int r1] (wX h0 hk hv hr cA nk bl b c pl bl n lv pt fk fv fr ++ wM g0 ak av ah ac cA b c pl bl n lv pt gk gv gh f2)
      have er : r1 = r2 := rel_pages ak1 (by omega) hw1 hw2
      have R1 := R0.later
      refine g_icmp_eqI C 397 dL_law_335 (by decide) (fun _ => ?_) (fun hne => absurd er hne)
      exact tail _ _ _ _ _ _ _ _ _ _ R1
    · refine g_tableIn C 340 dL_law_72 (by decide) (by decide) rfl (by decide) ?_
      refine g_aload_n C dL_law_340 2 rfl rfl ?_
      refine g_swap ?_
      refine g_callI (wM g0 ak av ah ac cA b c pl bl n lv pt gk gv gh gc) (ci := 0) (q0 := 0) (rest := []) C (c_X0_free _ _ ok hx) gL_law_X0_free rfl rfl rfl hdX0_free (by decide) rfl rfl rfl rfl (Nat.le_of_ble_eq_true rfl) dL_law_341 (fun r1 f1 hw1 => ?_)
      refine g_swap ?_
      show G K 9 8648 344 [(3, .int (nI (4 + 3 * t))), (0, .ref sb), (1, .ref h0), (2, .ref g0)] [.int r1] (wX h0 hk hv hr cA nk bl b c pl bl n lv pt fk fv f1 ++ wM g0 ak av ah ac cA b c pl bl n lv pt gk gv gh gc)
      refine g_aload_n C dL_law_344 3 rfl rfl ?_
      refine g_callI (wX h0 hk hv hr cA nk bl b c pl bl n lv pt fk fv f1) (ci := 1) (q0 := 0) (rest := [.int r1]) C (c_X1_free _ _ ok hho) gL_law_X1_free rfl rfl rfl hdX1_free (by decide) rfl rfl rfl rfl (Nat.le_of_ble_eq_true rfl) dL_law_345 (fun r2 f2 hw2 => ?_)
      show G K 9 8648 348 [(3, .int (nI (4 + 3 * t))), (0, .ref sb), (1, .ref h0), (2, .ref g0)] [.int r2, .int r1] (wX h0 hk hv hr cA nk bl b c pl bl n lv pt fk fv f1 ++ wM g0 ak av ah ac cA b c pl bl n lv pt gk gv gh f2)
      have er : r1 = r2 := (by rw [hw1, hw2, ndP_congr ak1])
      have R1 := R0.later
      refine g_icmp_eqI C 397 dL_law_348 (by decide) (fun _ => ?_) (fun hne => absurd er hne)
      exact tail _ _ _ _ _ _ _ _ _ _ R1
    · refine g_tableIn C 353 dL_law_72 (by decide) (by decide) rfl (by decide) ?_
      refine g_aload_n C dL_law_353 2 rfl rfl ?_
      refine g_aload_n C dL_law_354 1 rfl rfl ?_
      refine g_iload_n C dL_law_355 0 rfl rfl ?_
      refine g_iconst (v := nI 1) C dL_law_356 (by decide) ?_
      refine g_iadd C dL_law_357 ?_
      refine g_sld C hX hbl hbA (by omega) dL_law_358 (by omega) ?_
      refine g_aload_n C dL_law_359 1 rfl rfl ?_
      refine g_iload_n C dL_law_360 0 rfl rfl ?_
      refine g_iconst (v := nI 2) C dL_law_361 (by decide) ?_
      refine g_iadd C dL_law_362 ?_
      refine g_sld C hX hbl hbA (by omega) dL_law_363 (by omega) ?_
      refine g_swap ?_
      refine g_callI (wM g0 ak av ah ac cA b c pl bl n lv pt gk gv gh gc) (ci := 0) (q0 := 0) (rest := []) C (c_X0_key _ _ ok hx (xs (4 + 3 * t + 1)) (xs (4 + 3 * t + 2))) gL_law_X0_key rfl rfl rfl hdX0_key (by decide) rfl rfl rfl rfl (Nat.le_of_ble_eq_true rfl) dL_law_364 (fun r1 _ hw1 => ?_)
      refine g_swap ?_
      show G K 9 8648 367 [(3, .int (nI (4 + 3 * t))), (0, .ref sb), (1, .ref h0), (2, .ref g0)] [.int r1] (wX h0 hk hv hr cA nk bl b c pl bl n lv pt fk fv fr ++ wM g0 ak av ah ac cA b c pl bl n lv pt gk gv gh gc)
      refine g_aload_n C dL_law_367 3 rfl rfl ?_
      refine g_aload_n C dL_law_368 1 rfl rfl ?_
      refine g_iload_n C dL_law_369 0 rfl rfl ?_
      refine g_iconst (v := nI 1) C dL_law_370 (by decide) ?_
      refine g_iadd C dL_law_371 ?_
      refine g_sld C hX hbl hbA (by omega) dL_law_372 (by omega) ?_
      refine g_aload_n C dL_law_373 1 rfl rfl ?_
      refine g_iload_n C dL_law_374 0 rfl rfl ?_
      refine g_iconst (v := nI 2) C dL_law_375 (by decide) ?_
      refine g_iadd C dL_law_376 ?_
      refine g_sld C hX hbl hbA (by omega) dL_law_377 (by omega) ?_
      refine g_callI (wX h0 hk hv hr cA nk bl b c pl bl n lv pt fk fv fr) (ci := 1) (q0 := 0) (rest := [.int r1]) C (c_X1_key _ _ ok (xs (4 + 3 * t + 1)) (xs (4 + 3 * t + 2)) hho) gL_law_X1_key rfl rfl rfl hdX1_key (by decide) rfl rfl rfl rfl (Nat.le_of_ble_eq_true rfl) dL_law_378 (fun r2 _ hw2 => ?_)
      show G K 9 8648 381 [(3, .int (nI (4 + 3 * t))), (0, .ref sb), (1, .ref h0), (2, .ref g0)] [.int r2, .int r1] (wX h0 hk hv hr cA nk bl b c pl bl n lv pt fk fv fr ++ wM g0 ak av ah ac cA b c pl bl n lv pt gk gv gh gc)
      have er : r1 = r2 := rel_key ak1 (by omega) hw1 hw2
      have R1 := R0.later
      refine g_icmp_eqI C 397 dL_law_381 (by decide) (fun _ => ?_) (fun hne => absurd er hne)
      exact tail _ _ _ _ _ _ _ _ _ _ R1
    · refine g_tableIn C 386 dL_law_72 (by decide) (by decide) rfl (by decide) ?_
      refine g_aload_n C dL_law_386 2 rfl rfl ?_
      refine g_swap ?_
      refine g_callV (wM g0 ak av ah ac cA b c pl bl n lv pt gk gv gh gc) (ci := 0) (q0 := 0) (rest := []) C (c_X0_clear _ _ ok hx) gL_law_X0_clear rfl rfl rfl hdX0_clear (by decide) rfl rfl rfl rfl (Nat.le_of_ble_eq_true rfl) dL_law_387 (fun _ _ => ?_)
      refine g_swap ?_
      show G K 9 8648 390 [(3, .int (nI (4 + 3 * t))), (0, .ref sb), (1, .ref h0), (2, .ref g0)] [] (wX h0 hk hv hr cA nk bl b c pl bl 0 0 0 fk fv fr ++ wM g0 ak av ah ac cA b c pl bl n lv pt gk gv gh gc)
      refine g_aload_n C dL_law_390 3 rfl rfl ?_
      refine g_callV (wX h0 hk hv hr cA nk bl b c pl bl 0 0 0 fk fv fr) (ci := 1) (q0 := 0) (rest := []) C (c_X1_clear _ _ ok) gL_law_X1_clear rfl rfl rfl hdX1_clear (by decide) rfl rfl rfl rfl (Nat.le_of_ble_eq_true rfl) dL_law_391 (fun _ _ => ?_)
      show G K 9 8648 394 [(3, .int (nI (4 + 3 * t))), (0, .ref sb), (1, .ref h0), (2, .ref g0)] [] (wX h0 hk hv hr cA nk bl b c pl bl 0 0 0 fk fv fr ++ wM g0 ak av ah ac cA b c pl bl 0 0 0 gk gv gh gc)
      have R1 := rel_clear R0
      refine g_goto C 397 dL_law_394 (by decide) ?_
      exact tail _ _ _ _ _ _ _ _ _ _ R1
    · refine g_tableOut C 397 dL_law_72 (Or.inr (by rw [nI_toInt (by omega)]; omega)) (by decide) ?_
      exact tail _ _ _ _ _ _ _ _ _ _ R0.later
end
section
-- ===== end of PART A; then your names; then what follows =====
/-! THE CLAIM OUT OF ONE WALK OF THE LAW'S BODY. Your part is whole_start (and what it stands on); all else here is the same for every law, but numbers. -/
def R_law : String := "PointerBucketsLaw"
def lw_P (b : Addr) (xs : List Int32) (args : Array Value) (s : State) : Prop := args = #[.ref b] ∧ s.IntsAt b xs ∧ xs.length ≤ 1540 ∧ (Jvm.Cond.and given_1 narrow_1).before args s = true
def lw_Q (_ : Array Value) (s : State) (o : Outcome) (t : State) : Prop := o = .returned (some (.int 1)) ∧ Framed s o t [] 600000 7302250
def lw_Z (below : List Frame) (a : Array Value) (s : State) : State → Prop := fun t => ∃ o, t.status = .running ∧ Ended t below o ∧ lw_Q a s o t
/-- the law's own end, with 1 on the stack, nothing written that was there before, its room as the claim has it -/
theorem lw_ret {p : Program} {l : Launch} {e : Env} {s : State} {m : MethodId} {below : List Frame} {meth : Method} {c : Code} {b : Nat} (hx : p.tables.exec = Jvm.exec) (hb : c.code = code) (hr : meth.sig.returnType = ret) (hlocks : meth.locks = false) {pc : Nat} {H : Heap} {ls : Array Slot} (hdg : decode code pc = .ok (.ireturn, 1)) : W p l e room_1 s m #[Value.ref b] below meth c H [] 600000 7302250 (lw_Z below #[Value.ref b] s) (F0 m pc ls [.int 1]) := by
  intro T hT X
  obtain ⟨fs, hret, hrun, hended, hW, hframe⟩ := X.leave (v := some (.int 1)) (hlocks := hlocks) (fun h => by rw [hr] at h; cases h)
  have hmeth' : T.vm.method? m = some meth := X.method'
  refine ⟨T.setFrames fs, ?_, .returned (some (.int 1)), hrun, hended, rfl, ⟨_, rfl⟩, hW, hframe⟩
  jvm_step X.here [X.here.top, hx, hb, hdg, hmeth', hr, ret, narrow_b1]
  (try refine ⟨rfl, ?_⟩); (try refine ⟨rfl, ?_⟩)
  first | (intro acts; rw [hret _ acts rfl rfl rfl]) | rw [hret _ _ rfl rfl rfl]
  exact Steps.refl _
/-- what holds at the law's entry: the machine, the code, the tables' words (any of lw_tbl by 'hts w (by decide +kernel)'), the script of L ints xs at the cell b, what the Statement gives of the start (any of its parts by flat_of_before) -/
def lw_At (p : Program) (s : State) (m : MethodId) (meth : Method) (c : Code) (b L : Nat) (xs : Nat → Int32) : Prop :=
  p.tables.exec = Jvm.exec ∧ c.code = code ∧ meth.sig.returnType = ret ∧ c.maxLocals = 4 ∧ s.vm.findClass R_law = some m.cls ∧ (∀ w ∈ lw_tbl, w.before #[Value.ref b] s = true) ∧ va_X b L xs s s.heap ∧ b < s.heap.size ∧ meth.locks = false ∧ (Jvm.Cond.and given_1 narrow_1).before #[Value.ref b] s = true
-- ===== YOUR PART BEGINS =====
set_option maxHeartbeats 8000000 in
set_option maxRecDepth 100000 in
theorem whole_start {p : Program} {e : Env} {s : State} {m : MethodId} {below : List Frame} {meth : Method} {c : Code} (l : Launch) {b L : Nat} {xs : Nat → Int32} (hL : L ≤ 1540) (C0 : lw_At p s m meth c b L xs) : W p l e room_1 s m #[Value.ref b] below meth c s.heap [] 0 0 (lw_Z below #[Value.ref b] s) (entryFrame m ([Value.ref b] : List Value).toArray 4) := by
  obtain ⟨hx, hb, hr, hml, hown, hts, hX, hbl, hlocks, hgv⟩ := id C0
  have hts := fun w h => hts w (wsL_law_in w h)
  have hbA : ¬ (fun q : Nat => s.heap.size ≤ q) b := Nat.not_le.mpr hbl
  obtain ⟨c0, iS0, hKn0⟩ := u_known (C := RX0) (T := TX0) (N := 10) (n := 10) hts inlX0 (hts (.instantiable RX0 10) (by decide +kernel))
  obtain ⟨c1, iS1, hKn1⟩ := u_known (C := RX1) (T := TX1) (N := 11) (n := 11) hts inlX1 (hts (.instantiable RX1 11) (by decide +kernel))
  obtain ⟨dC, dI, hKc⟩ : ∃ (dC : Nat → ClassId) (dI : Nat → Nat → Nat), ∀ (k : Nat) (q : vw_C), vwCl[k]? = some q → u_Kn s q.1 q.2.1 q.2.2 (dC k) (dI k) := by
    refine ⟨fun k => if k = 0 then c0 else c1, fun k => if k = 0 then iS0 else iS1, ?_⟩
    intro k q hq
    match k, hq with
    | 0, hq => cases hq; exact hKn0
    | 1, hq => cases hq; exact hKn1
    | k + 2, hq => simp [vwCl] at hq
  obtain ⟨cA, kA, comp, hfA, hkA, hkindA⟩ := Cond.arrayClass_spec (hts (.arrayClass .int) (by decide +kernel))
  have hK : va_K (dC, dI) vwCl [(cA, .int)] s := ⟨hKc, fun k q hq => by
    match k, hq with
    | 0, hq => cases hq; exact ⟨fun n z => ⟨fun k h => (by cases h), kA, hkA, comp, hkindA⟩, hfA⟩
    | k + 1, hq => simp at hq⟩
  have hP : va_P (dC, dI) vwCl [] s.heap := fun k q h => by simp at h
  have hD : va_D (fun q : Nat => s.heap.size ≤ q) [] := ⟨fun i j p q h => by simp at h, fun k q h => by simp at h⟩
  have hl := lv_entry ([.ref b]) (n := 4) (Nat.le_of_ble_eq_true rfl)
  rw [lg_entry_eq]
  obtain ⟨K, eK⟩ : ∃ K : gK, K = ((p, l, e, room_1, s), (m, #[Value.ref b], below, meth, c), (4, (dC, dI), (fun q : Nat => s.heap.size ≤ q), lw_Z below #[Value.ref b] s)) := ⟨_, rfl⟩
  have C : Cx K room_1 4 cL_law RL wsL_law [(cA, .int)] := by rw [eK]; exact ⟨hx, hb, hml, hown, hts, hK, fun q h => h, rfl, rfl⟩
  have hend : ∀ lv ws, G K 600000 7302250 404 lv [.int 1] ws := by
    rw [eK]
    intro lv ws H locs ls hl hP hD hS
    exact va_forget (fun q hq => hS.2.2 q hq) (lw_ret hx hb hr hlocks dL_law_404)
  have hXK : va_X b L xs K.1.2.2.2.2 K.1.2.2.2.2.heap := by rw [eK]; exact hX
  have hblK : b < K.1.2.2.2.2.heap.size := by rw [eK]; exact hbl
  have hbAK : ¬ K.2.2.2.2.1 b := by rw [eK]; exact hbA
  suffices k0 : G K 0 0 0 [(0, .ref b)] [] [] by
    rw [eK] at k0
    exact k0 s.heap [] _ hl hP hD va_S.rf
  obtain ⟨vb, b1, b2, eb, eb2⟩ := cl_both (cellP L xs 0) (lo := 1) (hi := 8) (by omega) (by omega)
  obtain ⟨vc, c1, c2, ec, ec2⟩ := cl_both (cellP L xs 1) (lo := 1) (hi := 8) (by omega) (by omega)
  obtain ⟨vp, p1, p2, ep, ep2⟩ := cl_both (cellP L xs 2) (lo := 8) (hi := 300) (by omega) (by omega)
  obtain ⟨vl, l1, l2, el, el2⟩ := cl_both (cellP L xs 3) (lo := vb) (hi := 200) (by omega) (by omega)
  have hpc : vp * vc ≤ 2400 := Nat.mul_le_mul p2 c2
  refine g_new (ci := 0) (fs := [.int 0, .int 0, .int 0, .int 0, .null, .null, .int 0, .int 0, .int 0, .null]) C inlX0 tyX0 tyX0_ok (by decide +kernel) rfl (fun j hj => by rcases (show j = 0 ∨ j = 1 ∨ j = 2 ∨ j = 3 ∨ j = 4 ∨ j = 5 ∨ j = 6 ∨ j = 7 ∨ j = 8 ∨ j = 9 by omega) with rfl | rfl | rfl | rfl | rfl | rfl | rfl | rfl | rfl | rfl <;> rfl) dL_law_0 (by decide) (fun h0 => ?_)
  show G K 1 10 3 [(0, .ref b)] [.ref h0] [(h0, .inr (0, [.int 0, .int 0, .int 0, .int 0, .null, .null, .int 0, .int 0, .int 0, .null]))]
  refine g_dup C dL_law_3 rfl ?_
  refine g_aload_n C dL_law_4 0 rfl rfl ?_
  refine g_iconst (v := nI 0) C dL_law_5 (by decide) ?_
  refine g_cell C hXK hblK hbAK (by omega) 0 (by omega) (by decide) (Nat.le_of_ble_eq_true rfl) dL_law_6 ?_
  refine g_aload_n C dL_law_9 0 rfl rfl ?_
  refine g_iconst (v := nI 1) C dL_law_10 (by decide) ?_
  refine g_cell C hXK hblK hbAK (by omega) 1 (by omega) (by decide) (Nat.le_of_ble_eq_true rfl) dL_law_11 ?_
  refine g_aload_n C dL_law_14 0 rfl rfl ?_
  refine g_iconst (v := nI 2) C dL_law_15 (by decide) ?_
  refine g_cell C hXK hblK hbAK (by omega) 2 (by omega) (by decide) (Nat.le_of_ble_eq_true rfl) dL_law_16 ?_
  refine g_aload_n C dL_law_19 0 rfl rfl ?_
  refine g_iconst (v := nI 3) C dL_law_20 (by decide) ?_
  refine g_cell C hXK hblK hbAK (by omega) 3 (by omega) (by decide) (Nat.le_of_ble_eq_true rfl) dL_law_21 ?_
  refine g_callC [] (rest := [.ref h0]) C (c_X0_init _ _ (cellP L xs 0) (cellP L xs 1) (cellP L xs 2) (cellP L xs 3) eb ec ep el rfl (by omega) l2) gL_law_X0_init rfl rfl rfl (by decide +kernel) rfl hcX0_init (by decide) rfl rfl (Nat.le_of_ble_eq_true rfl) dL_law_24 (fun u _ => ?_)
  obtain ⟨hk, hv, hr⟩ := u
  show G K 4 1234 27 [(0, .ref b)] [.ref h0] (wX h0 hk hv hr cA (min (vp * vc) 512) vl vb vc vp vl 0 0 0 (fun _ => 0) (fun _ => 0) (fun _ => 0))
  refine g_astore_n (lv' := [(1, .ref h0), (0, .ref b)]) C dL_law_27 rfl (by decide) rfl ?_
  refine g_new (ci := 1) (fs := [.int 0, .int 0, .int 0, .int 0, .int 0, .null, .null, .null, .int 0, .int 0, .null]) C inlX1 tyX1 tyX1_ok (by decide +kernel) rfl (fun j hj => by rcases (show j = 0 ∨ j = 1 ∨ j = 2 ∨ j = 3 ∨ j = 4 ∨ j = 5 ∨ j = 6 ∨ j = 7 ∨ j = 8 ∨ j = 9 ∨ j = 10 by omega) with rfl | rfl | rfl | rfl | rfl | rfl | rfl | rfl | rfl | rfl | rfl <;> rfl) dL_law_28 (by decide) (fun g0 => ?_)
  show G K 5 1245 31 [(1, .ref h0), (0, .ref b)] [.ref g0] (wX h0 hk hv hr cA (min (vp * vc) 512) vl vb vc vp vl 0 0 0 (fun _ => 0) (fun _ => 0) (fun _ => 0) ++ [(g0, .inr (1, [.int 0, .int 0, .int 0, .int 0, .int 0, .null, .null, .null, .int 0, .int 0, .null]))])
  refine g_dup C dL_law_31 rfl ?_
  refine g_aload_n C dL_law_32 1 rfl rfl ?_
  refine g_iconst (v := nI 0) C dL_law_33 (by decide) ?_
  refine g_cell C hXK hblK hbAK (by omega) 0 (by omega) (by decide) (Nat.le_of_ble_eq_true rfl) dL_law_34 ?_
  refine g_aload_n C dL_law_37 1 rfl rfl ?_
  refine g_iconst (v := nI 1) C dL_law_38 (by decide) ?_
  refine g_cell C hXK hblK hbAK (by omega) 1 (by omega) (by decide) (Nat.le_of_ble_eq_true rfl) dL_law_39 ?_
  refine g_aload_n C dL_law_42 1 rfl rfl ?_
  refine g_iconst (v := nI 2) C dL_law_43 (by decide) ?_
  refine g_cell C hXK hblK hbAK (by omega) 2 (by omega) (by decide) (Nat.le_of_ble_eq_true rfl) dL_law_44 ?_
  refine g_aload_n C dL_law_47 1 rfl rfl ?_
  refine g_iconst (v := nI 3) C dL_law_48 (by decide) ?_
  refine g_cell C hXK hblK hbAK (by omega) 3 (by omega) (by decide) (Nat.le_of_ble_eq_true rfl) dL_law_49 ?_
  refine g_callC (wX h0 hk hv hr cA (min (vp * vc) 512) vl vb vc vp vl 0 0 0 (fun _ => 0) (fun _ => 0) (fun _ => 0)) (rest := [.ref g0]) C (c_X1_init _ _ (cellP L xs 0) (cellP L xs 1) (cellP L xs 2) (cellP L xs 3) eb2 ec2 ep2 el2) gL_law_X1_init rfl rfl rfl (by decide +kernel) rfl hcX1_init (by decide) rfl rfl (Nat.le_of_ble_eq_true rfl) dL_law_52 (fun u _ => ?_)
  obtain ⟨ak, av, ah, ac⟩ := u
  show G K 9 8648 55 [(1, .ref h0), (0, .ref b)] [.ref g0] (wX h0 hk hv hr cA (min (vp * vc) 512) vl vb vc vp vl 0 0 0 (fun _ => 0) (fun _ => 0) (fun _ => 0) ++ wM g0 ak av ah ac cA vb vc vp vl 0 0 0 (fun _ => 0) (fun _ => 0) (fun _ => 0) (fun _ => 0))
  refine g_astore_n (lv' := [(2, .ref g0), (1, .ref h0), (0, .ref b)]) C dL_law_55 rfl (by decide) rfl ?_
  refine g_iconst (v := nI (4 + 3 * 0)) C dL_law_56 (by decide) ?_
  refine g_istore_n (lv' := [(3, .int (nI (4 + 3 * 0))), (2, .ref g0), (1, .ref h0), (0, .ref b)]) C dL_law_57 rfl (by decide) rfl ?_
  refine g_lv [0, 3, 2, 1] rfl ?_
  refine law_loop C hXK hblK hbAK hL hend (L + 1) 0 0 0 0 _ _ _ _ _ _ _ (by omega) (by omega) ?_
  exact ⟨⟨by omega, by omega, by omega, by omega, by omega, by omega, by omega, by omega, by omega, by rw [rd_0]; omega, by rw [rd_0]; omega, by omega⟩, rfl, Nat.zero_le _, Nat.zero_le _, fun j hj => absurd hj (by omega), fun j hj => absurd hj (by omega), fun i j hi => absurd hi (by omega), fun j hj => absurd hj (by omega)⟩
-- ===== YOUR PART ENDS =====
set_option maxHeartbeats 4000000 in
theorem lw_walk (l : Launch) (b : Addr) (xs : List Int32) : MetFree l x (headSpec (Jvm.Cond.code x code maxLocals ret :: tables_1) room_1) (lw_P b xs) (fun _ _ _ _ _ => True) lw_Q := by
  refine MetFree.of_bodyS (code := code) (maxLocals := maxLocals) (ret := ret) (by decide) ?_ ?_
  · intro args s m h hn
    obtain ⟨meth, c, h1, h2, h3, h4, h5, h6, -, -⟩ := Cond.code_spec hn (atoms_spec (ws := Jvm.Cond.code x code maxLocals ret :: tables_1) h _ List.mem_cons_self)
    exact ⟨meth, c, h1, h2, h3, h4, h5, h6⟩
  · intro p e s m args below meth c s₁ B hml0 hP _
    obtain ⟨rfl, hx, hbd, hgv⟩ := hP
    obtain ⟨scr, harrAt, hlist, hof, hsmall⟩ := hx
    obtain ⟨hcb, hkn, -, -⟩ := State.arrayAt?_spec harrAt
    have hown : s.vm.findClass R_law = some m.cls := findClass_of_methodNamed B.named
    have hts0 : ∀ c ∈ (Jvm.Cond.code x code maxLocals ret :: tables_1), c.before #[Value.ref b] s = true := atoms_spec (ws := Jvm.Cond.code x code maxLocals ret :: tables_1) B.pre
    have hts : ∀ w ∈ lw_tbl, w.before #[Value.ref b] s = true := k2_hts_sels lw_privs (fun w hw => hts0 w (List.mem_cons_of_mem _ hw)) lw_privs_ok
    have hml : c.maxLocals = 4 := B.maxLocals_eq (hts0 _ List.mem_cons_self)
    have X₀ : Stand p l e room_1 s m #[Value.ref b] below meth c s₁ [] 0 0 := Stand.of_body B
    have hh0 : s₁.heap = s.heap := by rw [B.state]; rfl
    have hsz : scr.slots.size = xs.length := by rw [← Array.length_toList, hlist, List.length_map]
    have hval : ∀ j : Nat, j < xs.length → scr.slots[j]? = some (.int (xs.getD j 0)) := fun j hj => by
      rw [← Array.getElem?_toList, hlist]
      simp [hj]
    have hbl : b < s.heap.size := (Array.getElem?_eq_some_iff.mp hcb).1
    have hX : va_X b xs.length (fun j => xs.getD j 0) s s.heap := ⟨scr, hcb, hof, hkn, hsz, hval⟩
    have K : W p l e room_1 s m #[Value.ref b] below meth c s₁.heap [] 0 0 (lw_Z below #[Value.ref b] s) (entryFrame m ([Value.ref b] : List Value).toArray 4) := by
      rw [hh0]
      exact whole_start l hbd ⟨B.exec, B.bytes, B.returns, hml, hown, hts, hX, hbl, B.notSynchronized, hgv⟩
    obtain ⟨t, a1, o, b1, b2, b3⟩ := K s₁ rfl X₀
    exact ⟨t, o, a1, b1, b2, b3⟩
theorem lw_pre_spec {args : Array Value} {s : State} (h : (Jvm.Cond.and given_1 narrow_1).before args s = true) (hr : rest_1_c.before args s = true) : ∃ (b : Addr) (xs : List Int32), lw_P b xs args s := by
  have hs := flat_of_before _ h
  have hq := flat_of_before _ hr
  have hc : (Cond.count 1).before args s = true := hs _ (by decide +kernel)
  have harr : (Cond.arrayOf (.arg 0) .int).before args s = true := hs _ (by decide +kernel)
  have hle : (Cond.le (.length (.arg 0)) (.int 1540)).before args s = true := hs _ (by decide +kernel)
  have hlen : (Cond.isInt (.length (.arg 0))).before args s = true := hq _ (by decide +kernel)
  have hall : (Cond.all (.arg 0) (.isInt (.elem (.arg 0) (.index 0)))).before args s = true := hq _ (by decide +kernel)
  obtain ⟨b, xs, hb, hx⟩ := State.ints_of_pre rfl harr hlen hall
  have hsm : xs.length < 2 ^ 31 := hx.choose_spec.2.2.2
  have hev : (Term.length (.arg 0)).eval args s none [] s = some (.int xs.length.toInt32) := hx.length_eval hb
  have hv := Cond.le_ints hev (show (Term.int 1540).eval args s none [] s = some (.int 1540) from rfl)
  have hd : xs.length.toInt32 ≤ 1540 := by
    simpa [Cond.before, Cond.holds, hv] using hle
  have hN : xs.length ≤ 1540 := (Int32.ofNat_le_ofNat hsm (by decide)).mp (show Int32.ofNat xs.length ≤ Int32.ofNat 1540 from hd)
  exact ⟨b, xs, Cond.one_arg hc (show args[0]? = some (.ref b) from hb), hx, hN, h⟩
theorem lw_comes (l : Launch) : Comes l x (Jvm.Cond.code x code maxLocals ret :: tables_1) room_1 (fun tb e args s => Calls_1 tb e args s ∧ rest_1 tb e args s ∧ Pre_1 tb e args s)
    (fun _ _ args s o t => lw_Q args s o t) := by
  intro p e ha hc hk s m args below hf hfit hheap happ hpre
  obtain ⟨b, xs, hP⟩ := lw_pre_spec hpre.2.2 hpre.2.1
  obtain ⟨k, o, h1, h2, h3, hQ⟩ := lw_walk l b xs p e ha hc hk s m args below hf ((Spec.applies_iff_loose hf).mp happ).1 hP trivial
  exact ⟨k, o, h1, h2, h3, hQ⟩
theorem lw_frame {s t : State} {o : Outcome} {args : Array Value} (h : Framed s o t [] 600000 7302250) :
    Framed s o t (fieldLocs frame_1_writes args s ++ arrayLocs frame_1_arrays args s ++ staticLocs frame_1_statics s) 600000 7302250 := h
theorem lw_limb (L : Cond) (hL : ∀ (args : Array Value) (s t : State), L.after args s (.returned (some (.int 1))) t = true) :
    ArmFor flags0 classFile x code maxLocals ret World_1 tables_1 room_1 Calls_1 rest_1 Pre_1
      (fun tb e a s o t => postC L tb e a s o t ∧ Framed s o t (fieldLocs frame_1_writes a s ++ arrayLocs frame_1_arrays a s ++ staticLocs frame_1_statics s) 600000 7302250) := by
  intro l _ _ _ p e ha hc hk s m args below hf hfit hheap happ hpre
  obtain ⟨k, o, h1, h2, h3, rfl, hF⟩ := lw_comes l p e ha hc hk s m args below hf hfit hheap happ hpre
  exact ⟨k, _, h1, h2, h3, hL args s _, lw_frame hF⟩
theorem i_vc : Claimed_1_1 ∧ Claimed_1_2 := ⟨lw_limb limb_1_1 (fun args s t => by simp [limb_1_1, Cond.after, Cond.holds, Cond.value]), lw_limb limb_1_2 (fun args s t => Cond.after_iff.mpr (by
  first | (rw [show limb_1_2 = Cond.eq .result (.int 1) from rfl, Cond.eq_ints (x := 1) (y := 1) rfl rfl]; simp; done) | (simp [limb_1_2, Cond.value, Term.eval]; done)))⟩
end
