/-! the two worlds, links -/
abbrev wX (h0 hk hv hr : Nat) (cA : ClassId) (nk nr b c pl bl n lv pt : Nat) (fk fv fr : Nat → Int32) : va_W :=
  [(h0, .inr (0, [.int (nI b), .int (nI c), .int (nI pl), .int (nI bl), .ref hk, .ref hv, .int (nI n), .int (nI lv), .int (nI pt), .ref hr])), (hk, .inl (cA, nk, .inl fk)), (hv, .inl (cA, nk, .inl fv)), (hr, .inl (cA, nr, .inl fr))]
abbrev wM (g0 gk gv gh gc : Nat) (cA : ClassId) (b c pl bl n lv pt : Nat) (fk fv fh fc : Nat → Int32) : va_W :=
  [(g0, .inr (1, [.int (nI b), .int (nI c), .int (nI pl), .int (nI bl), .int (nI n), .ref gk, .ref gv, .ref gh, .int (nI lv), .int (nI pt), .ref gc])), (gk, .inl (cA, 2401, .inl fk)), (gv, .inl (cA, 2401, .inl fv)), (gh, .inl (cA, 2401, .inl fh)), (gc, .inl (cA, 200, .inl fc))]
theorem nI_m1 {j : Nat} (h : j < 2 ^ 31) : ¬ nI j = -1 := fun e => nI_pos h (by rw [e]; decide)
theorem ib_neg {x : Int32} {B : Nat} (h : x < 0) (hB : B < 2 ^ 31) : ¬ ∃ j, j < B ∧ x = nI j := fun ⟨j, h1, h2⟩ => nI_pos (n := j) (by omega) (h2 ▸ h)
theorem ib_big {x : Int32} {B : Nat} (h : nI B ≤ x) (hB : B < 2 ^ 31) : ¬ ∃ j, j < B ∧ x = nI j := fun ⟨j, h1, h2⟩ => nI_ge h1 hB (h2 ▸ h)
theorem ib_ok {x : Int32} {B : Nat} (h0 : ¬ x < 0) (h : ¬ nI B ≤ x) (hB : B < 2 ^ 31) : ∃ j, j < B ∧ x = nI j := by
  rcases pk_ix x hB with q | q | q
  · exact absurd q h0
  · exact absurd q h
  · exact q
theorem pdX0_6 : parseFieldDescriptor (TX0 6).2.2.1 = some .int := by decide +kernel
theorem pdX0_7 : parseFieldDescriptor (TX0 7).2.2.1 = some .int := by decide +kernel
theorem pdX0_8 : parseFieldDescriptor (TX0 8).2.2.1 = some .int := by decide +kernel
theorem pdX1_4 : parseFieldDescriptor (TX1 4).2.2.1 = some .int := by decide +kernel
theorem pdX1_8 : parseFieldDescriptor (TX1 8).2.2.1 = some .int := by decide +kernel
theorem pdX1_9 : parseFieldDescriptor (TX1 9).2.2.1 = some .int := by decide +kernel
theorem dec_x (m : Nat) : (m = 0 ∧ nI m + Int32.ofInt (-1) = -1) ∨ (∃ k, m = k + 1 ∧ nI m + Int32.ofInt (-1) = nI k) := by
  cases m with
  | zero => exact Or.inl ⟨rfl, by decide⟩
  | succ k => exact Or.inr ⟨k, rfl, pk_m1 k⟩
theorem dec_n (m : Nat) : (m = 0 ∧ nI m - nI 1 = -1) ∨ (∃ k, m = k + 1 ∧ nI m - nI 1 = nI k) := by
  cases m with
  | zero => exact Or.inl ⟨rfl, by decide⟩
  | succ k => exact Or.inr ⟨k, rfl, nI_pred k⟩
theorem up_all {f : Nat → Int32} {i : Nat} {z : Int32} (h : ∀ q, q < i → f q = z) : ∀ q, q < i + 1 → upd f i z q = z := fun q hq => by
  by_cases e : q = i
  · rw [e]; exact pk_us
  · rw [pk_un e]; exact h q (by omega)
theorem ct_eq {g : Nat → Nat} {q i : Nat} (h : g i = q) : ct g q (i + 1) = ct g q i + 1 := by
  show ct g q i + (if g i = q then 1 else 0) = _
  rw [if_pos h]
theorem ct_ne {g : Nat → Nat} {q i : Nat} (h : g i ≠ q) : ct g q (i + 1) = ct g q i := by
  show ct g q i + (if g i = q then 1 else 0) = _
  rw [if_neg h]; rfl
theorem ct_up {g : Nat → Nat} {B k : Nat} {f : Nat → Int32} (h : ∀ q, q < B → f q = nI (ct g q k)) : ∀ q, q < B → upd f (g k) (nI (ct g (g k) k + 1)) q = nI (ct g q (k + 1)) := fun q hq => by
  by_cases e : q = g k
  · subst e; rw [pk_us, ct_eq rfl]
  · rw [pk_un e, ct_ne (fun z => e z.symm)]; exact h q hq
theorem mb_t {g : Int32 → Nat} {q n t a : Nat} {fk fv : Nat → Int32} (h : g (fk a) = q) : mb g q n (t + 1) a fk fv = mb g q n t a (mv fk a n) (mv fv a n) := by
  show (if g (fk a) = q then _ else _) = _
  rw [if_pos h]
theorem mb_f {g : Int32 → Nat} {q n t a : Nat} {fk fv : Nat → Int32} (h : g (fk a) ≠ q) : mb g q n (t + 1) a fk fv = mb g q n t (a + 1) fk fv := by
  show (if g (fk a) = q then _ else _) = _
  rw [if_neg h]
/-- level and pointer behind a put of a new key -/
def pL (b c bl n1 lv pt : Nat) : Nat := if 3 * c * (rd b lv + pt) < 4 * n1 ∧ rd b lv + pt < bl then fwL b lv pt else lv
def pP (b c bl n1 lv pt : Nat) : Nat := if 3 * c * (rd b lv + pt) < 4 * n1 ∧ rd b lv + pt < bl then fwP b lv pt else pt
def ndP (b c n L P : Nat) (fk : Nat → Int32) : Nat := nd c (fun j => bk b L P (fk j)) n (rd b L + P)
def newP (b c pl bl n lv pt : Nat) (fk fv : Nat → Int32) (k v r : Int32) (n' lv' pt' : Nat) (fk' fv' : Nat → Int32) : Prop :=
  (ndP b c (n + 1) (pL b c bl (n + 1) lv pt) (pP b c bl (n + 1) lv pt) (upd fk n k) ≤ pl ∧ r = nI 0 ∧ n' = n + 1 ∧ lv' = pL b c bl (n + 1) lv pt ∧ pt' = pP b c bl (n + 1) lv pt ∧ fk' = upd fk n k ∧ fv' = upd fv n v) ∨
  (pl < ndP b c (n + 1) (pL b c bl (n + 1) lv pt) (pP b c bl (n + 1) lv pt) (upd fk n k) ∧ r = nI 2 ∧ n' = n ∧ lv' = lv ∧ pt' = pt ∧ fk' = upd fk n k ∧ fv' = upd fv n v)
abbrev XS : Type := Nat × Nat × Nat × (Nat → Int32) × (Nat → Int32) × (Nat → Int32)
def oldP (n : Nat) (fk fv : Nat → Int32) (k v r : Int32) (n' lv' pt' lv pt : Nat) (fk' fv' : Nat → Int32) : Prop := ∃ j, j < n ∧ fk j = k ∧ r = nI 1 ∧ n' = n ∧ lv' = lv ∧ pt' = pt ∧ fk' = fk ∧ fv' = upd fv j v
/-- m is the last of its bucket's row, a a place of it -/
def lastP (b n lv pt : Nat) (fk : Nat → Int32) (a m : Nat) : Prop := a ≤ m ∧ m < n ∧ bk b lv pt (fk m) = bk b lv pt (fk a) ∧ ∀ i, m < i → i < n → bk b lv pt (fk i) ≠ bk b lv pt (fk a)
def keyP (b n lv pt : Nat) (fk : Nat → Int32) (x y r : Int32) : Prop :=
  (∃ q z i, q < rd b lv + pt ∧ x = nI q ∧ z < 2 ^ 31 ∧ y = nI z ∧ i < n ∧ bk b lv pt (fk i) = q ∧ ct (fun j => bk b lv pt (fk j)) q i = z ∧ (∀ i', i' < i → bk b lv pt (fk i') = q → ct (fun j => bk b lv pt (fk j)) q i' ≠ z) ∧ r = fk i) ∨
  ((∀ q z i, q < rd b lv + pt → x = nI q → z < 2 ^ 31 → y = nI z → i < n → bk b lv pt (fk i) = q → ct (fun j => bk b lv pt (fk j)) q i ≠ z) ∧ r = -1)
theorem inX0_bucketOf : ∀ w ∈ wsX00, w ∈ wsX0_bucketOf := fun w h => List.mem_cons_of_mem _ (List.mem_append_right _ h)
theorem lkX0_bucketOf_70 : Cond.fieldLink RX0 70 (TX0 8).1 (TX0 8).2.1 (TX0 8).2.2.1 ∈ wsX0_bucketOf := by decide +kernel
theorem inX0_buckets : ∀ w ∈ wsX00, w ∈ wsX0_buckets := fun w h => List.mem_cons_of_mem _ (List.mem_append_right _ h)
theorem lkX0_buckets_70 : Cond.fieldLink RX0 70 (TX0 8).1 (TX0 8).2.1 (TX0 8).2.2.1 ∈ wsX0_buckets := by decide +kernel
theorem inX0_bucketsAtLevelStart : ∀ w ∈ wsX00, w ∈ wsX0_bucketsAtLevelStart := fun w h => List.mem_cons_of_mem _ (List.mem_append_right _ h)
theorem lkX0_bucketsAtLevelStart_13 : Cond.fieldLink RX0 13 (TX0 0).1 (TX0 0).2.1 (TX0 0).2.2.1 ∈ wsX0_bucketsAtLevelStart := by decide +kernel
theorem lkX0_bucketsAtLevelStart_73 : Cond.fieldLink RX0 73 (TX0 7).1 (TX0 7).2.1 (TX0 7).2.2.1 ∈ wsX0_bucketsAtLevelStart := by decide +kernel
theorem inX0_clear : ∀ w ∈ wsX00, w ∈ wsX0_clear := fun w h => List.mem_cons_of_mem _ (List.mem_append_right _ h)
theorem lkX0_clear_46 : Cond.fieldLink RX0 46 (TX0 6).1 (TX0 6).2.1 (TX0 6).2.2.1 ∈ wsX0_clear := by decide +kernel
theorem lkX0_clear_70 : Cond.fieldLink RX0 70 (TX0 8).1 (TX0 8).2.1 (TX0 8).2.2.1 ∈ wsX0_clear := by decide +kernel
theorem lkX0_clear_73 : Cond.fieldLink RX0 73 (TX0 7).1 (TX0 7).2.1 (TX0 7).2.2.1 ∈ wsX0_clear := by decide +kernel
theorem inX0_free : ∀ w ∈ wsX00, w ∈ wsX0_free := fun w h => List.mem_cons_of_mem _ (List.mem_append_right _ h)
theorem lkX0_free_20 : Cond.fieldLink RX0 20 (TX0 2).1 (TX0 2).2.1 (TX0 2).2.2.1 ∈ wsX0_free := by decide +kernel
theorem inX0_get : ∀ w ∈ wsX00, w ∈ wsX0_get := fun w h => List.mem_cons_of_mem _ (List.mem_append_right _ h)
theorem lkX0_get_36 : Cond.fieldLink RX0 36 (TX0 5).1 (TX0 5).2.1 (TX0 5).2.2.1 ∈ wsX0_get := by decide +kernel
theorem inX0_isCrowded : ∀ w ∈ wsX00, w ∈ wsX0_isCrowded := fun w h => List.mem_cons_of_mem _ (List.mem_append_right _ h)
theorem lkX0_isCrowded_17 : Cond.fieldLink RX0 17 (TX0 1).1 (TX0 1).2.1 (TX0 1).2.2.1 ∈ wsX0_isCrowded := by decide +kernel
theorem lkX0_isCrowded_46 : Cond.fieldLink RX0 46 (TX0 6).1 (TX0 6).2.1 (TX0 6).2.2.1 ∈ wsX0_isCrowded := by decide +kernel
theorem inX0_isSparse : ∀ w ∈ wsX00, w ∈ wsX0_isSparse := fun w h => List.mem_cons_of_mem _ (List.mem_append_right _ h)
theorem lkX0_isSparse_17 : Cond.fieldLink RX0 17 (TX0 1).1 (TX0 1).2.1 (TX0 1).2.2.1 ∈ wsX0_isSparse := by decide +kernel
theorem lkX0_isSparse_46 : Cond.fieldLink RX0 46 (TX0 6).1 (TX0 6).2.1 (TX0 6).2.2.1 ∈ wsX0_isSparse := by decide +kernel
theorem inX0_join : ∀ w ∈ wsX00, w ∈ wsX0_join := fun w h => List.mem_cons_of_mem _ (List.mem_append_right _ h)
theorem lkX0_join_70 : Cond.fieldLink RX0 70 (TX0 8).1 (TX0 8).2.1 (TX0 8).2.2.1 ∈ wsX0_join := by decide +kernel
theorem lkX0_join_73 : Cond.fieldLink RX0 73 (TX0 7).1 (TX0 7).2.1 (TX0 7).2.2.1 ∈ wsX0_join := by decide +kernel
theorem inX0_key : ∀ w ∈ wsX00, w ∈ wsX0_key := fun w h => List.mem_cons_of_mem _ (List.mem_append_right _ h)
theorem lkX0_key_32 : Cond.fieldLink RX0 32 (TX0 4).1 (TX0 4).2.1 (TX0 4).2.2.1 ∈ wsX0_key := by decide +kernel
theorem lkX0_key_46 : Cond.fieldLink RX0 46 (TX0 6).1 (TX0 6).2.1 (TX0 6).2.2.1 ∈ wsX0_key := by decide +kernel
theorem inX0_lastPlaceOfBucket : ∀ w ∈ wsX00, w ∈ wsX0_lastPlaceOfBucket := fun w h => List.mem_cons_of_mem _ (List.mem_append_right _ h)
theorem lkX0_lastPlaceOfBucket_32 : Cond.fieldLink RX0 32 (TX0 4).1 (TX0 4).2.1 (TX0 4).2.2.1 ∈ wsX0_lastPlaceOfBucket := by decide +kernel
theorem lkX0_lastPlaceOfBucket_46 : Cond.fieldLink RX0 46 (TX0 6).1 (TX0 6).2.1 (TX0 6).2.2.1 ∈ wsX0_lastPlaceOfBucket := by decide +kernel
theorem inX0_level : ∀ w ∈ wsX00, w ∈ wsX0_level := fun w h => List.mem_cons_of_mem _ (List.mem_append_right _ h)
theorem lkX0_level_73 : Cond.fieldLink RX0 73 (TX0 7).1 (TX0 7).2.1 (TX0 7).2.2.1 ∈ wsX0_level := by decide +kernel
theorem inX0_moveBucketToEnd : ∀ w ∈ wsX00, w ∈ wsX0_moveBucketToEnd := fun w h => List.mem_cons_of_mem _ (List.mem_append_right _ h)
theorem lkX0_moveBucketToEnd_32 : Cond.fieldLink RX0 32 (TX0 4).1 (TX0 4).2.1 (TX0 4).2.2.1 ∈ wsX0_moveBucketToEnd := by decide +kernel
theorem lkX0_moveBucketToEnd_46 : Cond.fieldLink RX0 46 (TX0 6).1 (TX0 6).2.1 (TX0 6).2.2.1 ∈ wsX0_moveBucketToEnd := by decide +kernel
theorem inX0_moveToEnd : ∀ w ∈ wsX00, w ∈ wsX0_moveToEnd := fun w h => List.mem_cons_of_mem _ (List.mem_append_right _ h)
theorem lkX0_moveToEnd_32 : Cond.fieldLink RX0 32 (TX0 4).1 (TX0 4).2.1 (TX0 4).2.2.1 ∈ wsX0_moveToEnd := by decide +kernel
theorem lkX0_moveToEnd_36 : Cond.fieldLink RX0 36 (TX0 5).1 (TX0 5).2.1 (TX0 5).2.2.1 ∈ wsX0_moveToEnd := by decide +kernel
theorem lkX0_moveToEnd_46 : Cond.fieldLink RX0 46 (TX0 6).1 (TX0 6).2.1 (TX0 6).2.2.1 ∈ wsX0_moveToEnd := by decide +kernel
theorem inX0_pages : ∀ w ∈ wsX00, w ∈ wsX0_pages := fun w h => List.mem_cons_of_mem _ (List.mem_append_right _ h)
theorem lkX0_pages_32 : Cond.fieldLink RX0 32 (TX0 4).1 (TX0 4).2.1 (TX0 4).2.2.1 ∈ wsX0_pages := by decide +kernel
theorem lkX0_pages_46 : Cond.fieldLink RX0 46 (TX0 6).1 (TX0 6).2.1 (TX0 6).2.2.1 ∈ wsX0_pages := by decide +kernel
theorem inX0_pagesFor : ∀ w ∈ wsX00, w ∈ wsX0_pagesFor := fun w h => List.mem_cons_of_mem _ (List.mem_append_right _ h)
theorem lkX0_pagesFor_17 : Cond.fieldLink RX0 17 (TX0 1).1 (TX0 1).2.1 (TX0 1).2.2.1 ∈ wsX0_pagesFor := by decide +kernel
theorem inX0_pagesNeeded : ∀ w ∈ wsX00, w ∈ wsX0_pagesNeeded := fun w h => List.mem_cons_of_mem _ (List.mem_append_right _ h)
theorem lkX0_pagesNeeded_32 : Cond.fieldLink RX0 32 (TX0 4).1 (TX0 4).2.1 (TX0 4).2.2.1 ∈ wsX0_pagesNeeded := by decide +kernel
theorem lkX0_pagesNeeded_39 : Cond.fieldLink RX0 39 (TX0 9).1 (TX0 9).2.1 (TX0 9).2.2.1 ∈ wsX0_pagesNeeded := by decide +kernel
theorem lkX0_pagesNeeded_46 : Cond.fieldLink RX0 46 (TX0 6).1 (TX0 6).2.1 (TX0 6).2.2.1 ∈ wsX0_pagesNeeded := by decide +kernel
theorem inX0_part : ∀ w ∈ wsX00, w ∈ wsX0_part := fun w h => List.mem_cons_of_mem _ (List.mem_append_right _ h)
theorem lkX0_part_70 : Cond.fieldLink RX0 70 (TX0 8).1 (TX0 8).2.1 (TX0 8).2.2.1 ∈ wsX0_part := by decide +kernel
theorem lkX0_part_73 : Cond.fieldLink RX0 73 (TX0 7).1 (TX0 7).2.1 (TX0 7).2.2.1 ∈ wsX0_part := by decide +kernel
theorem inX0_placeOf : ∀ w ∈ wsX00, w ∈ wsX0_placeOf := fun w h => List.mem_cons_of_mem _ (List.mem_append_right _ h)
theorem lkX0_placeOf_32 : Cond.fieldLink RX0 32 (TX0 4).1 (TX0 4).2.1 (TX0 4).2.2.1 ∈ wsX0_placeOf := by decide +kernel
theorem lkX0_placeOf_46 : Cond.fieldLink RX0 46 (TX0 6).1 (TX0 6).2.1 (TX0 6).2.2.1 ∈ wsX0_placeOf := by decide +kernel
theorem inX0_pointer : ∀ w ∈ wsX00, w ∈ wsX0_pointer := fun w h => List.mem_cons_of_mem _ (List.mem_append_right _ h)
theorem lkX0_pointer_70 : Cond.fieldLink RX0 70 (TX0 8).1 (TX0 8).2.1 (TX0 8).2.2.1 ∈ wsX0_pointer := by decide +kernel
theorem inX0_put : ∀ w ∈ wsX00, w ∈ wsX0_put := fun w h => List.mem_cons_of_mem _ (List.mem_append_right _ h)
theorem lkX0_put_32 : Cond.fieldLink RX0 32 (TX0 4).1 (TX0 4).2.1 (TX0 4).2.2.1 ∈ wsX0_put := by decide +kernel
theorem lkX0_put_36 : Cond.fieldLink RX0 36 (TX0 5).1 (TX0 5).2.1 (TX0 5).2.2.1 ∈ wsX0_put := by decide +kernel
theorem lkX0_put_46 : Cond.fieldLink RX0 46 (TX0 6).1 (TX0 6).2.1 (TX0 6).2.2.1 ∈ wsX0_put := by decide +kernel
theorem inX0_putNew : ∀ w ∈ wsX00, w ∈ wsX0_putNew := fun w h => List.mem_cons_of_mem _ (List.mem_append_right _ h)
theorem lkX0_putNew_20 : Cond.fieldLink RX0 20 (TX0 2).1 (TX0 2).2.1 (TX0 2).2.2.1 ∈ wsX0_putNew := by decide +kernel
theorem lkX0_putNew_23 : Cond.fieldLink RX0 23 (TX0 3).1 (TX0 3).2.1 (TX0 3).2.2.1 ∈ wsX0_putNew := by decide +kernel
theorem lkX0_putNew_32 : Cond.fieldLink RX0 32 (TX0 4).1 (TX0 4).2.1 (TX0 4).2.2.1 ∈ wsX0_putNew := by decide +kernel
theorem lkX0_putNew_36 : Cond.fieldLink RX0 36 (TX0 5).1 (TX0 5).2.1 (TX0 5).2.2.1 ∈ wsX0_putNew := by decide +kernel
theorem lkX0_putNew_46 : Cond.fieldLink RX0 46 (TX0 6).1 (TX0 6).2.1 (TX0 6).2.2.1 ∈ wsX0_putNew := by decide +kernel
theorem lkX0_putNew_70 : Cond.fieldLink RX0 70 (TX0 8).1 (TX0 8).2.1 (TX0 8).2.2.1 ∈ wsX0_putNew := by decide +kernel
theorem lkX0_putNew_73 : Cond.fieldLink RX0 73 (TX0 7).1 (TX0 7).2.1 (TX0 7).2.2.1 ∈ wsX0_putNew := by decide +kernel
theorem inX0_remove : ∀ w ∈ wsX00, w ∈ wsX0_remove := fun w h => List.mem_cons_of_mem _ (List.mem_append_right _ h)
theorem lkX0_remove_13 : Cond.fieldLink RX0 13 (TX0 0).1 (TX0 0).2.1 (TX0 0).2.2.1 ∈ wsX0_remove := by decide +kernel
theorem inX0_size : ∀ w ∈ wsX00, w ∈ wsX0_size := fun w h => List.mem_cons_of_mem _ (List.mem_append_right _ h)
theorem lkX0_size_46 : Cond.fieldLink RX0 46 (TX0 6).1 (TX0 6).2.1 (TX0 6).2.2.1 ∈ wsX0_size := by decide +kernel
theorem inX0_takeOut : ∀ w ∈ wsX00, w ∈ wsX0_takeOut := fun w h => List.mem_cons_of_mem _ (List.mem_append_right _ h)
theorem lkX0_takeOut_32 : Cond.fieldLink RX0 32 (TX0 4).1 (TX0 4).2.1 (TX0 4).2.2.1 ∈ wsX0_takeOut := by decide +kernel
theorem lkX0_takeOut_36 : Cond.fieldLink RX0 36 (TX0 5).1 (TX0 5).2.1 (TX0 5).2.2.1 ∈ wsX0_takeOut := by decide +kernel
theorem lkX0_takeOut_46 : Cond.fieldLink RX0 46 (TX0 6).1 (TX0 6).2.1 (TX0 6).2.2.1 ∈ wsX0_takeOut := by decide +kernel
theorem inX1_back : ∀ w ∈ wsX10, w ∈ wsX1_back := fun w h => List.mem_cons_of_mem _ (List.mem_append_right _ h)
theorem lkX1_back_35 : Cond.fieldLink RX1 35 (TX1 8).1 (TX1 8).2.1 (TX1 8).2.2.1 ∈ wsX1_back := by decide +kernel
theorem lkX1_back_42 : Cond.fieldLink RX1 42 (TX1 9).1 (TX1 9).2.1 (TX1 9).2.2.1 ∈ wsX1_back := by decide +kernel
theorem inX1_bucketOf : ∀ w ∈ wsX10, w ∈ wsX1_bucketOf := fun w h => List.mem_cons_of_mem _ (List.mem_append_right _ h)
theorem lkX1_bucketOf_42 : Cond.fieldLink RX1 42 (TX1 9).1 (TX1 9).2.1 (TX1 9).2.2.1 ∈ wsX1_bucketOf := by decide +kernel
theorem inX1_buckets : ∀ w ∈ wsX10, w ∈ wsX1_buckets := fun w h => List.mem_cons_of_mem _ (List.mem_append_right _ h)
theorem lkX1_buckets_42 : Cond.fieldLink RX1 42 (TX1 9).1 (TX1 9).2.1 (TX1 9).2.2.1 ∈ wsX1_buckets := by decide +kernel
theorem inX1_clear : ∀ w ∈ wsX10, w ∈ wsX1_clear := fun w h => List.mem_cons_of_mem _ (List.mem_append_right _ h)
theorem lkX1_clear_35 : Cond.fieldLink RX1 35 (TX1 8).1 (TX1 8).2.1 (TX1 8).2.2.1 ∈ wsX1_clear := by decide +kernel
theorem lkX1_clear_42 : Cond.fieldLink RX1 42 (TX1 9).1 (TX1 9).2.1 (TX1 9).2.2.1 ∈ wsX1_clear := by decide +kernel
theorem lkX1_clear_46 : Cond.fieldLink RX1 46 (TX1 4).1 (TX1 4).2.1 (TX1 4).2.2.1 ∈ wsX1_clear := by decide +kernel
theorem inX1_count : ∀ w ∈ wsX10, w ∈ wsX1_count := fun w h => List.mem_cons_of_mem _ (List.mem_append_right _ h)
theorem lkX1_count_16 : Cond.fieldLink RX1 16 (TX1 7).1 (TX1 7).2.1 (TX1 7).2.2.1 ∈ wsX1_count := by decide +kernel
theorem lkX1_count_19 : Cond.fieldLink RX1 19 (TX1 10).1 (TX1 10).2.1 (TX1 10).2.2.1 ∈ wsX1_count := by decide +kernel
theorem lkX1_count_46 : Cond.fieldLink RX1 46 (TX1 4).1 (TX1 4).2.1 (TX1 4).2.2.1 ∈ wsX1_count := by decide +kernel
theorem inX1_cut : ∀ w ∈ wsX10, w ∈ wsX1_cut := fun w h => List.mem_cons_of_mem _ (List.mem_append_right _ h)
theorem lkX1_cut_7 : Cond.fieldLink RX1 7 (TX1 5).1 (TX1 5).2.1 (TX1 5).2.2.1 ∈ wsX1_cut := by decide +kernel
theorem lkX1_cut_13 : Cond.fieldLink RX1 13 (TX1 6).1 (TX1 6).2.1 (TX1 6).2.2.1 ∈ wsX1_cut := by decide +kernel
theorem lkX1_cut_16 : Cond.fieldLink RX1 16 (TX1 7).1 (TX1 7).2.1 (TX1 7).2.2.1 ∈ wsX1_cut := by decide +kernel
theorem lkX1_cut_46 : Cond.fieldLink RX1 46 (TX1 4).1 (TX1 4).2.1 (TX1 4).2.2.1 ∈ wsX1_cut := by decide +kernel
theorem inX1_find : ∀ w ∈ wsX10, w ∈ wsX1_find := fun w h => List.mem_cons_of_mem _ (List.mem_append_right _ h)
theorem lkX1_find_7 : Cond.fieldLink RX1 7 (TX1 5).1 (TX1 5).2.1 (TX1 5).2.2.1 ∈ wsX1_find := by decide +kernel
theorem lkX1_find_46 : Cond.fieldLink RX1 46 (TX1 4).1 (TX1 4).2.1 (TX1 4).2.2.1 ∈ wsX1_find := by decide +kernel
theorem inX1_forth : ∀ w ∈ wsX10, w ∈ wsX1_forth := fun w h => List.mem_cons_of_mem _ (List.mem_append_right _ h)
theorem lkX1_forth_35 : Cond.fieldLink RX1 35 (TX1 8).1 (TX1 8).2.1 (TX1 8).2.2.1 ∈ wsX1_forth := by decide +kernel
theorem lkX1_forth_42 : Cond.fieldLink RX1 42 (TX1 9).1 (TX1 9).2.1 (TX1 9).2.2.1 ∈ wsX1_forth := by decide +kernel
theorem inX1_free : ∀ w ∈ wsX10, w ∈ wsX1_free := fun w h => List.mem_cons_of_mem _ (List.mem_append_right _ h)
theorem lkX1_free_29 : Cond.fieldLink RX1 29 (TX1 2).1 (TX1 2).2.1 (TX1 2).2.2.1 ∈ wsX1_free := by decide +kernel
theorem inX1_get : ∀ w ∈ wsX10, w ∈ wsX1_get := fun w h => List.mem_cons_of_mem _ (List.mem_append_right _ h)
theorem lkX1_get_13 : Cond.fieldLink RX1 13 (TX1 6).1 (TX1 6).2.1 (TX1 6).2.2.1 ∈ wsX1_get := by decide +kernel
theorem inX1_key : ∀ w ∈ wsX10, w ∈ wsX1_key := fun w h => List.mem_cons_of_mem _ (List.mem_append_right _ h)
theorem lkX1_key_7 : Cond.fieldLink RX1 7 (TX1 5).1 (TX1 5).2.1 (TX1 5).2.2.1 ∈ wsX1_key := by decide +kernel
theorem lkX1_key_16 : Cond.fieldLink RX1 16 (TX1 7).1 (TX1 7).2.1 (TX1 7).2.2.1 ∈ wsX1_key := by decide +kernel
theorem lkX1_key_46 : Cond.fieldLink RX1 46 (TX1 4).1 (TX1 4).2.1 (TX1 4).2.2.1 ∈ wsX1_key := by decide +kernel
theorem inX1_level : ∀ w ∈ wsX10, w ∈ wsX1_level := fun w h => List.mem_cons_of_mem _ (List.mem_append_right _ h)
theorem lkX1_level_35 : Cond.fieldLink RX1 35 (TX1 8).1 (TX1 8).2.1 (TX1 8).2.2.1 ∈ wsX1_level := by decide +kernel
theorem inX1_needed : ∀ w ∈ wsX10, w ∈ wsX1_needed := fun w h => List.mem_cons_of_mem _ (List.mem_append_right _ h)
theorem lkX1_needed_19 : Cond.fieldLink RX1 19 (TX1 10).1 (TX1 10).2.1 (TX1 10).2.2.1 ∈ wsX1_needed := by decide +kernel
theorem inX1_pages : ∀ w ∈ wsX10, w ∈ wsX1_pages := fun w h => List.mem_cons_of_mem _ (List.mem_append_right _ h)
theorem lkX1_pages_19 : Cond.fieldLink RX1 19 (TX1 10).1 (TX1 10).2.1 (TX1 10).2.2.1 ∈ wsX1_pages := by decide +kernel
theorem inX1_pagesFor : ∀ w ∈ wsX10, w ∈ wsX1_pagesFor := fun w h => List.mem_cons_of_mem _ (List.mem_append_right _ h)
theorem lkX1_pagesFor_26 : Cond.fieldLink RX1 26 (TX1 1).1 (TX1 1).2.1 (TX1 1).2.2.1 ∈ wsX1_pagesFor := by decide +kernel
theorem inX1_pointer : ∀ w ∈ wsX10, w ∈ wsX1_pointer := fun w h => List.mem_cons_of_mem _ (List.mem_append_right _ h)
theorem lkX1_pointer_42 : Cond.fieldLink RX1 42 (TX1 9).1 (TX1 9).2.1 (TX1 9).2.2.1 ∈ wsX1_pointer := by decide +kernel
theorem inX1_put : ∀ w ∈ wsX10, w ∈ wsX1_put := fun w h => List.mem_cons_of_mem _ (List.mem_append_right _ h)
theorem lkX1_put_7 : Cond.fieldLink RX1 7 (TX1 5).1 (TX1 5).2.1 (TX1 5).2.2.1 ∈ wsX1_put := by decide +kernel
theorem lkX1_put_13 : Cond.fieldLink RX1 13 (TX1 6).1 (TX1 6).2.1 (TX1 6).2.2.1 ∈ wsX1_put := by decide +kernel
theorem lkX1_put_26 : Cond.fieldLink RX1 26 (TX1 1).1 (TX1 1).2.1 (TX1 1).2.2.1 ∈ wsX1_put := by decide +kernel
theorem lkX1_put_29 : Cond.fieldLink RX1 29 (TX1 2).1 (TX1 2).2.1 (TX1 2).2.2.1 ∈ wsX1_put := by decide +kernel
theorem lkX1_put_32 : Cond.fieldLink RX1 32 (TX1 3).1 (TX1 3).2.1 (TX1 3).2.2.1 ∈ wsX1_put := by decide +kernel
theorem lkX1_put_46 : Cond.fieldLink RX1 46 (TX1 4).1 (TX1 4).2.1 (TX1 4).2.2.1 ∈ wsX1_put := by decide +kernel
theorem inX1_remove : ∀ w ∈ wsX10, w ∈ wsX1_remove := fun w h => List.mem_cons_of_mem _ (List.mem_append_right _ h)
theorem lkX1_remove_7 : Cond.fieldLink RX1 7 (TX1 5).1 (TX1 5).2.1 (TX1 5).2.2.1 ∈ wsX1_remove := by decide +kernel
theorem lkX1_remove_13 : Cond.fieldLink RX1 13 (TX1 6).1 (TX1 6).2.1 (TX1 6).2.2.1 ∈ wsX1_remove := by decide +kernel
theorem lkX1_remove_16 : Cond.fieldLink RX1 16 (TX1 7).1 (TX1 7).2.1 (TX1 7).2.2.1 ∈ wsX1_remove := by decide +kernel
theorem lkX1_remove_22 : Cond.fieldLink RX1 22 (TX1 0).1 (TX1 0).2.1 (TX1 0).2.2.1 ∈ wsX1_remove := by decide +kernel
theorem lkX1_remove_26 : Cond.fieldLink RX1 26 (TX1 1).1 (TX1 1).2.1 (TX1 1).2.2.1 ∈ wsX1_remove := by decide +kernel
theorem lkX1_remove_46 : Cond.fieldLink RX1 46 (TX1 4).1 (TX1 4).2.1 (TX1 4).2.2.1 ∈ wsX1_remove := by decide +kernel
theorem inX1_round : ∀ w ∈ wsX10, w ∈ wsX1_round := fun w h => List.mem_cons_of_mem _ (List.mem_append_right _ h)
theorem lkX1_round_22 : Cond.fieldLink RX1 22 (TX1 0).1 (TX1 0).2.1 (TX1 0).2.2.1 ∈ wsX1_round := by decide +kernel
theorem lkX1_round_35 : Cond.fieldLink RX1 35 (TX1 8).1 (TX1 8).2.1 (TX1 8).2.2.1 ∈ wsX1_round := by decide +kernel
theorem inX1_settle : ∀ w ∈ wsX10, w ∈ wsX1_settle := fun w h => List.mem_cons_of_mem _ (List.mem_append_right _ h)
theorem lkX1_settle_7 : Cond.fieldLink RX1 7 (TX1 5).1 (TX1 5).2.1 (TX1 5).2.2.1 ∈ wsX1_settle := by decide +kernel
theorem lkX1_settle_16 : Cond.fieldLink RX1 16 (TX1 7).1 (TX1 7).2.1 (TX1 7).2.2.1 ∈ wsX1_settle := by decide +kernel
theorem lkX1_settle_46 : Cond.fieldLink RX1 46 (TX1 4).1 (TX1 4).2.1 (TX1 4).2.2.1 ∈ wsX1_settle := by decide +kernel
theorem inX1_size : ∀ w ∈ wsX10, w ∈ wsX1_size := fun w h => List.mem_cons_of_mem _ (List.mem_append_right _ h)
theorem lkX1_size_46 : Cond.fieldLink RX1 46 (TX1 4).1 (TX1 4).2.1 (TX1 4).2.2.1 ∈ wsX1_size := by decide +kernel
theorem inX1_toEnd : ∀ w ∈ wsX10, w ∈ wsX1_toEnd := fun w h => List.mem_cons_of_mem _ (List.mem_append_right _ h)
theorem lkX1_toEnd_7 : Cond.fieldLink RX1 7 (TX1 5).1 (TX1 5).2.1 (TX1 5).2.2.1 ∈ wsX1_toEnd := by decide +kernel
theorem lkX1_toEnd_13 : Cond.fieldLink RX1 13 (TX1 6).1 (TX1 6).2.1 (TX1 6).2.2.1 ∈ wsX1_toEnd := by decide +kernel
theorem lkX1_toEnd_16 : Cond.fieldLink RX1 16 (TX1 7).1 (TX1 7).2.1 (TX1 7).2.2.1 ∈ wsX1_toEnd := by decide +kernel
theorem lkX1_toEnd_46 : Cond.fieldLink RX1 46 (TX1 4).1 (TX1 4).2.1 (TX1 4).2.2.1 ∈ wsX1_toEnd := by decide +kernel
theorem hdX0_bucketOf : yX0_bucketOf.cls = RX0 ∧ yX0_bucketOf.cls ≠ "java/lang/invoke/MethodHandle" ∧ yX0_bucketOf.cls ≠ "java/lang/invoke/VarHandle" ∧ (parseMethodDescriptor yX0_bucketOf.desc).map (fun d => d.parameters.length) = some 1 := by decide +kernel
theorem hdX0_buckets : yX0_buckets.cls = RX0 ∧ yX0_buckets.cls ≠ "java/lang/invoke/MethodHandle" ∧ yX0_buckets.cls ≠ "java/lang/invoke/VarHandle" ∧ (parseMethodDescriptor yX0_buckets.desc).map (fun d => d.parameters.length) = some 0 := by decide +kernel
theorem hdX0_bucketsAtLevelStart : yX0_bucketsAtLevelStart.cls = RX0 ∧ yX0_bucketsAtLevelStart.cls ≠ "java/lang/invoke/MethodHandle" ∧ yX0_bucketsAtLevelStart.cls ≠ "java/lang/invoke/VarHandle" ∧ (parseMethodDescriptor yX0_bucketsAtLevelStart.desc).map (fun d => d.parameters.length) = some 0 := by decide +kernel
theorem hdX0_isBucket : yX0_isBucket.cls = RX0 ∧ yX0_isBucket.cls ≠ "java/lang/invoke/MethodHandle" ∧ yX0_isBucket.cls ≠ "java/lang/invoke/VarHandle" ∧ (parseMethodDescriptor yX0_isBucket.desc).map (fun d => d.parameters.length) = some 1 := by decide +kernel
theorem hdX0_isCrowded : yX0_isCrowded.cls = RX0 ∧ yX0_isCrowded.cls ≠ "java/lang/invoke/MethodHandle" ∧ yX0_isCrowded.cls ≠ "java/lang/invoke/VarHandle" ∧ (parseMethodDescriptor yX0_isCrowded.desc).map (fun d => d.parameters.length) = some 0 := by decide +kernel
theorem hdX0_isSparse : yX0_isSparse.cls = RX0 ∧ yX0_isSparse.cls ≠ "java/lang/invoke/MethodHandle" ∧ yX0_isSparse.cls ≠ "java/lang/invoke/VarHandle" ∧ (parseMethodDescriptor yX0_isSparse.desc).map (fun d => d.parameters.length) = some 0 := by decide +kernel
theorem hdX0_join : yX0_join.cls = RX0 ∧ yX0_join.cls ≠ "java/lang/invoke/MethodHandle" ∧ yX0_join.cls ≠ "java/lang/invoke/VarHandle" ∧ (parseMethodDescriptor yX0_join.desc).map (fun d => d.parameters.length) = some 0 := by decide +kernel
theorem hdX0_lastPlaceOfBucket : yX0_lastPlaceOfBucket.cls = RX0 ∧ yX0_lastPlaceOfBucket.cls ≠ "java/lang/invoke/MethodHandle" ∧ yX0_lastPlaceOfBucket.cls ≠ "java/lang/invoke/VarHandle" ∧ (parseMethodDescriptor yX0_lastPlaceOfBucket.desc).map (fun d => d.parameters.length) = some 1 := by decide +kernel
theorem hdX0_moveBucketToEnd : yX0_moveBucketToEnd.cls = RX0 ∧ yX0_moveBucketToEnd.cls ≠ "java/lang/invoke/MethodHandle" ∧ yX0_moveBucketToEnd.cls ≠ "java/lang/invoke/VarHandle" ∧ (parseMethodDescriptor yX0_moveBucketToEnd.desc).map (fun d => d.parameters.length) = some 1 := by decide +kernel
theorem hdX0_moveToEnd : yX0_moveToEnd.cls = RX0 ∧ yX0_moveToEnd.cls ≠ "java/lang/invoke/MethodHandle" ∧ yX0_moveToEnd.cls ≠ "java/lang/invoke/VarHandle" ∧ (parseMethodDescriptor yX0_moveToEnd.desc).map (fun d => d.parameters.length) = some 1 := by decide +kernel
theorem hdX0_pagesFor : yX0_pagesFor.cls = RX0 ∧ yX0_pagesFor.cls ≠ "java/lang/invoke/MethodHandle" ∧ yX0_pagesFor.cls ≠ "java/lang/invoke/VarHandle" ∧ (parseMethodDescriptor yX0_pagesFor.desc).map (fun d => d.parameters.length) = some 1 := by decide +kernel
theorem hdX0_pagesNeeded : yX0_pagesNeeded.cls = RX0 ∧ yX0_pagesNeeded.cls ≠ "java/lang/invoke/MethodHandle" ∧ yX0_pagesNeeded.cls ≠ "java/lang/invoke/VarHandle" ∧ (parseMethodDescriptor yX0_pagesNeeded.desc).map (fun d => d.parameters.length) = some 0 := by decide +kernel
theorem hdX0_part : yX0_part.cls = RX0 ∧ yX0_part.cls ≠ "java/lang/invoke/MethodHandle" ∧ yX0_part.cls ≠ "java/lang/invoke/VarHandle" ∧ (parseMethodDescriptor yX0_part.desc).map (fun d => d.parameters.length) = some 0 := by decide +kernel
theorem hdX0_placeOf : yX0_placeOf.cls = RX0 ∧ yX0_placeOf.cls ≠ "java/lang/invoke/MethodHandle" ∧ yX0_placeOf.cls ≠ "java/lang/invoke/VarHandle" ∧ (parseMethodDescriptor yX0_placeOf.desc).map (fun d => d.parameters.length) = some 1 := by decide +kernel
theorem hdX0_putNew : yX0_putNew.cls = RX0 ∧ yX0_putNew.cls ≠ "java/lang/invoke/MethodHandle" ∧ yX0_putNew.cls ≠ "java/lang/invoke/VarHandle" ∧ (parseMethodDescriptor yX0_putNew.desc).map (fun d => d.parameters.length) = some 2 := by decide +kernel
theorem hdX0_takeOut : yX0_takeOut.cls = RX0 ∧ yX0_takeOut.cls ≠ "java/lang/invoke/MethodHandle" ∧ yX0_takeOut.cls ≠ "java/lang/invoke/VarHandle" ∧ (parseMethodDescriptor yX0_takeOut.desc).map (fun d => d.parameters.length) = some 1 := by decide +kernel
theorem hdX1_back : yX1_back.cls = RX1 ∧ yX1_back.cls ≠ "java/lang/invoke/MethodHandle" ∧ yX1_back.cls ≠ "java/lang/invoke/VarHandle" ∧ (parseMethodDescriptor yX1_back.desc).map (fun d => d.parameters.length) = some 0 := by decide +kernel
theorem hdX1_bucketOf : yX1_bucketOf.cls = RX1 ∧ yX1_bucketOf.cls ≠ "java/lang/invoke/MethodHandle" ∧ yX1_bucketOf.cls ≠ "java/lang/invoke/VarHandle" ∧ (parseMethodDescriptor yX1_bucketOf.desc).map (fun d => d.parameters.length) = some 1 := by decide +kernel
theorem hdX1_buckets : yX1_buckets.cls = RX1 ∧ yX1_buckets.cls ≠ "java/lang/invoke/MethodHandle" ∧ yX1_buckets.cls ≠ "java/lang/invoke/VarHandle" ∧ (parseMethodDescriptor yX1_buckets.desc).map (fun d => d.parameters.length) = some 0 := by decide +kernel
theorem hdX1_count : yX1_count.cls = RX1 ∧ yX1_count.cls ≠ "java/lang/invoke/MethodHandle" ∧ yX1_count.cls ≠ "java/lang/invoke/VarHandle" ∧ (parseMethodDescriptor yX1_count.desc).map (fun d => d.parameters.length) = some 0 := by decide +kernel
theorem hdX1_cut : yX1_cut.cls = RX1 ∧ yX1_cut.cls ≠ "java/lang/invoke/MethodHandle" ∧ yX1_cut.cls ≠ "java/lang/invoke/VarHandle" ∧ (parseMethodDescriptor yX1_cut.desc).map (fun d => d.parameters.length) = some 1 := by decide +kernel
theorem hdX1_find : yX1_find.cls = RX1 ∧ yX1_find.cls ≠ "java/lang/invoke/MethodHandle" ∧ yX1_find.cls ≠ "java/lang/invoke/VarHandle" ∧ (parseMethodDescriptor yX1_find.desc).map (fun d => d.parameters.length) = some 1 := by decide +kernel
theorem hdX1_forth : yX1_forth.cls = RX1 ∧ yX1_forth.cls ≠ "java/lang/invoke/MethodHandle" ∧ yX1_forth.cls ≠ "java/lang/invoke/VarHandle" ∧ (parseMethodDescriptor yX1_forth.desc).map (fun d => d.parameters.length) = some 0 := by decide +kernel
theorem hdX1_needed : yX1_needed.cls = RX1 ∧ yX1_needed.cls ≠ "java/lang/invoke/MethodHandle" ∧ yX1_needed.cls ≠ "java/lang/invoke/VarHandle" ∧ (parseMethodDescriptor yX1_needed.desc).map (fun d => d.parameters.length) = some 0 := by decide +kernel
theorem hdX1_pagesFor : yX1_pagesFor.cls = RX1 ∧ yX1_pagesFor.cls ≠ "java/lang/invoke/MethodHandle" ∧ yX1_pagesFor.cls ≠ "java/lang/invoke/VarHandle" ∧ (parseMethodDescriptor yX1_pagesFor.desc).map (fun d => d.parameters.length) = some 1 := by decide +kernel
theorem hdX1_round : yX1_round.cls = RX1 ∧ yX1_round.cls ≠ "java/lang/invoke/MethodHandle" ∧ yX1_round.cls ≠ "java/lang/invoke/VarHandle" ∧ (parseMethodDescriptor yX1_round.desc).map (fun d => d.parameters.length) = some 0 := by decide +kernel
theorem hdX1_settle : yX1_settle.cls = RX1 ∧ yX1_settle.cls ≠ "java/lang/invoke/MethodHandle" ∧ yX1_settle.cls ≠ "java/lang/invoke/VarHandle" ∧ (parseMethodDescriptor yX1_settle.desc).map (fun d => d.parameters.length) = some 0 := by decide +kernel
theorem hdX1_toEnd : yX1_toEnd.cls = RX1 ∧ yX1_toEnd.cls ≠ "java/lang/invoke/MethodHandle" ∧ yX1_toEnd.cls ≠ "java/lang/invoke/VarHandle" ∧ (parseMethodDescriptor yX1_toEnd.desc).map (fun d => d.parameters.length) = some 1 := by decide +kernel
