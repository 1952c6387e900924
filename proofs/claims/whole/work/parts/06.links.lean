/-! the two worlds, links -/
abbrev wX (h0 hk hv hr : Nat) (cA : ClassId) (nk nr b c pl bl n lv pt : Nat) (fk fv fr : Nat → Int32) : va_W :=
  [(h0, .inr (0, [.int (nI b), .int (nI c), .int (nI pl), .int (nI bl), .ref hk, .ref hv, .int (nI n), .int (nI lv), .int (nI pt), .ref hr])), (hk, .inl (cA, nk, .inl fk)), (hv, .inl (cA, nk, .inl fv)), (hr, .inl (cA, nr, .inl fr))]
abbrev wM (g0 gk gv gh gc : Nat) (cA : ClassId) (b c pl bl n lv pt : Nat) (fk fv fh fc : Nat → Int32) : va_W :=
  [(g0, .inr (1, [.int (nI b), .int (nI c), .int (nI pl), .int (nI bl), .int (nI n), .ref gk, .ref gv, .ref gh, .int (nI lv), .int (nI pt), .ref gc])), (gk, .inl (cA, 2401, .inl fk)), (gv, .inl (cA, 2401, .inl fv)), (gh, .inl (cA, 2401, .inl fh)), (gc, .inl (cA, 200, .inl fc))]
theorem nI_m1 {j : Nat} (h : j < 2 ^ 31) : ¬ nI j = -1 := fun e => nI_pos h (by rw [e]; decide)
theorem ib_neg {x : Int32} {B : Nat} (h : x < 0) (hB : B < 2 ^ 31) : ¬ ∃ j, j < B ∧ x = nI j := fun ⟨j, h1, h2⟩ => nI_pos (n := j) (by omega) (h2 ▸ h)
theorem ib_big {x : Int32} {B : Nat} (h : nI B ≤ x) (hB : B < 2 ^ 31) : ¬ ∃ j, j < B ∧ x = nI j := fun ⟨j, h1, h2⟩ => nI_ge h1 hB (h2 ▸ h)
theorem ib_ok {x : Int32} {B : Nat} (h0 : ¬ x < 0) (h : ¬ nI B ≤ x) (hB : B < 2 ^ 31) : ∃ j, j < B ∧ x = nI j := by
  rcases pk_ix x hB with q | q | q
  · exact absurd q h0
  · exact absurd q h
  · exact q
theorem pdX0_6 : parseFieldDescriptor (TX0 6).2.2.1 = some .int := by decide +kernel
theorem pdX0_7 : parseFieldDescriptor (TX0 7).2.2.1 = some .int := by decide +kernel
theorem pdX0_8 : parseFieldDescriptor (TX0 8).2.2.1 = some .int := by decide +kernel
theorem pdX1_4 : parseFieldDescriptor (TX1 4).2.2.1 = some .int := by decide +kernel
theorem pdX1_8 : parseFieldDescriptor (TX1 8).2.2.1 = some .int := by decide +kernel
theorem pdX1_9 : parseFieldDescriptor (TX1 9).2.2.1 = some .int := by decide +kernel
theorem inX0_bucketOf : ∀ w ∈ wsX00, w ∈ wsX0_bucketOf := fun w h => List.mem_cons_of_mem _ (List.mem_append_right _ h)
theorem lkX0_bucketOf_70 : Cond.fieldLink RX0 70 (TX0 8).1 (TX0 8).2.1 (TX0 8).2.2.1 ∈ wsX0_bucketOf := by decide +kernel
theorem inX0_buckets : ∀ w ∈ wsX00, w ∈ wsX0_buckets := fun w h => List.mem_cons_of_mem _ (List.mem_append_right _ h)
theorem lkX0_buckets_70 : Cond.fieldLink RX0 70 (TX0 8).1 (TX0 8).2.1 (TX0 8).2.2.1 ∈ wsX0_buckets := by decide +kernel
theorem inX0_bucketsAtLevelStart : ∀ w ∈ wsX00, w ∈ wsX0_bucketsAtLevelStart := fun w h => List.mem_cons_of_mem _ (List.mem_append_right _ h)
theorem lkX0_bucketsAtLevelStart_13 : Cond.fieldLink RX0 13 (TX0 0).1 (TX0 0).2.1 (TX0 0).2.2.1 ∈ wsX0_bucketsAtLevelStart := by decide +kernel
theorem lkX0_bucketsAtLevelStart_73 : Cond.fieldLink RX0 73 (TX0 7).1 (TX0 7).2.1 (TX0 7).2.2.1 ∈ wsX0_bucketsAtLevelStart := by decide +kernel
theorem inX0_get : ∀ w ∈ wsX00, w ∈ wsX0_get := fun w h => List.mem_cons_of_mem _ (List.mem_append_right _ h)
theorem lkX0_get_36 : Cond.fieldLink RX0 36 (TX0 5).1 (TX0 5).2.1 (TX0 5).2.2.1 ∈ wsX0_get := by decide +kernel
theorem inX0_isCrowded : ∀ w ∈ wsX00, w ∈ wsX0_isCrowded := fun w h => List.mem_cons_of_mem _ (List.mem_append_right _ h)
theorem lkX0_isCrowded_17 : Cond.fieldLink RX0 17 (TX0 1).1 (TX0 1).2.1 (TX0 1).2.2.1 ∈ wsX0_isCrowded := by decide +kernel
theorem lkX0_isCrowded_46 : Cond.fieldLink RX0 46 (TX0 6).1 (TX0 6).2.1 (TX0 6).2.2.1 ∈ wsX0_isCrowded := by decide +kernel
theorem inX0_isSparse : ∀ w ∈ wsX00, w ∈ wsX0_isSparse := fun w h => List.mem_cons_of_mem _ (List.mem_append_right _ h)
theorem lkX0_isSparse_17 : Cond.fieldLink RX0 17 (TX0 1).1 (TX0 1).2.1 (TX0 1).2.2.1 ∈ wsX0_isSparse := by decide +kernel
theorem lkX0_isSparse_46 : Cond.fieldLink RX0 46 (TX0 6).1 (TX0 6).2.1 (TX0 6).2.2.1 ∈ wsX0_isSparse := by decide +kernel
theorem inX0_level : ∀ w ∈ wsX00, w ∈ wsX0_level := fun w h => List.mem_cons_of_mem _ (List.mem_append_right _ h)
theorem lkX0_level_73 : Cond.fieldLink RX0 73 (TX0 7).1 (TX0 7).2.1 (TX0 7).2.2.1 ∈ wsX0_level := by decide +kernel
theorem inX0_pagesFor : ∀ w ∈ wsX00, w ∈ wsX0_pagesFor := fun w h => List.mem_cons_of_mem _ (List.mem_append_right _ h)
theorem lkX0_pagesFor_17 : Cond.fieldLink RX0 17 (TX0 1).1 (TX0 1).2.1 (TX0 1).2.2.1 ∈ wsX0_pagesFor := by decide +kernel
theorem inX0_placeOf : ∀ w ∈ wsX00, w ∈ wsX0_placeOf := fun w h => List.mem_cons_of_mem _ (List.mem_append_right _ h)
theorem lkX0_placeOf_32 : Cond.fieldLink RX0 32 (TX0 4).1 (TX0 4).2.1 (TX0 4).2.2.1 ∈ wsX0_placeOf := by decide +kernel
theorem lkX0_placeOf_46 : Cond.fieldLink RX0 46 (TX0 6).1 (TX0 6).2.1 (TX0 6).2.2.1 ∈ wsX0_placeOf := by decide +kernel
theorem inX0_pointer : ∀ w ∈ wsX00, w ∈ wsX0_pointer := fun w h => List.mem_cons_of_mem _ (List.mem_append_right _ h)
theorem lkX0_pointer_70 : Cond.fieldLink RX0 70 (TX0 8).1 (TX0 8).2.1 (TX0 8).2.2.1 ∈ wsX0_pointer := by decide +kernel
theorem inX0_size : ∀ w ∈ wsX00, w ∈ wsX0_size := fun w h => List.mem_cons_of_mem _ (List.mem_append_right _ h)
theorem lkX0_size_46 : Cond.fieldLink RX0 46 (TX0 6).1 (TX0 6).2.1 (TX0 6).2.2.1 ∈ wsX0_size := by decide +kernel
theorem hdX0_buckets : yX0_buckets.cls = RX0 ∧ yX0_buckets.cls ≠ "java/lang/invoke/MethodHandle" ∧ yX0_buckets.cls ≠ "java/lang/invoke/VarHandle" ∧ (parseMethodDescriptor yX0_buckets.desc).map (fun d => d.parameters.length) = some 0 := by decide +kernel
theorem hdX0_bucketsAtLevelStart : yX0_bucketsAtLevelStart.cls = RX0 ∧ yX0_bucketsAtLevelStart.cls ≠ "java/lang/invoke/MethodHandle" ∧ yX0_bucketsAtLevelStart.cls ≠ "java/lang/invoke/VarHandle" ∧ (parseMethodDescriptor yX0_bucketsAtLevelStart.desc).map (fun d => d.parameters.length) = some 0 := by decide +kernel
theorem hdX0_placeOf : yX0_placeOf.cls = RX0 ∧ yX0_placeOf.cls ≠ "java/lang/invoke/MethodHandle" ∧ yX0_placeOf.cls ≠ "java/lang/invoke/VarHandle" ∧ (parseMethodDescriptor yX0_placeOf.desc).map (fun d => d.parameters.length) = some 1 := by decide +kernel
