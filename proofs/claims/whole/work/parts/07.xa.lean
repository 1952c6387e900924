set_option maxHeartbeats 4000000 in
set_option maxRecDepth 100000 in
theorem c_X0_bucketsAtLevelStart (l : Launch) (D : va_G) {cA : ClassId} {h0 hk hv hr nk nr b c pl bl n lv pt : Nat} {fk fv fr : Nat → Int32} (hl7 : lv ≤ 7) (hr200 : rd b lv ≤ 200)   : MetI (S := Unit) l yX0_bucketsAtLevelStart wsX0_bucketsAtLevelStart ({ frames := 0, cells := 0, slots := 0, locals := 0 } : Room) D [(cA, .int)] [.ref h0] (wX h0 hk hv hr cA nk nr b c pl bl n lv pt fk fv fr) (fun _ => wX h0 hk hv hr cA nk nr b c pl bl n lv pt fk fv fr) (fun r _ => r = nI (rd b lv)) 0 0 := by
  refine MetI_of (cc := cX0_bucketsAtLevelStart) (maxL := 1) (rt := .int) (lv0 := [(0, .ref h0)]) (by decide) rfl (Nat.le_of_ble_eq_true rfl) rfl ?_
  intro K _ _ C hret
  have C : Cx K ({ frames := 0, cells := 0, slots := 0, locals := 0 } : Room) 1 cX0_bucketsAtLevelStart RX0 wsX0_bucketsAtLevelStart [(cA, .int)] := C
  refine g_aload_n C dX0_bucketsAtLevelStart_0 0 rfl rfl ?_
  refine g_get (ci := 0) C inX0_bucketsAtLevelStart rfl 0 0 (by decide) lkX0_bucketsAtLevelStart_13 dX0_bucketsAtLevelStart_1 rfl rfl ?_
  refine g_aload_n C dX0_bucketsAtLevelStart_4 0 rfl rfl ?_
  refine g_get (ci := 0) C inX0_bucketsAtLevelStart rfl 0 7 (by decide) lkX0_bucketsAtLevelStart_73 dX0_bucketsAtLevelStart_5 rfl rfl ?_
  refine g_ishl C dX0_bucketsAtLevelStart_8 ?_
  refine g_top (rd_shl hl7 hr200) ?_
  exact hret _ _ _ () dX0_bucketsAtLevelStart_9 rfl rfl
set_option maxHeartbeats 4000000 in
set_option maxRecDepth 100000 in
theorem c_X0_buckets (l : Launch) (D : va_G) {cA : ClassId} {h0 hk hv hr nk nr b c pl bl n lv pt : Nat} {fk fv fr : Nat → Int32} (ok : okS b c pl bl n lv pt) (hx : n ≤ nk ∧ nk ≤ 512 ∧ nr = bl)   : MetI (S := Unit) l yX0_buckets wsX0_buckets ({ frames := 1, cells := 0, slots := 0, locals := 20 } : Room) D [(cA, .int)] [.ref h0] (wX h0 hk hv hr cA nk nr b c pl bl n lv pt fk fv fr) (fun _ => wX h0 hk hv hr cA nk nr b c pl bl n lv pt fk fv fr) (fun r _ => r = nI (rd b lv + pt)) 0 0 := by
  refine MetI_of (cc := cX0_buckets) (maxL := 1) (rt := .int) (lv0 := [(0, .ref h0)]) (by decide) rfl (Nat.le_of_ble_eq_true rfl) rfl ?_
  intro K _ _ C hret
  have C : Cx K ({ frames := 1, cells := 0, slots := 0, locals := 20 } : Room) 1 cX0_buckets RX0 wsX0_buckets [(cA, .int)] := C
  obtain ⟨o1, o2, o3, o4, o5, o6, o7, o8, o9, o10, o11, o12⟩ := id ok
  obtain ⟨x1, x2, x3⟩ := id hx
  refine g_aload_n C dX0_buckets_0 0 rfl rfl ?_
  refine g_callI0 (ci := 0) (q0 := 0) (rest := []) C (c_X0_bucketsAtLevelStart _ _ o12 (by omega)) gX0_buckets_X0_bucketsAtLevelStart rfl rfl rfl hdX0_bucketsAtLevelStart (by decide) rfl rfl rfl rfl (Nat.le_of_ble_eq_true rfl) dX0_buckets_1 (fun r _ hw => ?_)
  subst hw
  show G K 0 0 4 [(0, .ref h0)] [.int (nI (rd b lv))] (wX h0 hk hv hr cA nk nr b c pl bl n lv pt fk fv fr)
  refine g_aload_n C dX0_buckets_4 0 rfl rfl ?_
  refine g_get (ci := 0) C inX0_buckets rfl 0 8 (by decide) lkX0_buckets_70 dX0_buckets_5 rfl rfl ?_
  refine g_iadd C dX0_buckets_8 ?_
  exact hret _ _ _ () dX0_buckets_9 rfl rfl
set_option maxHeartbeats 4000000 in
set_option maxRecDepth 100000 in
theorem c_X0_bucketOf (l : Launch) (D : va_G) {cA : ClassId} {h0 hk hv hr nk nr b c pl bl n lv pt : Nat} {fk fv fr : Nat → Int32} (ok : okS b c pl bl n lv pt) (hx : n ≤ nk ∧ nk ≤ 512 ∧ nr = bl) (k : Int32)  : MetI (S := Unit) l yX0_bucketOf wsX0_bucketOf ({ frames := 1, cells := 0, slots := 0, locals := 20 } : Room) D [(cA, .int)] [.ref h0, .int k] (wX h0 hk hv hr cA nk nr b c pl bl n lv pt fk fv fr) (fun _ => wX h0 hk hv hr cA nk nr b c pl bl n lv pt fk fv fr) (fun r _ => r = nI (bk b lv pt k)) 0 0 := by
  refine MetI_of (cc := cX0_bucketOf) (maxL := 4) (rt := .int) (lv0 := [(0, .ref h0), (1, .int k)]) (by decide) rfl (Nat.le_of_ble_eq_true rfl) rfl ?_
  intro K _ _ C hret
  have C : Cx K ({ frames := 1, cells := 0, slots := 0, locals := 20 } : Room) 4 cX0_bucketOf RX0 wsX0_bucketOf [(cA, .int)] := C
  obtain ⟨o1, o2, o3, o4, o5, o6, o7, o8, o9, o10, o11, o12⟩ := id ok
  obtain ⟨x1, x2, x3⟩ := id hx
  refine g_iload_n C dX0_bucketOf_0 1 rfl rfl ?_
  refine g_ldc (v := 2147483647) C (by decide +kernel) dX0_bucketOf_1 ?_
  refine g_iand C dX0_bucketOf_3 ?_
  refine g_top (hh_and k) ?_
  refine g_istore_n (lv' := [(2, .int (nI (hh k))), (0, .ref h0), (1, .int k)]) C dX0_bucketOf_4 rfl (by decide) rfl ?_
  refine g_iload_n C dX0_bucketOf_5 0 rfl rfl ?_
  refine g_aload_n C dX0_bucketOf_6 1 rfl rfl ?_
  refine g_callI0 (ci := 0) (q0 := 0) (rest := [.int (nI (hh k))]) C (c_X0_bucketsAtLevelStart _ _ o12 (by omega)) gX0_bucketOf_X0_bucketsAtLevelStart rfl rfl rfl hdX0_bucketsAtLevelStart (by decide) rfl rfl rfl rfl (Nat.le_of_ble_eq_true rfl) dX0_bucketOf_7 (fun r _ hw => ?_)
  subst hw
  show G K 0 0 10 [(2, .int (nI (hh k))), (0, .ref h0), (1, .int k)] [.int (nI (rd b lv)), .int (nI (hh k))] (wX h0 hk hv hr cA nk nr b c pl bl n lv pt fk fv fr)
  refine g_irem C dX0_bucketOf_10 (hh_lt k) (by omega) (by omega) ?_
  refine g_istore_n (lv' := [(3, .int (nI ((hh k) % (rd b lv)))), (2, .int (nI (hh k))), (0, .ref h0), (1, .int k)]) C dX0_bucketOf_11 rfl (by decide) rfl ?_
  have hm := Nat.mod_lt (hh k) (show 0 < rd b lv by omega)
  refine g_iload_n C dX0_bucketOf_12 0 rfl rfl ?_
  refine g_aload_n C dX0_bucketOf_13 2 rfl rfl ?_
  refine g_get (ci := 0) C inX0_bucketOf rfl 0 8 (by decide) lkX0_bucketOf_70 dX0_bucketOf_14 rfl rfl ?_
  refine g_icmp_ge C 31 dX0_bucketOf_17 (by decide) (by omega) (by omega) (fun h17 => ?_) (fun h17 => ?_)
  · refine g_iload_n C dX0_bucketOf_31 0 rfl rfl ?_
    exact hret _ _ _ () dX0_bucketOf_32 rfl (by unfold bk; rw [if_neg (by omega)])
  · refine g_iload_n C dX0_bucketOf_20 1 rfl rfl ?_
    refine g_iconst (v := nI 2) C dX0_bucketOf_21 (by decide) ?_
    refine g_aload_n C dX0_bucketOf_22 2 rfl rfl ?_
    refine g_callI0 (ci := 0) (q0 := 0) (rest := [.int (nI 2), .int (nI (hh k))]) C (c_X0_bucketsAtLevelStart _ _ o12 (by omega)) gX0_bucketOf_X0_bucketsAtLevelStart rfl rfl rfl hdX0_bucketsAtLevelStart (by decide) rfl rfl rfl rfl (Nat.le_of_ble_eq_true rfl) dX0_bucketOf_23 (fun r _ hw => ?_)
    subst hw
    show G K 0 0 26 [(3, .int (nI ((hh k) % (rd b lv)))), (2, .int (nI (hh k))), (0, .ref h0), (1, .int k)] [.int (nI (rd b lv)), .int (nI 2), .int (nI (hh k))] (wX h0 hk hv hr cA nk nr b c pl bl n lv pt fk fv fr)
    refine g_imul C dX0_bucketOf_26 ?_
    refine g_irem C dX0_bucketOf_27 (hh_lt k) (by omega) (by omega) ?_
    refine g_goto C 32 dX0_bucketOf_28 (by decide) ?_
    exact hret _ _ _ () dX0_bucketOf_32 rfl (by unfold bk; rw [if_pos h17])
set_option maxHeartbeats 4000000 in
set_option maxRecDepth 100000 in
theorem c_X0_isBucket (l : Launch) (D : va_G) {cA : ClassId} {h0 hk hv hr nk nr b c pl bl n lv pt : Nat} {fk fv fr : Nat → Int32} (ok : okS b c pl bl n lv pt) (hx : n ≤ nk ∧ nk ≤ 512 ∧ nr = bl) (x : Int32)  : MetI (S := Unit) l yX0_isBucket wsX0_isBucket ({ frames := 2, cells := 0, slots := 0, locals := 40 } : Room) D [(cA, .int)] [.ref h0, .int x] (wX h0 hk hv hr cA nk nr b c pl bl n lv pt fk fv fr) (fun _ => wX h0 hk hv hr cA nk nr b c pl bl n lv pt fk fv fr) (fun r _ => r = bI (∃ j, j < rd b lv + pt ∧ x = nI j)) 0 0 := by
  refine MetI_of (cc := cX0_isBucket) (maxL := 2) (rt := .boolean) (lv0 := [(0, .ref h0), (1, .int x)]) (by decide) rfl (Nat.le_of_ble_eq_true rfl) rfl ?_
  intro K _ _ C hret
  have C : Cx K ({ frames := 2, cells := 0, slots := 0, locals := 40 } : Room) 2 cX0_isBucket RX0 wsX0_isBucket [(cA, .int)] := C
  obtain ⟨o1, o2, o3, o4, o5, o6, o7, o8, o9, o10, o11, o12⟩ := id ok
  obtain ⟨x1, x2, x3⟩ := id hx
  refine g_iload_n C dX0_isBucket_0 1 rfl rfl ?_
  refine g_if_lt C 16 dX0_isBucket_1 (by decide) (fun h1 => ?_) (fun h1 => ?_)
  · refine g_iconst (v := nI 0) C dX0_isBucket_16 (by decide) ?_
    exact hret _ _ _ () dX0_isBucket_17 (by decide) (bI_f (ib_neg h1 (by omega))).symm
  · refine g_iload_n C dX0_isBucket_4 1 rfl rfl ?_
    refine g_aload_n C dX0_isBucket_5 0 rfl rfl ?_
    refine g_callI0 (ci := 0) (q0 := 0) (rest := [.int x]) C (c_X0_buckets _ _ ok hx) gX0_isBucket_X0_buckets rfl rfl rfl hdX0_buckets (by decide) rfl rfl rfl rfl (Nat.le_of_ble_eq_true rfl) dX0_isBucket_6 (fun r _ hw => ?_)
    subst hw
    show G K 0 0 9 [(0, .ref h0), (1, .int x)] [.int (nI (rd b lv + pt)), .int x] (wX h0 hk hv hr cA nk nr b c pl bl n lv pt fk fv fr)
    refine g_icmp_geI C 16 dX0_isBucket_9 (by decide) (fun h9 => ?_) (fun h9 => ?_)
    · refine g_iconst (v := nI 0) C dX0_isBucket_16 (by decide) ?_
      exact hret _ _ _ () dX0_isBucket_17 (by decide) (bI_f (ib_big h9 (by omega))).symm
    · refine g_iconst (v := nI 1) C dX0_isBucket_12 (by decide) ?_
      refine g_goto C 17 dX0_isBucket_13 (by decide) ?_
      exact hret _ _ _ () dX0_isBucket_17 (by decide) (bI_t (ib_ok h1 h9 (by omega))).symm
set_option maxHeartbeats 4000000 in
set_option maxRecDepth 100000 in
theorem c_X0_isCrowded (l : Launch) (D : va_G) {cA : ClassId} {h0 hk hv hr nk nr b c pl bl n lv pt : Nat} {fk fv fr : Nat → Int32} (ok : okS b c pl bl n lv pt) (hx : n ≤ nk ∧ nk ≤ 512 ∧ nr = bl)   : MetI (S := Unit) l yX0_isCrowded wsX0_isCrowded ({ frames := 2, cells := 0, slots := 0, locals := 40 } : Room) D [(cA, .int)] [.ref h0] (wX h0 hk hv hr cA nk nr b c pl bl n lv pt fk fv fr) (fun _ => wX h0 hk hv hr cA nk nr b c pl bl n lv pt fk fv fr) (fun r _ => r = bI (3 * c * (rd b lv + pt) < 4 * n)) 0 0 := by
  refine MetI_of (cc := cX0_isCrowded) (maxL := 1) (rt := .boolean) (lv0 := [(0, .ref h0)]) (by decide) rfl (Nat.le_of_ble_eq_true rfl) rfl ?_
  intro K _ _ C hret
  have C : Cx K ({ frames := 2, cells := 0, slots := 0, locals := 40 } : Room) 1 cX0_isCrowded RX0 wsX0_isCrowded [(cA, .int)] := C
  obtain ⟨o1, o2, o3, o4, o5, o6, o7, o8, o9, o10, o11, o12⟩ := id ok
  obtain ⟨x1, x2, x3⟩ := id hx
  refine g_iconst (v := nI 4) C dX0_isCrowded_0 (by decide) ?_
  refine g_aload_n C dX0_isCrowded_1 0 rfl rfl ?_
  refine g_get (ci := 0) C inX0_isCrowded rfl 0 6 (by decide) lkX0_isCrowded_46 dX0_isCrowded_2 rfl rfl ?_
  refine g_imul C dX0_isCrowded_5 ?_
  refine g_iconst (v := nI 3) C dX0_isCrowded_6 (by decide) ?_
  refine g_aload_n C dX0_isCrowded_7 0 rfl rfl ?_
  refine g_get (ci := 0) C inX0_isCrowded rfl 0 1 (by decide) lkX0_isCrowded_17 dX0_isCrowded_8 rfl rfl ?_
  refine g_imul C dX0_isCrowded_11 ?_
  refine g_aload_n C dX0_isCrowded_12 0 rfl rfl ?_
  refine g_callI0 (ci := 0) (q0 := 0) (rest := [.int (nI (3 * c)), .int (nI (4 * n))]) C (c_X0_buckets _ _ ok hx) gX0_isCrowded_X0_buckets rfl rfl rfl hdX0_buckets (by decide) rfl rfl rfl rfl (Nat.le_of_ble_eq_true rfl) dX0_isCrowded_13 (fun r _ hw => ?_)
  subst hw
  show G K 0 0 16 [(0, .ref h0)] [.int (nI (rd b lv + pt)), .int (nI (3 * c)), .int (nI (4 * n))] (wX h0 hk hv hr cA nk nr b c pl bl n lv pt fk fv fr)
  refine g_imul C dX0_isCrowded_16 ?_
  refine g_icmp_le C 24 dX0_isCrowded_17 (by decide) (by omega) (by have := ok_m3 ok; omega) (fun h17 => ?_) (fun h17 => ?_)
  · refine g_iconst (v := nI 0) C dX0_isCrowded_24 (by decide) ?_
    exact hret _ _ _ () dX0_isCrowded_25 (by decide) (bI_f (by omega)).symm
  · refine g_iconst (v := nI 1) C dX0_isCrowded_20 (by decide) ?_
    refine g_goto C 25 dX0_isCrowded_21 (by decide) ?_
    exact hret _ _ _ () dX0_isCrowded_25 (by decide) (bI_t h17).symm
set_option maxHeartbeats 4000000 in
set_option maxRecDepth 100000 in
theorem c_X0_isSparse (l : Launch) (D : va_G) {cA : ClassId} {h0 hk hv hr nk nr b c pl bl n lv pt : Nat} {fk fv fr : Nat → Int32} (ok : okS b c pl bl n lv pt) (hx : n ≤ nk ∧ nk ≤ 512 ∧ nr = bl)   : MetI (S := Unit) l yX0_isSparse wsX0_isSparse ({ frames := 2, cells := 0, slots := 0, locals := 40 } : Room) D [(cA, .int)] [.ref h0] (wX h0 hk hv hr cA nk nr b c pl bl n lv pt fk fv fr) (fun _ => wX h0 hk hv hr cA nk nr b c pl bl n lv pt fk fv fr) (fun r _ => r = bI (4 * n < c * (rd b lv + pt))) 0 0 := by
  refine MetI_of (cc := cX0_isSparse) (maxL := 1) (rt := .boolean) (lv0 := [(0, .ref h0)]) (by decide) rfl (Nat.le_of_ble_eq_true rfl) rfl ?_
  intro K _ _ C hret
  have C : Cx K ({ frames := 2, cells := 0, slots := 0, locals := 40 } : Room) 1 cX0_isSparse RX0 wsX0_isSparse [(cA, .int)] := C
  obtain ⟨o1, o2, o3, o4, o5, o6, o7, o8, o9, o10, o11, o12⟩ := id ok
  obtain ⟨x1, x2, x3⟩ := id hx
  refine g_iconst (v := nI 4) C dX0_isSparse_0 (by decide) ?_
  refine g_aload_n C dX0_isSparse_1 0 rfl rfl ?_
  refine g_get (ci := 0) C inX0_isSparse rfl 0 6 (by decide) lkX0_isSparse_46 dX0_isSparse_2 rfl rfl ?_
  refine g_imul C dX0_isSparse_5 ?_
  refine g_aload_n C dX0_isSparse_6 0 rfl rfl ?_
  refine g_get (ci := 0) C inX0_isSparse rfl 0 1 (by decide) lkX0_isSparse_17 dX0_isSparse_7 rfl rfl ?_
  refine g_aload_n C dX0_isSparse_10 0 rfl rfl ?_
  refine g_callI0 (ci := 0) (q0 := 0) (rest := [.int (nI c), .int (nI (4 * n))]) C (c_X0_buckets _ _ ok hx) gX0_isSparse_X0_buckets rfl rfl rfl hdX0_buckets (by decide) rfl rfl rfl rfl (Nat.le_of_ble_eq_true rfl) dX0_isSparse_11 (fun r _ hw => ?_)
  subst hw
  show G K 0 0 14 [(0, .ref h0)] [.int (nI (rd b lv + pt)), .int (nI c), .int (nI (4 * n))] (wX h0 hk hv hr cA nk nr b c pl bl n lv pt fk fv fr)
  refine g_imul C dX0_isSparse_14 ?_
  refine g_icmp_ge C 22 dX0_isSparse_15 (by decide) (by omega) (by have := ok_m1 ok; omega) (fun h15 => ?_) (fun h15 => ?_)
  · refine g_iconst (v := nI 0) C dX0_isSparse_22 (by decide) ?_
    exact hret _ _ _ () dX0_isSparse_23 (by decide) (bI_f (by omega)).symm
  · refine g_iconst (v := nI 1) C dX0_isSparse_18 (by decide) ?_
    refine g_goto C 23 dX0_isSparse_19 (by decide) ?_
    exact hret _ _ _ () dX0_isSparse_23 (by decide) (bI_t h15).symm
set_option maxHeartbeats 4000000 in
set_option maxRecDepth 100000 in
theorem c_X0_placeOf (l : Launch) (D : va_G) {cA : ClassId} {h0 hk hv hr nk nr b c pl bl n lv pt : Nat} {fk fv fr : Nat → Int32} (ok : okS b c pl bl n lv pt) (hx : n ≤ nk ∧ nk ≤ 512 ∧ nr = bl) (k : Int32)  : MetI (S := Unit) l yX0_placeOf wsX0_placeOf ({ frames := 0, cells := 0, slots := 0, locals := 0 } : Room) D [(cA, .int)] [.ref h0, .int k] (wX h0 hk hv hr cA nk nr b c pl bl n lv pt fk fv fr) (fun _ => wX h0 hk hv hr cA nk nr b c pl bl n lv pt fk fv fr) (fun r _ => (∃ j, j < n ∧ fk j = k ∧ (∀ i, i < j → fk i ≠ k) ∧ r = nI j) ∨ ((∀ j, j < n → fk j ≠ k) ∧ r = -1)) 0 0 := by
  refine MetI_of (cc := cX0_placeOf) (maxL := 3) (rt := .int) (lv0 := [(0, .ref h0), (1, .int k)]) (by decide) rfl (Nat.le_of_ble_eq_true rfl) rfl ?_
  intro K _ _ C hret
  have C : Cx K ({ frames := 0, cells := 0, slots := 0, locals := 0 } : Room) 3 cX0_placeOf RX0 wsX0_placeOf [(cA, .int)] := C
  obtain ⟨o1, o2, o3, o4, o5, o6, o7, o8, o9, o10, o11, o12⟩ := id ok
  obtain ⟨x1, x2, x3⟩ := id hx
  refine g_iconst (v := nI 0) C dX0_placeOf_0 (by decide) ?_
  refine g_istore_n (lv' := [(2, .int (nI 0)), (0, .ref h0), (1, .int k)]) C dX0_placeOf_1 rfl (by decide) rfl ?_
  have loop2 : ∀ (t : Nat) (i : Nat), i ≤ n → n < i + t → (∀ j, j < i → fk j ≠ k) → G K 0 0 2 [(2, .int (nI i)), (0, .ref h0), (1, .int k)] [] (wX h0 hk hv hr cA nk nr b c pl bl n lv pt fk fv fr) := by
    intro t
    induction t with
    | zero =>
      intro i hi ht hall
      exact absurd ht (by omega)
    | succ t ih =>
      intro i hi ht hall
      refine g_iload_n C dX0_placeOf_2 0 rfl rfl ?_
      refine g_aload_n C dX0_placeOf_3 1 rfl rfl ?_
      refine g_get (ci := 0) C inX0_placeOf rfl 0 6 (by decide) lkX0_placeOf_46 dX0_placeOf_4 rfl rfl ?_
      refine g_icmp_ge C 28 dX0_placeOf_7 (by decide) (by omega) (by omega) (fun h7 => ?_) (fun h7 => ?_)
      · refine g_iconst (v := -1) C dX0_placeOf_28 (by decide) ?_
        exact hret _ _ _ () dX0_placeOf_29 rfl (Or.inr ⟨fun j hj => hall j (by omega), rfl⟩)
      · refine g_aload_n C dX0_placeOf_10 1 rfl rfl ?_
        refine g_get (ci := 0) C inX0_placeOf rfl 0 4 (by decide) lkX0_placeOf_32 dX0_placeOf_11 rfl rfl ?_
        refine g_iload_n C dX0_placeOf_14 0 rfl rfl ?_
        refine g_iald C 1 dX0_placeOf_15 rfl (by omega) (by omega) ?_
        refine g_iload_n C dX0_placeOf_16 2 rfl rfl ?_
        refine g_icmp_neI C 22 dX0_placeOf_17 (by decide) (fun h17 => ?_) (fun h17 => ?_)
        · refine g_iinc (v := nI (i + 1)) (lv' := [(2, .int (nI (i + 1))), (0, .ref h0), (1, .int k)]) C dX0_placeOf_22 0 rfl (nI_add _ 1) (by decide) rfl ?_
          refine g_goto C 2 dX0_placeOf_25 (by decide) ?_
          refine g_lv [0, 1, 2] rfl ?_
          exact ih (i + 1) (by omega) (by omega) (lt_s hall h17)
        · refine g_iload_n C dX0_placeOf_20 0 rfl rfl ?_
          exact hret _ _ _ () dX0_placeOf_21 rfl (Or.inl ⟨i, h7, h17, hall, rfl⟩)
  refine g_lv [0, 1, 2] rfl ?_
  exact loop2 (n + 1) 0 (by omega) (by omega) (fun j hj => absurd hj (by omega))
set_option maxHeartbeats 4000000 in
set_option maxRecDepth 100000 in
theorem c_X0_pagesFor (l : Launch) (D : va_G) {cA : ClassId} {h0 hk hv hr nk nr b c pl bl n lv pt : Nat} {fk fv fr : Nat → Int32} (ok : okS b c pl bl n lv pt) (hx : n ≤ nk ∧ nk ≤ 512 ∧ nr = bl) (m : Nat) (hm : m ≤ 600) : MetI (S := Unit) l yX0_pagesFor wsX0_pagesFor ({ frames := 1, cells := 0, slots := 0, locals := 13 } : Room) D [(cA, .int)] [.ref h0, .int (nI m)] (wX h0 hk hv hr cA nk nr b c pl bl n lv pt fk fv fr) (fun _ => wX h0 hk hv hr cA nk nr b c pl bl n lv pt fk fv fr) (fun r _ => r = nI (pg c m)) 0 0 := by
  refine MetI_of (cc := cX0_pagesFor) (maxL := 2) (rt := .int) (lv0 := [(0, .ref h0), (1, .int (nI m))]) (by decide) rfl (Nat.le_of_ble_eq_true rfl) rfl ?_
  intro K _ _ C hret
  have C : Cx K ({ frames := 1, cells := 0, slots := 0, locals := 13 } : Room) 2 cX0_pagesFor RX0 wsX0_pagesFor [(cA, .int)] := C
  obtain ⟨o1, o2, o3, o4, o5, o6, o7, o8, o9, o10, o11, o12⟩ := id ok
  obtain ⟨x1, x2, x3⟩ := id hx
  refine g_iconst (v := nI 1) C dX0_pagesFor_0 (by decide) ?_
  refine g_iload_n C dX0_pagesFor_1 1 rfl rfl ?_
  refine g_aload_n C dX0_pagesFor_2 0 rfl rfl ?_
  refine g_get (ci := 0) C inX0_pagesFor rfl 0 1 (by decide) lkX0_pagesFor_17 dX0_pagesFor_3 rfl rfl ?_
  refine g_iadd C dX0_pagesFor_6 ?_
  refine g_iconst (v := nI 1) C dX0_pagesFor_7 (by decide) ?_
  refine g_isub C dX0_pagesFor_8 (by omega) ?_
  refine g_aload_n C dX0_pagesFor_9 0 rfl rfl ?_
  refine g_get (ci := 0) C inX0_pagesFor rfl 0 1 (by decide) lkX0_pagesFor_17 dX0_pagesFor_10 rfl rfl ?_
  refine g_idiv C dX0_pagesFor_13 (by omega) (by omega) (by omega) ?_
  refine g_mmax C (by decide +kernel) dX0_pagesFor_14 ⟨by decide, Nat.le_of_ble_eq_true rfl, by decide, by decide⟩ ?_
  refine g_top (pg_max o3 (by omega)) ?_
  exact hret _ _ _ () dX0_pagesFor_17 rfl rfl
set_option maxHeartbeats 4000000 in
set_option maxRecDepth 100000 in
theorem c_X0_size (l : Launch) (D : va_G) {cA : ClassId} {h0 hk hv hr nk nr b c pl bl n lv pt : Nat} {fk fv fr : Nat → Int32} (ok : okS b c pl bl n lv pt) (hx : n ≤ nk ∧ nk ≤ 512 ∧ nr = bl)   : MetI (S := Unit) l yX0_size wsX0_size ({ frames := 0, cells := 0, slots := 0, locals := 0 } : Room) D [(cA, .int)] [.ref h0] (wX h0 hk hv hr cA nk nr b c pl bl n lv pt fk fv fr) (fun _ => wX h0 hk hv hr cA nk nr b c pl bl n lv pt fk fv fr) (fun r _ => r = nI n) 0 0 := by
  refine MetI_of (cc := cX0_size) (maxL := 1) (rt := .int) (lv0 := [(0, .ref h0)]) (by decide) rfl (Nat.le_of_ble_eq_true rfl) rfl ?_
  intro K _ _ C hret
  have C : Cx K ({ frames := 0, cells := 0, slots := 0, locals := 0 } : Room) 1 cX0_size RX0 wsX0_size [(cA, .int)] := C
  obtain ⟨o1, o2, o3, o4, o5, o6, o7, o8, o9, o10, o11, o12⟩ := id ok
  obtain ⟨x1, x2, x3⟩ := id hx
  refine g_aload_n C dX0_size_0 0 rfl rfl ?_
  refine g_get (ci := 0) C inX0_size rfl 0 6 (by decide) lkX0_size_46 dX0_size_1 rfl rfl ?_
  exact hret _ _ _ () dX0_size_4 rfl rfl
set_option maxHeartbeats 4000000 in
set_option maxRecDepth 100000 in
theorem c_X0_level (l : Launch) (D : va_G) {cA : ClassId} {h0 hk hv hr nk nr b c pl bl n lv pt : Nat} {fk fv fr : Nat → Int32} (ok : okS b c pl bl n lv pt) (hx : n ≤ nk ∧ nk ≤ 512 ∧ nr = bl)   : MetI (S := Unit) l yX0_level wsX0_level ({ frames := 0, cells := 0, slots := 0, locals := 0 } : Room) D [(cA, .int)] [.ref h0] (wX h0 hk hv hr cA nk nr b c pl bl n lv pt fk fv fr) (fun _ => wX h0 hk hv hr cA nk nr b c pl bl n lv pt fk fv fr) (fun r _ => r = nI lv) 0 0 := by
  refine MetI_of (cc := cX0_level) (maxL := 1) (rt := .int) (lv0 := [(0, .ref h0)]) (by decide) rfl (Nat.le_of_ble_eq_true rfl) rfl ?_
  intro K _ _ C hret
  have C : Cx K ({ frames := 0, cells := 0, slots := 0, locals := 0 } : Room) 1 cX0_level RX0 wsX0_level [(cA, .int)] := C
  obtain ⟨o1, o2, o3, o4, o5, o6, o7, o8, o9, o10, o11, o12⟩ := id ok
  obtain ⟨x1, x2, x3⟩ := id hx
  refine g_aload_n C dX0_level_0 0 rfl rfl ?_
  refine g_get (ci := 0) C inX0_level rfl 0 7 (by decide) lkX0_level_73 dX0_level_1 rfl rfl ?_
  exact hret _ _ _ () dX0_level_4 rfl rfl
set_option maxHeartbeats 4000000 in
set_option maxRecDepth 100000 in
theorem c_X0_pointer (l : Launch) (D : va_G) {cA : ClassId} {h0 hk hv hr nk nr b c pl bl n lv pt : Nat} {fk fv fr : Nat → Int32} (ok : okS b c pl bl n lv pt) (hx : n ≤ nk ∧ nk ≤ 512 ∧ nr = bl)   : MetI (S := Unit) l yX0_pointer wsX0_pointer ({ frames := 0, cells := 0, slots := 0, locals := 0 } : Room) D [(cA, .int)] [.ref h0] (wX h0 hk hv hr cA nk nr b c pl bl n lv pt fk fv fr) (fun _ => wX h0 hk hv hr cA nk nr b c pl bl n lv pt fk fv fr) (fun r _ => r = nI pt) 0 0 := by
  refine MetI_of (cc := cX0_pointer) (maxL := 1) (rt := .int) (lv0 := [(0, .ref h0)]) (by decide) rfl (Nat.le_of_ble_eq_true rfl) rfl ?_
  intro K _ _ C hret
  have C : Cx K ({ frames := 0, cells := 0, slots := 0, locals := 0 } : Room) 1 cX0_pointer RX0 wsX0_pointer [(cA, .int)] := C
  obtain ⟨o1, o2, o3, o4, o5, o6, o7, o8, o9, o10, o11, o12⟩ := id ok
  obtain ⟨x1, x2, x3⟩ := id hx
  refine g_aload_n C dX0_pointer_0 0 rfl rfl ?_
  refine g_get (ci := 0) C inX0_pointer rfl 0 8 (by decide) lkX0_pointer_70 dX0_pointer_1 rfl rfl ?_
  exact hret _ _ _ () dX0_pointer_4 rfl rfl
set_option maxHeartbeats 4000000 in
set_option maxRecDepth 100000 in
theorem c_X0_get (l : Launch) (D : va_G) {cA : ClassId} {h0 hk hv hr nk nr b c pl bl n lv pt : Nat} {fk fv fr : Nat → Int32} (ok : okS b c pl bl n lv pt) (hx : n ≤ nk ∧ nk ≤ 512 ∧ nr = bl) (k : Int32)  : MetI (S := Unit) l yX0_get wsX0_get ({ frames := 1, cells := 0, slots := 0, locals := 22 } : Room) D [(cA, .int)] [.ref h0, .int k] (wX h0 hk hv hr cA nk nr b c pl bl n lv pt fk fv fr) (fun _ => wX h0 hk hv hr cA nk nr b c pl bl n lv pt fk fv fr) (fun r _ => (∃ j, j < n ∧ fk j = k ∧ r = fv j) ∨ ((∀ j, j < n → fk j ≠ k) ∧ r = nI 0)) 0 0 := by
  refine MetI_of (cc := cX0_get) (maxL := 3) (rt := .int) (lv0 := [(0, .ref h0), (1, .int k)]) (by decide) rfl (Nat.le_of_ble_eq_true rfl) rfl ?_
  intro K _ _ C hret
  have C : Cx K ({ frames := 1, cells := 0, slots := 0, locals := 22 } : Room) 3 cX0_get RX0 wsX0_get [(cA, .int)] := C
  obtain ⟨o1, o2, o3, o4, o5, o6, o7, o8, o9, o10, o11, o12⟩ := id ok
  obtain ⟨x1, x2, x3⟩ := id hx
  refine g_aload_n C dX0_get_0 0 rfl rfl ?_
  refine g_iload_n C dX0_get_1 1 rfl rfl ?_
  refine g_callI0 (ci := 0) (q0 := 0) (rest := []) C (c_X0_placeOf _ _ ok hx k) gX0_get_X0_placeOf rfl rfl rfl hdX0_placeOf (by decide) rfl rfl rfl rfl (Nat.le_of_ble_eq_true rfl) dX0_get_2 (fun r _ hw => ?_)
  show G K 0 0 5 [(0, .ref h0), (1, .int k)] [.int r] (wX h0 hk hv hr cA nk nr b c pl bl n lv pt fk fv fr)
  refine g_istore_n (lv' := [(2, .int r), (0, .ref h0), (1, .int k)]) C dX0_get_5 rfl (by decide) rfl ?_
  refine g_iload_n C dX0_get_6 0 rfl rfl ?_
  refine g_iconst (v := -1) C dX0_get_7 (by decide) ?_
  refine g_icmp_neI C 15 dX0_get_8 (by decide) (fun h8 => ?_) (fun h8 => ?_)
  · obtain ⟨j, hj, hkj, er⟩ : ∃ j, j < n ∧ fk j = k ∧ r = nI j := by
      rcases hw with ⟨j, a1, a2, _, a3⟩ | ⟨_, a3⟩
      · exact ⟨j, a1, a2, a3⟩
      · exact absurd a3 h8
    subst er
    refine g_aload_n C dX0_get_15 1 rfl rfl ?_
    refine g_get (ci := 0) C inX0_get rfl 0 5 (by decide) lkX0_get_36 dX0_get_16 rfl rfl ?_
    refine g_iload_n C dX0_get_19 0 rfl rfl ?_
    refine g_iald C 2 dX0_get_20 rfl (by omega) (by omega) ?_
    exact hret _ _ _ () dX0_get_21 rfl (Or.inl ⟨j, hj, hkj, rfl⟩)
  · have hno : ∀ j, j < n → fk j ≠ k := by
      rcases hw with ⟨j, a1, a2, _, a3⟩ | ⟨a1, _⟩
      · exact absurd (a3.symm.trans h8) (nI_m1 (by omega))
      · exact a1
    refine g_iconst (v := nI 0) C dX0_get_11 (by decide) ?_
    refine g_goto C 21 dX0_get_12 (by decide) ?_
    exact hret _ _ _ () dX0_get_21 rfl (Or.inr ⟨hno, rfl⟩)
set_option maxHeartbeats 4000000 in
set_option maxRecDepth 100000 in
theorem c_X0_has (l : Launch) (D : va_G) {cA : ClassId} {h0 hk hv hr nk nr b c pl bl n lv pt : Nat} {fk fv fr : Nat → Int32} (ok : okS b c pl bl n lv pt) (hx : n ≤ nk ∧ nk ≤ 512 ∧ nr = bl) (k : Int32)  : MetI (S := Unit) l yX0_has wsX0_has ({ frames := 1, cells := 0, slots := 0, locals := 22 } : Room) D [(cA, .int)] [.ref h0, .int k] (wX h0 hk hv hr cA nk nr b c pl bl n lv pt fk fv fr) (fun _ => wX h0 hk hv hr cA nk nr b c pl bl n lv pt fk fv fr) (fun r _ => r = bI (∃ j, j < n ∧ fk j = k)) 0 0 := by
  refine MetI_of (cc := cX0_has) (maxL := 2) (rt := .boolean) (lv0 := [(0, .ref h0), (1, .int k)]) (by decide) rfl (Nat.le_of_ble_eq_true rfl) rfl ?_
  intro K _ _ C hret
  have C : Cx K ({ frames := 1, cells := 0, slots := 0, locals := 22 } : Room) 2 cX0_has RX0 wsX0_has [(cA, .int)] := C
  obtain ⟨o1, o2, o3, o4, o5, o6, o7, o8, o9, o10, o11, o12⟩ := id ok
  obtain ⟨x1, x2, x3⟩ := id hx
  refine g_aload_n C dX0_has_0 0 rfl rfl ?_
  refine g_iload_n C dX0_has_1 1 rfl rfl ?_
  refine g_callI0 (ci := 0) (q0 := 0) (rest := []) C (c_X0_placeOf _ _ ok hx k) gX0_has_X0_placeOf rfl rfl rfl hdX0_placeOf (by decide) rfl rfl rfl rfl (Nat.le_of_ble_eq_true rfl) dX0_has_2 (fun r _ hw => ?_)
  show G K 0 0 5 [(0, .ref h0), (1, .int k)] [.int r] (wX h0 hk hv hr cA nk nr b c pl bl n lv pt fk fv fr)
  refine g_iconst (v := -1) C dX0_has_5 (by decide) ?_
  refine g_icmp_eqI C 13 dX0_has_6 (by decide) (fun h6 => ?_) (fun h6 => ?_)
  · have hno : ∀ j, j < n → fk j ≠ k := by
      rcases hw with ⟨j, a1, a2, _, a3⟩ | ⟨a1, _⟩
      · exact absurd (a3.symm.trans h6) (nI_m1 (by omega))
      · exact a1
    refine g_iconst (v := nI 0) C dX0_has_13 (by decide) ?_
    exact hret _ _ _ () dX0_has_14 (by decide) (bI_f (fun ⟨j, a1, a2⟩ => hno j a1 a2)).symm
  · obtain ⟨j, hj, hkj, er⟩ : ∃ j, j < n ∧ fk j = k ∧ r = nI j := by
      rcases hw with ⟨j, a1, a2, _, a3⟩ | ⟨_, a3⟩
      · exact ⟨j, a1, a2, a3⟩
      · exact absurd a3 h6
    subst er
    refine g_iconst (v := nI 1) C dX0_has_9 (by decide) ?_
    refine g_goto C 14 dX0_has_10 (by decide) ?_
    exact hret _ _ _ () dX0_has_14 (by decide) (bI_t ⟨j, hj, hkj⟩).symm
