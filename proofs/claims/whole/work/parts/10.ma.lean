/-! the reference -/
def hom (b n lv pt : Nat) (fk fh : Nat → Int32) : Prop := ∀ j, j < n → fh j = nI (bk b lv pt (fk j))
abbrev MS : Type := Nat × Nat × Nat × (Nat → Int32) × (Nat → Int32) × (Nat → Int32) × (Nat → Int32)
theorem fd_ne {fk : Nat → Int32} {i : Nat} {k x : Int32} (h : (∃ j, j < i ∧ fk j = k ∧ x = nI j) ∨ ((∀ j, j < i → fk j ≠ k) ∧ x = -1)) (hn : ¬ fk i = k) : (∃ j, j < i + 1 ∧ fk j = k ∧ x = nI j) ∨ ((∀ j, j < i + 1 → fk j ≠ k) ∧ x = -1) := by
  rcases h with ⟨j, a1, a2, a3⟩ | ⟨a1, a2⟩
  · exact Or.inl ⟨j, by omega, a2, a3⟩
  · exact Or.inr ⟨lt_s a1 hn, a2⟩
theorem up_nx {f F : Nat → Int32} {i : Nat} (h : ∀ j, j < i → f j = F j) : ∀ j, j < i + 1 → upd f i (F i) j = F j := fun j hj => by
  by_cases e : j = i
  · subst e; exact pk_us
  · rw [pk_un e]; exact h j (by omega)
theorem hom_mv {b n lv pt a q : Nat} {fk fh : Nat → Int32} (ha : a < n) (hq : bk b lv pt (fk a) = q) (h : hom b n lv pt fk fh) : hom b n lv pt (mv fk a n) (upd (sh fh a (n - 1)) (n - 1) (nI q)) := by
  intro j hj
  by_cases e : j = n - 1
  · subst e; rw [pk_us, mv_last, hq]
  · rw [pk_un e, mv_ne e]
    by_cases e2 : a ≤ j
    · rw [sh_in e2 (by omega), sh_in e2 (by omega)]; exact h (j + 1) (by omega)
    · rw [sh_lt (by omega), sh_lt (by omega)]; exact h j hj
theorem hom_cut {b n lv pt j m : Nat} {fk fh : Nat → Int32} (hjm : j ≤ m) (hmn : m < n) (hb : bk b lv pt (fk m) = bk b lv pt (fk j)) (h : hom b n lv pt fk fh) : hom b (n - 1) lv pt (sh (upd fk j (fk m)) m (n - 1)) (sh fh m (n - 1)) := by
  intro x hx
  by_cases e : m ≤ x
  · rw [sh_in e hx, sh_in e hx, pk_un (by omega)]; exact h (x + 1) (by omega)
  · rw [sh_lt (by omega), sh_lt (by omega)]
    by_cases e2 : x = j
    · subst e2; rw [pk_us, hb]; exact h x (by omega)
    · rw [pk_un e2]; exact h x (by omega)
theorem fw_B {b lv pt : Nat} : rd b (fwL b lv pt) + fwP b lv pt = rd b lv + pt + 1 := by
  unfold fwL fwP
  by_cases e : pt + 1 = rd b lv
  · rw [if_pos e, if_pos e, rd_s]; omega
  · rw [if_neg e, if_neg e]; omega
set_option maxHeartbeats 4000000 in
set_option maxRecDepth 100000 in
theorem c_X1_round (l : Launch) (D : va_G) {cA : ClassId} {g0 gk gv gh gc b c pl bl n lv pt : Nat} {fk fv fh fc : Nat → Int32} (hl7 : lv ≤ 7) (hr200 : rd b lv ≤ 200)   : MetI (S := Unit) l yX1_round wsX1_round ({ frames := 0, cells := 0, slots := 0, locals := 0 } : Room) D [(cA, .int)] [.ref g0] (wM g0 gk gv gh gc cA b c pl bl n lv pt fk fv fh fc) (fun _ => wM g0 gk gv gh gc cA b c pl bl n lv pt fk fv fh fc) (fun r _ => r = nI (rd b lv)) 0 0 := by
  refine MetI_of (cc := cX1_round) (maxL := 3) (rt := .int) (lv0 := [(0, .ref g0)]) (by decide) rfl (Nat.le_of_ble_eq_true rfl) rfl ?_
  intro K _ _ C hret
  have C : Cx K ({ frames := 0, cells := 0, slots := 0, locals := 0 } : Room) 3 cX1_round RX1 wsX1_round [(cA, .int)] := C
  refine g_aload_n C dX1_round_0 0 rfl rfl ?_
  refine g_get (ci := 1) C inX1_round rfl 0 0 (by decide) lkX1_round_22 dX1_round_1 rfl rfl ?_
  refine g_istore_n (lv' := [(1, .int (nI b)), (0, .ref g0)]) C dX1_round_4 rfl (by decide) rfl ?_
  refine g_iconst (v := nI 0) C dX1_round_5 (by decide) ?_
  refine g_istore_n (lv' := [(2, .int (nI 0)), (1, .int (nI b)), (0, .ref g0)]) C dX1_round_6 rfl (by decide) rfl ?_
  have loop7 : ∀ (t : Nat) (i : Nat) (r : Nat), i ≤ lv → lv < i + t → r = rd b i → G K 0 0 7 [(2, .int (nI i)), (1, .int (nI r)), (0, .ref g0)] [] (wM g0 gk gv gh gc cA b c pl bl n lv pt fk fv fh fc) := by
    intro t
    induction t with
    | zero =>
      intro i r hi ht hr
      exact absurd ht (by omega)
    | succ t ih =>
      intro i r hi ht hr
      refine g_iload_n C dX1_round_7 0 rfl rfl ?_
      refine g_aload_n C dX1_round_8 2 rfl rfl ?_
      refine g_get (ci := 1) C inX1_round rfl 0 8 (by decide) lkX1_round_35 dX1_round_9 rfl rfl ?_
      refine g_icmp_ge C 25 dX1_round_12 (by decide) (by omega) (by omega) (fun h12 => ?_) (fun h12 => ?_)
      · obtain rfl : lv = i := by omega
        refine g_iload_n C dX1_round_25 1 rfl rfl ?_
        exact hret _ _ _ () dX1_round_26 rfl (by rw [hr])
      · refine g_iconst (v := nI 2) C dX1_round_15 (by decide) ?_
        refine g_iload_n C dX1_round_16 1 rfl rfl ?_
        refine g_imul C dX1_round_17 ?_
        refine g_istore_n (lv' := [(1, .int (nI (2 * r))), (2, .int (nI i)), (0, .ref g0)]) C dX1_round_18 rfl (by decide) rfl ?_
        refine g_iinc (v := nI (i + 1)) (lv' := [(2, .int (nI (i + 1))), (1, .int (nI (2 * r))), (0, .ref g0)]) C dX1_round_19 1 rfl (nI_add _ 1) (by decide) rfl ?_
        refine g_goto C 7 dX1_round_22 (by decide) ?_
        refine g_lv [0, 1, 2] rfl ?_
        exact ih (i + 1) (2 * r) (by omega) (by omega) (by rw [hr]; exact (rd_s b i).symm)
  refine g_lv [0, 1, 2] rfl ?_
  exact loop7 (lv + 1) 0 b (by omega) (by omega) (rd_0 b).symm
set_option maxHeartbeats 4000000 in
set_option maxRecDepth 100000 in
theorem c_X1_buckets (l : Launch) (D : va_G) {cA : ClassId} {g0 gk gv gh gc b c pl bl n lv pt : Nat} {fk fv fh fc : Nat → Int32} (ok : okS b c pl bl n lv pt)   : MetI (S := Unit) l yX1_buckets wsX1_buckets ({ frames := 1, cells := 0, slots := 0, locals := 22 } : Room) D [(cA, .int)] [.ref g0] (wM g0 gk gv gh gc cA b c pl bl n lv pt fk fv fh fc) (fun _ => wM g0 gk gv gh gc cA b c pl bl n lv pt fk fv fh fc) (fun r _ => r = nI (rd b lv + pt)) 0 0 := by
  refine MetI_of (cc := cX1_buckets) (maxL := 1) (rt := .int) (lv0 := [(0, .ref g0)]) (by decide) rfl (Nat.le_of_ble_eq_true rfl) rfl ?_
  intro K _ _ C hret
  have C : Cx K ({ frames := 1, cells := 0, slots := 0, locals := 22 } : Room) 1 cX1_buckets RX1 wsX1_buckets [(cA, .int)] := C
  obtain ⟨o1, o2, o3, o4, o5, o6, o7, o8, o9, o10, o11, o12⟩ := id ok
  refine g_aload_n C dX1_buckets_0 0 rfl rfl ?_
  refine g_callI0 (ci := 1) (q0 := 0) (rest := []) C (c_X1_round _ _ o12 (by omega)) gX1_buckets_X1_round rfl rfl rfl hdX1_round (by decide) rfl rfl rfl rfl (Nat.le_of_ble_eq_true rfl) dX1_buckets_1 (fun r _ hw => ?_)
  subst hw
  show G K 0 0 4 [(0, .ref g0)] [.int (nI (rd b lv))] (wM g0 gk gv gh gc cA b c pl bl n lv pt fk fv fh fc)
  refine g_aload_n C dX1_buckets_4 0 rfl rfl ?_
  refine g_get (ci := 1) C inX1_buckets rfl 0 9 (by decide) lkX1_buckets_42 dX1_buckets_5 rfl rfl ?_
  refine g_iadd C dX1_buckets_8 ?_
  exact hret _ _ _ () dX1_buckets_9 rfl rfl
set_option maxHeartbeats 4000000 in
set_option maxRecDepth 100000 in
theorem c_X1_bucketOf (l : Launch) (D : va_G) {cA : ClassId} {g0 gk gv gh gc b c pl bl n lv pt : Nat} {fk fv fh fc : Nat → Int32} (ok : okS b c pl bl n lv pt) (k : Int32)  : MetI (S := Unit) l yX1_bucketOf wsX1_bucketOf ({ frames := 1, cells := 0, slots := 0, locals := 22 } : Room) D [(cA, .int)] [.ref g0, .int k] (wM g0 gk gv gh gc cA b c pl bl n lv pt fk fv fh fc) (fun _ => wM g0 gk gv gh gc cA b c pl bl n lv pt fk fv fh fc) (fun r _ => r = nI (bk b lv pt k)) 0 0 := by
  refine MetI_of (cc := cX1_bucketOf) (maxL := 4) (rt := .int) (lv0 := [(0, .ref g0), (1, .int k)]) (by decide) rfl (Nat.le_of_ble_eq_true rfl) rfl ?_
  intro K _ _ C hret
  have C : Cx K ({ frames := 1, cells := 0, slots := 0, locals := 22 } : Room) 4 cX1_bucketOf RX1 wsX1_bucketOf [(cA, .int)] := C
  obtain ⟨o1, o2, o3, o4, o5, o6, o7, o8, o9, o10, o11, o12⟩ := id ok
  refine g_iload_n C dX1_bucketOf_0 1 rfl rfl ?_
  refine g_ldc (v := 2147483647) C (by decide +kernel) dX1_bucketOf_1 ?_
  refine g_iand C dX1_bucketOf_3 ?_
  refine g_top (hh_and k) ?_
  refine g_istore_n (lv' := [(2, .int (nI (hh k))), (0, .ref g0), (1, .int k)]) C dX1_bucketOf_4 rfl (by decide) rfl ?_
  refine g_iload_n C dX1_bucketOf_5 0 rfl rfl ?_
  refine g_aload_n C dX1_bucketOf_6 1 rfl rfl ?_
  refine g_callI0 (ci := 1) (q0 := 0) (rest := [.int (nI (hh k))]) C (c_X1_round _ _ o12 (by omega)) gX1_bucketOf_X1_round rfl rfl rfl hdX1_round (by decide) rfl rfl rfl rfl (Nat.le_of_ble_eq_true rfl) dX1_bucketOf_7 (fun r _ hw => ?_)
  subst hw
  show G K 0 0 10 [(2, .int (nI (hh k))), (0, .ref g0), (1, .int k)] [.int (nI (rd b lv)), .int (nI (hh k))] (wM g0 gk gv gh gc cA b c pl bl n lv pt fk fv fh fc)
  refine g_irem C dX1_bucketOf_10 (hh_lt k) (by omega) (by omega) ?_
  refine g_istore_n (lv' := [(3, .int (nI ((hh k) % (rd b lv)))), (2, .int (nI (hh k))), (0, .ref g0), (1, .int k)]) C dX1_bucketOf_11 rfl (by decide) rfl ?_
  have hm := Nat.mod_lt (hh k) (show 0 < rd b lv by omega)
  refine g_iload_n C dX1_bucketOf_12 0 rfl rfl ?_
  refine g_aload_n C dX1_bucketOf_13 2 rfl rfl ?_
  refine g_get (ci := 1) C inX1_bucketOf rfl 0 9 (by decide) lkX1_bucketOf_42 dX1_bucketOf_14 rfl rfl ?_
  refine g_icmp_ge C 31 dX1_bucketOf_17 (by decide) (by omega) (by omega) (fun h17 => ?_) (fun h17 => ?_)
  · refine g_iload_n C dX1_bucketOf_31 0 rfl rfl ?_
    exact hret _ _ _ () dX1_bucketOf_32 rfl (by unfold bk; rw [if_neg (by omega)])
  · refine g_iload_n C dX1_bucketOf_20 1 rfl rfl ?_
    refine g_iconst (v := nI 2) C dX1_bucketOf_21 (by decide) ?_
    refine g_aload_n C dX1_bucketOf_22 2 rfl rfl ?_
    refine g_callI0 (ci := 1) (q0 := 0) (rest := [.int (nI 2), .int (nI (hh k))]) C (c_X1_round _ _ o12 (by omega)) gX1_bucketOf_X1_round rfl rfl rfl hdX1_round (by decide) rfl rfl rfl rfl (Nat.le_of_ble_eq_true rfl) dX1_bucketOf_23 (fun r _ hw => ?_)
    subst hw
    show G K 0 0 26 [(3, .int (nI ((hh k) % (rd b lv)))), (2, .int (nI (hh k))), (0, .ref g0), (1, .int k)] [.int (nI (rd b lv)), .int (nI 2), .int (nI (hh k))] (wM g0 gk gv gh gc cA b c pl bl n lv pt fk fv fh fc)
    refine g_imul C dX1_bucketOf_26 ?_
    refine g_irem C dX1_bucketOf_27 (hh_lt k) (by omega) (by omega) ?_
    refine g_goto C 32 dX1_bucketOf_28 (by decide) ?_
    exact hret _ _ _ () dX1_bucketOf_32 rfl (by unfold bk; rw [if_pos h17])
set_option maxHeartbeats 4000000 in
set_option maxRecDepth 100000 in
theorem c_X1_find (l : Launch) (D : va_G) {cA : ClassId} {g0 gk gv gh gc b c pl bl n lv pt : Nat} {fk fv fh fc : Nat → Int32} (ok : okS b c pl bl n lv pt) (k : Int32)  : MetI (S := Unit) l yX1_find wsX1_find ({ frames := 0, cells := 0, slots := 0, locals := 0 } : Room) D [(cA, .int)] [.ref g0, .int k] (wM g0 gk gv gh gc cA b c pl bl n lv pt fk fv fh fc) (fun _ => wM g0 gk gv gh gc cA b c pl bl n lv pt fk fv fh fc) (fun r _ => (∃ j, j < n ∧ fk j = k ∧ r = nI j) ∨ ((∀ j, j < n → fk j ≠ k) ∧ r = -1)) 0 0 := by
  refine MetI_of (cc := cX1_find) (maxL := 4) (rt := .int) (lv0 := [(0, .ref g0), (1, .int k)]) (by decide) rfl (Nat.le_of_ble_eq_true rfl) rfl ?_
  intro K _ _ C hret
  have C : Cx K ({ frames := 0, cells := 0, slots := 0, locals := 0 } : Room) 4 cX1_find RX1 wsX1_find [(cA, .int)] := C
  obtain ⟨o1, o2, o3, o4, o5, o6, o7, o8, o9, o10, o11, o12⟩ := id ok
  refine g_iconst (v := -1) C dX1_find_0 (by decide) ?_
  refine g_istore_n (lv' := [(2, .int ((-1))), (0, .ref g0), (1, .int k)]) C dX1_find_1 rfl (by decide) rfl ?_
  refine g_iconst (v := nI 0) C dX1_find_2 (by decide) ?_
  refine g_istore_n (lv' := [(3, .int (nI 0)), (2, .int ((-1))), (0, .ref g0), (1, .int k)]) C dX1_find_3 rfl (by decide) rfl ?_
  have loop4 : ∀ (t : Nat) (i : Nat) (x : Int32), i ≤ n → n < i + t → ((∃ j, j < i ∧ fk j = k ∧ x = nI j) ∨ ((∀ j, j < i → fk j ≠ k) ∧ x = -1)) → G K 0 0 4 [(3, .int (nI i)), (2, .int x), (0, .ref g0), (1, .int k)] [] (wM g0 gk gv gh gc cA b c pl bl n lv pt fk fv fh fc) := by
    intro t
    induction t with
    | zero =>
      intro i x hi ht hfd
      exact absurd ht (by omega)
    | succ t ih =>
      intro i x hi ht hfd
      refine g_iload_n C dX1_find_4 0 rfl rfl ?_
      refine g_aload_n C dX1_find_5 2 rfl rfl ?_
      refine g_get (ci := 1) C inX1_find rfl 0 4 (by decide) lkX1_find_46 dX1_find_6 rfl rfl ?_
      refine g_icmp_ge C 34 dX1_find_9 (by decide) (by omega) (by omega) (fun h9 => ?_) (fun h9 => ?_)
      · obtain rfl : n = i := by omega
        refine g_iload_n C dX1_find_34 1 rfl rfl ?_
        exact hret _ _ _ () dX1_find_35 rfl hfd
      · refine g_aload_n C dX1_find_12 2 rfl rfl ?_
        refine g_get (ci := 1) C inX1_find rfl 0 5 (by decide) lkX1_find_7 dX1_find_13 rfl rfl ?_
        refine g_iload_n C dX1_find_16 0 rfl rfl ?_
        refine g_iald C 1 dX1_find_17 rfl (by omega) (by omega) ?_
        refine g_iload_n C dX1_find_18 3 rfl rfl ?_
        refine g_icmp_neI C 26 dX1_find_19 (by decide) (fun h19 => ?_) (fun h19 => ?_)
        · refine g_iload_n C dX1_find_26 1 rfl rfl ?_
          refine g_istore_n (lv' := [(2, .int x), (3, .int (nI i)), (0, .ref g0), (1, .int k)]) C dX1_find_27 rfl (by decide) rfl ?_
          refine g_iinc (v := nI (i + 1)) (lv' := [(3, .int (nI (i + 1))), (2, .int x), (0, .ref g0), (1, .int k)]) C dX1_find_28 1 rfl (nI_add _ 1) (by decide) rfl ?_
          refine g_goto C 4 dX1_find_31 (by decide) ?_
          refine g_lv [0, 1, 2, 3] rfl ?_
          exact ih (i + 1) x (by omega) (by omega) (fd_ne hfd h19)
        · refine g_iload_n C dX1_find_22 0 rfl rfl ?_
          refine g_goto C 27 dX1_find_23 (by decide) ?_
          refine g_istore_n (lv' := [(2, .int (nI i)), (3, .int (nI i)), (0, .ref g0), (1, .int k)]) C dX1_find_27 rfl (by decide) rfl ?_
          refine g_iinc (v := nI (i + 1)) (lv' := [(3, .int (nI (i + 1))), (2, .int (nI i)), (0, .ref g0), (1, .int k)]) C dX1_find_28 1 rfl (nI_add _ 1) (by decide) rfl ?_
          refine g_goto C 4 dX1_find_31 (by decide) ?_
          refine g_lv [0, 1, 2, 3] rfl ?_
          exact ih (i + 1) (nI i) (by omega) (by omega) (Or.inl ⟨i, by omega, h19, rfl⟩)
  refine g_lv [0, 1, 2, 3] rfl ?_
  exact loop4 (n + 1) 0 (-1) (by omega) (by omega) (Or.inr ⟨fun j a => absurd a (by omega), rfl⟩)
set_option maxHeartbeats 4000000 in
set_option maxRecDepth 100000 in
theorem c_X1_count (l : Launch) (D : va_G) {cA : ClassId} {g0 gk gv gh gc b c pl bl n lv pt : Nat} {fk fv fh fc : Nat → Int32} (ok : okS b c pl bl n lv pt)  (hho : hom b n lv pt fk fh) : MetV (S := (Nat → Int32)) l yX1_count wsX1_count ({ frames := 0, cells := 0, slots := 0, locals := 0 } : Room) D [(cA, .int)] [.ref g0] (wM g0 gk gv gh gc cA b c pl bl n lv pt fk fv fh fc) (fun u => wM g0 gk gv gh gc cA b c pl bl n lv pt fk fv fh u) (fun u => ∀ q, q < 200 → u q = nI (ct (fun j => bk b lv pt (fk j)) q n)) 0 0 := by
  refine MetV_of (cc := cX1_count) (maxL := 2) (lv0 := [(0, .ref g0)]) (by decide) rfl (Nat.le_of_ble_eq_true rfl) rfl ?_
  intro K _ _ C _ hret
  have C : Cx K ({ frames := 0, cells := 0, slots := 0, locals := 0 } : Room) 2 cX1_count RX1 wsX1_count [(cA, .int)] := C
  obtain ⟨o1, o2, o3, o4, o5, o6, o7, o8, o9, o10, o11, o12⟩ := id ok
  refine g_iconst (v := nI 0) C dX1_count_0 (by decide) ?_
  refine g_istore_n (lv' := [(1, .int (nI 0)), (0, .ref g0)]) C dX1_count_1 rfl (by decide) rfl ?_
  have loop2 : ∀ (t : Nat) (i : Nat) (f : Nat → Int32), i ≤ 200 → 200 < i + t → (∀ q, q < i → f q = nI 0) → G K 0 0 2 [(1, .int (nI i)), (0, .ref g0)] [] (wM g0 gk gv gh gc cA b c pl bl n lv pt fk fv fh f) := by
    intro t
    induction t with
    | zero =>
      intro i f hi ht hz
      exact absurd ht (by omega)
    | succ t ih =>
      intro i f hi ht hz
      refine g_iload_n C dX1_count_2 0 rfl rfl ?_
      refine g_sipush (v := nI 200) C dX1_count_3 (by decide) ?_
      refine g_icmp_ge C 22 dX1_count_6 (by decide) (by omega) (by omega) (fun h6 => ?_) (fun h6 => ?_)
      · refine g_iconst (v := nI 0) C dX1_count_22 (by decide) ?_
        refine g_istore_n (lv' := [(1, .int (nI 0)), (0, .ref g0)]) C dX1_count_23 rfl (by decide) rfl ?_
        have loop24 : ∀ (t : Nat) (k : Nat) (f2 : Nat → Int32), k ≤ n → n < k + t → (∀ q, q < 200 → f2 q = nI (ct (fun j => bk b lv pt (fk j)) q k)) → G K 0 0 24 [(1, .int (nI k)), (0, .ref g0)] [] (wM g0 gk gv gh gc cA b c pl bl n lv pt fk fv fh f2) := by
          intro t
          induction t with
          | zero =>
            intro k f2 hk1 ht hc
            exact absurd ht (by omega)
          | succ t ih =>
            intro k f2 hk1 ht hc
            refine g_iload_n C dX1_count_24 0 rfl rfl ?_
            refine g_aload_n C dX1_count_25 1 rfl rfl ?_
            refine g_get (ci := 1) C inX1_count rfl 0 4 (by decide) lkX1_count_46 dX1_count_26 rfl rfl ?_
            refine g_icmp_ge C 53 dX1_count_29 (by decide) (by omega) (by omega) (fun h29 => ?_) (fun h29 => ?_)
            · obtain rfl : n = k := by omega
              exact hret _ _ f2 dX1_count_53 hc
            · refine g_aload_n C dX1_count_32 1 rfl rfl ?_
              refine g_get (ci := 1) C inX1_count rfl 0 10 (by decide) lkX1_count_19 dX1_count_33 rfl rfl ?_
              refine g_aload_n C dX1_count_36 1 rfl rfl ?_
              refine g_get (ci := 1) C inX1_count rfl 0 7 (by decide) lkX1_count_16 dX1_count_37 rfl rfl ?_
              refine g_iload_n C dX1_count_40 0 rfl rfl ?_
              refine g_iald C 3 dX1_count_41 rfl (by omega) (by omega) ?_
              refine g_top (hho k h29) ?_
              have hb := bk_lt (b := b) (lv := lv) (pt := pt) (fk k) (by omega)
              refine g_dup2 C dX1_count_42 rfl rfl ?_
              refine g_iald C 4 dX1_count_43 rfl (by omega) (by omega) ?_
              refine g_top (hc _ (by omega)) ?_
              refine g_iconst (v := nI 1) C dX1_count_44 (by decide) ?_
              refine g_iadd C dX1_count_45 ?_
              refine g_iast (ws' := wM g0 gk gv gh gc cA b c pl bl n lv pt fk fv fh (upd f2 (bk b lv pt (fk k)) (nI ((ct (fun j => bk b lv pt (fk j)) (bk b lv pt (fk k)) k) + 1)))) C 4 dX1_count_46 rfl (by omega) (by omega) rfl ?_
              refine g_iinc (v := nI (k + 1)) (lv' := [(1, .int (nI (k + 1))), (0, .ref g0)]) C dX1_count_47 0 rfl (nI_add _ 1) (by decide) rfl ?_
              refine g_goto C 24 dX1_count_50 (by decide) ?_
              refine g_lv [0, 1] rfl ?_
              exact ih (k + 1) _ (by omega) (by omega) (ct_up (g := fun j => bk b lv pt (fk j)) hc)
        refine g_lv [0, 1] rfl ?_
        exact loop24 (n + 1) 0 f (by omega) (by omega) (fun q hq => hz q (by omega))
      · refine g_aload_n C dX1_count_9 1 rfl rfl ?_
        refine g_get (ci := 1) C inX1_count rfl 0 10 (by decide) lkX1_count_19 dX1_count_10 rfl rfl ?_
        refine g_iload_n C dX1_count_13 0 rfl rfl ?_
        refine g_iconst (v := nI 0) C dX1_count_14 (by decide) ?_
        refine g_iast (ws' := wM g0 gk gv gh gc cA b c pl bl n lv pt fk fv fh (upd f i (nI 0))) C 4 dX1_count_15 rfl (by omega) (by omega) rfl ?_
        refine g_iinc (v := nI (i + 1)) (lv' := [(1, .int (nI (i + 1))), (0, .ref g0)]) C dX1_count_16 0 rfl (nI_add _ 1) (by decide) rfl ?_
        refine g_goto C 2 dX1_count_19 (by decide) ?_
        refine g_lv [0, 1] rfl ?_
        exact ih (i + 1) (upd f i (nI 0)) (by omega) (by omega) (up_all hz)
  refine g_lv [0, 1] rfl ?_
  exact loop2 201 0 fc (by omega) (by omega) (fun q hq => absurd hq (by omega))
set_option maxHeartbeats 4000000 in
set_option maxRecDepth 100000 in
theorem c_X1_pagesFor (l : Launch) (D : va_G) {cA : ClassId} {g0 gk gv gh gc b c pl bl n lv pt : Nat} {fk fv fh fc : Nat → Int32} (ok : okS b c pl bl n lv pt) (m : Nat) (hm : m ≤ 600) : MetI (S := Unit) l yX1_pagesFor wsX1_pagesFor ({ frames := 0, cells := 0, slots := 0, locals := 0 } : Room) D [(cA, .int)] [.ref g0, .int (nI m)] (wM g0 gk gv gh gc cA b c pl bl n lv pt fk fv fh fc) (fun _ => wM g0 gk gv gh gc cA b c pl bl n lv pt fk fv fh fc) (fun r _ => r = nI (pg c m)) 0 0 := by
  refine MetI_of (cc := cX1_pagesFor) (maxL := 2) (rt := .int) (lv0 := [(0, .ref g0), (1, .int (nI m))]) (by decide) rfl (Nat.le_of_ble_eq_true rfl) rfl ?_
  intro K _ _ C hret
  have C : Cx K ({ frames := 0, cells := 0, slots := 0, locals := 0 } : Room) 2 cX1_pagesFor RX1 wsX1_pagesFor [(cA, .int)] := C
  obtain ⟨o1, o2, o3, o4, o5, o6, o7, o8, o9, o10, o11, o12⟩ := id ok
  refine g_iload_n C dX1_pagesFor_0 1 rfl rfl ?_
  refine g_if_ne C 8 dX1_pagesFor_1 (by decide) (fun h1 => ?_) (fun h1 => ?_)
  · have hm0 : ¬ m = 0 := fun e => h1 (by rw [e]; rfl)
    refine g_iload_n C dX1_pagesFor_8 1 rfl rfl ?_
    refine g_aload_n C dX1_pagesFor_9 0 rfl rfl ?_
    refine g_get (ci := 1) C inX1_pagesFor rfl 0 1 (by decide) lkX1_pagesFor_26 dX1_pagesFor_10 rfl rfl ?_
    refine g_iadd C dX1_pagesFor_13 ?_
    refine g_iconst (v := nI 1) C dX1_pagesFor_14 (by decide) ?_
    refine g_isub C dX1_pagesFor_15 (by omega) ?_
    refine g_aload_n C dX1_pagesFor_16 0 rfl rfl ?_
    refine g_get (ci := 1) C inX1_pagesFor rfl 0 1 (by decide) lkX1_pagesFor_26 dX1_pagesFor_17 rfl rfl ?_
    refine g_idiv C dX1_pagesFor_20 (by omega) (by omega) (by omega) ?_
    exact hret _ _ _ () dX1_pagesFor_21 rfl (by unfold pg; rw [if_neg hm0])
  · have hm0 : m = 0 := (nI_eq (by omega) (by omega)).mp (h1.trans nI_0.symm)
    refine g_iconst (v := nI 1) C dX1_pagesFor_4 (by decide) ?_
    refine g_goto C 21 dX1_pagesFor_5 (by decide) ?_
    exact hret _ _ _ () dX1_pagesFor_21 rfl (by unfold pg; rw [if_pos hm0])
set_option maxHeartbeats 4000000 in
set_option maxRecDepth 100000 in
theorem c_X1_needed (l : Launch) (D : va_G) {cA : ClassId} {g0 gk gv gh gc b c pl bl n lv pt : Nat} {fk fv fh fc : Nat → Int32} (ok : okS b c pl bl n lv pt)  (hho : hom b n lv pt fk fh) : MetI (S := (Nat → Int32)) l yX1_needed wsX1_needed ({ frames := 2, cells := 0, slots := 0, locals := 42 } : Room) D [(cA, .int)] [.ref g0] (wM g0 gk gv gh gc cA b c pl bl n lv pt fk fv fh fc) (fun u => wM g0 gk gv gh gc cA b c pl bl n lv pt fk fv fh u) (fun r _ => r = nI (ndP b c n lv pt fk)) 0 0 := by
  refine MetI_of (cc := cX1_needed) (maxL := 3) (rt := .int) (lv0 := [(0, .ref g0)]) (by decide) rfl (Nat.le_of_ble_eq_true rfl) rfl ?_
  intro K _ _ C hret
  have C : Cx K ({ frames := 2, cells := 0, slots := 0, locals := 42 } : Room) 3 cX1_needed RX1 wsX1_needed [(cA, .int)] := C
  obtain ⟨o1, o2, o3, o4, o5, o6, o7, o8, o9, o10, o11, o12⟩ := id ok
  refine g_aload_n C dX1_needed_0 0 rfl rfl ?_
  refine g_callV0 (ci := 1) (q0 := 0) (rest := []) C (c_X1_count _ _ ok hho) gX1_needed_X1_count rfl rfl rfl hdX1_count (by decide) rfl rfl rfl rfl (Nat.le_of_ble_eq_true rfl) dX1_needed_1 (fun f hc => ?_)
  show G K 0 0 4 [(0, .ref g0)] [] (wM g0 gk gv gh gc cA b c pl bl n lv pt fk fv fh f)
  refine g_iconst (v := nI 0) C dX1_needed_4 (by decide) ?_
  refine g_istore_n (lv' := [(1, .int (nI 0)), (0, .ref g0)]) C dX1_needed_5 rfl (by decide) rfl ?_
  refine g_iconst (v := nI 0) C dX1_needed_6 (by decide) ?_
  refine g_istore_n (lv' := [(2, .int (nI 0)), (1, .int (nI 0)), (0, .ref g0)]) C dX1_needed_7 rfl (by decide) rfl ?_
  have loop8 : ∀ (t : Nat) (m : Nat), m ≤ rd b lv + pt → rd b lv + pt < m + t → G K 0 0 8 [(2, .int (nI m)), (1, .int (nI (sm (fun q => pg c (ct (fun j => bk b lv pt (fk j)) q n)) m))), (0, .ref g0)] [] (wM g0 gk gv gh gc cA b c pl bl n lv pt fk fv fh f) := by
    intro t
    induction t with
    | zero =>
      intro m hm ht
      exact absurd ht (by omega)
    | succ t ih =>
      intro m hm ht
      refine g_iload_n C dX1_needed_8 0 rfl rfl ?_
      refine g_aload_n C dX1_needed_9 2 rfl rfl ?_
      refine g_callI0 (ci := 1) (q0 := 0) (rest := [.int (nI m)]) C (c_X1_buckets _ _ ok) gX1_needed_X1_buckets rfl rfl rfl hdX1_buckets (by decide) rfl rfl rfl rfl (Nat.le_of_ble_eq_true rfl) dX1_needed_10 (fun r _ hw => ?_)
      subst hw
      show G K 0 0 13 [(2, .int (nI m)), (1, .int (nI (sm (fun q => pg c (ct (fun j => bk b lv pt (fk j)) q n)) m))), (0, .ref g0)] [.int (nI (rd b lv + pt)), .int (nI m)] (wM g0 gk gv gh gc cA b c pl bl n lv pt fk fv fh f)
      refine g_icmp_ge C 35 dX1_needed_13 (by decide) (by omega) (by omega) (fun h13 => ?_) (fun h13 => ?_)
      · obtain rfl : m = rd b lv + pt := by omega
        refine g_iload_n C dX1_needed_35 1 rfl rfl ?_
        exact hret _ _ _ f dX1_needed_36 rfl rfl
      · refine g_iload_n C dX1_needed_16 1 rfl rfl ?_
        refine g_aload_n C dX1_needed_17 2 rfl rfl ?_
        refine g_aload_n C dX1_needed_18 2 rfl rfl ?_
        refine g_get (ci := 1) C inX1_needed rfl 0 10 (by decide) lkX1_needed_19 dX1_needed_19 rfl rfl ?_
        refine g_iload_n C dX1_needed_22 0 rfl rfl ?_
        refine g_iald C 4 dX1_needed_23 rfl (by omega) (by omega) ?_
        refine g_top (hc m (by omega)) ?_
        have hle := ct_le (fun j => bk b lv pt (fk j)) m n
        refine g_callI0 (ci := 1) (q0 := 0) (rest := [.int (nI (sm (fun q => pg c (ct (fun j => bk b lv pt (fk j)) q n)) m))]) C (c_X1_pagesFor _ _ ok (ct (fun j => bk b lv pt (fk j)) m n) (by omega)) gX1_needed_X1_pagesFor rfl rfl rfl hdX1_pagesFor (by decide) rfl rfl rfl rfl (Nat.le_of_ble_eq_true rfl) dX1_needed_24 (fun r _ hw => ?_)
        subst hw
        show G K 0 0 27 [(2, .int (nI m)), (1, .int (nI (sm (fun q => pg c (ct (fun j => bk b lv pt (fk j)) q n)) m))), (0, .ref g0)] [.int (nI (pg c (ct (fun j => bk b lv pt (fk j)) m n))), .int (nI (sm (fun q => pg c (ct (fun j => bk b lv pt (fk j)) q n)) m))] (wM g0 gk gv gh gc cA b c pl bl n lv pt fk fv fh f)
        refine g_iadd C dX1_needed_27 ?_
        refine g_istore_n (lv' := [(1, .int (nI ((sm (fun q => pg c (ct (fun j => bk b lv pt (fk j)) q n)) m) + (pg c (ct (fun j => bk b lv pt (fk j)) m n))))), (2, .int (nI m)), (0, .ref g0)]) C dX1_needed_28 rfl (by decide) rfl ?_
        refine g_iinc (v := nI (m + 1)) (lv' := [(2, .int (nI (m + 1))), (1, .int (nI ((sm (fun q => pg c (ct (fun j => bk b lv pt (fk j)) q n)) m) + (pg c (ct (fun j => bk b lv pt (fk j)) m n))))), (0, .ref g0)]) C dX1_needed_29 1 rfl (nI_add _ 1) (by decide) rfl ?_
        refine g_goto C 8 dX1_needed_32 (by decide) ?_
        refine g_lv [0, 1, 2] rfl ?_
        exact ih (m + 1) (by omega) (by omega)
  refine g_lv [0, 1, 2] rfl ?_
  exact loop8 (rd b lv + pt + 1) 0 (by omega) (by omega)
set_option maxHeartbeats 4000000 in
set_option maxRecDepth 100000 in
theorem c_X1_settle (l : Launch) (D : va_G) {cA : ClassId} {g0 gk gv gh gc b c pl bl n lv pt : Nat} {fk fv fh fc : Nat → Int32} (ok : okS b c pl bl n lv pt)   : MetV (S := (Nat → Int32)) l yX1_settle wsX1_settle ({ frames := 2, cells := 0, slots := 0, locals := 45 } : Room) D [(cA, .int)] [.ref g0] (wM g0 gk gv gh gc cA b c pl bl n lv pt fk fv fh fc) (fun u => wM g0 gk gv gh gc cA b c pl bl n lv pt fk fv u fc) (fun u => hom b n lv pt fk u) 0 0 := by
  refine MetV_of (cc := cX1_settle) (maxL := 2) (lv0 := [(0, .ref g0)]) (by decide) rfl (Nat.le_of_ble_eq_true rfl) rfl ?_
  intro K _ _ C _ hret
  have C : Cx K ({ frames := 2, cells := 0, slots := 0, locals := 45 } : Room) 2 cX1_settle RX1 wsX1_settle [(cA, .int)] := C
  obtain ⟨o1, o2, o3, o4, o5, o6, o7, o8, o9, o10, o11, o12⟩ := id ok
  refine g_iconst (v := nI 0) C dX1_settle_0 (by decide) ?_
  refine g_istore_n (lv' := [(1, .int (nI 0)), (0, .ref g0)]) C dX1_settle_1 rfl (by decide) rfl ?_
  have loop2 : ∀ (t : Nat) (i : Nat) (f : Nat → Int32), i ≤ n → n < i + t → (∀ j, j < i → f j = nI (bk b lv pt (fk j))) → G K 0 0 2 [(1, .int (nI i)), (0, .ref g0)] [] (wM g0 gk gv gh gc cA b c pl bl n lv pt fk fv f fc) := by
    intro t
    induction t with
    | zero =>
      intro i f hi ht hz
      exact absurd ht (by omega)
    | succ t ih =>
      intro i f hi ht hz
      refine g_iload_n C dX1_settle_2 0 rfl rfl ?_
      refine g_aload_n C dX1_settle_3 1 rfl rfl ?_
      refine g_get (ci := 1) C inX1_settle rfl 0 4 (by decide) lkX1_settle_46 dX1_settle_4 rfl rfl ?_
      refine g_icmp_ge C 32 dX1_settle_7 (by decide) (by omega) (by omega) (fun h7 => ?_) (fun h7 => ?_)
      · obtain rfl : n = i := by omega
        exact hret _ _ f dX1_settle_32 hz
      · refine g_aload_n C dX1_settle_10 1 rfl rfl ?_
        refine g_get (ci := 1) C inX1_settle rfl 0 7 (by decide) lkX1_settle_16 dX1_settle_11 rfl rfl ?_
        refine g_iload_n C dX1_settle_14 0 rfl rfl ?_
        refine g_aload_n C dX1_settle_15 1 rfl rfl ?_
        refine g_aload_n C dX1_settle_16 1 rfl rfl ?_
        refine g_get (ci := 1) C inX1_settle rfl 0 5 (by decide) lkX1_settle_7 dX1_settle_17 rfl rfl ?_
        refine g_iload_n C dX1_settle_20 0 rfl rfl ?_
        refine g_iald C 1 dX1_settle_21 rfl (by omega) (by omega) ?_
        refine g_callI0 (ci := 1) (q0 := 0) (rest := [.int (nI i), .ref gh]) C (c_X1_bucketOf _ _ ok (fk i)) gX1_settle_X1_bucketOf rfl rfl rfl hdX1_bucketOf (by decide) rfl rfl rfl rfl (Nat.le_of_ble_eq_true rfl) dX1_settle_22 (fun r _ hw => ?_)
        subst hw
        show G K 0 0 25 [(1, .int (nI i)), (0, .ref g0)] [.int (nI (bk b lv pt (fk i))), .int (nI i), .ref gh] (wM g0 gk gv gh gc cA b c pl bl n lv pt fk fv f fc)
        refine g_iast (ws' := wM g0 gk gv gh gc cA b c pl bl n lv pt fk fv (upd f i (nI (bk b lv pt (fk i)))) fc) C 3 dX1_settle_25 rfl (by omega) (by omega) rfl ?_
        refine g_iinc (v := nI (i + 1)) (lv' := [(1, .int (nI (i + 1))), (0, .ref g0)]) C dX1_settle_26 0 rfl (nI_add _ 1) (by decide) rfl ?_
        refine g_goto C 2 dX1_settle_29 (by decide) ?_
        refine g_lv [0, 1] rfl ?_
        exact ih (i + 1) _ (by omega) (by omega) (up_nx (F := fun j => nI (bk b lv pt (fk j))) hz)
  refine g_lv [0, 1] rfl ?_
  exact loop2 (n + 1) 0 fh (by omega) (by omega) (fun q hq => absurd hq (by omega))
set_option maxHeartbeats 4000000 in
set_option maxRecDepth 100000 in
theorem c_X1_forth (l : Launch) (D : va_G) {cA : ClassId} {g0 gk gv gh gc b c pl bl n lv pt : Nat} {fk fv fh fc : Nat → Int32} (ok : okS b c pl bl n lv pt)   : MetV (S := Unit) l yX1_forth wsX1_forth ({ frames := 1, cells := 0, slots := 0, locals := 22 } : Room) D [(cA, .int)] [.ref g0] (wM g0 gk gv gh gc cA b c pl bl n lv pt fk fv fh fc) (fun _ => wM g0 gk gv gh gc cA b c pl bl n (fwL b lv pt) (fwP b lv pt) fk fv fh fc) (fun _ => True) 0 0 := by
  refine MetV_of (cc := cX1_forth) (maxL := 1) (lv0 := [(0, .ref g0)]) (by decide) rfl (Nat.le_of_ble_eq_true rfl) rfl ?_
  intro K _ _ C _ hret
  have C : Cx K ({ frames := 1, cells := 0, slots := 0, locals := 22 } : Room) 1 cX1_forth RX1 wsX1_forth [(cA, .int)] := C
  obtain ⟨o1, o2, o3, o4, o5, o6, o7, o8, o9, o10, o11, o12⟩ := id ok
  refine g_aload_n C dX1_forth_0 0 rfl rfl ?_
  refine g_dup C dX1_forth_1 rfl ?_
  refine g_get (ci := 1) C inX1_forth rfl 0 9 (by decide) lkX1_forth_42 dX1_forth_2 rfl rfl ?_
  refine g_iconst (v := nI 1) C dX1_forth_5 (by decide) ?_
  refine g_iadd C dX1_forth_6 ?_
  refine g_put (ci := 1) (ty := .int) (ws' := wM g0 gk gv gh gc cA b c pl bl n lv (pt + 1) fk fv fh fc) C inX1_forth tyX1 tyX1_ok nmX1 rfl 0 9 (by decide) lkX1_forth_42 rfl pdX1_9 dX1_forth_7 rfl rfl rfl (Nat.le_of_ble_eq_true rfl) rfl ?_
  refine g_aload_n C dX1_forth_10 0 rfl rfl ?_
  refine g_get (ci := 1) C inX1_forth rfl 0 9 (by decide) lkX1_forth_42 dX1_forth_11 rfl rfl ?_
  refine g_aload_n C dX1_forth_14 0 rfl rfl ?_
  refine g_callI0 (ci := 1) (q0 := 0) (rest := [.int (nI (pt + 1))]) C (c_X1_round _ _ o12 (by omega)) gX1_forth_X1_round rfl rfl rfl hdX1_round (by decide) rfl rfl rfl rfl (Nat.le_of_ble_eq_true rfl) dX1_forth_15 (fun r _ hw => ?_)
  subst hw
  show G K 0 0 18 [(0, .ref g0)] [.int (nI (rd b lv)), .int (nI (pt + 1))] (wM g0 gk gv gh gc cA b c pl bl n lv (pt + 1) fk fv fh fc)
  refine g_icmp_ne C 36 dX1_forth_18 (by decide) (by omega) (by omega) (fun h18 => ?_) (fun h18 => ?_)
  · have e1 : fwL b lv pt = lv := if_neg h18
    have e2 : fwP b lv pt = pt + 1 := if_neg h18
    refine g_wd (ws' := wM g0 gk gv gh gc cA b c pl bl n (fwL b lv pt) (fwP b lv pt) fk fv fh fc) (by rw [e1, e2]) ?_
    exact hret _ _ () dX1_forth_36 trivial
  · refine g_aload_n C dX1_forth_21 0 rfl rfl ?_
    refine g_iconst (v := nI 0) C dX1_forth_22 (by decide) ?_
    refine g_put (ci := 1) (ty := .int) (ws' := wM g0 gk gv gh gc cA b c pl bl n lv 0 fk fv fh fc) C inX1_forth tyX1 tyX1_ok nmX1 rfl 0 9 (by decide) lkX1_forth_42 rfl pdX1_9 dX1_forth_23 rfl rfl rfl (Nat.le_of_ble_eq_true rfl) rfl ?_
    refine g_aload_n C dX1_forth_26 0 rfl rfl ?_
    refine g_dup C dX1_forth_27 rfl ?_
    refine g_get (ci := 1) C inX1_forth rfl 0 8 (by decide) lkX1_forth_35 dX1_forth_28 rfl rfl ?_
    refine g_iconst (v := nI 1) C dX1_forth_31 (by decide) ?_
    refine g_iadd C dX1_forth_32 ?_
    refine g_put (ci := 1) (ty := .int) (ws' := wM g0 gk gv gh gc cA b c pl bl n (lv + 1) 0 fk fv fh fc) C inX1_forth tyX1 tyX1_ok nmX1 rfl 0 8 (by decide) lkX1_forth_35 rfl pdX1_8 dX1_forth_33 rfl rfl rfl (Nat.le_of_ble_eq_true rfl) rfl ?_
    have e1 : fwL b lv pt = lv + 1 := if_pos h18
    have e2 : fwP b lv pt = 0 := if_pos h18
    refine g_wd (ws' := wM g0 gk gv gh gc cA b c pl bl n (fwL b lv pt) (fwP b lv pt) fk fv fh fc) (by rw [e1, e2]) ?_
    exact hret _ _ () dX1_forth_36 trivial
set_option maxHeartbeats 4000000 in
set_option maxRecDepth 100000 in
theorem c_X1_back (l : Launch) (D : va_G) {cA : ClassId} {g0 gk gv gh gc b c pl bl n lv pt : Nat} {fk fv fh fc : Nat → Int32} (ok : okS b c pl bl n lv pt)  (hB : b < rd b lv + pt) : MetV (S := Unit) l yX1_back wsX1_back ({ frames := 1, cells := 0, slots := 0, locals := 22 } : Room) D [(cA, .int)] [.ref g0] (wM g0 gk gv gh gc cA b c pl bl n lv pt fk fv fh fc) (fun _ => wM g0 gk gv gh gc cA b c pl bl n (bwL pt lv) (bwP b lv pt) fk fv fh fc) (fun _ => True) 0 0 := by
  refine MetV_of (cc := cX1_back) (maxL := 1) (lv0 := [(0, .ref g0)]) (by decide) rfl (Nat.le_of_ble_eq_true rfl) rfl ?_
  intro K _ _ C _ hret
  have C : Cx K ({ frames := 1, cells := 0, slots := 0, locals := 22 } : Room) 1 cX1_back RX1 wsX1_back [(cA, .int)] := C
  obtain ⟨o1, o2, o3, o4, o5, o6, o7, o8, o9, o10, o11, o12⟩ := id ok
  refine g_aload_n C dX1_back_0 0 rfl rfl ?_
  refine g_get (ci := 1) C inX1_back rfl 0 9 (by decide) lkX1_back_42 dX1_back_1 rfl rfl ?_
  refine g_if_ne C 25 dX1_back_4 (by decide) (fun h4 => ?_) (fun h4 => ?_)
  · have hp : ¬ pt = 0 := fun e => h4 (by rw [e]; rfl)
    refine g_aload_n C dX1_back_25 0 rfl rfl ?_
    refine g_dup C dX1_back_26 rfl ?_
    refine g_get (ci := 1) C inX1_back rfl 0 9 (by decide) lkX1_back_42 dX1_back_27 rfl rfl ?_
    refine g_iconst (v := nI 1) C dX1_back_30 (by decide) ?_
    refine g_isub C dX1_back_31 (by omega) ?_
    refine g_put (ci := 1) (ty := .int) (ws' := wM g0 gk gv gh gc cA b c pl bl n lv (pt - 1) fk fv fh fc) C inX1_back tyX1 tyX1_ok nmX1 rfl 0 9 (by decide) lkX1_back_42 rfl pdX1_9 dX1_back_32 rfl rfl rfl (Nat.le_of_ble_eq_true rfl) rfl ?_
    have e1 : bwL pt lv = lv := if_neg hp
    have e2 : bwP b lv pt = pt - 1 := if_neg hp
    refine g_wd (ws' := wM g0 gk gv gh gc cA b c pl bl n (bwL pt lv) (bwP b lv pt) fk fv fh fc) (by rw [e1, e2]) ?_
    exact hret _ _ () dX1_back_35 trivial
  · have hp : pt = 0 := (nI_eq (by omega) (by omega)).mp (h4.trans nI_0.symm)
    have hl := lv_pos hB hp
    have hs := rd_s b (lv - 1)
    rw [show lv - 1 + 1 = lv by omega] at hs
    refine g_aload_n C dX1_back_7 0 rfl rfl ?_
    refine g_dup C dX1_back_8 rfl ?_
    refine g_get (ci := 1) C inX1_back rfl 0 8 (by decide) lkX1_back_35 dX1_back_9 rfl rfl ?_
    refine g_iconst (v := nI 1) C dX1_back_12 (by decide) ?_
    refine g_isub C dX1_back_13 (by omega) ?_
    refine g_put (ci := 1) (ty := .int) (ws' := wM g0 gk gv gh gc cA b c pl bl n (lv - 1) pt fk fv fh fc) C inX1_back tyX1 tyX1_ok nmX1 rfl 0 8 (by decide) lkX1_back_35 rfl pdX1_8 dX1_back_14 rfl rfl rfl (Nat.le_of_ble_eq_true rfl) rfl ?_
    refine g_aload_n C dX1_back_17 0 rfl rfl ?_
    refine g_aload_n C dX1_back_18 0 rfl rfl ?_
    refine g_callI0 (ci := 1) (q0 := 0) (rest := [.ref g0]) C (c_X1_round _ _ (by omega) (by omega)) gX1_back_X1_round rfl rfl rfl hdX1_round (by decide) rfl rfl rfl rfl (Nat.le_of_ble_eq_true rfl) dX1_back_19 (fun r _ hw => ?_)
    subst hw
    show G K 0 0 22 [(0, .ref g0)] [.int (nI (rd b (lv - 1))), .ref g0] (wM g0 gk gv gh gc cA b c pl bl n (lv - 1) pt fk fv fh fc)
    refine g_put (ci := 1) (ty := .int) (ws' := wM g0 gk gv gh gc cA b c pl bl n (lv - 1) (rd b (lv - 1)) fk fv fh fc) C inX1_back tyX1 tyX1_ok nmX1 rfl 0 9 (by decide) lkX1_back_42 rfl pdX1_9 dX1_back_22 rfl rfl rfl (Nat.le_of_ble_eq_true rfl) rfl ?_
    refine g_aload_n C dX1_back_25 0 rfl rfl ?_
    refine g_dup C dX1_back_26 rfl ?_
    refine g_get (ci := 1) C inX1_back rfl 0 9 (by decide) lkX1_back_42 dX1_back_27 rfl rfl ?_
    refine g_iconst (v := nI 1) C dX1_back_30 (by decide) ?_
    refine g_isub C dX1_back_31 (by omega) ?_
    refine g_put (ci := 1) (ty := .int) (ws' := wM g0 gk gv gh gc cA b c pl bl n (lv - 1) ((rd b (lv - 1)) - 1) fk fv fh fc) C inX1_back tyX1 tyX1_ok nmX1 rfl 0 9 (by decide) lkX1_back_42 rfl pdX1_9 dX1_back_32 rfl rfl rfl (Nat.le_of_ble_eq_true rfl) rfl ?_
    have e1 : bwL pt lv = lv - 1 := if_pos hp
    have e2 : bwP b lv pt = rd b (lv - 1) - 1 := if_pos hp
    refine g_wd (ws' := wM g0 gk gv gh gc cA b c pl bl n (bwL pt lv) (bwP b lv pt) fk fv fh fc) (by rw [e1, e2]) ?_
    exact hret _ _ () dX1_back_35 trivial
set_option maxHeartbeats 4000000 in
set_option maxRecDepth 100000 in
theorem c_X1_size (l : Launch) (D : va_G) {cA : ClassId} {g0 gk gv gh gc b c pl bl n lv pt : Nat} {fk fv fh fc : Nat → Int32} (ok : okS b c pl bl n lv pt)   : MetI (S := Unit) l yX1_size wsX1_size ({ frames := 0, cells := 0, slots := 0, locals := 0 } : Room) D [(cA, .int)] [.ref g0] (wM g0 gk gv gh gc cA b c pl bl n lv pt fk fv fh fc) (fun _ => wM g0 gk gv gh gc cA b c pl bl n lv pt fk fv fh fc) (fun r _ => r = nI n) 0 0 := by
  refine MetI_of (cc := cX1_size) (maxL := 1) (rt := .int) (lv0 := [(0, .ref g0)]) (by decide) rfl (Nat.le_of_ble_eq_true rfl) rfl ?_
  intro K _ _ C hret
  have C : Cx K ({ frames := 0, cells := 0, slots := 0, locals := 0 } : Room) 1 cX1_size RX1 wsX1_size [(cA, .int)] := C
  obtain ⟨o1, o2, o3, o4, o5, o6, o7, o8, o9, o10, o11, o12⟩ := id ok
  refine g_aload_n C dX1_size_0 0 rfl rfl ?_
  refine g_get (ci := 1) C inX1_size rfl 0 4 (by decide) lkX1_size_46 dX1_size_1 rfl rfl ?_
  exact hret _ _ _ () dX1_size_4 rfl rfl
set_option maxHeartbeats 4000000 in
set_option maxRecDepth 100000 in
theorem c_X1_level (l : Launch) (D : va_G) {cA : ClassId} {g0 gk gv gh gc b c pl bl n lv pt : Nat} {fk fv fh fc : Nat → Int32} (ok : okS b c pl bl n lv pt)   : MetI (S := Unit) l yX1_level wsX1_level ({ frames := 0, cells := 0, slots := 0, locals := 0 } : Room) D [(cA, .int)] [.ref g0] (wM g0 gk gv gh gc cA b c pl bl n lv pt fk fv fh fc) (fun _ => wM g0 gk gv gh gc cA b c pl bl n lv pt fk fv fh fc) (fun r _ => r = nI lv) 0 0 := by
  refine MetI_of (cc := cX1_level) (maxL := 1) (rt := .int) (lv0 := [(0, .ref g0)]) (by decide) rfl (Nat.le_of_ble_eq_true rfl) rfl ?_
  intro K _ _ C hret
  have C : Cx K ({ frames := 0, cells := 0, slots := 0, locals := 0 } : Room) 1 cX1_level RX1 wsX1_level [(cA, .int)] := C
  obtain ⟨o1, o2, o3, o4, o5, o6, o7, o8, o9, o10, o11, o12⟩ := id ok
  refine g_aload_n C dX1_level_0 0 rfl rfl ?_
  refine g_get (ci := 1) C inX1_level rfl 0 8 (by decide) lkX1_level_35 dX1_level_1 rfl rfl ?_
  exact hret _ _ _ () dX1_level_4 rfl rfl
set_option maxHeartbeats 4000000 in
set_option maxRecDepth 100000 in
theorem c_X1_pointer (l : Launch) (D : va_G) {cA : ClassId} {g0 gk gv gh gc b c pl bl n lv pt : Nat} {fk fv fh fc : Nat → Int32} (ok : okS b c pl bl n lv pt)   : MetI (S := Unit) l yX1_pointer wsX1_pointer ({ frames := 0, cells := 0, slots := 0, locals := 0 } : Room) D [(cA, .int)] [.ref g0] (wM g0 gk gv gh gc cA b c pl bl n lv pt fk fv fh fc) (fun _ => wM g0 gk gv gh gc cA b c pl bl n lv pt fk fv fh fc) (fun r _ => r = nI pt) 0 0 := by
  refine MetI_of (cc := cX1_pointer) (maxL := 1) (rt := .int) (lv0 := [(0, .ref g0)]) (by decide) rfl (Nat.le_of_ble_eq_true rfl) rfl ?_
  intro K _ _ C hret
  have C : Cx K ({ frames := 0, cells := 0, slots := 0, locals := 0 } : Room) 1 cX1_pointer RX1 wsX1_pointer [(cA, .int)] := C
  obtain ⟨o1, o2, o3, o4, o5, o6, o7, o8, o9, o10, o11, o12⟩ := id ok
  refine g_aload_n C dX1_pointer_0 0 rfl rfl ?_
  refine g_get (ci := 1) C inX1_pointer rfl 0 9 (by decide) lkX1_pointer_42 dX1_pointer_1 rfl rfl ?_
  exact hret _ _ _ () dX1_pointer_4 rfl rfl
set_option maxHeartbeats 4000000 in
set_option maxRecDepth 100000 in
theorem c_X1_get (l : Launch) (D : va_G) {cA : ClassId} {g0 gk gv gh gc b c pl bl n lv pt : Nat} {fk fv fh fc : Nat → Int32} (ok : okS b c pl bl n lv pt) (k : Int32)  : MetI (S := Unit) l yX1_get wsX1_get ({ frames := 1, cells := 0, slots := 0, locals := 23 } : Room) D [(cA, .int)] [.ref g0, .int k] (wM g0 gk gv gh gc cA b c pl bl n lv pt fk fv fh fc) (fun _ => wM g0 gk gv gh gc cA b c pl bl n lv pt fk fv fh fc) (fun r _ => (∃ j, j < n ∧ fk j = k ∧ r = fv j) ∨ ((∀ j, j < n → fk j ≠ k) ∧ r = nI 0)) 0 0 := by
  refine MetI_of (cc := cX1_get) (maxL := 3) (rt := .int) (lv0 := [(0, .ref g0), (1, .int k)]) (by decide) rfl (Nat.le_of_ble_eq_true rfl) rfl ?_
  intro K _ _ C hret
  have C : Cx K ({ frames := 1, cells := 0, slots := 0, locals := 23 } : Room) 3 cX1_get RX1 wsX1_get [(cA, .int)] := C
  obtain ⟨o1, o2, o3, o4, o5, o6, o7, o8, o9, o10, o11, o12⟩ := id ok
  refine g_aload_n C dX1_get_0 0 rfl rfl ?_
  refine g_iload_n C dX1_get_1 1 rfl rfl ?_
  refine g_callI0 (ci := 1) (q0 := 0) (rest := []) C (c_X1_find _ _ ok k) gX1_get_X1_find rfl rfl rfl hdX1_find (by decide) rfl rfl rfl rfl (Nat.le_of_ble_eq_true rfl) dX1_get_2 (fun r _ hw => ?_)
  show G K 0 0 5 [(0, .ref g0), (1, .int k)] [.int r] (wM g0 gk gv gh gc cA b c pl bl n lv pt fk fv fh fc)
  refine g_istore_n (lv' := [(2, .int r), (0, .ref g0), (1, .int k)]) C dX1_get_5 rfl (by decide) rfl ?_
  refine g_iload_n C dX1_get_6 0 rfl rfl ?_
  refine g_if_ge C 14 dX1_get_7 (by decide) (fun h7 => ?_) (fun h7 => ?_)
  · obtain ⟨j, hj, hkj, er⟩ : ∃ j, j < n ∧ fk j = k ∧ r = nI j := by
      rcases hw with a | ⟨_, a3⟩
      · exact a
      · exact absurd h7 (by rw [a3]; decide)
    subst er
    refine g_aload_n C dX1_get_14 1 rfl rfl ?_
    refine g_get (ci := 1) C inX1_get rfl 0 6 (by decide) lkX1_get_13 dX1_get_15 rfl rfl ?_
    refine g_iload_n C dX1_get_18 0 rfl rfl ?_
    refine g_iald C 2 dX1_get_19 rfl (by omega) (by omega) ?_
    exact hret _ _ _ () dX1_get_20 rfl (Or.inl ⟨j, hj, hkj, rfl⟩)
  · have hno : ∀ j, j < n → fk j ≠ k := by
      rcases hw with ⟨j, a1, a2, a3⟩ | ⟨a1, _⟩
      · exact absurd (show 0 ≤ r by rw [a3]; exact nI_pos' (by omega)) h7
      · exact a1
    refine g_iconst (v := nI 0) C dX1_get_10 (by decide) ?_
    refine g_goto C 20 dX1_get_11 (by decide) ?_
    exact hret _ _ _ () dX1_get_20 rfl (Or.inr ⟨hno, rfl⟩)
set_option maxHeartbeats 4000000 in
set_option maxRecDepth 100000 in
theorem c_X1_has (l : Launch) (D : va_G) {cA : ClassId} {g0 gk gv gh gc b c pl bl n lv pt : Nat} {fk fv fh fc : Nat → Int32} (ok : okS b c pl bl n lv pt) (k : Int32)  : MetI (S := Unit) l yX1_has wsX1_has ({ frames := 1, cells := 0, slots := 0, locals := 23 } : Room) D [(cA, .int)] [.ref g0, .int k] (wM g0 gk gv gh gc cA b c pl bl n lv pt fk fv fh fc) (fun _ => wM g0 gk gv gh gc cA b c pl bl n lv pt fk fv fh fc) (fun r _ => r = bI (∃ j, j < n ∧ fk j = k)) 0 0 := by
  refine MetI_of (cc := cX1_has) (maxL := 2) (rt := .boolean) (lv0 := [(0, .ref g0), (1, .int k)]) (by decide) rfl (Nat.le_of_ble_eq_true rfl) rfl ?_
  intro K _ _ C hret
  have C : Cx K ({ frames := 1, cells := 0, slots := 0, locals := 23 } : Room) 2 cX1_has RX1 wsX1_has [(cA, .int)] := C
  obtain ⟨o1, o2, o3, o4, o5, o6, o7, o8, o9, o10, o11, o12⟩ := id ok
  refine g_aload_n C dX1_has_0 0 rfl rfl ?_
  refine g_iload_n C dX1_has_1 1 rfl rfl ?_
  refine g_callI0 (ci := 1) (q0 := 0) (rest := []) C (c_X1_find _ _ ok k) gX1_has_X1_find rfl rfl rfl hdX1_find (by decide) rfl rfl rfl rfl (Nat.le_of_ble_eq_true rfl) dX1_has_2 (fun r _ hw => ?_)
  show G K 0 0 5 [(0, .ref g0), (1, .int k)] [.int r] (wM g0 gk gv gh gc cA b c pl bl n lv pt fk fv fh fc)
  refine g_if_lt C 12 dX1_has_5 (by decide) (fun h5 => ?_) (fun h5 => ?_)
  · have hno : ∀ j, j < n → fk j ≠ k := by
      rcases hw with ⟨j, a1, a2, a3⟩ | ⟨a1, _⟩
      · exact absurd h5 (by rw [a3]; exact nI_pos (by omega))
      · exact a1
    refine g_iconst (v := nI 0) C dX1_has_12 (by decide) ?_
    exact hret _ _ _ () dX1_has_13 (by decide) (bI_f (fun ⟨j, a1, a2⟩ => hno j a1 a2)).symm
  · obtain ⟨j, hj, hkj, er⟩ : ∃ j, j < n ∧ fk j = k ∧ r = nI j := by
      rcases hw with a | ⟨_, a3⟩
      · exact a
      · exact absurd (show r < 0 by rw [a3]; decide) h5
    subst er
    refine g_iconst (v := nI 1) C dX1_has_8 (by decide) ?_
    refine g_goto C 13 dX1_has_9 (by decide) ?_
    exact hret _ _ _ () dX1_has_13 (by decide) (bI_t ⟨j, hj, hkj⟩).symm
set_option maxHeartbeats 4000000 in
set_option maxRecDepth 100000 in
theorem c_X1_cut (l : Launch) (D : va_G) {cA : ClassId} {g0 gk gv gh gc b c pl bl n lv pt : Nat} {fk fv fh fc : Nat → Int32} (ok : okS b c pl bl n lv pt) (a : Nat) (ha : a < n) : MetV (S := Unit) l yX1_cut wsX1_cut ({ frames := 0, cells := 0, slots := 0, locals := 0 } : Room) D [(cA, .int)] [.ref g0, .int (nI a)] (wM g0 gk gv gh gc cA b c pl bl n lv pt fk fv fh fc) (fun _ => wM g0 gk gv gh gc cA b c pl bl (n - 1) lv pt (sh fk a (n - 1)) (sh fv a (n - 1)) (sh fh a (n - 1)) fc) (fun _ => True) 0 0 := by
  refine MetV_of (cc := cX1_cut) (maxL := 3) (lv0 := [(0, .ref g0), (1, .int (nI a))]) (by decide) rfl (Nat.le_of_ble_eq_true rfl) rfl ?_
  intro K _ _ C _ hret
  have C : Cx K ({ frames := 0, cells := 0, slots := 0, locals := 0 } : Room) 3 cX1_cut RX1 wsX1_cut [(cA, .int)] := C
  obtain ⟨o1, o2, o3, o4, o5, o6, o7, o8, o9, o10, o11, o12⟩ := id ok
  refine g_aload_n C dX1_cut_0 0 rfl rfl ?_
  refine g_dup C dX1_cut_1 rfl ?_
  refine g_get (ci := 1) C inX1_cut rfl 0 4 (by decide) lkX1_cut_46 dX1_cut_2 rfl rfl ?_
  refine g_iconst (v := nI 1) C dX1_cut_5 (by decide) ?_
  refine g_isub C dX1_cut_6 (by omega) ?_
  refine g_put (ci := 1) (ty := .int) (ws' := wM g0 gk gv gh gc cA b c pl bl (n - 1) lv pt fk fv fh fc) C inX1_cut tyX1 tyX1_ok nmX1 rfl 0 4 (by decide) lkX1_cut_46 rfl pdX1_4 dX1_cut_7 rfl rfl rfl (Nat.le_of_ble_eq_true rfl) rfl ?_
  refine g_iload_n C dX1_cut_10 1 rfl rfl ?_
  refine g_istore_n (lv' := [(2, .int (nI a)), (0, .ref g0), (1, .int (nI a))]) C dX1_cut_11 rfl (by decide) rfl ?_
  have loop12 : ∀ (t : Nat) (i : Nat), a ≤ i → i ≤ n - 1 → n - 1 < i + t → G K 0 0 12 [(2, .int (nI i)), (0, .ref g0), (1, .int (nI a))] [] (wM g0 gk gv gh gc cA b c pl bl (n - 1) lv pt (sh fk a i) (sh fv a i) (sh fh a i) fc) := by
    intro t
    induction t with
    | zero =>
      intro i hi hi2 ht
      exact absurd ht (by omega)
    | succ t ih =>
      intro i hi hi2 ht
      refine g_iload_n C dX1_cut_12 0 rfl rfl ?_
      refine g_aload_n C dX1_cut_13 1 rfl rfl ?_
      refine g_get (ci := 1) C inX1_cut rfl 0 4 (by decide) lkX1_cut_46 dX1_cut_14 rfl rfl ?_
      refine g_icmp_ge C 68 dX1_cut_17 (by decide) (by omega) (by omega) (fun h17 => ?_) (fun h17 => ?_)
      · obtain rfl : i = n - 1 := by omega
        exact hret _ _ () dX1_cut_68 trivial
      · refine g_aload_n C dX1_cut_20 1 rfl rfl ?_
        refine g_get (ci := 1) C inX1_cut rfl 0 5 (by decide) lkX1_cut_7 dX1_cut_21 rfl rfl ?_
        refine g_iload_n C dX1_cut_24 0 rfl rfl ?_
        refine g_aload_n C dX1_cut_25 1 rfl rfl ?_
        refine g_get (ci := 1) C inX1_cut rfl 0 5 (by decide) lkX1_cut_7 dX1_cut_26 rfl rfl ?_
        refine g_iload_n C dX1_cut_29 0 rfl rfl ?_
        refine g_iconst (v := nI 1) C dX1_cut_30 (by decide) ?_
        refine g_iadd C dX1_cut_31 ?_
        refine g_iald C 1 dX1_cut_32 rfl (by omega) (by omega) ?_
        refine g_iast (ws' := wM g0 gk gv gh gc cA b c pl bl (n - 1) lv pt (upd (sh fk a i) i ((sh fk a i) (i + 1))) (sh fv a i) (sh fh a i) fc) C 1 dX1_cut_33 rfl (by omega) (by omega) rfl ?_
        refine g_wd (ws' := wM g0 gk gv gh gc cA b c pl bl (n - 1) lv pt (sh fk a (i + 1)) (sh fv a i) (sh fh a i) fc) (by rw [sh_s fk hi]) ?_
        refine g_aload_n C dX1_cut_34 1 rfl rfl ?_
        refine g_get (ci := 1) C inX1_cut rfl 0 6 (by decide) lkX1_cut_13 dX1_cut_35 rfl rfl ?_
        refine g_iload_n C dX1_cut_38 0 rfl rfl ?_
        refine g_aload_n C dX1_cut_39 1 rfl rfl ?_
        refine g_get (ci := 1) C inX1_cut rfl 0 6 (by decide) lkX1_cut_13 dX1_cut_40 rfl rfl ?_
        refine g_iload_n C dX1_cut_43 0 rfl rfl ?_
        refine g_iconst (v := nI 1) C dX1_cut_44 (by decide) ?_
        refine g_iadd C dX1_cut_45 ?_
        refine g_iald C 2 dX1_cut_46 rfl (by omega) (by omega) ?_
        refine g_iast (ws' := wM g0 gk gv gh gc cA b c pl bl (n - 1) lv pt (sh fk a (i + 1)) (upd (sh fv a i) i ((sh fv a i) (i + 1))) (sh fh a i) fc) C 2 dX1_cut_47 rfl (by omega) (by omega) rfl ?_
        refine g_wd (ws' := wM g0 gk gv gh gc cA b c pl bl (n - 1) lv pt (sh fk a (i + 1)) (sh fv a (i + 1)) (sh fh a i) fc) (by rw [sh_s fv hi]) ?_
        refine g_aload_n C dX1_cut_48 1 rfl rfl ?_
        refine g_get (ci := 1) C inX1_cut rfl 0 7 (by decide) lkX1_cut_16 dX1_cut_49 rfl rfl ?_
        refine g_iload_n C dX1_cut_52 0 rfl rfl ?_
        refine g_aload_n C dX1_cut_53 1 rfl rfl ?_
        refine g_get (ci := 1) C inX1_cut rfl 0 7 (by decide) lkX1_cut_16 dX1_cut_54 rfl rfl ?_
        refine g_iload_n C dX1_cut_57 0 rfl rfl ?_
        refine g_iconst (v := nI 1) C dX1_cut_58 (by decide) ?_
        refine g_iadd C dX1_cut_59 ?_
        refine g_iald C 3 dX1_cut_60 rfl (by omega) (by omega) ?_
        refine g_iast (ws' := wM g0 gk gv gh gc cA b c pl bl (n - 1) lv pt (sh fk a (i + 1)) (sh fv a (i + 1)) (upd (sh fh a i) i ((sh fh a i) (i + 1))) fc) C 3 dX1_cut_61 rfl (by omega) (by omega) rfl ?_
        refine g_wd (ws' := wM g0 gk gv gh gc cA b c pl bl (n - 1) lv pt (sh fk a (i + 1)) (sh fv a (i + 1)) (sh fh a (i + 1)) fc) (by rw [sh_s fh hi]) ?_
        refine g_iinc (v := nI (i + 1)) (lv' := [(2, .int (nI (i + 1))), (0, .ref g0), (1, .int (nI a))]) C dX1_cut_62 0 rfl (nI_add _ 1) (by decide) rfl ?_
        refine g_goto C 12 dX1_cut_65 (by decide) ?_
        refine g_lv [0, 1, 2] rfl ?_
        exact ih (i + 1) (by omega) (by omega) (by omega)
  refine g_wd (ws' := wM g0 gk gv gh gc cA b c pl bl (n - 1) lv pt (sh fk a a) (sh fv a a) (sh fh a a) fc) (by rw [sh_0, sh_0, sh_0]) ?_
  refine g_lv [0, 1, 2] rfl ?_
  exact loop12 n a (Nat.le_refl _) (by omega) (by omega)
set_option maxHeartbeats 4000000 in
set_option maxRecDepth 100000 in
theorem c_X1_toEnd (l : Launch) (D : va_G) {cA : ClassId} {g0 gk gv gh gc b c pl bl n lv pt : Nat} {fk fv fh fc : Nat → Int32} (ok : okS b c pl bl n lv pt) (q : Nat) (hq : q < 2 ^ 31) (hho : hom b n lv pt fk fh) : MetV (S := (Nat → Int32)) l yX1_toEnd wsX1_toEnd ({ frames := 1, cells := 0, slots := 0, locals := 22 } : Room) D [(cA, .int)] [.ref g0, .int (nI q)] (wM g0 gk gv gh gc cA b c pl bl n lv pt fk fv fh fc) (fun u => wM g0 gk gv gh gc cA b c pl bl n lv pt ((mb (bk b lv pt) q n n 0 fk fv).1) ((mb (bk b lv pt) q n n 0 fk fv).2) u fc) (fun u => hom b n lv pt (mb (bk b lv pt) q n n 0 fk fv).1 u) 0 0 := by
  refine MetV_of (cc := cX1_toEnd) (maxL := 6) (lv0 := [(0, .ref g0), (1, .int (nI q))]) (by decide) rfl (Nat.le_of_ble_eq_true rfl) rfl ?_
  intro K _ _ C _ hret
  have C : Cx K ({ frames := 1, cells := 0, slots := 0, locals := 22 } : Room) 6 cX1_toEnd RX1 wsX1_toEnd [(cA, .int)] := C
  obtain ⟨o1, o2, o3, o4, o5, o6, o7, o8, o9, o10, o11, o12⟩ := id ok
  refine g_iconst (v := nI 0) C dX1_toEnd_0 (by decide) ?_
  refine g_istore_n (lv' := [(2, .int (nI 0)), (0, .ref g0), (1, .int (nI q))]) C dX1_toEnd_1 rfl (by decide) rfl ?_
  refine g_aload_n C dX1_toEnd_2 1 rfl rfl ?_
  refine g_get (ci := 1) C inX1_toEnd rfl 0 4 (by decide) lkX1_toEnd_46 dX1_toEnd_3 rfl rfl ?_
  refine g_istore_n (lv' := [(3, .int (nI n)), (2, .int (nI 0)), (0, .ref g0), (1, .int (nI q))]) C dX1_toEnd_6 rfl (by decide) rfl ?_
  have loop7 : ∀ (t : Nat) (a : Nat) (s : Nat) (fk2 : Nat → Int32) (fv2 : Nat → Int32) (fh2 : Nat → Int32), a + s ≤ n → s < t → mb (bk b lv pt) q n s a fk2 fv2 = mb (bk b lv pt) q n n 0 fk fv → hom b n lv pt fk2 fh2 → G K 0 0 7 [(3, .int (nI s)), (2, .int (nI a)), (0, .ref g0), (1, .int (nI q))] [] (wM g0 gk gv gh gc cA b c pl bl n lv pt fk2 fv2 fh2 fc) := by
    intro t
    induction t with
    | zero =>
      intro a s fk2 fv2 fh2 ha ht hmb hho2
      exact absurd ht (by omega)
    | succ t ih =>
      intro a s fk2 fv2 fh2 ha ht hmb hho2
      refine g_iload_n C dX1_toEnd_7 0 rfl rfl ?_
      refine g_if_le C 96 dX1_toEnd_8 (by decide) (fun h8 => ?_) (fun h8 => ?_)
      · have hs0 : s = 0 := by have := (nI_leI (b := 0) (show s < 2 ^ 31 by omega) (by omega)).mp h8; omega
        subst hs0
        have e1 : fk2 = (mb (bk b lv pt) q n n 0 fk fv).1 := by rw [← hmb]; rfl
        have e2 : fv2 = (mb (bk b lv pt) q n n 0 fk fv).2 := by rw [← hmb]; rfl
        refine g_wd (ws' := wM g0 gk gv gh gc cA b c pl bl n lv pt ((mb (bk b lv pt) q n n 0 fk fv).1) ((mb (bk b lv pt) q n n 0 fk fv).2) fh2 fc) (by rw [← e1, ← e2]) ?_
        exact hret _ _ fh2 dX1_toEnd_96 (by rw [← e1]; exact hho2)
      · obtain ⟨s1, rfl⟩ : ∃ s1, s = s1 + 1 := ⟨s - 1, by have : 0 < s := Nat.pos_of_ne_zero (fun e => h8 (by rw [e]; decide)); omega⟩
        refine g_aload_n C dX1_toEnd_11 2 rfl rfl ?_
        refine g_get (ci := 1) C inX1_toEnd rfl 0 7 (by decide) lkX1_toEnd_16 dX1_toEnd_12 rfl rfl ?_
        refine g_iload_n C dX1_toEnd_15 1 rfl rfl ?_
        refine g_iald C 3 dX1_toEnd_16 rfl (by omega) (by omega) ?_
        refine g_top (hho2 a (by omega)) ?_
        refine g_iload_n C dX1_toEnd_17 3 rfl rfl ?_
        refine g_icmp_eq C 27 dX1_toEnd_18 (by decide) (by have := bk_lt (b := b) (lv := lv) (pt := pt) (fk2 a) (by omega); omega) (by omega) (fun h18 => ?_) (fun h18 => ?_)
        · refine g_aload_n C dX1_toEnd_27 2 rfl rfl ?_
          refine g_get (ci := 1) C inX1_toEnd rfl 0 5 (by decide) lkX1_toEnd_7 dX1_toEnd_28 rfl rfl ?_
          refine g_iload_n C dX1_toEnd_31 1 rfl rfl ?_
          refine g_iald C 1 dX1_toEnd_32 rfl (by omega) (by omega) ?_
          refine g_istore (lv' := [(4, .int (fk2 a)), (3, .int (nI ((s1 + 1)))), (2, .int (nI a)), (0, .ref g0), (1, .int (nI q))]) C dX1_toEnd_33 (by decide) rfl ?_
          refine g_aload_n C dX1_toEnd_35 3 rfl rfl ?_
          refine g_get (ci := 1) C inX1_toEnd rfl 0 6 (by decide) lkX1_toEnd_13 dX1_toEnd_36 rfl rfl ?_
          refine g_iload_n C dX1_toEnd_39 2 rfl rfl ?_
          refine g_iald C 2 dX1_toEnd_40 rfl (by omega) (by omega) ?_
          refine g_istore (lv' := [(5, .int (fv2 a)), (4, .int (fk2 a)), (3, .int (nI ((s1 + 1)))), (2, .int (nI a)), (0, .ref g0), (1, .int (nI q))]) C dX1_toEnd_41 (by decide) rfl ?_
          refine g_aload_n C dX1_toEnd_43 4 rfl rfl ?_
          refine g_iload_n C dX1_toEnd_44 3 rfl rfl ?_
          refine g_callV0 (ci := 1) (q0 := 0) (rest := []) C (c_X1_cut _ _ ok a (by omega)) gX1_toEnd_X1_cut rfl rfl rfl hdX1_cut (by decide) rfl rfl rfl rfl (Nat.le_of_ble_eq_true rfl) dX1_toEnd_45 (fun _ _ => ?_)
          show G K 0 0 48 [(5, .int (fv2 a)), (4, .int (fk2 a)), (3, .int (nI ((s1 + 1)))), (2, .int (nI a)), (0, .ref g0), (1, .int (nI q))] [] (wM g0 gk gv gh gc cA b c pl bl (n - 1) lv pt (sh fk2 a (n - 1)) (sh fv2 a (n - 1)) (sh fh2 a (n - 1)) fc)
          refine g_aload_n C dX1_toEnd_48 4 rfl rfl ?_
          refine g_get (ci := 1) C inX1_toEnd rfl 0 5 (by decide) lkX1_toEnd_7 dX1_toEnd_49 rfl rfl ?_
          refine g_aload_n C dX1_toEnd_52 4 rfl rfl ?_
          refine g_get (ci := 1) C inX1_toEnd rfl 0 4 (by decide) lkX1_toEnd_46 dX1_toEnd_53 rfl rfl ?_
          refine g_iload C dX1_toEnd_56 1 rfl ?_
          refine g_iast (ws' := wM g0 gk gv gh gc cA b c pl bl (n - 1) lv pt (upd (sh fk2 a (n - 1)) (n - 1) (fk2 a)) (sh fv2 a (n - 1)) (sh fh2 a (n - 1)) fc) C 1 dX1_toEnd_58 rfl (by omega) (by omega) rfl ?_
          refine g_wd (ws' := wM g0 gk gv gh gc cA b c pl bl (n - 1) lv pt (mv fk2 a n) (sh fv2 a (n - 1)) (sh fh2 a (n - 1)) fc) rfl ?_
          refine g_aload_n C dX1_toEnd_59 4 rfl rfl ?_
          refine g_get (ci := 1) C inX1_toEnd rfl 0 6 (by decide) lkX1_toEnd_13 dX1_toEnd_60 rfl rfl ?_
          refine g_aload_n C dX1_toEnd_63 4 rfl rfl ?_
          refine g_get (ci := 1) C inX1_toEnd rfl 0 4 (by decide) lkX1_toEnd_46 dX1_toEnd_64 rfl rfl ?_
          refine g_iload C dX1_toEnd_67 0 rfl ?_
          refine g_iast (ws' := wM g0 gk gv gh gc cA b c pl bl (n - 1) lv pt (mv fk2 a n) (upd (sh fv2 a (n - 1)) (n - 1) (fv2 a)) (sh fh2 a (n - 1)) fc) C 2 dX1_toEnd_69 rfl (by omega) (by omega) rfl ?_
          refine g_wd (ws' := wM g0 gk gv gh gc cA b c pl bl (n - 1) lv pt (mv fk2 a n) (mv fv2 a n) (sh fh2 a (n - 1)) fc) rfl ?_
          refine g_aload_n C dX1_toEnd_70 4 rfl rfl ?_
          refine g_get (ci := 1) C inX1_toEnd rfl 0 7 (by decide) lkX1_toEnd_16 dX1_toEnd_71 rfl rfl ?_
          refine g_aload_n C dX1_toEnd_74 4 rfl rfl ?_
          refine g_get (ci := 1) C inX1_toEnd rfl 0 4 (by decide) lkX1_toEnd_46 dX1_toEnd_75 rfl rfl ?_
          refine g_iload_n C dX1_toEnd_78 5 rfl rfl ?_
          refine g_iast (ws' := wM g0 gk gv gh gc cA b c pl bl (n - 1) lv pt (mv fk2 a n) (mv fv2 a n) (upd (sh fh2 a (n - 1)) (n - 1) (nI q)) fc) C 3 dX1_toEnd_79 rfl (by omega) (by omega) rfl ?_
          refine g_aload_n C dX1_toEnd_80 4 rfl rfl ?_
          refine g_dup C dX1_toEnd_81 rfl ?_
          refine g_get (ci := 1) C inX1_toEnd rfl 0 4 (by decide) lkX1_toEnd_46 dX1_toEnd_82 rfl rfl ?_
          refine g_iconst (v := nI 1) C dX1_toEnd_85 (by decide) ?_
          refine g_iadd C dX1_toEnd_86 ?_
          refine g_top (by rw [Nat.sub_add_cancel (by omega)]) ?_
          refine g_put (ci := 1) (ty := .int) (ws' := wM g0 gk gv gh gc cA b c pl bl n lv pt (mv fk2 a n) (mv fv2 a n) (upd (sh fh2 a (n - 1)) (n - 1) (nI q)) fc) C inX1_toEnd tyX1 tyX1_ok nmX1 rfl 0 4 (by decide) lkX1_toEnd_46 rfl pdX1_4 dX1_toEnd_87 rfl rfl rfl (Nat.le_of_ble_eq_true rfl) rfl ?_
          refine g_iinc (v := nI s1) (lv' := [(3, .int (nI s1)), (5, .int (fv2 a)), (4, .int (fk2 a)), (2, .int (nI a)), (0, .ref g0), (1, .int (nI q))]) C dX1_toEnd_90 2 rfl (pk_m1 s1) (by decide) rfl ?_
          refine g_goto C 7 dX1_toEnd_93 (by decide) ?_
          refine g_lv [0, 3, 4, 5] rfl ?_
          exact ih a s1 (mv fk2 a n) (mv fv2 a n) _ (by omega) (by omega) (by rw [← hmb, mb_t h18]) (hom_mv (by omega) h18 hho2)
        · refine g_iinc (v := nI (a + 1)) (lv' := [(2, .int (nI (a + 1))), (3, .int (nI ((s1 + 1)))), (0, .ref g0), (1, .int (nI q))]) C dX1_toEnd_21 1 rfl (nI_add _ 1) (by decide) rfl ?_
          refine g_goto C 90 dX1_toEnd_24 (by decide) ?_
          refine g_iinc (v := nI s1) (lv' := [(3, .int (nI s1)), (2, .int (nI (a + 1))), (0, .ref g0), (1, .int (nI q))]) C dX1_toEnd_90 1 rfl (pk_m1 s1) (by decide) rfl ?_
          refine g_goto C 7 dX1_toEnd_93 (by decide) ?_
          refine g_lv [0, 1, 2, 3] rfl ?_
          exact ih (a + 1) s1 fk2 fv2 fh2 (by omega) (by omega) (by rw [← hmb, mb_f h18]) hho2
  refine g_lv [0, 1, 2, 3] rfl ?_
  exact loop7 (n + 1) 0 n fk fv fh (by omega) (by omega) rfl hho
