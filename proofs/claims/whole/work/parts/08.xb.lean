set_option maxHeartbeats 4000000 in
set_option maxRecDepth 100000 in
theorem c_X0_lastPlaceOfBucket (l : Launch) (D : va_G) {cA : ClassId} {h0 hk hv hr nk nr b c pl bl n lv pt : Nat} {fk fv fr : Nat → Int32} (ok : okS b c pl bl n lv pt) (hx : n ≤ nk ∧ nk ≤ 512 ∧ nr = bl) (q : Nat) (hq : q < 2 ^ 31) : MetI (S := Unit) l yX0_lastPlaceOfBucket wsX0_lastPlaceOfBucket ({ frames := 2, cells := 0, slots := 0, locals := 43 } : Room) D [(cA, .int)] [.ref h0, .int (nI q)] (wX h0 hk hv hr cA nk nr b c pl bl n lv pt fk fv fr) (fun _ => wX h0 hk hv hr cA nk nr b c pl bl n lv pt fk fv fr) (fun r _ => (∃ j, j < n ∧ bk b lv pt (fk j) = q ∧ (∀ i, j < i → i < n → bk b lv pt (fk i) ≠ q) ∧ r = nI j) ∨ ((∀ j, j < n → bk b lv pt (fk j) ≠ q) ∧ r = -1)) 0 0 := by
  refine MetI_of (cc := cX0_lastPlaceOfBucket) (maxL := 3) (rt := .int) (lv0 := [(0, .ref h0), (1, .int (nI q))]) (by decide) rfl (Nat.le_of_ble_eq_true rfl) rfl ?_
  intro K _ _ C hret
  have C : Cx K ({ frames := 2, cells := 0, slots := 0, locals := 43 } : Room) 3 cX0_lastPlaceOfBucket RX0 wsX0_lastPlaceOfBucket [(cA, .int)] := C
  obtain ⟨o1, o2, o3, o4, o5, o6, o7, o8, o9, o10, o11, o12⟩ := id ok
  obtain ⟨x1, x2, x3⟩ := id hx
  refine g_aload_n C dX0_lastPlaceOfBucket_0 0 rfl rfl ?_
  refine g_get (ci := 0) C inX0_lastPlaceOfBucket rfl 0 6 (by decide) lkX0_lastPlaceOfBucket_46 dX0_lastPlaceOfBucket_1 rfl rfl ?_
  refine g_iconst (v := nI 1) C dX0_lastPlaceOfBucket_4 (by decide) ?_
  refine g_isubI C dX0_lastPlaceOfBucket_5 ?_
  refine g_istore_n (lv' := [(2, .int ((nI n) - (nI 1))), (0, .ref h0), (1, .int (nI q))]) C dX0_lastPlaceOfBucket_6 rfl (by decide) rfl ?_
  have loop7 : ∀ (t : Nat) (i : Nat) (x : Int32), i ≤ n → i < t → ((i = 0 ∧ x = -1) ∨ (∃ m, i = m + 1 ∧ x = nI m)) → (∀ j, i ≤ j → j < n → bk b lv pt (fk j) ≠ q) → G K 0 0 7 [(2, .int x), (0, .ref h0), (1, .int (nI q))] [] (wX h0 hk hv hr cA nk nr b c pl bl n lv pt fk fv fr) := by
    intro t
    induction t with
    | zero =>
      intro i x hi ht hxe hall
      exact absurd ht (by omega)
    | succ t ih =>
      intro i x hi ht hxe hall
      refine g_iload_n C dX0_lastPlaceOfBucket_7 0 rfl rfl ?_
      refine g_if_lt C 33 dX0_lastPlaceOfBucket_8 (by decide) (fun h8 => ?_) (fun h8 => ?_)
      · have hi0 : i = 0 := by
          rcases hxe with ⟨a1, _⟩ | ⟨m, a1, a2⟩
          · exact a1
          · exact absurd (a2 ▸ h8) (nI_pos (by omega))
        refine g_iconst (v := -1) C dX0_lastPlaceOfBucket_33 (by decide) ?_
        exact hret _ _ _ () dX0_lastPlaceOfBucket_34 rfl (Or.inr ⟨fun j hj => hall j (by omega) hj, rfl⟩)
      · obtain ⟨m, em, ex⟩ : ∃ m, i = m + 1 ∧ x = nI m := by
          rcases hxe with ⟨_, a2⟩ | a
          · exact absurd (show x < 0 by rw [a2]; decide) h8
          · exact a
        subst ex
        subst em
        refine g_aload_n C dX0_lastPlaceOfBucket_11 1 rfl rfl ?_
        refine g_aload_n C dX0_lastPlaceOfBucket_12 1 rfl rfl ?_
        refine g_get (ci := 0) C inX0_lastPlaceOfBucket rfl 0 4 (by decide) lkX0_lastPlaceOfBucket_32 dX0_lastPlaceOfBucket_13 rfl rfl ?_
        refine g_iload_n C dX0_lastPlaceOfBucket_16 0 rfl rfl ?_
        refine g_iald C 1 dX0_lastPlaceOfBucket_17 rfl (by omega) (by omega) ?_
        refine g_callI0 (ci := 0) (q0 := 0) (rest := []) C (c_X0_bucketOf _ _ ok hx (fk m)) gX0_lastPlaceOfBucket_X0_bucketOf rfl rfl rfl hdX0_bucketOf (by decide) rfl rfl rfl rfl (Nat.le_of_ble_eq_true rfl) dX0_lastPlaceOfBucket_18 (fun r _ hw => ?_)
        subst hw
        show G K 0 0 21 [(2, .int (nI m)), (0, .ref h0), (1, .int (nI q))] [.int (nI (bk b lv pt (fk m)))] (wX h0 hk hv hr cA nk nr b c pl bl n lv pt fk fv fr)
        refine g_iload_n C dX0_lastPlaceOfBucket_21 2 rfl rfl ?_
        refine g_icmp_ne C 27 dX0_lastPlaceOfBucket_22 (by decide) (by have := bk_lt (b := b) (lv := lv) (pt := pt) (fk m) (by omega); omega) (by omega) (fun h22 => ?_) (fun h22 => ?_)
        · refine g_iinc (v := nI m + Int32.ofInt (-1)) (lv' := [(2, .int (nI m + Int32.ofInt (-1))), (0, .ref h0), (1, .int (nI q))]) C dX0_lastPlaceOfBucket_27 0 rfl rfl (by decide) rfl ?_
          refine g_goto C 7 dX0_lastPlaceOfBucket_30 (by decide) ?_
          refine g_lv [0, 1, 2] rfl ?_
          exact ih m (nI m + Int32.ofInt (-1)) (by omega) (by omega) (dec_x m) (fun j a1 a2 => (Nat.eq_or_lt_of_le a1).elim (fun e => e ▸ h22) (fun e => hall j e a2))
        · refine g_iload_n C dX0_lastPlaceOfBucket_25 0 rfl rfl ?_
          exact hret _ _ _ () dX0_lastPlaceOfBucket_26 rfl (Or.inl ⟨m, by omega, h22, fun i a1 a2 => hall i a1 a2, rfl⟩)
  refine g_lv [0, 1, 2] rfl ?_
  exact loop7 (n + 1) n (nI n - nI 1) (by omega) (by omega) (dec_n n) (fun j a1 a2 => absurd a1 (by omega))
set_option maxHeartbeats 4000000 in
set_option maxRecDepth 100000 in
theorem c_X0_moveToEnd (l : Launch) (D : va_G) {cA : ClassId} {h0 hk hv hr nk nr b c pl bl n lv pt : Nat} {fk fv fr : Nat → Int32} (ok : okS b c pl bl n lv pt) (hx : n ≤ nk ∧ nk ≤ 512 ∧ nr = bl) (a : Nat) (ha : a < n) : MetV (S := Unit) l yX0_moveToEnd wsX0_moveToEnd ({ frames := 0, cells := 0, slots := 0, locals := 0 } : Room) D [(cA, .int)] [.ref h0, .int (nI a)] (wX h0 hk hv hr cA nk nr b c pl bl n lv pt fk fv fr) (fun _ => wX h0 hk hv hr cA nk nr b c pl bl n lv pt (mv fk a n) (mv fv a n) fr) (fun _ => True) 0 0 := by
  refine MetV_of (cc := cX0_moveToEnd) (maxL := 5) (lv0 := [(0, .ref h0), (1, .int (nI a))]) (by decide) rfl (Nat.le_of_ble_eq_true rfl) rfl ?_
  intro K _ _ C _ hret
  have C : Cx K ({ frames := 0, cells := 0, slots := 0, locals := 0 } : Room) 5 cX0_moveToEnd RX0 wsX0_moveToEnd [(cA, .int)] := C
  obtain ⟨o1, o2, o3, o4, o5, o6, o7, o8, o9, o10, o11, o12⟩ := id ok
  obtain ⟨x1, x2, x3⟩ := id hx
  refine g_aload_n C dX0_moveToEnd_0 0 rfl rfl ?_
  refine g_get (ci := 0) C inX0_moveToEnd rfl 0 4 (by decide) lkX0_moveToEnd_32 dX0_moveToEnd_1 rfl rfl ?_
  refine g_iload_n C dX0_moveToEnd_4 1 rfl rfl ?_
  refine g_iald C 1 dX0_moveToEnd_5 rfl (by omega) (by omega) ?_
  refine g_istore_n (lv' := [(2, .int (fk a)), (0, .ref h0), (1, .int (nI a))]) C dX0_moveToEnd_6 rfl (by decide) rfl ?_
  refine g_aload_n C dX0_moveToEnd_7 1 rfl rfl ?_
  refine g_get (ci := 0) C inX0_moveToEnd rfl 0 5 (by decide) lkX0_moveToEnd_36 dX0_moveToEnd_8 rfl rfl ?_
  refine g_iload_n C dX0_moveToEnd_11 2 rfl rfl ?_
  refine g_iald C 2 dX0_moveToEnd_12 rfl (by omega) (by omega) ?_
  refine g_istore_n (lv' := [(3, .int (fv a)), (2, .int (fk a)), (0, .ref h0), (1, .int (nI a))]) C dX0_moveToEnd_13 rfl (by decide) rfl ?_
  refine g_iload_n C dX0_moveToEnd_14 3 rfl rfl ?_
  refine g_istore (lv' := [(4, .int (nI a)), (3, .int (fv a)), (2, .int (fk a)), (0, .ref h0), (1, .int (nI a))]) C dX0_moveToEnd_15 (by decide) rfl ?_
  have loop17 : ∀ (t : Nat) (i : Nat), a ≤ i → i ≤ n - 1 → n - 1 < i + t → G K 0 0 17 [(4, .int (nI i)), (0, .ref h0), (1, .int (nI a)), (2, .int (fk a)), (3, .int (fv a))] [] (wX h0 hk hv hr cA nk nr b c pl bl n lv pt (sh fk a i) (sh fv a i) fr) := by
    intro t
    induction t with
    | zero =>
      intro i hi hi2 ht
      exact absurd ht (by omega)
    | succ t ih =>
      intro i hi hi2 ht
      refine g_iload C dX0_moveToEnd_17 0 rfl ?_
      refine g_aload_n C dX0_moveToEnd_19 1 rfl rfl ?_
      refine g_get (ci := 0) C inX0_moveToEnd rfl 0 6 (by decide) lkX0_moveToEnd_46 dX0_moveToEnd_20 rfl rfl ?_
      refine g_iconst (v := nI 1) C dX0_moveToEnd_23 (by decide) ?_
      refine g_isub C dX0_moveToEnd_24 (by omega) ?_
      refine g_icmp_ge C 66 dX0_moveToEnd_25 (by decide) (by omega) (by omega) (fun h25 => ?_) (fun h25 => ?_)
      · obtain rfl : i = n - 1 := by omega
        refine g_aload_n C dX0_moveToEnd_66 1 rfl rfl ?_
        refine g_get (ci := 0) C inX0_moveToEnd rfl 0 4 (by decide) lkX0_moveToEnd_32 dX0_moveToEnd_67 rfl rfl ?_
        refine g_aload_n C dX0_moveToEnd_70 1 rfl rfl ?_
        refine g_get (ci := 0) C inX0_moveToEnd rfl 0 6 (by decide) lkX0_moveToEnd_46 dX0_moveToEnd_71 rfl rfl ?_
        refine g_iconst (v := nI 1) C dX0_moveToEnd_74 (by decide) ?_
        refine g_isub C dX0_moveToEnd_75 (by omega) ?_
        refine g_iload_n C dX0_moveToEnd_76 3 rfl rfl ?_
        refine g_iast (ws' := wX h0 hk hv hr cA nk nr b c pl bl n lv pt (upd (sh fk a (n - 1)) (n - 1) (fk a)) (sh fv a (n - 1)) fr) C 1 dX0_moveToEnd_77 rfl (by omega) (by omega) rfl ?_
        refine g_aload_n C dX0_moveToEnd_78 1 rfl rfl ?_
        refine g_get (ci := 0) C inX0_moveToEnd rfl 0 5 (by decide) lkX0_moveToEnd_36 dX0_moveToEnd_79 rfl rfl ?_
        refine g_aload_n C dX0_moveToEnd_82 1 rfl rfl ?_
        refine g_get (ci := 0) C inX0_moveToEnd rfl 0 6 (by decide) lkX0_moveToEnd_46 dX0_moveToEnd_83 rfl rfl ?_
        refine g_iconst (v := nI 1) C dX0_moveToEnd_86 (by decide) ?_
        refine g_isub C dX0_moveToEnd_87 (by omega) ?_
        refine g_iload_n C dX0_moveToEnd_88 4 rfl rfl ?_
        refine g_iast (ws' := wX h0 hk hv hr cA nk nr b c pl bl n lv pt (upd (sh fk a (n - 1)) (n - 1) (fk a)) (upd (sh fv a (n - 1)) (n - 1) (fv a)) fr) C 2 dX0_moveToEnd_89 rfl (by omega) (by omega) rfl ?_
        exact hret _ _ () dX0_moveToEnd_90 trivial
      · refine g_aload_n C dX0_moveToEnd_28 1 rfl rfl ?_
        refine g_get (ci := 0) C inX0_moveToEnd rfl 0 4 (by decide) lkX0_moveToEnd_32 dX0_moveToEnd_29 rfl rfl ?_
        refine g_iload C dX0_moveToEnd_32 0 rfl ?_
        refine g_aload_n C dX0_moveToEnd_34 1 rfl rfl ?_
        refine g_get (ci := 0) C inX0_moveToEnd rfl 0 4 (by decide) lkX0_moveToEnd_32 dX0_moveToEnd_35 rfl rfl ?_
        refine g_iload C dX0_moveToEnd_38 0 rfl ?_
        refine g_iconst (v := nI 1) C dX0_moveToEnd_40 (by decide) ?_
        refine g_iadd C dX0_moveToEnd_41 ?_
        refine g_iald C 1 dX0_moveToEnd_42 rfl (by omega) (by omega) ?_
        refine g_iast (ws' := wX h0 hk hv hr cA nk nr b c pl bl n lv pt (upd (sh fk a i) i ((sh fk a i) (i + 1))) (sh fv a i) fr) C 1 dX0_moveToEnd_43 rfl (by omega) (by omega) rfl ?_
        refine g_wd (ws' := wX h0 hk hv hr cA nk nr b c pl bl n lv pt (sh fk a (i + 1)) (sh fv a i) fr) (by rw [sh_s fk hi]) ?_
        refine g_aload_n C dX0_moveToEnd_44 1 rfl rfl ?_
        refine g_get (ci := 0) C inX0_moveToEnd rfl 0 5 (by decide) lkX0_moveToEnd_36 dX0_moveToEnd_45 rfl rfl ?_
        refine g_iload C dX0_moveToEnd_48 0 rfl ?_
        refine g_aload_n C dX0_moveToEnd_50 1 rfl rfl ?_
        refine g_get (ci := 0) C inX0_moveToEnd rfl 0 5 (by decide) lkX0_moveToEnd_36 dX0_moveToEnd_51 rfl rfl ?_
        refine g_iload C dX0_moveToEnd_54 0 rfl ?_
        refine g_iconst (v := nI 1) C dX0_moveToEnd_56 (by decide) ?_
        refine g_iadd C dX0_moveToEnd_57 ?_
        refine g_iald C 2 dX0_moveToEnd_58 rfl (by omega) (by omega) ?_
        refine g_iast (ws' := wX h0 hk hv hr cA nk nr b c pl bl n lv pt (sh fk a (i + 1)) (upd (sh fv a i) i ((sh fv a i) (i + 1))) fr) C 2 dX0_moveToEnd_59 rfl (by omega) (by omega) rfl ?_
        refine g_wd (ws' := wX h0 hk hv hr cA nk nr b c pl bl n lv pt (sh fk a (i + 1)) (sh fv a (i + 1)) fr) (by rw [sh_s fv hi]) ?_
        refine g_iinc (v := nI (i + 1)) (lv' := [(4, .int (nI (i + 1))), (0, .ref h0), (1, .int (nI a)), (2, .int (fk a)), (3, .int (fv a))]) C dX0_moveToEnd_60 0 rfl (nI_add _ 1) (by decide) rfl ?_
        refine g_goto C 17 dX0_moveToEnd_63 (by decide) ?_
        refine g_lv [0, 1, 2, 3, 4] rfl ?_
        exact ih (i + 1) (by omega) (by omega) (by omega)
  refine g_wd (ws' := wX h0 hk hv hr cA nk nr b c pl bl n lv pt (sh fk a a) (sh fv a a) fr) (by rw [sh_0, sh_0]) ?_
  refine g_lv [0, 3, 4, 2, 1] rfl ?_
  exact loop17 n a (Nat.le_refl _) (by omega) (by omega)
set_option maxHeartbeats 4000000 in
set_option maxRecDepth 100000 in
theorem c_X0_moveBucketToEnd (l : Launch) (D : va_G) {cA : ClassId} {h0 hk hv hr nk nr b c pl bl n lv pt : Nat} {fk fv fr : Nat → Int32} (ok : okS b c pl bl n lv pt) (hx : n ≤ nk ∧ nk ≤ 512 ∧ nr = bl) (q : Nat) (hq : q < 2 ^ 31) : MetV (S := Unit) l yX0_moveBucketToEnd wsX0_moveBucketToEnd ({ frames := 2, cells := 0, slots := 0, locals := 43 } : Room) D [(cA, .int)] [.ref h0, .int (nI q)] (wX h0 hk hv hr cA nk nr b c pl bl n lv pt fk fv fr) (fun _ => wX h0 hk hv hr cA nk nr b c pl bl n lv pt ((mb (bk b lv pt) q n n 0 fk fv).1) ((mb (bk b lv pt) q n n 0 fk fv).2) fr) (fun _ => True) 0 0 := by
  refine MetV_of (cc := cX0_moveBucketToEnd) (maxL := 4) (lv0 := [(0, .ref h0), (1, .int (nI q))]) (by decide) rfl (Nat.le_of_ble_eq_true rfl) rfl ?_
  intro K _ _ C _ hret
  have C : Cx K ({ frames := 2, cells := 0, slots := 0, locals := 43 } : Room) 4 cX0_moveBucketToEnd RX0 wsX0_moveBucketToEnd [(cA, .int)] := C
  obtain ⟨o1, o2, o3, o4, o5, o6, o7, o8, o9, o10, o11, o12⟩ := id ok
  obtain ⟨x1, x2, x3⟩ := id hx
  refine g_iconst (v := nI 0) C dX0_moveBucketToEnd_0 (by decide) ?_
  refine g_istore_n (lv' := [(2, .int (nI 0)), (0, .ref h0), (1, .int (nI q))]) C dX0_moveBucketToEnd_1 rfl (by decide) rfl ?_
  refine g_iconst (v := nI 0) C dX0_moveBucketToEnd_2 (by decide) ?_
  refine g_istore_n (lv' := [(3, .int (nI 0)), (2, .int (nI 0)), (0, .ref h0), (1, .int (nI q))]) C dX0_moveBucketToEnd_3 rfl (by decide) rfl ?_
  have loop4 : ∀ (t : Nat) (a : Nat) (s : Nat) (fk2 : Nat → Int32) (fv2 : Nat → Int32), a ≤ s → s ≤ n → n < s + t → mb (bk b lv pt) q n (n - s) a fk2 fv2 = mb (bk b lv pt) q n n 0 fk fv → G K 0 0 4 [(3, .int (nI s)), (2, .int (nI a)), (0, .ref h0), (1, .int (nI q))] [] (wX h0 hk hv hr cA nk nr b c pl bl n lv pt fk2 fv2 fr) := by
    intro t
    induction t with
    | zero =>
      intro a s fk2 fv2 ha hs ht hmb
      exact absurd ht (by omega)
    | succ t ih =>
      intro a s fk2 fv2 ha hs ht hmb
      refine g_iload_n C dX0_moveBucketToEnd_4 0 rfl rfl ?_
      refine g_aload_n C dX0_moveBucketToEnd_5 2 rfl rfl ?_
      refine g_get (ci := 0) C inX0_moveBucketToEnd rfl 0 6 (by decide) lkX0_moveBucketToEnd_46 dX0_moveBucketToEnd_6 rfl rfl ?_
      refine g_icmp_ge C 43 dX0_moveBucketToEnd_9 (by decide) (by omega) (by omega) (fun h9 => ?_) (fun h9 => ?_)
      · have e0 : n - s = 0 := by omega
        rw [e0] at hmb
        have e1 : fk2 = (mb (bk b lv pt) q n n 0 fk fv).1 := by rw [← hmb]; rfl
        have e2 : fv2 = (mb (bk b lv pt) q n n 0 fk fv).2 := by rw [← hmb]; rfl
        refine g_wd (ws' := wX h0 hk hv hr cA nk nr b c pl bl n lv pt ((mb (bk b lv pt) q n n 0 fk fv).1) ((mb (bk b lv pt) q n n 0 fk fv).2) fr) (by rw [← e1, ← e2]) ?_
        exact hret _ _ () dX0_moveBucketToEnd_43 trivial
      · refine g_aload_n C dX0_moveBucketToEnd_12 2 rfl rfl ?_
        refine g_aload_n C dX0_moveBucketToEnd_13 2 rfl rfl ?_
        refine g_get (ci := 0) C inX0_moveBucketToEnd rfl 0 4 (by decide) lkX0_moveBucketToEnd_32 dX0_moveBucketToEnd_14 rfl rfl ?_
        refine g_iload_n C dX0_moveBucketToEnd_17 1 rfl rfl ?_
        refine g_iald C 1 dX0_moveBucketToEnd_18 rfl (by omega) (by omega) ?_
        refine g_callI0 (ci := 0) (q0 := 0) (rest := []) C (c_X0_bucketOf _ _ ok hx (fk2 a)) gX0_moveBucketToEnd_X0_bucketOf rfl rfl rfl hdX0_bucketOf (by decide) rfl rfl rfl rfl (Nat.le_of_ble_eq_true rfl) dX0_moveBucketToEnd_19 (fun r _ hw => ?_)
        subst hw
        show G K 0 0 22 [(3, .int (nI s)), (2, .int (nI a)), (0, .ref h0), (1, .int (nI q))] [.int (nI (bk b lv pt (fk2 a)))] (wX h0 hk hv hr cA nk nr b c pl bl n lv pt fk2 fv2 fr)
        refine g_iload_n C dX0_moveBucketToEnd_22 3 rfl rfl ?_
        refine g_icmp_ne C 34 dX0_moveBucketToEnd_23 (by decide) (by have := bk_lt (b := b) (lv := lv) (pt := pt) (fk2 a) (by omega); omega) (by omega) (fun h23 => ?_) (fun h23 => ?_)
        · refine g_iinc (v := nI (a + 1)) (lv' := [(2, .int (nI (a + 1))), (3, .int (nI s)), (0, .ref h0), (1, .int (nI q))]) C dX0_moveBucketToEnd_34 1 rfl (nI_add _ 1) (by decide) rfl ?_
          refine g_iinc (v := nI (s + 1)) (lv' := [(3, .int (nI (s + 1))), (2, .int (nI (a + 1))), (0, .ref h0), (1, .int (nI q))]) C dX0_moveBucketToEnd_37 1 rfl (nI_add _ 1) (by decide) rfl ?_
          refine g_goto C 4 dX0_moveBucketToEnd_40 (by decide) ?_
          refine g_lv [0, 1, 2, 3] rfl ?_
          exact ih (a + 1) (s + 1) fk2 fv2 (by omega) (by omega) (by omega) (by rw [← hmb, show n - s = (n - (s + 1)) + 1 by omega, mb_f h23])
        · refine g_aload_n C dX0_moveBucketToEnd_26 2 rfl rfl ?_
          refine g_iload_n C dX0_moveBucketToEnd_27 1 rfl rfl ?_
          refine g_callV0 (ci := 0) (q0 := 0) (rest := []) C (c_X0_moveToEnd _ _ ok hx a (by omega)) gX0_moveBucketToEnd_X0_moveToEnd rfl rfl rfl hdX0_moveToEnd (by decide) rfl rfl rfl rfl (Nat.le_of_ble_eq_true rfl) dX0_moveBucketToEnd_28 (fun _ _ => ?_)
          show G K 0 0 31 [(3, .int (nI s)), (2, .int (nI a)), (0, .ref h0), (1, .int (nI q))] [] (wX h0 hk hv hr cA nk nr b c pl bl n lv pt (mv fk2 a n) (mv fv2 a n) fr)
          refine g_goto C 37 dX0_moveBucketToEnd_31 (by decide) ?_
          refine g_iinc (v := nI (s + 1)) (lv' := [(3, .int (nI (s + 1))), (2, .int (nI a)), (0, .ref h0), (1, .int (nI q))]) C dX0_moveBucketToEnd_37 0 rfl (nI_add _ 1) (by decide) rfl ?_
          refine g_goto C 4 dX0_moveBucketToEnd_40 (by decide) ?_
          refine g_lv [0, 1, 2, 3] rfl ?_
          exact ih a (s + 1) (mv fk2 a n) (mv fv2 a n) (by omega) (by omega) (by omega) (by rw [← hmb, show n - s = (n - (s + 1)) + 1 by omega, mb_t h23])
  refine g_lv [0, 1, 2, 3] rfl ?_
  exact loop4 (n + 1) 0 0 fk fv (by omega) (by omega) (by omega) rfl
set_option maxHeartbeats 4000000 in
set_option maxRecDepth 100000 in
theorem c_X0_takeOut (l : Launch) (D : va_G) {cA : ClassId} {h0 hk hv hr nk nr b c pl bl n lv pt : Nat} {fk fv fr : Nat → Int32} (ok : okS b c pl bl n lv pt) (hx : n ≤ nk ∧ nk ≤ 512 ∧ nr = bl) (a : Nat) (ha : a < n) : MetV (S := Nat) l yX0_takeOut wsX0_takeOut ({ frames := 3, cells := 0, slots := 0, locals := 65 } : Room) D [(cA, .int)] [.ref h0, .int (nI a)] (wX h0 hk hv hr cA nk nr b c pl bl n lv pt fk fv fr) (fun m => wX h0 hk hv hr cA nk nr b c pl bl (n - 1) lv pt (mv (upd fk a (fk m)) m n) (mv (upd fv a (fv m)) m n) fr) (fun m => lastP b n lv pt fk a m) 0 0 := by
  refine MetV_of (cc := cX0_takeOut) (maxL := 3) (lv0 := [(0, .ref h0), (1, .int (nI a))]) (by decide) rfl (Nat.le_of_ble_eq_true rfl) rfl ?_
  intro K _ _ C _ hret
  have C : Cx K ({ frames := 3, cells := 0, slots := 0, locals := 65 } : Room) 3 cX0_takeOut RX0 wsX0_takeOut [(cA, .int)] := C
  obtain ⟨o1, o2, o3, o4, o5, o6, o7, o8, o9, o10, o11, o12⟩ := id ok
  obtain ⟨x1, x2, x3⟩ := id hx
  refine g_aload_n C dX0_takeOut_0 0 rfl rfl ?_
  refine g_aload_n C dX0_takeOut_1 0 rfl rfl ?_
  refine g_aload_n C dX0_takeOut_2 0 rfl rfl ?_
  refine g_get (ci := 0) C inX0_takeOut rfl 0 4 (by decide) lkX0_takeOut_32 dX0_takeOut_3 rfl rfl ?_
  refine g_iload_n C dX0_takeOut_6 1 rfl rfl ?_
  refine g_iald C 1 dX0_takeOut_7 rfl (by omega) (by omega) ?_
  refine g_callI0 (ci := 0) (q0 := 0) (rest := [.ref h0]) C (c_X0_bucketOf _ _ ok hx (fk a)) gX0_takeOut_X0_bucketOf rfl rfl rfl hdX0_bucketOf (by decide) rfl rfl rfl rfl (Nat.le_of_ble_eq_true rfl) dX0_takeOut_8 (fun r _ hw => ?_)
  subst hw
  show G K 0 0 11 [(0, .ref h0), (1, .int (nI a))] [.int (nI (bk b lv pt (fk a))), .ref h0] (wX h0 hk hv hr cA nk nr b c pl bl n lv pt fk fv fr)
  refine g_callI0 (ci := 0) (q0 := 0) (rest := []) C (c_X0_lastPlaceOfBucket _ _ ok hx (bk b lv pt (fk a)) (by have := bk_lt (b := b) (lv := lv) (pt := pt) (fk a) (by omega); omega)) gX0_takeOut_X0_lastPlaceOfBucket rfl rfl rfl hdX0_lastPlaceOfBucket (by decide) rfl rfl rfl rfl (Nat.le_of_ble_eq_true rfl) dX0_takeOut_11 (fun r _ hw => ?_)
  show G K 0 0 14 [(0, .ref h0), (1, .int (nI a))] [.int r] (wX h0 hk hv hr cA nk nr b c pl bl n lv pt fk fv fr)
  refine g_istore_n (lv' := [(2, .int r), (0, .ref h0), (1, .int (nI a))]) C dX0_takeOut_14 rfl (by decide) rfl ?_
  refine g_iload_n C dX0_takeOut_15 0 rfl rfl ?_
  refine g_iconst (v := -1) C dX0_takeOut_16 (by decide) ?_
  refine g_icmp_neI C 21 dX0_takeOut_17 (by decide) (fun h17 => ?_) (fun h17 => ?_)
  · obtain ⟨j, hj, hjb, hjl, er⟩ : ∃ j, j < n ∧ bk b lv pt (fk j) = bk b lv pt (fk a) ∧ (∀ i, j < i → i < n → bk b lv pt (fk i) ≠ bk b lv pt (fk a)) ∧ r = nI j := by
      rcases hw with a | ⟨_, a4⟩
      · exact a
      · exact absurd a4 h17
    subst er
    have haj : a ≤ j := by
      rcases Nat.lt_or_ge j a with q | q
      · exact absurd rfl (hjl a q ha)
      · exact q
    refine g_aload_n C dX0_takeOut_21 1 rfl rfl ?_
    refine g_get (ci := 0) C inX0_takeOut rfl 0 4 (by decide) lkX0_takeOut_32 dX0_takeOut_22 rfl rfl ?_
    refine g_iload_n C dX0_takeOut_25 2 rfl rfl ?_
    refine g_aload_n C dX0_takeOut_26 1 rfl rfl ?_
    refine g_get (ci := 0) C inX0_takeOut rfl 0 4 (by decide) lkX0_takeOut_32 dX0_takeOut_27 rfl rfl ?_
    refine g_iload_n C dX0_takeOut_30 0 rfl rfl ?_
    refine g_iald C 1 dX0_takeOut_31 rfl (by omega) (by omega) ?_
    refine g_iast (ws' := wX h0 hk hv hr cA nk nr b c pl bl n lv pt (upd fk a (fk j)) fv fr) C 1 dX0_takeOut_32 rfl (by omega) (by omega) rfl ?_
    refine g_aload_n C dX0_takeOut_33 1 rfl rfl ?_
    refine g_get (ci := 0) C inX0_takeOut rfl 0 5 (by decide) lkX0_takeOut_36 dX0_takeOut_34 rfl rfl ?_
    refine g_iload_n C dX0_takeOut_37 2 rfl rfl ?_
    refine g_aload_n C dX0_takeOut_38 1 rfl rfl ?_
    refine g_get (ci := 0) C inX0_takeOut rfl 0 5 (by decide) lkX0_takeOut_36 dX0_takeOut_39 rfl rfl ?_
    refine g_iload_n C dX0_takeOut_42 0 rfl rfl ?_
    refine g_iald C 2 dX0_takeOut_43 rfl (by omega) (by omega) ?_
    refine g_iast (ws' := wX h0 hk hv hr cA nk nr b c pl bl n lv pt (upd fk a (fk j)) (upd fv a (fv j)) fr) C 2 dX0_takeOut_44 rfl (by omega) (by omega) rfl ?_
    refine g_aload_n C dX0_takeOut_45 1 rfl rfl ?_
    refine g_iload_n C dX0_takeOut_46 0 rfl rfl ?_
    refine g_callV0 (ci := 0) (q0 := 0) (rest := []) C (c_X0_moveToEnd _ _ ok hx j hj) gX0_takeOut_X0_moveToEnd rfl rfl rfl hdX0_moveToEnd (by decide) rfl rfl rfl rfl (Nat.le_of_ble_eq_true rfl) dX0_takeOut_47 (fun _ _ => ?_)
    show G K 0 0 50 [(2, .int (nI j)), (0, .ref h0), (1, .int (nI a))] [] (wX h0 hk hv hr cA nk nr b c pl bl n lv pt (mv (upd fk a (fk j)) j n) (mv (upd fv a (fv j)) j n) fr)
    refine g_aload_n C dX0_takeOut_50 1 rfl rfl ?_
    refine g_dup C dX0_takeOut_51 rfl ?_
    refine g_get (ci := 0) C inX0_takeOut rfl 0 6 (by decide) lkX0_takeOut_46 dX0_takeOut_52 rfl rfl ?_
    refine g_iconst (v := nI 1) C dX0_takeOut_55 (by decide) ?_
    refine g_isub C dX0_takeOut_56 (by omega) ?_
    refine g_put (ci := 0) (ty := .int) (ws' := wX h0 hk hv hr cA nk nr b c pl bl (n - 1) lv pt (mv (upd fk a (fk j)) j n) (mv (upd fv a (fv j)) j n) fr) C inX0_takeOut tyX0 tyX0_ok nmX0 rfl 0 6 (by decide) lkX0_takeOut_46 rfl pdX0_6 dX0_takeOut_57 rfl rfl rfl (Nat.le_of_ble_eq_true rfl) rfl ?_
    exact hret _ _ j dX0_takeOut_60 ⟨haj, hj, hjb, hjl⟩
  · rcases hw with ⟨j, a1, a2, a3, a4⟩ | ⟨a1, _⟩
    · exact absurd (a4.symm.trans h17) (nI_m1 (by omega))
    · exact absurd rfl (a1 a ha)
set_option maxHeartbeats 4000000 in
set_option maxRecDepth 100000 in
theorem c_X0_part (l : Launch) (D : va_G) {cA : ClassId} {h0 hk hv hr nk nr b c pl bl n lv pt : Nat} {fk fv fr : Nat → Int32} (ok : okS b c pl bl n lv pt) (hx : n ≤ nk ∧ nk ≤ 512 ∧ nr = bl)   : MetV (S := Unit) l yX0_part wsX0_part ({ frames := 1, cells := 0, slots := 0, locals := 20 } : Room) D [(cA, .int)] [.ref h0] (wX h0 hk hv hr cA nk nr b c pl bl n lv pt fk fv fr) (fun _ => wX h0 hk hv hr cA nk nr b c pl bl n (fwL b lv pt) (fwP b lv pt) fk fv fr) (fun _ => True) 0 0 := by
  refine MetV_of (cc := cX0_part) (maxL := 1) (lv0 := [(0, .ref h0)]) (by decide) rfl (Nat.le_of_ble_eq_true rfl) rfl ?_
  intro K _ _ C _ hret
  have C : Cx K ({ frames := 1, cells := 0, slots := 0, locals := 20 } : Room) 1 cX0_part RX0 wsX0_part [(cA, .int)] := C
  obtain ⟨o1, o2, o3, o4, o5, o6, o7, o8, o9, o10, o11, o12⟩ := id ok
  obtain ⟨x1, x2, x3⟩ := id hx
  refine g_aload_n C dX0_part_0 0 rfl rfl ?_
  refine g_dup C dX0_part_1 rfl ?_
  refine g_get (ci := 0) C inX0_part rfl 0 8 (by decide) lkX0_part_70 dX0_part_2 rfl rfl ?_
  refine g_iconst (v := nI 1) C dX0_part_5 (by decide) ?_
  refine g_iadd C dX0_part_6 ?_
  refine g_put (ci := 0) (ty := .int) (ws' := wX h0 hk hv hr cA nk nr b c pl bl n lv (pt + 1) fk fv fr) C inX0_part tyX0 tyX0_ok nmX0 rfl 0 8 (by decide) lkX0_part_70 rfl pdX0_8 dX0_part_7 rfl rfl rfl (Nat.le_of_ble_eq_true rfl) rfl ?_
  refine g_aload_n C dX0_part_10 0 rfl rfl ?_
  refine g_get (ci := 0) C inX0_part rfl 0 8 (by decide) lkX0_part_70 dX0_part_11 rfl rfl ?_
  refine g_aload_n C dX0_part_14 0 rfl rfl ?_
  refine g_callI0 (ci := 0) (q0 := 0) (rest := [.int (nI (pt + 1))]) C (c_X0_bucketsAtLevelStart _ _ o12 (by omega)) gX0_part_X0_bucketsAtLevelStart rfl rfl rfl hdX0_bucketsAtLevelStart (by decide) rfl rfl rfl rfl (Nat.le_of_ble_eq_true rfl) dX0_part_15 (fun r _ hw => ?_)
  subst hw
  show G K 0 0 18 [(0, .ref h0)] [.int (nI (rd b lv)), .int (nI (pt + 1))] (wX h0 hk hv hr cA nk nr b c pl bl n lv (pt + 1) fk fv fr)
  refine g_icmp_ne C 36 dX0_part_18 (by decide) (by omega) (by omega) (fun h18 => ?_) (fun h18 => ?_)
  · have e1 : fwL b lv pt = lv := if_neg h18
    have e2 : fwP b lv pt = pt + 1 := if_neg h18
    refine g_wd (ws' := wX h0 hk hv hr cA nk nr b c pl bl n (fwL b lv pt) (fwP b lv pt) fk fv fr) (by rw [e1, e2]) ?_
    exact hret _ _ () dX0_part_36 trivial
  · refine g_aload_n C dX0_part_21 0 rfl rfl ?_
    refine g_iconst (v := nI 0) C dX0_part_22 (by decide) ?_
    refine g_put (ci := 0) (ty := .int) (ws' := wX h0 hk hv hr cA nk nr b c pl bl n lv 0 fk fv fr) C inX0_part tyX0 tyX0_ok nmX0 rfl 0 8 (by decide) lkX0_part_70 rfl pdX0_8 dX0_part_23 rfl rfl rfl (Nat.le_of_ble_eq_true rfl) rfl ?_
    refine g_aload_n C dX0_part_26 0 rfl rfl ?_
    refine g_dup C dX0_part_27 rfl ?_
    refine g_get (ci := 0) C inX0_part rfl 0 7 (by decide) lkX0_part_73 dX0_part_28 rfl rfl ?_
    refine g_iconst (v := nI 1) C dX0_part_31 (by decide) ?_
    refine g_iadd C dX0_part_32 ?_
    refine g_put (ci := 0) (ty := .int) (ws' := wX h0 hk hv hr cA nk nr b c pl bl n (lv + 1) 0 fk fv fr) C inX0_part tyX0 tyX0_ok nmX0 rfl 0 7 (by decide) lkX0_part_73 rfl pdX0_7 dX0_part_33 rfl rfl rfl (Nat.le_of_ble_eq_true rfl) rfl ?_
    have e1 : fwL b lv pt = lv + 1 := if_pos h18
    have e2 : fwP b lv pt = 0 := if_pos h18
    refine g_wd (ws' := wX h0 hk hv hr cA nk nr b c pl bl n (fwL b lv pt) (fwP b lv pt) fk fv fr) (by rw [e1, e2]) ?_
    exact hret _ _ () dX0_part_36 trivial
set_option maxHeartbeats 4000000 in
set_option maxRecDepth 100000 in
theorem c_X0_join (l : Launch) (D : va_G) {cA : ClassId} {h0 hk hv hr nk nr b c pl bl n lv pt : Nat} {fk fv fr : Nat → Int32} (ok : okS b c pl bl n lv pt) (hx : n ≤ nk ∧ nk ≤ 512 ∧ nr = bl)  (hB : b < rd b lv + pt) : MetV (S := Unit) l yX0_join wsX0_join ({ frames := 3, cells := 0, slots := 0, locals := 66 } : Room) D [(cA, .int)] [.ref h0] (wX h0 hk hv hr cA nk nr b c pl bl n lv pt fk fv fr) (fun _ => wX h0 hk hv hr cA nk nr b c pl bl n (bwL pt lv) (bwP b lv pt) ((mb (bk b lv pt) (rd b lv + pt - 1) n n 0 fk fv).1) ((mb (bk b lv pt) (rd b lv + pt - 1) n n 0 fk fv).2) fr) (fun _ => True) 0 0 := by
  refine MetV_of (cc := cX0_join) (maxL := 1) (lv0 := [(0, .ref h0)]) (by decide) rfl (Nat.le_of_ble_eq_true rfl) rfl ?_
  intro K _ _ C _ hret
  have C : Cx K ({ frames := 3, cells := 0, slots := 0, locals := 66 } : Room) 1 cX0_join RX0 wsX0_join [(cA, .int)] := C
  obtain ⟨o1, o2, o3, o4, o5, o6, o7, o8, o9, o10, o11, o12⟩ := id ok
  obtain ⟨x1, x2, x3⟩ := id hx
  refine g_aload_n C dX0_join_0 0 rfl rfl ?_
  refine g_aload_n C dX0_join_1 0 rfl rfl ?_
  refine g_callI0 (ci := 0) (q0 := 0) (rest := [.ref h0]) C (c_X0_buckets _ _ ok hx) gX0_join_X0_buckets rfl rfl rfl hdX0_buckets (by decide) rfl rfl rfl rfl (Nat.le_of_ble_eq_true rfl) dX0_join_2 (fun r _ hw => ?_)
  subst hw
  show G K 0 0 5 [(0, .ref h0)] [.int (nI (rd b lv + pt)), .ref h0] (wX h0 hk hv hr cA nk nr b c pl bl n lv pt fk fv fr)
  refine g_iconst (v := nI 1) C dX0_join_5 (by decide) ?_
  refine g_isub C dX0_join_6 (by omega) ?_
  refine g_callV0 (ci := 0) (q0 := 0) (rest := []) C (c_X0_moveBucketToEnd _ _ ok hx (rd b lv + pt - 1) (by omega)) gX0_join_X0_moveBucketToEnd rfl rfl rfl hdX0_moveBucketToEnd (by decide) rfl rfl rfl rfl (Nat.le_of_ble_eq_true rfl) dX0_join_7 (fun _ _ => ?_)
  show G K 0 0 10 [(0, .ref h0)] [] (wX h0 hk hv hr cA nk nr b c pl bl n lv pt ((mb (bk b lv pt) (rd b lv + pt - 1) n n 0 fk fv).1) ((mb (bk b lv pt) (rd b lv + pt - 1) n n 0 fk fv).2) fr)
  refine g_aload_n C dX0_join_10 0 rfl rfl ?_
  refine g_get (ci := 0) C inX0_join rfl 0 8 (by decide) lkX0_join_70 dX0_join_11 rfl rfl ?_
  refine g_if_ne C 35 dX0_join_14 (by decide) (fun h14 => ?_) (fun h14 => ?_)
  · have hp : ¬ pt = 0 := fun e => h14 (by rw [e]; rfl)
    refine g_aload_n C dX0_join_35 0 rfl rfl ?_
    refine g_dup C dX0_join_36 rfl ?_
    refine g_get (ci := 0) C inX0_join rfl 0 8 (by decide) lkX0_join_70 dX0_join_37 rfl rfl ?_
    refine g_iconst (v := nI 1) C dX0_join_40 (by decide) ?_
    refine g_isub C dX0_join_41 (by omega) ?_
    refine g_put (ci := 0) (ty := .int) (ws' := wX h0 hk hv hr cA nk nr b c pl bl n lv (pt - 1) ((mb (bk b lv pt) (rd b lv + pt - 1) n n 0 fk fv).1) ((mb (bk b lv pt) (rd b lv + pt - 1) n n 0 fk fv).2) fr) C inX0_join tyX0 tyX0_ok nmX0 rfl 0 8 (by decide) lkX0_join_70 rfl pdX0_8 dX0_join_42 rfl rfl rfl (Nat.le_of_ble_eq_true rfl) rfl ?_
    have e1 : bwL pt lv = lv := if_neg hp
    have e2 : bwP b lv pt = pt - 1 := if_neg hp
    refine g_wd (ws' := wX h0 hk hv hr cA nk nr b c pl bl n (bwL pt lv) (bwP b lv pt) ((mb (bk b lv pt) (rd b lv + pt - 1) n n 0 fk fv).1) ((mb (bk b lv pt) (rd b lv + pt - 1) n n 0 fk fv).2) fr) (by rw [e1, e2]) ?_
    exact hret _ _ () dX0_join_45 trivial
  · have hp : pt = 0 := (nI_eq (by omega) (by omega)).mp (h14.trans nI_0.symm)
    have hl := lv_pos hB hp
    have hs := rd_s b (lv - 1)
    rw [show lv - 1 + 1 = lv by omega] at hs
    refine g_aload_n C dX0_join_17 0 rfl rfl ?_
    refine g_dup C dX0_join_18 rfl ?_
    refine g_get (ci := 0) C inX0_join rfl 0 7 (by decide) lkX0_join_73 dX0_join_19 rfl rfl ?_
    refine g_iconst (v := nI 1) C dX0_join_22 (by decide) ?_
    refine g_isub C dX0_join_23 (by omega) ?_
    refine g_put (ci := 0) (ty := .int) (ws' := wX h0 hk hv hr cA nk nr b c pl bl n (lv - 1) pt ((mb (bk b lv pt) (rd b lv + pt - 1) n n 0 fk fv).1) ((mb (bk b lv pt) (rd b lv + pt - 1) n n 0 fk fv).2) fr) C inX0_join tyX0 tyX0_ok nmX0 rfl 0 7 (by decide) lkX0_join_73 rfl pdX0_7 dX0_join_24 rfl rfl rfl (Nat.le_of_ble_eq_true rfl) rfl ?_
    refine g_aload_n C dX0_join_27 0 rfl rfl ?_
    refine g_aload_n C dX0_join_28 0 rfl rfl ?_
    refine g_callI0 (ci := 0) (q0 := 0) (rest := [.ref h0]) C (c_X0_bucketsAtLevelStart _ _ (by omega) (by omega)) gX0_join_X0_bucketsAtLevelStart rfl rfl rfl hdX0_bucketsAtLevelStart (by decide) rfl rfl rfl rfl (Nat.le_of_ble_eq_true rfl) dX0_join_29 (fun r _ hw => ?_)
    subst hw
    show G K 0 0 32 [(0, .ref h0)] [.int (nI (rd b (lv - 1))), .ref h0] (wX h0 hk hv hr cA nk nr b c pl bl n (lv - 1) pt ((mb (bk b lv pt) (rd b lv + pt - 1) n n 0 fk fv).1) ((mb (bk b lv pt) (rd b lv + pt - 1) n n 0 fk fv).2) fr)
    refine g_put (ci := 0) (ty := .int) (ws' := wX h0 hk hv hr cA nk nr b c pl bl n (lv - 1) (rd b (lv - 1)) ((mb (bk b lv pt) (rd b lv + pt - 1) n n 0 fk fv).1) ((mb (bk b lv pt) (rd b lv + pt - 1) n n 0 fk fv).2) fr) C inX0_join tyX0 tyX0_ok nmX0 rfl 0 8 (by decide) lkX0_join_70 rfl pdX0_8 dX0_join_32 rfl rfl rfl (Nat.le_of_ble_eq_true rfl) rfl ?_
    refine g_aload_n C dX0_join_35 0 rfl rfl ?_
    refine g_dup C dX0_join_36 rfl ?_
    refine g_get (ci := 0) C inX0_join rfl 0 8 (by decide) lkX0_join_70 dX0_join_37 rfl rfl ?_
    refine g_iconst (v := nI 1) C dX0_join_40 (by decide) ?_
    refine g_isub C dX0_join_41 (by omega) ?_
    refine g_put (ci := 0) (ty := .int) (ws' := wX h0 hk hv hr cA nk nr b c pl bl n (lv - 1) ((rd b (lv - 1)) - 1) ((mb (bk b lv pt) (rd b lv + pt - 1) n n 0 fk fv).1) ((mb (bk b lv pt) (rd b lv + pt - 1) n n 0 fk fv).2) fr) C inX0_join tyX0 tyX0_ok nmX0 rfl 0 8 (by decide) lkX0_join_70 rfl pdX0_8 dX0_join_42 rfl rfl rfl (Nat.le_of_ble_eq_true rfl) rfl ?_
    have e1 : bwL pt lv = lv - 1 := if_pos hp
    have e2 : bwP b lv pt = rd b (lv - 1) - 1 := if_pos hp
    refine g_wd (ws' := wX h0 hk hv hr cA nk nr b c pl bl n (bwL pt lv) (bwP b lv pt) ((mb (bk b lv pt) (rd b lv + pt - 1) n n 0 fk fv).1) ((mb (bk b lv pt) (rd b lv + pt - 1) n n 0 fk fv).2) fr) (by rw [e1, e2]) ?_
    exact hret _ _ () dX0_join_45 trivial
