set_option maxHeartbeats 4000000 in
set_option maxRecDepth 100000 in
theorem c_X0_pagesNeeded (l : Launch) (D : va_G) {cA : ClassId} {h0 hk hv hr nk nr b c pl bl n lv pt : Nat} {fk fv fr : Nat → Int32} (ok : okS b c pl bl n lv pt) (hx : n ≤ nk ∧ nk ≤ 512 ∧ nr = bl)   : MetI (S := (Nat → Int32)) l yX0_pagesNeeded wsX0_pagesNeeded ({ frames := 2, cells := 0, slots := 0, locals := 43 } : Room) D [(cA, .int)] [.ref h0] (wX h0 hk hv hr cA nk nr b c pl bl n lv pt fk fv fr) (fun u => wX h0 hk hv hr cA nk nr b c pl bl n lv pt fk fv u) (fun r _ => r = nI (ndP b c n lv pt fk)) 0 0 := by
  refine MetI_of (cc := cX0_pagesNeeded) (maxL := 4) (rt := .int) (lv0 := [(0, .ref h0)]) (by decide) rfl (Nat.le_of_ble_eq_true rfl) rfl ?_
  intro K _ _ C hret
  have C : Cx K ({ frames := 2, cells := 0, slots := 0, locals := 43 } : Room) 4 cX0_pagesNeeded RX0 wsX0_pagesNeeded [(cA, .int)] := C
  obtain ⟨o1, o2, o3, o4, o5, o6, o7, o8, o9, o10, o11, o12⟩ := id ok
  obtain ⟨x1, x2, x3⟩ := id hx
  refine g_aload_n C dX0_pagesNeeded_0 0 rfl rfl ?_
  refine g_callI0 (ci := 0) (q0 := 0) (rest := []) C (c_X0_buckets _ _ ok hx) gX0_pagesNeeded_X0_buckets rfl rfl rfl hdX0_buckets (by decide) rfl rfl rfl rfl (Nat.le_of_ble_eq_true rfl) dX0_pagesNeeded_1 (fun r _ hw => ?_)
  subst hw
  show G K 0 0 4 [(0, .ref h0)] [.int (nI (rd b lv + pt))] (wX h0 hk hv hr cA nk nr b c pl bl n lv pt fk fv fr)
  refine g_istore_n (lv' := [(1, .int (nI (rd b lv + pt))), (0, .ref h0)]) C dX0_pagesNeeded_4 rfl (by decide) rfl ?_
  refine g_iconst (v := nI 0) C dX0_pagesNeeded_5 (by decide) ?_
  refine g_istore_n (lv' := [(2, .int (nI 0)), (1, .int (nI (rd b lv + pt))), (0, .ref h0)]) C dX0_pagesNeeded_6 rfl (by decide) rfl ?_
  have loop7 : ∀ (t : Nat) (i : Nat) (f : Nat → Int32), i ≤ rd b lv + pt → rd b lv + pt < i + t → (∀ q, q < i → f q = nI 0) → G K 0 0 7 [(2, .int (nI i)), (1, .int (nI (rd b lv + pt))), (0, .ref h0)] [] (wX h0 hk hv hr cA nk nr b c pl bl n lv pt fk fv f) := by
    intro t
    induction t with
    | zero =>
      intro i f hi ht hz
      exact absurd ht (by omega)
    | succ t ih =>
      intro i f hi ht hz
      refine g_iload_n C dX0_pagesNeeded_7 0 rfl rfl ?_
      refine g_iload_n C dX0_pagesNeeded_8 1 rfl rfl ?_
      refine g_icmp_ge C 25 dX0_pagesNeeded_9 (by decide) (by omega) (by omega) (fun h9 => ?_) (fun h9 => ?_)
      · refine g_iconst (v := nI 0) C dX0_pagesNeeded_25 (by decide) ?_
        refine g_istore_n (lv' := [(2, .int (nI 0)), (1, .int (nI (rd b lv + pt))), (0, .ref h0)]) C dX0_pagesNeeded_26 rfl (by decide) rfl ?_
        have loop27 : ∀ (t : Nat) (k : Nat) (f2 : Nat → Int32), k ≤ n → n < k + t → (∀ q, q < rd b lv + pt → f2 q = nI (ct (fun j => bk b lv pt (fk j)) q k)) → G K 0 0 27 [(2, .int (nI k)), (1, .int (nI (rd b lv + pt))), (0, .ref h0)] [] (wX h0 hk hv hr cA nk nr b c pl bl n lv pt fk fv f2) := by
          intro t
          induction t with
          | zero =>
            intro k f2 hk1 ht hc
            exact absurd ht (by omega)
          | succ t ih =>
            intro k f2 hk1 ht hc
            refine g_iload_n C dX0_pagesNeeded_27 0 rfl rfl ?_
            refine g_aload_n C dX0_pagesNeeded_28 2 rfl rfl ?_
            refine g_get (ci := 0) C inX0_pagesNeeded rfl 0 6 (by decide) lkX0_pagesNeeded_46 dX0_pagesNeeded_29 rfl rfl ?_
            refine g_icmp_ge C 60 dX0_pagesNeeded_32 (by decide) (by omega) (by omega) (fun h32 => ?_) (fun h32 => ?_)
            · obtain rfl : n = k := by omega
              refine g_iconst (v := nI 0) C dX0_pagesNeeded_60 (by decide) ?_
              refine g_istore_n (lv' := [(2, .int (nI 0)), (1, .int (nI (rd b lv + pt))), (0, .ref h0)]) C dX0_pagesNeeded_61 rfl (by decide) rfl ?_
              refine g_iconst (v := nI 0) C dX0_pagesNeeded_62 (by decide) ?_
              refine g_istore_n (lv' := [(3, .int (nI 0)), (2, .int (nI 0)), (1, .int (nI (rd b lv + pt))), (0, .ref h0)]) C dX0_pagesNeeded_63 rfl (by decide) rfl ?_
              have loop64 : ∀ (t : Nat) (m : Nat), m ≤ rd b lv + pt → rd b lv + pt < m + t → G K 0 0 64 [(3, .int (nI m)), (2, .int (nI (sm (fun q => pg c (ct (fun j => bk b lv pt (fk j)) q n)) m))), (1, .int (nI (rd b lv + pt))), (0, .ref h0)] [] (wX h0 hk hv hr cA nk nr b c pl bl n lv pt fk fv f2) := by
                intro t
                induction t with
                | zero =>
                  intro m hm ht
                  exact absurd ht (by omega)
                | succ t ih =>
                  intro m hm ht
                  refine g_iload_n C dX0_pagesNeeded_64 0 rfl rfl ?_
                  refine g_iload_n C dX0_pagesNeeded_65 2 rfl rfl ?_
                  refine g_icmp_ge C 88 dX0_pagesNeeded_66 (by decide) (by omega) (by omega) (fun h66 => ?_) (fun h66 => ?_)
                  · obtain rfl : m = rd b lv + pt := by omega
                    refine g_iload_n C dX0_pagesNeeded_88 1 rfl rfl ?_
                    exact hret _ _ _ f2 dX0_pagesNeeded_89 rfl rfl
                  · refine g_iload_n C dX0_pagesNeeded_69 1 rfl rfl ?_
                    refine g_aload_n C dX0_pagesNeeded_70 3 rfl rfl ?_
                    refine g_aload_n C dX0_pagesNeeded_71 3 rfl rfl ?_
                    refine g_get (ci := 0) C inX0_pagesNeeded rfl 0 9 (by decide) lkX0_pagesNeeded_39 dX0_pagesNeeded_72 rfl rfl ?_
                    refine g_iload_n C dX0_pagesNeeded_75 0 rfl rfl ?_
                    refine g_iald C 3 dX0_pagesNeeded_76 rfl (by omega) (by omega) ?_
                    refine g_top (hc m h66) ?_
                    have hle := ct_le (fun j => bk b lv pt (fk j)) m n
                    refine g_callI0 (ci := 0) (q0 := 0) (rest := [.int (nI (sm (fun q => pg c (ct (fun j => bk b lv pt (fk j)) q n)) m))]) C (c_X0_pagesFor _ _ ok hx (ct (fun j => bk b lv pt (fk j)) m n) (by omega)) gX0_pagesNeeded_X0_pagesFor rfl rfl rfl hdX0_pagesFor (by decide) rfl rfl rfl rfl (Nat.le_of_ble_eq_true rfl) dX0_pagesNeeded_77 (fun r _ hw => ?_)
                    subst hw
                    show G K 0 0 80 [(3, .int (nI m)), (2, .int (nI (sm (fun q => pg c (ct (fun j => bk b lv pt (fk j)) q n)) m))), (1, .int (nI (rd b lv + pt))), (0, .ref h0)] [.int (nI (pg c (ct (fun j => bk b lv pt (fk j)) m n))), .int (nI (sm (fun q => pg c (ct (fun j => bk b lv pt (fk j)) q n)) m))] (wX h0 hk hv hr cA nk nr b c pl bl n lv pt fk fv f2)
                    refine g_iadd C dX0_pagesNeeded_80 ?_
                    refine g_istore_n (lv' := [(2, .int (nI ((sm (fun q => pg c (ct (fun j => bk b lv pt (fk j)) q n)) m) + (pg c (ct (fun j => bk b lv pt (fk j)) m n))))), (3, .int (nI m)), (1, .int (nI (rd b lv + pt))), (0, .ref h0)]) C dX0_pagesNeeded_81 rfl (by decide) rfl ?_
                    refine g_iinc (v := nI (m + 1)) (lv' := [(3, .int (nI (m + 1))), (2, .int (nI ((sm (fun q => pg c (ct (fun j => bk b lv pt (fk j)) q n)) m) + (pg c (ct (fun j => bk b lv pt (fk j)) m n))))), (1, .int (nI (rd b lv + pt))), (0, .ref h0)]) C dX0_pagesNeeded_82 1 rfl (nI_add _ 1) (by decide) rfl ?_
                    refine g_goto C 64 dX0_pagesNeeded_85 (by decide) ?_
                    refine g_lv [0, 1, 2, 3] rfl ?_
                    exact ih (m + 1) (by omega) (by omega)
              refine g_lv [0, 1, 2, 3] rfl ?_
              exact loop64 (rd b lv + pt + 1) 0 (by omega) (by omega)
            · refine g_aload_n C dX0_pagesNeeded_35 2 rfl rfl ?_
              refine g_get (ci := 0) C inX0_pagesNeeded rfl 0 9 (by decide) lkX0_pagesNeeded_39 dX0_pagesNeeded_36 rfl rfl ?_
              refine g_aload_n C dX0_pagesNeeded_39 2 rfl rfl ?_
              refine g_aload_n C dX0_pagesNeeded_40 2 rfl rfl ?_
              refine g_get (ci := 0) C inX0_pagesNeeded rfl 0 4 (by decide) lkX0_pagesNeeded_32 dX0_pagesNeeded_41 rfl rfl ?_
              refine g_iload_n C dX0_pagesNeeded_44 0 rfl rfl ?_
              refine g_iald C 1 dX0_pagesNeeded_45 rfl (by omega) (by omega) ?_
              refine g_callI0 (ci := 0) (q0 := 0) (rest := [.ref hr]) C (c_X0_bucketOf _ _ ok hx (fk k)) gX0_pagesNeeded_X0_bucketOf rfl rfl rfl hdX0_bucketOf (by decide) rfl rfl rfl rfl (Nat.le_of_ble_eq_true rfl) dX0_pagesNeeded_46 (fun r _ hw => ?_)
              subst hw
              show G K 0 0 49 [(2, .int (nI k)), (1, .int (nI (rd b lv + pt))), (0, .ref h0)] [.int (nI (bk b lv pt (fk k))), .ref hr] (wX h0 hk hv hr cA nk nr b c pl bl n lv pt fk fv f2)
              have hb := bk_lt (b := b) (lv := lv) (pt := pt) (fk k) (by omega)
              refine g_dup2 C dX0_pagesNeeded_49 rfl rfl ?_
              refine g_iald C 3 dX0_pagesNeeded_50 rfl (by omega) (by omega) ?_
              refine g_top (hc _ hb) ?_
              refine g_iconst (v := nI 1) C dX0_pagesNeeded_51 (by decide) ?_
              refine g_iadd C dX0_pagesNeeded_52 ?_
              refine g_iast (ws' := wX h0 hk hv hr cA nk nr b c pl bl n lv pt fk fv (upd f2 (bk b lv pt (fk k)) (nI ((ct (fun j => bk b lv pt (fk j)) (bk b lv pt (fk k)) k) + 1)))) C 3 dX0_pagesNeeded_53 rfl (by omega) (by omega) rfl ?_
              refine g_iinc (v := nI (k + 1)) (lv' := [(2, .int (nI (k + 1))), (1, .int (nI (rd b lv + pt))), (0, .ref h0)]) C dX0_pagesNeeded_54 0 rfl (nI_add _ 1) (by decide) rfl ?_
              refine g_goto C 27 dX0_pagesNeeded_57 (by decide) ?_
              refine g_lv [0, 1, 2] rfl ?_
              exact ih (k + 1) _ (by omega) (by omega) (ct_up (g := fun j => bk b lv pt (fk j)) hc)
        refine g_lv [0, 1, 2] rfl ?_
        exact loop27 (n + 1) 0 f (by omega) (by omega) (fun q hq => hz q (by omega))
      · refine g_aload_n C dX0_pagesNeeded_12 2 rfl rfl ?_
        refine g_get (ci := 0) C inX0_pagesNeeded rfl 0 9 (by decide) lkX0_pagesNeeded_39 dX0_pagesNeeded_13 rfl rfl ?_
        refine g_iload_n C dX0_pagesNeeded_16 0 rfl rfl ?_
        refine g_iconst (v := nI 0) C dX0_pagesNeeded_17 (by decide) ?_
        refine g_iast (ws' := wX h0 hk hv hr cA nk nr b c pl bl n lv pt fk fv (upd f i (nI 0))) C 3 dX0_pagesNeeded_18 rfl (by omega) (by omega) rfl ?_
        refine g_iinc (v := nI (i + 1)) (lv' := [(2, .int (nI (i + 1))), (1, .int (nI (rd b lv + pt))), (0, .ref h0)]) C dX0_pagesNeeded_19 0 rfl (nI_add _ 1) (by decide) rfl ?_
        refine g_goto C 7 dX0_pagesNeeded_22 (by decide) ?_
        refine g_lv [0, 1, 2] rfl ?_
        exact ih (i + 1) (upd f i (nI 0)) (by omega) (by omega) (up_all hz)
  refine g_lv [0, 1, 2] rfl ?_
  exact loop7 (rd b lv + pt + 1) 0 fr (by omega) (by omega) (fun q hq => absurd hq (by omega))
set_option maxHeartbeats 4000000 in
set_option maxRecDepth 100000 in
theorem c_X0_putNew (l : Launch) (D : va_G) {cA : ClassId} {h0 hk hv hr nk nr b c pl bl n lv pt : Nat} {fk fv fr : Nat → Int32} (ok : okS b c pl bl n lv pt) (hx : n ≤ nk ∧ nk ≤ 512 ∧ nr = bl) (k v : Int32) (hn : n < nk) : MetI (S := XS) l yX0_putNew wsX0_putNew ({ frames := 3, cells := 0, slots := 0, locals := 66 } : Room) D [(cA, .int)] [.ref h0, .int k, .int v] (wX h0 hk hv hr cA nk nr b c pl bl n lv pt fk fv fr) (fun u => wX h0 hk hv hr cA nk nr b c pl bl u.1 u.2.1 u.2.2.1 u.2.2.2.1 u.2.2.2.2.1 u.2.2.2.2.2) (fun r u => newP b c pl bl n lv pt fk fv k v r u.1 u.2.1 u.2.2.1 u.2.2.2.1 u.2.2.2.2.1) 0 0 := by
  refine MetI_of (cc := cX0_putNew) (maxL := 5) (rt := .int) (lv0 := [(0, .ref h0), (1, .int k), (2, .int v)]) (by decide) rfl (Nat.le_of_ble_eq_true rfl) rfl ?_
  intro K _ _ C hret
  have C : Cx K ({ frames := 3, cells := 0, slots := 0, locals := 66 } : Room) 5 cX0_putNew RX0 wsX0_putNew [(cA, .int)] := C
  obtain ⟨o1, o2, o3, o4, o5, o6, o7, o8, o9, o10, o11, o12⟩ := id ok
  obtain ⟨x1, x2, x3⟩ := id hx
  have ok1 := ok_n (n' := n + 1) ok (by omega)
  have hx1 : n + 1 ≤ nk ∧ nk ≤ 512 ∧ nr = bl := ⟨by omega, x2, x3⟩
  refine g_aload_n C dX0_putNew_0 0 rfl rfl ?_
  refine g_get (ci := 0) C inX0_putNew rfl 0 7 (by decide) lkX0_putNew_73 dX0_putNew_1 rfl rfl ?_
  refine g_istore_n (lv' := [(3, .int (nI lv)), (0, .ref h0), (1, .int k), (2, .int v)]) C dX0_putNew_4 rfl (by decide) rfl ?_
  refine g_aload_n C dX0_putNew_5 1 rfl rfl ?_
  refine g_get (ci := 0) C inX0_putNew rfl 0 8 (by decide) lkX0_putNew_70 dX0_putNew_6 rfl rfl ?_
  refine g_istore (lv' := [(4, .int (nI pt)), (3, .int (nI lv)), (0, .ref h0), (1, .int k), (2, .int v)]) C dX0_putNew_9 (by decide) rfl ?_
  refine g_aload_n C dX0_putNew_11 2 rfl rfl ?_
  refine g_get (ci := 0) C inX0_putNew rfl 0 4 (by decide) lkX0_putNew_32 dX0_putNew_12 rfl rfl ?_
  refine g_aload_n C dX0_putNew_15 2 rfl rfl ?_
  refine g_get (ci := 0) C inX0_putNew rfl 0 6 (by decide) lkX0_putNew_46 dX0_putNew_16 rfl rfl ?_
  refine g_iload_n C dX0_putNew_19 3 rfl rfl ?_
  refine g_iast (ws' := wX h0 hk hv hr cA nk nr b c pl bl n lv pt (upd fk n k) fv fr) C 1 dX0_putNew_20 rfl (by omega) (by omega) rfl ?_
  refine g_aload_n C dX0_putNew_21 2 rfl rfl ?_
  refine g_get (ci := 0) C inX0_putNew rfl 0 5 (by decide) lkX0_putNew_36 dX0_putNew_22 rfl rfl ?_
  refine g_aload_n C dX0_putNew_25 2 rfl rfl ?_
  refine g_get (ci := 0) C inX0_putNew rfl 0 6 (by decide) lkX0_putNew_46 dX0_putNew_26 rfl rfl ?_
  refine g_iload_n C dX0_putNew_29 4 rfl rfl ?_
  refine g_iast (ws' := wX h0 hk hv hr cA nk nr b c pl bl n lv pt (upd fk n k) (upd fv n v) fr) C 2 dX0_putNew_30 rfl (by omega) (by omega) rfl ?_
  refine g_aload_n C dX0_putNew_31 2 rfl rfl ?_
  refine g_dup C dX0_putNew_32 rfl ?_
  refine g_get (ci := 0) C inX0_putNew rfl 0 6 (by decide) lkX0_putNew_46 dX0_putNew_33 rfl rfl ?_
  refine g_iconst (v := nI 1) C dX0_putNew_36 (by decide) ?_
  refine g_iadd C dX0_putNew_37 ?_
  refine g_put (ci := 0) (ty := .int) (ws' := wX h0 hk hv hr cA nk nr b c pl bl (n + 1) lv pt (upd fk n k) (upd fv n v) fr) C inX0_putNew tyX0 tyX0_ok nmX0 rfl 0 6 (by decide) lkX0_putNew_46 rfl pdX0_6 dX0_putNew_38 rfl rfl rfl (Nat.le_of_ble_eq_true rfl) rfl ?_
  refine g_aload_n C dX0_putNew_41 2 rfl rfl ?_
  refine g_callI0 (ci := 0) (q0 := 0) (rest := []) C (c_X0_isCrowded _ _ ok1 hx1) gX0_putNew_X0_isCrowded rfl rfl rfl hdX0_isCrowded (by decide) rfl rfl rfl rfl (Nat.le_of_ble_eq_true rfl) dX0_putNew_42 (fun r _ hw => ?_)
  subst hw
  show G K 0 0 45 [(4, .int (nI pt)), (3, .int (nI lv)), (0, .ref h0), (1, .int k), (2, .int v)] [.int (bI (3 * c * (rd b lv + pt) < 4 * (n + 1)))] (wX h0 hk hv hr cA nk nr b c pl bl (n + 1) lv pt (upd fk n k) (upd fv n v) fr)
  refine g_if_eq C 63 dX0_putNew_45 (by decide) (fun h45 => ?_) (fun h45 => ?_)
  · have q1 := bI_0 h45
    refine g_aload_n C dX0_putNew_63 2 rfl rfl ?_
    have eL : pL b c bl (n + 1) lv pt = lv := if_neg (fun z => q1 z.1)
    have eP : pP b c bl (n + 1) lv pt = pt := if_neg (fun z => q1 z.1)
    have okP : okS b c pl bl (n + 1) lv pt := ok1
    have hB := okP.2.2.2.2.2.2.2.2.2.2.1
    refine g_callI0 (ci := 0) (q0 := 0) (rest := []) C (c_X0_pagesNeeded _ _ okP hx1) gX0_putNew_X0_pagesNeeded rfl rfl rfl hdX0_pagesNeeded (by decide) rfl rfl rfl rfl (Nat.le_of_ble_eq_true rfl) dX0_putNew_64 (fun r f hw => ?_)
    subst hw
    show G K 0 0 67 [(4, .int (nI pt)), (3, .int (nI lv)), (0, .ref h0), (1, .int k), (2, .int v)] [.int (nI (ndP b c (n + 1) lv pt (upd fk n k)))] (wX h0 hk hv hr cA nk nr b c pl bl (n + 1) lv pt (upd fk n k) (upd fv n v) f)
    have hN : ndP b c (n + 1) lv pt (upd fk n k) ≤ 130000 := nd_le o3 (by omega) (by omega)
    refine g_aload_n C dX0_putNew_67 2 rfl rfl ?_
    refine g_get (ci := 0) C inX0_putNew rfl 0 2 (by decide) lkX0_putNew_20 dX0_putNew_68 rfl rfl ?_
    refine g_icmp_le C 97 dX0_putNew_71 (by decide) (by omega) (by omega) (fun h71 => ?_) (fun h71 => ?_)
    · refine g_iconst (v := nI 0) C dX0_putNew_97 (by decide) ?_
      exact hret _ _ _ (n + 1, lv, pt, upd fk n k, upd fv n v, f) dX0_putNew_98 rfl (Or.inl ⟨by rw [eL, eP]; exact h71, rfl, rfl, eL.symm, eP.symm, rfl, rfl⟩)
    · refine g_aload_n C dX0_putNew_74 2 rfl rfl ?_
      refine g_dup C dX0_putNew_75 rfl ?_
      refine g_get (ci := 0) C inX0_putNew rfl 0 6 (by decide) lkX0_putNew_46 dX0_putNew_76 rfl rfl ?_
      refine g_iconst (v := nI 1) C dX0_putNew_79 (by decide) ?_
      refine g_isub C dX0_putNew_80 (by omega) ?_
      refine g_top (by rw [Nat.add_sub_cancel]) ?_
      refine g_put (ci := 0) (ty := .int) (ws' := wX h0 hk hv hr cA nk nr b c pl bl n lv pt (upd fk n k) (upd fv n v) f) C inX0_putNew tyX0 tyX0_ok nmX0 rfl 0 6 (by decide) lkX0_putNew_46 rfl pdX0_6 dX0_putNew_81 rfl rfl rfl (Nat.le_of_ble_eq_true rfl) rfl ?_
      refine g_aload_n C dX0_putNew_84 2 rfl rfl ?_
      refine g_iload_n C dX0_putNew_85 1 rfl rfl ?_
      refine g_put (ci := 0) (ty := .int) (ws' := wX h0 hk hv hr cA nk nr b c pl bl n lv pt (upd fk n k) (upd fv n v) f) C inX0_putNew tyX0 tyX0_ok nmX0 rfl 0 7 (by decide) lkX0_putNew_73 rfl pdX0_7 dX0_putNew_86 rfl rfl rfl (Nat.le_of_ble_eq_true rfl) rfl ?_
      refine g_aload_n C dX0_putNew_89 2 rfl rfl ?_
      refine g_iload C dX0_putNew_90 0 rfl ?_
      refine g_put (ci := 0) (ty := .int) (ws' := wX h0 hk hv hr cA nk nr b c pl bl n lv pt (upd fk n k) (upd fv n v) f) C inX0_putNew tyX0 tyX0_ok nmX0 rfl 0 8 (by decide) lkX0_putNew_70 rfl pdX0_8 dX0_putNew_92 rfl rfl rfl (Nat.le_of_ble_eq_true rfl) rfl ?_
      refine g_iconst (v := nI 2) C dX0_putNew_95 (by decide) ?_
      exact hret _ _ _ (n, lv, pt, upd fk n k, upd fv n v, f) dX0_putNew_96 rfl (Or.inr ⟨by rw [eL, eP]; exact h71, rfl, rfl, rfl, rfl, rfl, rfl⟩)
  · have q1 := bI_1 h45
    refine g_aload_n C dX0_putNew_48 2 rfl rfl ?_
    refine g_callI0 (ci := 0) (q0 := 0) (rest := []) C (c_X0_buckets _ _ ok1 hx1) gX0_putNew_X0_buckets rfl rfl rfl hdX0_buckets (by decide) rfl rfl rfl rfl (Nat.le_of_ble_eq_true rfl) dX0_putNew_49 (fun r _ hw => ?_)
    subst hw
    show G K 0 0 52 [(4, .int (nI pt)), (3, .int (nI lv)), (0, .ref h0), (1, .int k), (2, .int v)] [.int (nI (rd b lv + pt))] (wX h0 hk hv hr cA nk nr b c pl bl (n + 1) lv pt (upd fk n k) (upd fv n v) fr)
    refine g_aload_n C dX0_putNew_52 2 rfl rfl ?_
    refine g_get (ci := 0) C inX0_putNew rfl 0 3 (by decide) lkX0_putNew_23 dX0_putNew_53 rfl rfl ?_
    refine g_icmp_ge C 63 dX0_putNew_56 (by decide) (by omega) (by omega) (fun h56 => ?_) (fun h56 => ?_)
    · refine g_aload_n C dX0_putNew_63 2 rfl rfl ?_
      have eL : pL b c bl (n + 1) lv pt = lv := if_neg (fun z => absurd z.2 (by omega))
      have eP : pP b c bl (n + 1) lv pt = pt := if_neg (fun z => absurd z.2 (by omega))
      have okP : okS b c pl bl (n + 1) lv pt := ok1
      have hB := okP.2.2.2.2.2.2.2.2.2.2.1
      refine g_callI0 (ci := 0) (q0 := 0) (rest := []) C (c_X0_pagesNeeded _ _ okP hx1) gX0_putNew_X0_pagesNeeded rfl rfl rfl hdX0_pagesNeeded (by decide) rfl rfl rfl rfl (Nat.le_of_ble_eq_true rfl) dX0_putNew_64 (fun r f hw => ?_)
      subst hw
      show G K 0 0 67 [(4, .int (nI pt)), (3, .int (nI lv)), (0, .ref h0), (1, .int k), (2, .int v)] [.int (nI (ndP b c (n + 1) lv pt (upd fk n k)))] (wX h0 hk hv hr cA nk nr b c pl bl (n + 1) lv pt (upd fk n k) (upd fv n v) f)
      have hN : ndP b c (n + 1) lv pt (upd fk n k) ≤ 130000 := nd_le o3 (by omega) (by omega)
      refine g_aload_n C dX0_putNew_67 2 rfl rfl ?_
      refine g_get (ci := 0) C inX0_putNew rfl 0 2 (by decide) lkX0_putNew_20 dX0_putNew_68 rfl rfl ?_
      refine g_icmp_le C 97 dX0_putNew_71 (by decide) (by omega) (by omega) (fun h71 => ?_) (fun h71 => ?_)
      · refine g_iconst (v := nI 0) C dX0_putNew_97 (by decide) ?_
        exact hret _ _ _ (n + 1, lv, pt, upd fk n k, upd fv n v, f) dX0_putNew_98 rfl (Or.inl ⟨by rw [eL, eP]; exact h71, rfl, rfl, eL.symm, eP.symm, rfl, rfl⟩)
      · refine g_aload_n C dX0_putNew_74 2 rfl rfl ?_
        refine g_dup C dX0_putNew_75 rfl ?_
        refine g_get (ci := 0) C inX0_putNew rfl 0 6 (by decide) lkX0_putNew_46 dX0_putNew_76 rfl rfl ?_
        refine g_iconst (v := nI 1) C dX0_putNew_79 (by decide) ?_
        refine g_isub C dX0_putNew_80 (by omega) ?_
        refine g_top (by rw [Nat.add_sub_cancel]) ?_
        refine g_put (ci := 0) (ty := .int) (ws' := wX h0 hk hv hr cA nk nr b c pl bl n lv pt (upd fk n k) (upd fv n v) f) C inX0_putNew tyX0 tyX0_ok nmX0 rfl 0 6 (by decide) lkX0_putNew_46 rfl pdX0_6 dX0_putNew_81 rfl rfl rfl (Nat.le_of_ble_eq_true rfl) rfl ?_
        refine g_aload_n C dX0_putNew_84 2 rfl rfl ?_
        refine g_iload_n C dX0_putNew_85 1 rfl rfl ?_
        refine g_put (ci := 0) (ty := .int) (ws' := wX h0 hk hv hr cA nk nr b c pl bl n lv pt (upd fk n k) (upd fv n v) f) C inX0_putNew tyX0 tyX0_ok nmX0 rfl 0 7 (by decide) lkX0_putNew_73 rfl pdX0_7 dX0_putNew_86 rfl rfl rfl (Nat.le_of_ble_eq_true rfl) rfl ?_
        refine g_aload_n C dX0_putNew_89 2 rfl rfl ?_
        refine g_iload C dX0_putNew_90 0 rfl ?_
        refine g_put (ci := 0) (ty := .int) (ws' := wX h0 hk hv hr cA nk nr b c pl bl n lv pt (upd fk n k) (upd fv n v) f) C inX0_putNew tyX0 tyX0_ok nmX0 rfl 0 8 (by decide) lkX0_putNew_70 rfl pdX0_8 dX0_putNew_92 rfl rfl rfl (Nat.le_of_ble_eq_true rfl) rfl ?_
        refine g_iconst (v := nI 2) C dX0_putNew_95 (by decide) ?_
        exact hret _ _ _ (n, lv, pt, upd fk n k, upd fv n v, f) dX0_putNew_96 rfl (Or.inr ⟨by rw [eL, eP]; exact h71, rfl, rfl, rfl, rfl, rfl, rfl⟩)
    · refine g_aload_n C dX0_putNew_59 2 rfl rfl ?_
      refine g_callV0 (ci := 0) (q0 := 0) (rest := []) C (c_X0_part _ _ ok1 hx1) gX0_putNew_X0_part rfl rfl rfl hdX0_part (by decide) rfl rfl rfl rfl (Nat.le_of_ble_eq_true rfl) dX0_putNew_60 (fun _ _ => ?_)
      show G K 0 0 63 [(4, .int (nI pt)), (3, .int (nI lv)), (0, .ref h0), (1, .int k), (2, .int v)] [] (wX h0 hk hv hr cA nk nr b c pl bl (n + 1) (fwL b lv pt) (fwP b lv pt) (upd fk n k) (upd fv n v) fr)
      refine g_aload_n C dX0_putNew_63 2 rfl rfl ?_
      have eL : pL b c bl (n + 1) lv pt = fwL b lv pt := if_pos ⟨q1, h56⟩
      have eP : pP b c bl (n + 1) lv pt = fwP b lv pt := if_pos ⟨q1, h56⟩
      have okP : okS b c pl bl (n + 1) (fwL b lv pt) (fwP b lv pt) := ok_fw ok1 h56
      have hB := okP.2.2.2.2.2.2.2.2.2.2.1
      refine g_callI0 (ci := 0) (q0 := 0) (rest := []) C (c_X0_pagesNeeded _ _ okP hx1) gX0_putNew_X0_pagesNeeded rfl rfl rfl hdX0_pagesNeeded (by decide) rfl rfl rfl rfl (Nat.le_of_ble_eq_true rfl) dX0_putNew_64 (fun r f hw => ?_)
      subst hw
      show G K 0 0 67 [(4, .int (nI pt)), (3, .int (nI lv)), (0, .ref h0), (1, .int k), (2, .int v)] [.int (nI (ndP b c (n + 1) (fwL b lv pt) (fwP b lv pt) (upd fk n k)))] (wX h0 hk hv hr cA nk nr b c pl bl (n + 1) (fwL b lv pt) (fwP b lv pt) (upd fk n k) (upd fv n v) f)
      have hN : ndP b c (n + 1) (fwL b lv pt) (fwP b lv pt) (upd fk n k) ≤ 130000 := nd_le o3 (by omega) (by omega)
      refine g_aload_n C dX0_putNew_67 2 rfl rfl ?_
      refine g_get (ci := 0) C inX0_putNew rfl 0 2 (by decide) lkX0_putNew_20 dX0_putNew_68 rfl rfl ?_
      refine g_icmp_le C 97 dX0_putNew_71 (by decide) (by omega) (by omega) (fun h71 => ?_) (fun h71 => ?_)
      · refine g_iconst (v := nI 0) C dX0_putNew_97 (by decide) ?_
        exact hret _ _ _ (n + 1, fwL b lv pt, fwP b lv pt, upd fk n k, upd fv n v, f) dX0_putNew_98 rfl (Or.inl ⟨by rw [eL, eP]; exact h71, rfl, rfl, eL.symm, eP.symm, rfl, rfl⟩)
      · refine g_aload_n C dX0_putNew_74 2 rfl rfl ?_
        refine g_dup C dX0_putNew_75 rfl ?_
        refine g_get (ci := 0) C inX0_putNew rfl 0 6 (by decide) lkX0_putNew_46 dX0_putNew_76 rfl rfl ?_
        refine g_iconst (v := nI 1) C dX0_putNew_79 (by decide) ?_
        refine g_isub C dX0_putNew_80 (by omega) ?_
        refine g_top (by rw [Nat.add_sub_cancel]) ?_
        refine g_put (ci := 0) (ty := .int) (ws' := wX h0 hk hv hr cA nk nr b c pl bl n (fwL b lv pt) (fwP b lv pt) (upd fk n k) (upd fv n v) f) C inX0_putNew tyX0 tyX0_ok nmX0 rfl 0 6 (by decide) lkX0_putNew_46 rfl pdX0_6 dX0_putNew_81 rfl rfl rfl (Nat.le_of_ble_eq_true rfl) rfl ?_
        refine g_aload_n C dX0_putNew_84 2 rfl rfl ?_
        refine g_iload_n C dX0_putNew_85 1 rfl rfl ?_
        refine g_put (ci := 0) (ty := .int) (ws' := wX h0 hk hv hr cA nk nr b c pl bl n lv (fwP b lv pt) (upd fk n k) (upd fv n v) f) C inX0_putNew tyX0 tyX0_ok nmX0 rfl 0 7 (by decide) lkX0_putNew_73 rfl pdX0_7 dX0_putNew_86 rfl rfl rfl (Nat.le_of_ble_eq_true rfl) rfl ?_
        refine g_aload_n C dX0_putNew_89 2 rfl rfl ?_
        refine g_iload C dX0_putNew_90 0 rfl ?_
        refine g_put (ci := 0) (ty := .int) (ws' := wX h0 hk hv hr cA nk nr b c pl bl n lv pt (upd fk n k) (upd fv n v) f) C inX0_putNew tyX0 tyX0_ok nmX0 rfl 0 8 (by decide) lkX0_putNew_70 rfl pdX0_8 dX0_putNew_92 rfl rfl rfl (Nat.le_of_ble_eq_true rfl) rfl ?_
        refine g_iconst (v := nI 2) C dX0_putNew_95 (by decide) ?_
        exact hret _ _ _ (n, lv, pt, upd fk n k, upd fv n v, f) dX0_putNew_96 rfl (Or.inr ⟨by rw [eL, eP]; exact h71, rfl, rfl, rfl, rfl, rfl, rfl⟩)
set_option maxHeartbeats 4000000 in
set_option maxRecDepth 100000 in
theorem c_X0_put (l : Launch) (D : va_G) {cA : ClassId} {h0 hk hv hr nk nr b c pl bl n lv pt : Nat} {fk fv fr : Nat → Int32} (ok : okS b c pl bl n lv pt) (hx : n ≤ nk ∧ nk ≤ 512 ∧ nr = bl) (k v : Int32)  : MetI (S := XS) l yX0_put wsX0_put ({ frames := 4, cells := 0, slots := 0, locals := 90 } : Room) D [(cA, .int)] [.ref h0, .int k, .int v] (wX h0 hk hv hr cA nk nr b c pl bl n lv pt fk fv fr) (fun u => wX h0 hk hv hr cA nk nr b c pl bl u.1 u.2.1 u.2.2.1 u.2.2.2.1 u.2.2.2.2.1 u.2.2.2.2.2) (fun r u => oldP n fk fv k v r u.1 u.2.1 u.2.2.1 lv pt u.2.2.2.1 u.2.2.2.2.1 ∨ ((∀ j, j < n → fk j ≠ k) ∧ nk ≤ n ∧ r = nI 2 ∧ u.1 = n ∧ u.2.1 = lv ∧ u.2.2.1 = pt ∧ u.2.2.2.1 = fk ∧ u.2.2.2.2.1 = fv) ∨ ((∀ j, j < n → fk j ≠ k) ∧ n < nk ∧ newP b c pl bl n lv pt fk fv k v r u.1 u.2.1 u.2.2.1 u.2.2.2.1 u.2.2.2.2.1)) 0 0 := by
  refine MetI_of (cc := cX0_put) (maxL := 4) (rt := .int) (lv0 := [(0, .ref h0), (1, .int k), (2, .int v)]) (by decide) rfl (Nat.le_of_ble_eq_true rfl) rfl ?_
  intro K _ _ C hret
  have C : Cx K ({ frames := 4, cells := 0, slots := 0, locals := 90 } : Room) 4 cX0_put RX0 wsX0_put [(cA, .int)] := C
  obtain ⟨o1, o2, o3, o4, o5, o6, o7, o8, o9, o10, o11, o12⟩ := id ok
  obtain ⟨x1, x2, x3⟩ := id hx
  refine g_aload_n C dX0_put_0 0 rfl rfl ?_
  refine g_iload_n C dX0_put_1 1 rfl rfl ?_
  refine g_callI0 (ci := 0) (q0 := 0) (rest := []) C (c_X0_placeOf _ _ ok hx k) gX0_put_X0_placeOf rfl rfl rfl hdX0_placeOf (by decide) rfl rfl rfl rfl (Nat.le_of_ble_eq_true rfl) dX0_put_2 (fun r _ hw => ?_)
  show G K 0 0 5 [(0, .ref h0), (1, .int k), (2, .int v)] [.int r] (wX h0 hk hv hr cA nk nr b c pl bl n lv pt fk fv fr)
  refine g_istore_n (lv' := [(3, .int r), (0, .ref h0), (1, .int k), (2, .int v)]) C dX0_put_5 rfl (by decide) rfl ?_
  refine g_iload_n C dX0_put_6 0 rfl rfl ?_
  refine g_iconst (v := -1) C dX0_put_7 (by decide) ?_
  refine g_icmp_eqI C 20 dX0_put_8 (by decide) (fun h8 => ?_) (fun h8 => ?_)
  · have hno : ∀ j, j < n → fk j ≠ k := by
      rcases hw with ⟨j, a1, a2, _, a3⟩ | ⟨a1, _⟩
      · exact absurd (a3.symm.trans h8) (nI_m1 (by omega))
      · exact a1
    refine g_aload_n C dX0_put_20 1 rfl rfl ?_
    refine g_get (ci := 0) C inX0_put rfl 0 6 (by decide) lkX0_put_46 dX0_put_21 rfl rfl ?_
    refine g_aload_n C dX0_put_24 1 rfl rfl ?_
    refine g_get (ci := 0) C inX0_put rfl 0 4 (by decide) lkX0_put_32 dX0_put_25 rfl rfl ?_
    refine g_alen C 1 dX0_put_28 rfl ?_
    refine g_icmp_lt C 34 dX0_put_29 (by decide) (by omega) (by omega) (fun h29 => ?_) (fun h29 => ?_)
    · refine g_aload_n C dX0_put_34 1 rfl rfl ?_
      refine g_iload_n C dX0_put_35 2 rfl rfl ?_
      refine g_iload_n C dX0_put_36 3 rfl rfl ?_
      refine g_callI0 (ci := 0) (q0 := 0) (rest := []) C (c_X0_putNew _ _ ok hx k v h29) gX0_put_X0_putNew rfl rfl rfl hdX0_putNew (by decide) rfl rfl rfl rfl (Nat.le_of_ble_eq_true rfl) dX0_put_37 (fun r2 u hw2 => ?_)
      obtain ⟨n2, l2, p2, fk2, fv2, fr2⟩ := u
      show G K 0 0 40 [(3, .int r), (0, .ref h0), (1, .int k), (2, .int v)] [.int r2] (wX h0 hk hv hr cA nk nr b c pl bl n2 l2 p2 fk2 fv2 fr2)
      exact hret _ _ _ (n2, l2, p2, fk2, fv2, fr2) dX0_put_40 rfl (Or.inr (Or.inr ⟨hno, h29, hw2⟩))
    · refine g_iconst (v := nI 2) C dX0_put_32 (by decide) ?_
      exact hret _ _ _ (n, lv, pt, fk, fv, fr) dX0_put_33 rfl (Or.inr (Or.inl ⟨hno, h29, rfl, rfl, rfl, rfl, rfl, rfl⟩))
  · obtain ⟨j, hj, hkj, er⟩ : ∃ j, j < n ∧ fk j = k ∧ r = nI j := by
      rcases hw with ⟨j, a1, a2, _, a3⟩ | ⟨_, a3⟩
      · exact ⟨j, a1, a2, a3⟩
      · exact absurd a3 h8
    subst er
    refine g_aload_n C dX0_put_11 1 rfl rfl ?_
    refine g_get (ci := 0) C inX0_put rfl 0 5 (by decide) lkX0_put_36 dX0_put_12 rfl rfl ?_
    refine g_iload_n C dX0_put_15 0 rfl rfl ?_
    refine g_iload_n C dX0_put_16 3 rfl rfl ?_
    refine g_iast (ws' := wX h0 hk hv hr cA nk nr b c pl bl n lv pt fk (upd fv j v) fr) C 2 dX0_put_17 rfl (by omega) (by omega) rfl ?_
    refine g_iconst (v := nI 1) C dX0_put_18 (by decide) ?_
    exact hret _ _ _ (n, lv, pt, fk, upd fv j v, fr) dX0_put_19 rfl (Or.inl ⟨j, hj, hkj, rfl, rfl, rfl, rfl, rfl, rfl⟩)
set_option maxHeartbeats 4000000 in
set_option maxRecDepth 100000 in
theorem c_X0_remove (l : Launch) (D : va_G) {cA : ClassId} {h0 hk hv hr nk nr b c pl bl n lv pt : Nat} {fk fv fr : Nat → Int32} (ok : okS b c pl bl n lv pt) (hx : n ≤ nk ∧ nk ≤ 512 ∧ nr = bl) (k : Int32)  : MetI (S := XS) l yX0_remove wsX0_remove ({ frames := 4, cells := 0, slots := 0, locals := 87 } : Room) D [(cA, .int)] [.ref h0, .int k] (wX h0 hk hv hr cA nk nr b c pl bl n lv pt fk fv fr) (fun u => wX h0 hk hv hr cA nk nr b c pl bl u.1 u.2.1 u.2.2.1 u.2.2.2.1 u.2.2.2.2.1 u.2.2.2.2.2) (fun r u => ((∀ j, j < n → fk j ≠ k) ∧ r = nI 0 ∧ u.1 = n ∧ u.2.1 = lv ∧ u.2.2.1 = pt ∧ u.2.2.2.1 = fk ∧ u.2.2.2.2.1 = fv) ∨ (∃ j m, j < n ∧ fk j = k ∧ lastP b n lv pt fk j m ∧ r = nI 1 ∧ u.1 = n - 1 ∧ ((4 * (n - 1) < c * (rd b lv + pt) ∧ b < rd b lv + pt ∧ u.2.1 = bwL pt lv ∧ u.2.2.1 = bwP b lv pt ∧ u.2.2.2.1 = (mb (bk b lv pt) (rd b lv + pt - 1) (n - 1) (n - 1) 0 (mv (upd fk j (fk m)) m n) (mv (upd fv j (fv m)) m n)).1 ∧ u.2.2.2.2.1 = (mb (bk b lv pt) (rd b lv + pt - 1) (n - 1) (n - 1) 0 (mv (upd fk j (fk m)) m n) (mv (upd fv j (fv m)) m n)).2) ∨ (¬ (4 * (n - 1) < c * (rd b lv + pt) ∧ b < rd b lv + pt) ∧ u.2.1 = lv ∧ u.2.2.1 = pt ∧ u.2.2.2.1 = mv (upd fk j (fk m)) m n ∧ u.2.2.2.2.1 = mv (upd fv j (fv m)) m n)))) 0 0 := by
  refine MetI_of (cc := cX0_remove) (maxL := 3) (rt := .boolean) (lv0 := [(0, .ref h0), (1, .int k)]) (by decide) rfl (Nat.le_of_ble_eq_true rfl) rfl ?_
  intro K _ _ C hret
  have C : Cx K ({ frames := 4, cells := 0, slots := 0, locals := 87 } : Room) 3 cX0_remove RX0 wsX0_remove [(cA, .int)] := C
  obtain ⟨o1, o2, o3, o4, o5, o6, o7, o8, o9, o10, o11, o12⟩ := id ok
  obtain ⟨x1, x2, x3⟩ := id hx
  refine g_aload_n C dX0_remove_0 0 rfl rfl ?_
  refine g_iload_n C dX0_remove_1 1 rfl rfl ?_
  refine g_callI0 (ci := 0) (q0 := 0) (rest := []) C (c_X0_placeOf _ _ ok hx k) gX0_remove_X0_placeOf rfl rfl rfl hdX0_placeOf (by decide) rfl rfl rfl rfl (Nat.le_of_ble_eq_true rfl) dX0_remove_2 (fun r _ hw => ?_)
  show G K 0 0 5 [(0, .ref h0), (1, .int k)] [.int r] (wX h0 hk hv hr cA nk nr b c pl bl n lv pt fk fv fr)
  refine g_istore_n (lv' := [(2, .int r), (0, .ref h0), (1, .int k)]) C dX0_remove_5 rfl (by decide) rfl ?_
  refine g_iload_n C dX0_remove_6 0 rfl rfl ?_
  refine g_iconst (v := -1) C dX0_remove_7 (by decide) ?_
  refine g_icmp_neI C 13 dX0_remove_8 (by decide) (fun h8 => ?_) (fun h8 => ?_)
  · obtain ⟨j, hj, hkj, er⟩ : ∃ j, j < n ∧ fk j = k ∧ r = nI j := by
      rcases hw with ⟨j, a1, a2, _, a3⟩ | ⟨_, a3⟩
      · exact ⟨j, a1, a2, a3⟩
      · exact absurd a3 h8
    subst er
    have ok1 := ok_n (n' := n - 1) ok (by omega)
    have hx1 : n - 1 ≤ nk ∧ nk ≤ 512 ∧ nr = bl := ⟨by omega, x2, x3⟩
    refine g_aload_n C dX0_remove_13 1 rfl rfl ?_
    refine g_iload_n C dX0_remove_14 0 rfl rfl ?_
    refine g_callV0 (ci := 0) (q0 := 0) (rest := []) C (c_X0_takeOut _ _ ok hx j hj) gX0_remove_X0_takeOut rfl rfl rfl hdX0_takeOut (by decide) rfl rfl rfl rfl (Nat.le_of_ble_eq_true rfl) dX0_remove_15 (fun m hw2 => ?_)
    show G K 0 0 18 [(2, .int (nI j)), (0, .ref h0), (1, .int k)] [] (wX h0 hk hv hr cA nk nr b c pl bl (n - 1) lv pt (mv (upd fk j (fk m)) m n) (mv (upd fv j (fv m)) m n) fr)
    refine g_aload_n C dX0_remove_18 1 rfl rfl ?_
    refine g_callI0 (ci := 0) (q0 := 0) (rest := []) C (c_X0_isSparse _ _ ok1 hx1) gX0_remove_X0_isSparse rfl rfl rfl hdX0_isSparse (by decide) rfl rfl rfl rfl (Nat.le_of_ble_eq_true rfl) dX0_remove_19 (fun r _ hw => ?_)
    subst hw
    show G K 0 0 22 [(2, .int (nI j)), (0, .ref h0), (1, .int k)] [.int (bI (4 * (n - 1) < c * (rd b lv + pt)))] (wX h0 hk hv hr cA nk nr b c pl bl (n - 1) lv pt (mv (upd fk j (fk m)) m n) (mv (upd fv j (fv m)) m n) fr)
    refine g_if_eq C 40 dX0_remove_22 (by decide) (fun h22 => ?_) (fun h22 => ?_)
    · have q1 := bI_0 h22
      refine g_iconst (v := nI 1) C dX0_remove_40 (by decide) ?_
      exact hret _ _ _ (n - 1, lv, pt, mv (upd fk j (fk m)) m n, mv (upd fv j (fv m)) m n, fr) dX0_remove_41 (by decide) (Or.inr ⟨j, m, hj, hkj, hw2, rfl, rfl, Or.inr ⟨(fun z => q1 z.1), rfl, rfl, rfl, rfl⟩⟩)
    · have q1 := bI_1 h22
      refine g_aload_n C dX0_remove_25 1 rfl rfl ?_
      refine g_callI0 (ci := 0) (q0 := 0) (rest := []) C (c_X0_buckets _ _ ok1 hx1) gX0_remove_X0_buckets rfl rfl rfl hdX0_buckets (by decide) rfl rfl rfl rfl (Nat.le_of_ble_eq_true rfl) dX0_remove_26 (fun r _ hw => ?_)
      subst hw
      show G K 0 0 29 [(2, .int (nI j)), (0, .ref h0), (1, .int k)] [.int (nI (rd b lv + pt))] (wX h0 hk hv hr cA nk nr b c pl bl (n - 1) lv pt (mv (upd fk j (fk m)) m n) (mv (upd fv j (fv m)) m n) fr)
      refine g_aload_n C dX0_remove_29 1 rfl rfl ?_
      refine g_get (ci := 0) C inX0_remove rfl 0 0 (by decide) lkX0_remove_13 dX0_remove_30 rfl rfl ?_
      refine g_icmp_le C 40 dX0_remove_33 (by decide) (by omega) (by omega) (fun h33 => ?_) (fun h33 => ?_)
      · refine g_iconst (v := nI 1) C dX0_remove_40 (by decide) ?_
        exact hret _ _ _ (n - 1, lv, pt, mv (upd fk j (fk m)) m n, mv (upd fv j (fv m)) m n, fr) dX0_remove_41 (by decide) (Or.inr ⟨j, m, hj, hkj, hw2, rfl, rfl, Or.inr ⟨(fun z => absurd z.2 (by omega)), rfl, rfl, rfl, rfl⟩⟩)
      · refine g_aload_n C dX0_remove_36 1 rfl rfl ?_
        refine g_callV0 (ci := 0) (q0 := 0) (rest := []) C (c_X0_join _ _ ok1 hx1 h33) gX0_remove_X0_join rfl rfl rfl hdX0_join (by decide) rfl rfl rfl rfl (Nat.le_of_ble_eq_true rfl) dX0_remove_37 (fun _ _ => ?_)
        show G K 0 0 40 [(2, .int (nI j)), (0, .ref h0), (1, .int k)] [] (wX h0 hk hv hr cA nk nr b c pl bl (n - 1) (bwL pt lv) (bwP b lv pt) ((mb (bk b lv pt) (rd b lv + pt - 1) (n - 1) (n - 1) 0 (mv (upd fk j (fk m)) m n) (mv (upd fv j (fv m)) m n)).1) ((mb (bk b lv pt) (rd b lv + pt - 1) (n - 1) (n - 1) 0 (mv (upd fk j (fk m)) m n) (mv (upd fv j (fv m)) m n)).2) fr)
        refine g_iconst (v := nI 1) C dX0_remove_40 (by decide) ?_
        exact hret _ _ _ (n - 1, bwL pt lv, bwP b lv pt, (mb (bk b lv pt) (rd b lv + pt - 1) (n - 1) (n - 1) 0 (mv (upd fk j (fk m)) m n) (mv (upd fv j (fv m)) m n)).1, (mb (bk b lv pt) (rd b lv + pt - 1) (n - 1) (n - 1) 0 (mv (upd fk j (fk m)) m n) (mv (upd fv j (fv m)) m n)).2, fr) dX0_remove_41 (by decide) (Or.inr ⟨j, m, hj, hkj, hw2, rfl, rfl, Or.inl ⟨q1, h33, rfl, rfl, rfl, rfl⟩⟩)
  · have hno : ∀ j, j < n → fk j ≠ k := by
      rcases hw with ⟨j, a1, a2, _, a3⟩ | ⟨a1, _⟩
      · exact absurd (a3.symm.trans h8) (nI_m1 (by omega))
      · exact a1
    refine g_iconst (v := nI 0) C dX0_remove_11 (by decide) ?_
    exact hret _ _ _ (n, lv, pt, fk, fv, fr) dX0_remove_12 (by decide) (Or.inl ⟨hno, rfl, rfl, rfl, rfl, rfl, rfl⟩)
set_option maxHeartbeats 4000000 in
set_option maxRecDepth 100000 in
theorem c_X0_pages (l : Launch) (D : va_G) {cA : ClassId} {h0 hk hv hr nk nr b c pl bl n lv pt : Nat} {fk fv fr : Nat → Int32} (ok : okS b c pl bl n lv pt) (hx : n ≤ nk ∧ nk ≤ 512 ∧ nr = bl) (x : Int32)  : MetI (S := Unit) l yX0_pages wsX0_pages ({ frames := 3, cells := 0, slots := 0, locals := 61 } : Room) D [(cA, .int)] [.ref h0, .int x] (wX h0 hk hv hr cA nk nr b c pl bl n lv pt fk fv fr) (fun _ => wX h0 hk hv hr cA nk nr b c pl bl n lv pt fk fv fr) (fun r _ => (∃ q, q < rd b lv + pt ∧ x = nI q ∧ r = nI (pg c (ct (fun j => bk b lv pt (fk j)) q n))) ∨ ((¬ ∃ q, q < rd b lv + pt ∧ x = nI q) ∧ r = -1)) 0 0 := by
  refine MetI_of (cc := cX0_pages) (maxL := 4) (rt := .int) (lv0 := [(0, .ref h0), (1, .int x)]) (by decide) rfl (Nat.le_of_ble_eq_true rfl) rfl ?_
  intro K _ _ C hret
  have C : Cx K ({ frames := 3, cells := 0, slots := 0, locals := 61 } : Room) 4 cX0_pages RX0 wsX0_pages [(cA, .int)] := C
  obtain ⟨o1, o2, o3, o4, o5, o6, o7, o8, o9, o10, o11, o12⟩ := id ok
  obtain ⟨x1, x2, x3⟩ := id hx
  refine g_aload_n C dX0_pages_0 0 rfl rfl ?_
  refine g_iload_n C dX0_pages_1 1 rfl rfl ?_
  refine g_callI0 (ci := 0) (q0 := 0) (rest := []) C (c_X0_isBucket _ _ ok hx x) gX0_pages_X0_isBucket rfl rfl rfl hdX0_isBucket (by decide) rfl rfl rfl rfl (Nat.le_of_ble_eq_true rfl) dX0_pages_2 (fun r _ hw => ?_)
  subst hw
  show G K 0 0 5 [(0, .ref h0), (1, .int x)] [.int (bI (∃ j, j < rd b lv + pt ∧ x = nI j))] (wX h0 hk hv hr cA nk nr b c pl bl n lv pt fk fv fr)
  refine g_if_ne C 10 dX0_pages_5 (by decide) (fun h5 => ?_) (fun h5 => ?_)
  · obtain ⟨q, hq, ex⟩ := bI_1 h5
    subst ex
    refine g_iconst (v := nI 0) C dX0_pages_10 (by decide) ?_
    refine g_istore_n (lv' := [(2, .int (nI 0)), (0, .ref h0), (1, .int (nI q))]) C dX0_pages_11 rfl (by decide) rfl ?_
    refine g_iconst (v := nI 0) C dX0_pages_12 (by decide) ?_
    refine g_istore_n (lv' := [(3, .int (nI 0)), (2, .int (nI 0)), (0, .ref h0), (1, .int (nI q))]) C dX0_pages_13 rfl (by decide) rfl ?_
    have loop14 : ∀ (t : Nat) (i : Nat) (m : Nat), i ≤ n → n < i + t → m = ct (fun j => bk b lv pt (fk j)) q i → G K 0 0 14 [(3, .int (nI i)), (2, .int (nI m)), (0, .ref h0), (1, .int (nI q))] [] (wX h0 hk hv hr cA nk nr b c pl bl n lv pt fk fv fr) := by
      intro t
      induction t with
      | zero =>
        intro i m hi ht hm
        exact absurd ht (by omega)
      | succ t ih =>
        intro i m hi ht hm
        refine g_iload_n C dX0_pages_14 0 rfl rfl ?_
        refine g_aload_n C dX0_pages_15 2 rfl rfl ?_
        refine g_get (ci := 0) C inX0_pages rfl 0 6 (by decide) lkX0_pages_46 dX0_pages_16 rfl rfl ?_
        refine g_icmp_ge C 45 dX0_pages_19 (by decide) (by omega) (by omega) (fun h19 => ?_) (fun h19 => ?_)
        · obtain rfl : n = i := by omega
          have hle := ct_le (fun j => bk b lv pt (fk j)) q n
          refine g_aload_n C dX0_pages_45 2 rfl rfl ?_
          refine g_iload_n C dX0_pages_46 1 rfl rfl ?_
          refine g_callI0 (ci := 0) (q0 := 0) (rest := []) C (c_X0_pagesFor _ _ ok hx m (by omega)) gX0_pages_X0_pagesFor rfl rfl rfl hdX0_pagesFor (by decide) rfl rfl rfl rfl (Nat.le_of_ble_eq_true rfl) dX0_pages_47 (fun r _ hw => ?_)
          subst hw
          show G K 0 0 50 [(3, .int (nI n)), (2, .int (nI m)), (0, .ref h0), (1, .int (nI q))] [.int (nI (pg c m))] (wX h0 hk hv hr cA nk nr b c pl bl n lv pt fk fv fr)
          exact hret _ _ _ () dX0_pages_50 rfl (Or.inl ⟨q, hq, rfl, by rw [hm]⟩)
        · refine g_aload_n C dX0_pages_22 2 rfl rfl ?_
          refine g_aload_n C dX0_pages_23 2 rfl rfl ?_
          refine g_get (ci := 0) C inX0_pages rfl 0 4 (by decide) lkX0_pages_32 dX0_pages_24 rfl rfl ?_
          refine g_iload_n C dX0_pages_27 0 rfl rfl ?_
          refine g_iald C 1 dX0_pages_28 rfl (by omega) (by omega) ?_
          refine g_callI0 (ci := 0) (q0 := 0) (rest := []) C (c_X0_bucketOf _ _ ok hx (fk i)) gX0_pages_X0_bucketOf rfl rfl rfl hdX0_bucketOf (by decide) rfl rfl rfl rfl (Nat.le_of_ble_eq_true rfl) dX0_pages_29 (fun r _ hw => ?_)
          subst hw
          show G K 0 0 32 [(3, .int (nI i)), (2, .int (nI m)), (0, .ref h0), (1, .int (nI q))] [.int (nI (bk b lv pt (fk i)))] (wX h0 hk hv hr cA nk nr b c pl bl n lv pt fk fv fr)
          refine g_iload_n C dX0_pages_32 3 rfl rfl ?_
          refine g_icmp_ne C 39 dX0_pages_33 (by decide) (by have := bk_lt (b := b) (lv := lv) (pt := pt) (fk i) (by omega); omega) (by omega) (fun h33 => ?_) (fun h33 => ?_)
          · refine g_iinc (v := nI (i + 1)) (lv' := [(3, .int (nI (i + 1))), (2, .int (nI m)), (0, .ref h0), (1, .int (nI q))]) C dX0_pages_39 0 rfl (nI_add _ 1) (by decide) rfl ?_
            refine g_goto C 14 dX0_pages_42 (by decide) ?_
            refine g_lv [0, 1, 2, 3] rfl ?_
            exact ih (i + 1) m (by omega) (by omega) (by rw [hm]; exact (ct_ne (g := fun j => bk b lv pt (fk j)) h33).symm)
          · refine g_iinc (v := nI (m + 1)) (lv' := [(2, .int (nI (m + 1))), (3, .int (nI i)), (0, .ref h0), (1, .int (nI q))]) C dX0_pages_36 1 rfl (nI_add _ 1) (by decide) rfl ?_
            refine g_iinc (v := nI (i + 1)) (lv' := [(3, .int (nI (i + 1))), (2, .int (nI (m + 1))), (0, .ref h0), (1, .int (nI q))]) C dX0_pages_39 1 rfl (nI_add _ 1) (by decide) rfl ?_
            refine g_goto C 14 dX0_pages_42 (by decide) ?_
            refine g_lv [0, 1, 2, 3] rfl ?_
            exact ih (i + 1) (m + 1) (by omega) (by omega) (by rw [hm]; exact (ct_eq (g := fun j => bk b lv pt (fk j)) h33).symm)
    refine g_lv [0, 1, 2, 3] rfl ?_
    exact loop14 (n + 1) 0 0 (by omega) (by omega) rfl
  · have q1 := bI_0 h5
    refine g_iconst (v := -1) C dX0_pages_8 (by decide) ?_
    exact hret _ _ _ () dX0_pages_9 rfl (Or.inr ⟨q1, rfl⟩)
set_option maxHeartbeats 4000000 in
set_option maxRecDepth 100000 in
theorem c_X0_free (l : Launch) (D : va_G) {cA : ClassId} {h0 hk hv hr nk nr b c pl bl n lv pt : Nat} {fk fv fr : Nat → Int32} (ok : okS b c pl bl n lv pt) (hx : n ≤ nk ∧ nk ≤ 512 ∧ nr = bl)   : MetI (S := (Nat → Int32)) l yX0_free wsX0_free ({ frames := 3, cells := 0, slots := 0, locals := 66 } : Room) D [(cA, .int)] [.ref h0] (wX h0 hk hv hr cA nk nr b c pl bl n lv pt fk fv fr) (fun u => wX h0 hk hv hr cA nk nr b c pl bl n lv pt fk fv u) (fun r _ => r = nI pl - nI (ndP b c n lv pt fk)) 0 0 := by
  refine MetI_of (cc := cX0_free) (maxL := 1) (rt := .int) (lv0 := [(0, .ref h0)]) (by decide) rfl (Nat.le_of_ble_eq_true rfl) rfl ?_
  intro K _ _ C hret
  have C : Cx K ({ frames := 3, cells := 0, slots := 0, locals := 66 } : Room) 1 cX0_free RX0 wsX0_free [(cA, .int)] := C
  obtain ⟨o1, o2, o3, o4, o5, o6, o7, o8, o9, o10, o11, o12⟩ := id ok
  obtain ⟨x1, x2, x3⟩ := id hx
  refine g_aload_n C dX0_free_0 0 rfl rfl ?_
  refine g_get (ci := 0) C inX0_free rfl 0 2 (by decide) lkX0_free_20 dX0_free_1 rfl rfl ?_
  refine g_aload_n C dX0_free_4 0 rfl rfl ?_
  refine g_callI0 (ci := 0) (q0 := 0) (rest := [.int (nI pl)]) C (c_X0_pagesNeeded _ _ ok hx) gX0_free_X0_pagesNeeded rfl rfl rfl hdX0_pagesNeeded (by decide) rfl rfl rfl rfl (Nat.le_of_ble_eq_true rfl) dX0_free_5 (fun r f hw => ?_)
  subst hw
  show G K 0 0 8 [(0, .ref h0)] [.int (nI (ndP b c n lv pt fk)), .int (nI pl)] (wX h0 hk hv hr cA nk nr b c pl bl n lv pt fk fv f)
  refine g_isubI C dX0_free_8 ?_
  exact hret _ _ _ f dX0_free_9 rfl rfl
set_option maxHeartbeats 4000000 in
set_option maxRecDepth 100000 in
theorem c_X0_key (l : Launch) (D : va_G) {cA : ClassId} {h0 hk hv hr nk nr b c pl bl n lv pt : Nat} {fk fv fr : Nat → Int32} (ok : okS b c pl bl n lv pt) (hx : n ≤ nk ∧ nk ≤ 512 ∧ nr = bl) (x y : Int32)  : MetI (S := Unit) l yX0_key wsX0_key ({ frames := 3, cells := 0, slots := 0, locals := 61 } : Room) D [(cA, .int)] [.ref h0, .int x, .int y] (wX h0 hk hv hr cA nk nr b c pl bl n lv pt fk fv fr) (fun _ => wX h0 hk hv hr cA nk nr b c pl bl n lv pt fk fv fr) (fun r _ => keyP b n lv pt fk x y r) 0 0 := by
  refine MetI_of (cc := cX0_key) (maxL := 5) (rt := .int) (lv0 := [(0, .ref h0), (1, .int x), (2, .int y)]) (by decide) rfl (Nat.le_of_ble_eq_true rfl) rfl ?_
  intro K _ _ C hret
  have C : Cx K ({ frames := 3, cells := 0, slots := 0, locals := 61 } : Room) 5 cX0_key RX0 wsX0_key [(cA, .int)] := C
  obtain ⟨o1, o2, o3, o4, o5, o6, o7, o8, o9, o10, o11, o12⟩ := id ok
  obtain ⟨x1, x2, x3⟩ := id hx
  refine g_aload_n C dX0_key_0 0 rfl rfl ?_
  refine g_iload_n C dX0_key_1 1 rfl rfl ?_
  refine g_callI0 (ci := 0) (q0 := 0) (rest := []) C (c_X0_isBucket _ _ ok hx x) gX0_key_X0_isBucket rfl rfl rfl hdX0_isBucket (by decide) rfl rfl rfl rfl (Nat.le_of_ble_eq_true rfl) dX0_key_2 (fun r _ hw => ?_)
  subst hw
  show G K 0 0 5 [(0, .ref h0), (1, .int x), (2, .int y)] [.int (bI (∃ j, j < rd b lv + pt ∧ x = nI j))] (wX h0 hk hv hr cA nk nr b c pl bl n lv pt fk fv fr)
  refine g_if_eq C 12 dX0_key_5 (by decide) (fun h5 => ?_) (fun h5 => ?_)
  · have q1 := bI_0 h5
    refine g_iconst (v := -1) C dX0_key_12 (by decide) ?_
    exact hret _ _ _ () dX0_key_13 rfl (Or.inr ⟨fun q z i a1 a2 => absurd ⟨q, a1, a2⟩ q1, rfl⟩)
  · obtain ⟨q, hq, ex⟩ := bI_1 h5
    subst ex
    refine g_iload_n C dX0_key_8 2 rfl rfl ?_
    refine g_if_ge C 14 dX0_key_9 (by decide) (fun h9 => ?_) (fun h9 => ?_)
    · obtain ⟨z, hz, ez⟩ := nI_of (Int32.not_lt.mpr h9)
      subst ez
      refine g_iconst (v := nI 0) C dX0_key_14 (by decide) ?_
      refine g_istore_n (lv' := [(3, .int (nI 0)), (0, .ref h0), (1, .int (nI q)), (2, .int (nI z))]) C dX0_key_15 rfl (by decide) rfl ?_
      refine g_iconst (v := nI 0) C dX0_key_16 (by decide) ?_
      refine g_istore (lv' := [(4, .int (nI 0)), (3, .int (nI 0)), (0, .ref h0), (1, .int (nI q)), (2, .int (nI z))]) C dX0_key_17 (by decide) rfl ?_
      have loop19 : ∀ (t : Nat) (i : Nat) (m : Nat), i ≤ n → n < i + t → m = ct (fun j => bk b lv pt (fk j)) q i → (∀ i', i' < i → bk b lv pt (fk i') = q → ct (fun j => bk b lv pt (fk j)) q (i') ≠ z) → G K 0 0 19 [(4, .int (nI i)), (3, .int (nI m)), (0, .ref h0), (1, .int (nI q)), (2, .int (nI z))] [] (wX h0 hk hv hr cA nk nr b c pl bl n lv pt fk fv fr) := by
        intro t
        induction t with
        | zero =>
          intro i m hi ht hm hall
          exact absurd ht (by omega)
        | succ t ih =>
          intro i m hi ht hm hall
          refine g_iload C dX0_key_19 0 rfl ?_
          refine g_aload_n C dX0_key_21 2 rfl rfl ?_
          refine g_get (ci := 0) C inX0_key rfl 0 6 (by decide) lkX0_key_46 dX0_key_22 rfl rfl ?_
          refine g_icmp_ge C 65 dX0_key_25 (by decide) (by omega) (by omega) (fun h25 => ?_) (fun h25 => ?_)
          · refine g_iconst (v := -1) C dX0_key_65 (by decide) ?_
            exact hret _ _ _ () dX0_key_66 rfl (Or.inr ⟨fun q2 z2 i2 a1 a2 a3 a4 a5 a6 => by rw [← (nI_eq (by omega) (by omega)).mp a2] at a6 ⊢; rw [← (nI_eq hz a3).mp a4]; exact hall i2 (by omega) a6, rfl⟩)
          · refine g_aload_n C dX0_key_28 2 rfl rfl ?_
            refine g_aload_n C dX0_key_29 2 rfl rfl ?_
            refine g_get (ci := 0) C inX0_key rfl 0 4 (by decide) lkX0_key_32 dX0_key_30 rfl rfl ?_
            refine g_iload C dX0_key_33 0 rfl ?_
            refine g_iald C 1 dX0_key_35 rfl (by omega) (by omega) ?_
            refine g_callI0 (ci := 0) (q0 := 0) (rest := []) C (c_X0_bucketOf _ _ ok hx (fk i)) gX0_key_X0_bucketOf rfl rfl rfl hdX0_bucketOf (by decide) rfl rfl rfl rfl (Nat.le_of_ble_eq_true rfl) dX0_key_36 (fun r _ hw => ?_)
            subst hw
            show G K 0 0 39 [(4, .int (nI i)), (3, .int (nI m)), (0, .ref h0), (1, .int (nI q)), (2, .int (nI z))] [.int (nI (bk b lv pt (fk i)))] (wX h0 hk hv hr cA nk nr b c pl bl n lv pt fk fv fr)
            refine g_iload_n C dX0_key_39 3 rfl rfl ?_
            refine g_icmp_ne C 59 dX0_key_40 (by decide) (by have := bk_lt (b := b) (lv := lv) (pt := pt) (fk i) (by omega); omega) (by omega) (fun h40 => ?_) (fun h40 => ?_)
            · refine g_iinc (v := nI (i + 1)) (lv' := [(4, .int (nI (i + 1))), (3, .int (nI m)), (0, .ref h0), (1, .int (nI q)), (2, .int (nI z))]) C dX0_key_59 0 rfl (nI_add _ 1) (by decide) rfl ?_
              refine g_goto C 19 dX0_key_62 (by decide) ?_
              refine g_lv [0, 1, 2, 3, 4] rfl ?_
              exact ih (i + 1) m (by omega) (by omega) (by rw [hm]; exact (ct_ne (g := fun j => bk b lv pt (fk j)) h40).symm) (lt_s hall (fun e => absurd e h40))
            · have hle := ct_le (fun j => bk b lv pt (fk j)) q i
              refine g_iload_n C dX0_key_43 1 rfl rfl ?_
              refine g_iload_n C dX0_key_44 4 rfl rfl ?_
              refine g_icmp_ne C 56 dX0_key_45 (by decide) (by omega) (by omega) (fun h45 => ?_) (fun h45 => ?_)
              · refine g_iinc (v := nI (m + 1)) (lv' := [(3, .int (nI (m + 1))), (4, .int (nI i)), (0, .ref h0), (1, .int (nI q)), (2, .int (nI z))]) C dX0_key_56 1 rfl (nI_add _ 1) (by decide) rfl ?_
                refine g_iinc (v := nI (i + 1)) (lv' := [(4, .int (nI (i + 1))), (3, .int (nI (m + 1))), (0, .ref h0), (1, .int (nI q)), (2, .int (nI z))]) C dX0_key_59 1 rfl (nI_add _ 1) (by decide) rfl ?_
                refine g_goto C 19 dX0_key_62 (by decide) ?_
                refine g_lv [0, 1, 2, 3, 4] rfl ?_
                exact ih (i + 1) (m + 1) (by omega) (by omega) (by rw [hm]; exact (ct_eq (g := fun j => bk b lv pt (fk j)) h40).symm) (lt_s hall (fun _ => hm ▸ h45))
              · refine g_aload_n C dX0_key_48 2 rfl rfl ?_
                refine g_get (ci := 0) C inX0_key rfl 0 4 (by decide) lkX0_key_32 dX0_key_49 rfl rfl ?_
                refine g_iload C dX0_key_52 0 rfl ?_
                refine g_iald C 1 dX0_key_54 rfl (by omega) (by omega) ?_
                exact hret _ _ _ () dX0_key_55 rfl (Or.inl ⟨q, z, i, hq, rfl, hz, rfl, h25, h40, by rw [← hm]; exact h45, hall, rfl⟩)
      refine g_lv [0, 1, 2, 3, 4] rfl ?_
      exact loop19 (n + 1) 0 0 (by omega) (by omega) rfl (fun i' a => absurd a (by omega))
    · refine g_iconst (v := -1) C dX0_key_12 (by decide) ?_
      exact hret _ _ _ () dX0_key_13 rfl (Or.inr ⟨fun q z i a1 a2 a3 a4 => absurd (a4 ▸ nI_pos' a3) h9, rfl⟩)
set_option maxHeartbeats 4000000 in
set_option maxRecDepth 100000 in
theorem c_X0_clear (l : Launch) (D : va_G) {cA : ClassId} {h0 hk hv hr nk nr b c pl bl n lv pt : Nat} {fk fv fr : Nat → Int32} (ok : okS b c pl bl n lv pt) (hx : n ≤ nk ∧ nk ≤ 512 ∧ nr = bl)   : MetV (S := Unit) l yX0_clear wsX0_clear ({ frames := 0, cells := 0, slots := 0, locals := 0 } : Room) D [(cA, .int)] [.ref h0] (wX h0 hk hv hr cA nk nr b c pl bl n lv pt fk fv fr) (fun _ => wX h0 hk hv hr cA nk nr b c pl bl 0 0 0 fk fv fr) (fun _ => True) 0 0 := by
  refine MetV_of (cc := cX0_clear) (maxL := 1) (lv0 := [(0, .ref h0)]) (by decide) rfl (Nat.le_of_ble_eq_true rfl) rfl ?_
  intro K _ _ C _ hret
  have C : Cx K ({ frames := 0, cells := 0, slots := 0, locals := 0 } : Room) 1 cX0_clear RX0 wsX0_clear [(cA, .int)] := C
  obtain ⟨o1, o2, o3, o4, o5, o6, o7, o8, o9, o10, o11, o12⟩ := id ok
  obtain ⟨x1, x2, x3⟩ := id hx
  refine g_aload_n C dX0_clear_0 0 rfl rfl ?_
  refine g_iconst (v := nI 0) C dX0_clear_1 (by decide) ?_
  refine g_put (ci := 0) (ty := .int) (ws' := wX h0 hk hv hr cA nk nr b c pl bl 0 lv pt fk fv fr) C inX0_clear tyX0 tyX0_ok nmX0 rfl 0 6 (by decide) lkX0_clear_46 rfl pdX0_6 dX0_clear_2 rfl rfl rfl (Nat.le_of_ble_eq_true rfl) rfl ?_
  refine g_aload_n C dX0_clear_5 0 rfl rfl ?_
  refine g_iconst (v := nI 0) C dX0_clear_6 (by decide) ?_
  refine g_put (ci := 0) (ty := .int) (ws' := wX h0 hk hv hr cA nk nr b c pl bl 0 0 pt fk fv fr) C inX0_clear tyX0 tyX0_ok nmX0 rfl 0 7 (by decide) lkX0_clear_73 rfl pdX0_7 dX0_clear_7 rfl rfl rfl (Nat.le_of_ble_eq_true rfl) rfl ?_
  refine g_aload_n C dX0_clear_10 0 rfl rfl ?_
  refine g_iconst (v := nI 0) C dX0_clear_11 (by decide) ?_
  refine g_put (ci := 0) (ty := .int) (ws' := wX h0 hk hv hr cA nk nr b c pl bl 0 0 0 fk fv fr) C inX0_clear tyX0 tyX0_ok nmX0 rfl 0 8 (by decide) lkX0_clear_70 rfl pdX0_8 dX0_clear_12 rfl rfl rfl (Nat.le_of_ble_eq_true rfl) rfl ?_
  exact hret _ _ () dX0_clear_15 trivial
