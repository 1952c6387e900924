set_option maxHeartbeats 4000000 in
set_option maxRecDepth 100000 in
theorem c_X1_put (l : Launch) (D : va_G) {cA : ClassId} {g0 gk gv gh gc b c pl bl n lv pt : Nat} {fk fv fh fc : Nat → Int32} (ok : okS b c pl bl n lv pt) (k v : Int32) (hn : n < 512) (hho : hom b n lv pt fk fh) : MetI (S := MS) l yX1_put wsX1_put ({ frames := 3, cells := 0, slots := 0, locals := 66 } : Room) D [(cA, .int)] [.ref g0, .int k, .int v] (wM g0 gk gv gh gc cA b c pl bl n lv pt fk fv fh fc) (fun u => wM g0 gk gv gh gc cA b c pl bl u.1 u.2.1 u.2.2.1 u.2.2.2.1 u.2.2.2.2.1 u.2.2.2.2.2.1 u.2.2.2.2.2.2) (fun r u => (oldP n fk fv k v r u.1 u.2.1 u.2.2.1 lv pt u.2.2.2.1 u.2.2.2.2.1 ∨ ((∀ j, j < n → fk j ≠ k) ∧ newP b c pl bl n lv pt fk fv k v r u.1 u.2.1 u.2.2.1 u.2.2.2.1 u.2.2.2.2.1)) ∧ hom b u.1 u.2.1 u.2.2.1 u.2.2.2.1 u.2.2.2.2.2.1) 0 0 := by
  refine MetI_of (cc := cX1_put) (maxL := 5) (rt := .int) (lv0 := [(0, .ref g0), (1, .int k), (2, .int v)]) (by decide) rfl (Nat.le_of_ble_eq_true rfl) rfl ?_
  intro K _ _ C hret
  have C : Cx K ({ frames := 3, cells := 0, slots := 0, locals := 66 } : Room) 5 cX1_put RX1 wsX1_put [(cA, .int)] := C
  obtain ⟨o1, o2, o3, o4, o5, o6, o7, o8, o9, o10, o11, o12⟩ := id ok
  have ok1 := ok_n (n' := n + 1) ok (by omega)
  refine g_aload_n C dX1_put_0 0 rfl rfl ?_
  refine g_iload_n C dX1_put_1 1 rfl rfl ?_
  refine g_callI0 (ci := 1) (q0 := 0) (rest := []) C (c_X1_find _ _ ok k) gX1_put_X1_find rfl rfl rfl hdX1_find (by decide) rfl rfl rfl rfl (Nat.le_of_ble_eq_true rfl) dX1_put_2 (fun r _ hw => ?_)
  show G K 0 0 5 [(0, .ref g0), (1, .int k), (2, .int v)] [.int r] (wM g0 gk gv gh gc cA b c pl bl n lv pt fk fv fh fc)
  refine g_istore_n (lv' := [(3, .int r), (0, .ref g0), (1, .int k), (2, .int v)]) C dX1_put_5 rfl (by decide) rfl ?_
  refine g_iload_n C dX1_put_6 0 rfl rfl ?_
  refine g_if_lt C 19 dX1_put_7 (by decide) (fun h7 => ?_) (fun h7 => ?_)
  · have hno : ∀ j, j < n → fk j ≠ k := by
      rcases hw with ⟨j, a1, a2, a3⟩ | ⟨a1, _⟩
      · exact absurd h7 (by rw [a3]; exact nI_pos (by omega))
      · exact a1
    refine g_aload_n C dX1_put_19 1 rfl rfl ?_
    refine g_get (ci := 1) C inX1_put rfl 0 5 (by decide) lkX1_put_7 dX1_put_20 rfl rfl ?_
    refine g_aload_n C dX1_put_23 1 rfl rfl ?_
    refine g_get (ci := 1) C inX1_put rfl 0 4 (by decide) lkX1_put_46 dX1_put_24 rfl rfl ?_
    refine g_iload_n C dX1_put_27 2 rfl rfl ?_
    refine g_iast (ws' := wM g0 gk gv gh gc cA b c pl bl n lv pt (upd fk n k) fv fh fc) C 1 dX1_put_28 rfl (by omega) (by omega) rfl ?_
    refine g_aload_n C dX1_put_29 1 rfl rfl ?_
    refine g_get (ci := 1) C inX1_put rfl 0 6 (by decide) lkX1_put_13 dX1_put_30 rfl rfl ?_
    refine g_aload_n C dX1_put_33 1 rfl rfl ?_
    refine g_get (ci := 1) C inX1_put rfl 0 4 (by decide) lkX1_put_46 dX1_put_34 rfl rfl ?_
    refine g_iload_n C dX1_put_37 3 rfl rfl ?_
    refine g_iast (ws' := wM g0 gk gv gh gc cA b c pl bl n lv pt (upd fk n k) (upd fv n v) fh fc) C 2 dX1_put_38 rfl (by omega) (by omega) rfl ?_
    refine g_aload_n C dX1_put_39 1 rfl rfl ?_
    refine g_dup C dX1_put_40 rfl ?_
    refine g_get (ci := 1) C inX1_put rfl 0 4 (by decide) lkX1_put_46 dX1_put_41 rfl rfl ?_
    refine g_iconst (v := nI 1) C dX1_put_44 (by decide) ?_
    refine g_iadd C dX1_put_45 ?_
    refine g_put (ci := 1) (ty := .int) (ws' := wM g0 gk gv gh gc cA b c pl bl (n + 1) lv pt (upd fk n k) (upd fv n v) fh fc) C inX1_put tyX1 tyX1_ok nmX1 rfl 0 4 (by decide) lkX1_put_46 rfl pdX1_4 dX1_put_46 rfl rfl rfl (Nat.le_of_ble_eq_true rfl) rfl ?_
    refine g_iconst (v := nI 4) C dX1_put_49 (by decide) ?_
    refine g_aload_n C dX1_put_50 1 rfl rfl ?_
    refine g_get (ci := 1) C inX1_put rfl 0 4 (by decide) lkX1_put_46 dX1_put_51 rfl rfl ?_
    refine g_imul C dX1_put_54 ?_
    refine g_iconst (v := nI 3) C dX1_put_55 (by decide) ?_
    refine g_aload_n C dX1_put_56 1 rfl rfl ?_
    refine g_get (ci := 1) C inX1_put rfl 0 1 (by decide) lkX1_put_26 dX1_put_57 rfl rfl ?_
    refine g_imul C dX1_put_60 ?_
    refine g_aload_n C dX1_put_61 1 rfl rfl ?_
    refine g_callI0 (ci := 1) (q0 := 0) (rest := [.int (nI (3 * c)), .int (nI (4 * (n + 1)))]) C (c_X1_buckets _ _ ok1) gX1_put_X1_buckets rfl rfl rfl hdX1_buckets (by decide) rfl rfl rfl rfl (Nat.le_of_ble_eq_true rfl) dX1_put_62 (fun r _ hw => ?_)
    subst hw
    show G K 0 0 65 [(3, .int r), (0, .ref g0), (1, .int k), (2, .int v)] [.int (nI (rd b lv + pt)), .int (nI (3 * c)), .int (nI (4 * (n + 1)))] (wM g0 gk gv gh gc cA b c pl bl (n + 1) lv pt (upd fk n k) (upd fv n v) fh fc)
    refine g_imul C dX1_put_65 ?_
    refine g_icmp_le C 84 dX1_put_66 (by decide) (by omega) (by have := ok_m3 ok; omega) (fun h66 => ?_) (fun h66 => ?_)
    · refine g_iconst (v := nI 0) C dX1_put_84 (by decide) ?_
      refine g_istore (lv' := [(4, .int (nI 0)), (3, .int r), (0, .ref g0), (1, .int k), (2, .int v)]) C dX1_put_85 (by decide) rfl ?_
      refine g_iload C dX1_put_87 0 rfl ?_
      refine g_if_eq C 96 dX1_put_89 (by decide) (fun h89 => ?_) (fun h89 => ?_)
      · refine g_aload_n C dX1_put_96 2 rfl rfl ?_
        have eL : pL b c bl (n + 1) lv pt = lv := if_neg (fun z => absurd z.1 (by omega))
        have eP : pP b c bl (n + 1) lv pt = pt := if_neg (fun z => absurd z.1 (by omega))
        have okP : okS b c pl bl (n + 1) lv pt := ok1
        have hB := okP.2.2.2.2.2.2.2.2.2.2.1
        refine g_callV0 (ci := 1) (q0 := 0) (rest := []) C (c_X1_settle _ _ okP) gX1_put_X1_settle rfl rfl rfl hdX1_settle (by decide) rfl rfl rfl rfl (Nat.le_of_ble_eq_true rfl) dX1_put_97 (fun f1 hh1 => ?_)
        show G K 0 0 100 [(4, .int (nI 0)), (3, .int r), (0, .ref g0), (1, .int k), (2, .int v)] [] (wM g0 gk gv gh gc cA b c pl bl (n + 1) lv pt (upd fk n k) (upd fv n v) f1 fc)
        refine g_aload_n C dX1_put_100 2 rfl rfl ?_
        refine g_callI0 (ci := 1) (q0 := 0) (rest := []) C (c_X1_needed _ _ okP hh1) gX1_put_X1_needed rfl rfl rfl hdX1_needed (by decide) rfl rfl rfl rfl (Nat.le_of_ble_eq_true rfl) dX1_put_101 (fun r3 f2 hw3 => ?_)
        subst hw3
        show G K 0 0 104 [(4, .int (nI 0)), (3, .int r), (0, .ref g0), (1, .int k), (2, .int v)] [.int (nI (ndP b c (n + 1) lv pt (upd fk n k)))] (wM g0 gk gv gh gc cA b c pl bl (n + 1) lv pt (upd fk n k) (upd fv n v) f1 f2)
        have hN : ndP b c (n + 1) lv pt (upd fk n k) ≤ 130000 := nd_le o3 (by omega) (by omega)
        refine g_aload_n C dX1_put_104 2 rfl rfl ?_
        refine g_get (ci := 1) C inX1_put rfl 0 2 (by decide) lkX1_put_29 dX1_put_105 rfl rfl ?_
        refine g_icmp_gt C 113 dX1_put_108 (by decide) (by omega) (by omega) (fun h108 => ?_) (fun h108 => ?_)
        · refine g_iload C dX1_put_113 0 rfl ?_
          refine g_if_eq C 122 dX1_put_115 (by decide) (fun h115 => ?_) (fun h115 => ?_)
          · refine g_aload_n C dX1_put_122 2 rfl rfl ?_
            refine g_dup C dX1_put_123 rfl ?_
            refine g_get (ci := 1) C inX1_put rfl 0 4 (by decide) lkX1_put_46 dX1_put_124 rfl rfl ?_
            refine g_iconst (v := nI 1) C dX1_put_127 (by decide) ?_
            refine g_isub C dX1_put_128 (by omega) ?_
            refine g_top (by rw [Nat.add_sub_cancel]) ?_
            refine g_put (ci := 1) (ty := .int) (ws' := wM g0 gk gv gh gc cA b c pl bl n lv pt (upd fk n k) (upd fv n v) f1 f2) C inX1_put tyX1 tyX1_ok nmX1 rfl 0 4 (by decide) lkX1_put_46 rfl pdX1_4 dX1_put_129 rfl rfl rfl (Nat.le_of_ble_eq_true rfl) rfl ?_
            refine g_aload_n C dX1_put_132 2 rfl rfl ?_
            refine g_callV0 (ci := 1) (q0 := 0) (rest := []) C (c_X1_settle _ _ ok) gX1_put_X1_settle rfl rfl rfl hdX1_settle (by decide) rfl rfl rfl rfl (Nat.le_of_ble_eq_true rfl) dX1_put_133 (fun f3 hh3 => ?_)
            show G K 0 0 136 [(4, .int (nI 0)), (3, .int r), (0, .ref g0), (1, .int k), (2, .int v)] [] (wM g0 gk gv gh gc cA b c pl bl n lv pt (upd fk n k) (upd fv n v) f3 f2)
            refine g_iconst (v := nI 2) C dX1_put_136 (by decide) ?_
            exact hret _ _ _ (n, lv, pt, upd fk n k, upd fv n v, f3, f2) dX1_put_137 rfl ⟨Or.inr ⟨hno, Or.inr ⟨by rw [eL, eP]; exact h108, rfl, rfl, rfl, rfl, rfl, rfl⟩⟩, hh3⟩
          · exact absurd (show nI 0 = 0 from rfl) h115
        · refine g_iconst (v := nI 0) C dX1_put_111 (by decide) ?_
          exact hret _ _ _ (n + 1, lv, pt, upd fk n k, upd fv n v, f1, f2) dX1_put_112 rfl ⟨Or.inr ⟨hno, Or.inl ⟨by rw [eL, eP]; exact h108, rfl, rfl, eL.symm, eP.symm, rfl, rfl⟩⟩, hh1⟩
      · exact absurd (show nI 0 = 0 from rfl) h89
    · refine g_aload_n C dX1_put_69 1 rfl rfl ?_
      refine g_callI0 (ci := 1) (q0 := 0) (rest := []) C (c_X1_buckets _ _ ok1) gX1_put_X1_buckets rfl rfl rfl hdX1_buckets (by decide) rfl rfl rfl rfl (Nat.le_of_ble_eq_true rfl) dX1_put_70 (fun r _ hw => ?_)
      subst hw
      show G K 0 0 73 [(3, .int r), (0, .ref g0), (1, .int k), (2, .int v)] [.int (nI (rd b lv + pt))] (wM g0 gk gv gh gc cA b c pl bl (n + 1) lv pt (upd fk n k) (upd fv n v) fh fc)
      refine g_aload_n C dX1_put_73 1 rfl rfl ?_
      refine g_get (ci := 1) C inX1_put rfl 0 3 (by decide) lkX1_put_32 dX1_put_74 rfl rfl ?_
      refine g_icmp_ge C 84 dX1_put_77 (by decide) (by omega) (by omega) (fun h77 => ?_) (fun h77 => ?_)
      · refine g_iconst (v := nI 0) C dX1_put_84 (by decide) ?_
        refine g_istore (lv' := [(4, .int (nI 0)), (3, .int r), (0, .ref g0), (1, .int k), (2, .int v)]) C dX1_put_85 (by decide) rfl ?_
        refine g_iload C dX1_put_87 0 rfl ?_
        refine g_if_eq C 96 dX1_put_89 (by decide) (fun h89 => ?_) (fun h89 => ?_)
        · refine g_aload_n C dX1_put_96 2 rfl rfl ?_
          have eL : pL b c bl (n + 1) lv pt = lv := if_neg (fun z => absurd z.2 (by omega))
          have eP : pP b c bl (n + 1) lv pt = pt := if_neg (fun z => absurd z.2 (by omega))
          have okP : okS b c pl bl (n + 1) lv pt := ok1
          have hB := okP.2.2.2.2.2.2.2.2.2.2.1
          refine g_callV0 (ci := 1) (q0 := 0) (rest := []) C (c_X1_settle _ _ okP) gX1_put_X1_settle rfl rfl rfl hdX1_settle (by decide) rfl rfl rfl rfl (Nat.le_of_ble_eq_true rfl) dX1_put_97 (fun f1 hh1 => ?_)
          show G K 0 0 100 [(4, .int (nI 0)), (3, .int r), (0, .ref g0), (1, .int k), (2, .int v)] [] (wM g0 gk gv gh gc cA b c pl bl (n + 1) lv pt (upd fk n k) (upd fv n v) f1 fc)
          refine g_aload_n C dX1_put_100 2 rfl rfl ?_
          refine g_callI0 (ci := 1) (q0 := 0) (rest := []) C (c_X1_needed _ _ okP hh1) gX1_put_X1_needed rfl rfl rfl hdX1_needed (by decide) rfl rfl rfl rfl (Nat.le_of_ble_eq_true rfl) dX1_put_101 (fun r3 f2 hw3 => ?_)
          subst hw3
          show G K 0 0 104 [(4, .int (nI 0)), (3, .int r), (0, .ref g0), (1, .int k), (2, .int v)] [.int (nI (ndP b c (n + 1) lv pt (upd fk n k)))] (wM g0 gk gv gh gc cA b c pl bl (n + 1) lv pt (upd fk n k) (upd fv n v) f1 f2)
          have hN : ndP b c (n + 1) lv pt (upd fk n k) ≤ 130000 := nd_le o3 (by omega) (by omega)
          refine g_aload_n C dX1_put_104 2 rfl rfl ?_
          refine g_get (ci := 1) C inX1_put rfl 0 2 (by decide) lkX1_put_29 dX1_put_105 rfl rfl ?_
          refine g_icmp_gt C 113 dX1_put_108 (by decide) (by omega) (by omega) (fun h108 => ?_) (fun h108 => ?_)
          · refine g_iload C dX1_put_113 0 rfl ?_
            refine g_if_eq C 122 dX1_put_115 (by decide) (fun h115 => ?_) (fun h115 => ?_)
            · refine g_aload_n C dX1_put_122 2 rfl rfl ?_
              refine g_dup C dX1_put_123 rfl ?_
              refine g_get (ci := 1) C inX1_put rfl 0 4 (by decide) lkX1_put_46 dX1_put_124 rfl rfl ?_
              refine g_iconst (v := nI 1) C dX1_put_127 (by decide) ?_
              refine g_isub C dX1_put_128 (by omega) ?_
              refine g_top (by rw [Nat.add_sub_cancel]) ?_
              refine g_put (ci := 1) (ty := .int) (ws' := wM g0 gk gv gh gc cA b c pl bl n lv pt (upd fk n k) (upd fv n v) f1 f2) C inX1_put tyX1 tyX1_ok nmX1 rfl 0 4 (by decide) lkX1_put_46 rfl pdX1_4 dX1_put_129 rfl rfl rfl (Nat.le_of_ble_eq_true rfl) rfl ?_
              refine g_aload_n C dX1_put_132 2 rfl rfl ?_
              refine g_callV0 (ci := 1) (q0 := 0) (rest := []) C (c_X1_settle _ _ ok) gX1_put_X1_settle rfl rfl rfl hdX1_settle (by decide) rfl rfl rfl rfl (Nat.le_of_ble_eq_true rfl) dX1_put_133 (fun f3 hh3 => ?_)
              show G K 0 0 136 [(4, .int (nI 0)), (3, .int r), (0, .ref g0), (1, .int k), (2, .int v)] [] (wM g0 gk gv gh gc cA b c pl bl n lv pt (upd fk n k) (upd fv n v) f3 f2)
              refine g_iconst (v := nI 2) C dX1_put_136 (by decide) ?_
              exact hret _ _ _ (n, lv, pt, upd fk n k, upd fv n v, f3, f2) dX1_put_137 rfl ⟨Or.inr ⟨hno, Or.inr ⟨by rw [eL, eP]; exact h108, rfl, rfl, rfl, rfl, rfl, rfl⟩⟩, hh3⟩
            · exact absurd (show nI 0 = 0 from rfl) h115
          · refine g_iconst (v := nI 0) C dX1_put_111 (by decide) ?_
            exact hret _ _ _ (n + 1, lv, pt, upd fk n k, upd fv n v, f1, f2) dX1_put_112 rfl ⟨Or.inr ⟨hno, Or.inl ⟨by rw [eL, eP]; exact h108, rfl, rfl, eL.symm, eP.symm, rfl, rfl⟩⟩, hh1⟩
        · exact absurd (show nI 0 = 0 from rfl) h89
      · refine g_iconst (v := nI 1) C dX1_put_80 (by decide) ?_
        refine g_goto C 85 dX1_put_81 (by decide) ?_
        refine g_istore (lv' := [(4, .int (nI 1)), (3, .int r), (0, .ref g0), (1, .int k), (2, .int v)]) C dX1_put_85 (by decide) rfl ?_
        refine g_iload C dX1_put_87 0 rfl ?_
        refine g_if_eq C 96 dX1_put_89 (by decide) (fun h89 => ?_) (fun h89 => ?_)
        · exact absurd h89 (by decide)
        · refine g_aload_n C dX1_put_92 2 rfl rfl ?_
          refine g_callV0 (ci := 1) (q0 := 0) (rest := []) C (c_X1_forth _ _ ok1) gX1_put_X1_forth rfl rfl rfl hdX1_forth (by decide) rfl rfl rfl rfl (Nat.le_of_ble_eq_true rfl) dX1_put_93 (fun _ _ => ?_)
          show G K 0 0 96 [(4, .int (nI 1)), (3, .int r), (0, .ref g0), (1, .int k), (2, .int v)] [] (wM g0 gk gv gh gc cA b c pl bl (n + 1) (fwL b lv pt) (fwP b lv pt) (upd fk n k) (upd fv n v) fh fc)
          refine g_aload_n C dX1_put_96 2 rfl rfl ?_
          have eL : pL b c bl (n + 1) lv pt = fwL b lv pt := if_pos ⟨h66, h77⟩
          have eP : pP b c bl (n + 1) lv pt = fwP b lv pt := if_pos ⟨h66, h77⟩
          have okP : okS b c pl bl (n + 1) (fwL b lv pt) (fwP b lv pt) := ok_fw ok1 h77
          have hB := okP.2.2.2.2.2.2.2.2.2.2.1
          refine g_callV0 (ci := 1) (q0 := 0) (rest := []) C (c_X1_settle _ _ okP) gX1_put_X1_settle rfl rfl rfl hdX1_settle (by decide) rfl rfl rfl rfl (Nat.le_of_ble_eq_true rfl) dX1_put_97 (fun f1 hh1 => ?_)
          show G K 0 0 100 [(4, .int (nI 1)), (3, .int r), (0, .ref g0), (1, .int k), (2, .int v)] [] (wM g0 gk gv gh gc cA b c pl bl (n + 1) (fwL b lv pt) (fwP b lv pt) (upd fk n k) (upd fv n v) f1 fc)
          refine g_aload_n C dX1_put_100 2 rfl rfl ?_
          refine g_callI0 (ci := 1) (q0 := 0) (rest := []) C (c_X1_needed _ _ okP hh1) gX1_put_X1_needed rfl rfl rfl hdX1_needed (by decide) rfl rfl rfl rfl (Nat.le_of_ble_eq_true rfl) dX1_put_101 (fun r3 f2 hw3 => ?_)
          subst hw3
          show G K 0 0 104 [(4, .int (nI 1)), (3, .int r), (0, .ref g0), (1, .int k), (2, .int v)] [.int (nI (ndP b c (n + 1) (fwL b lv pt) (fwP b lv pt) (upd fk n k)))] (wM g0 gk gv gh gc cA b c pl bl (n + 1) (fwL b lv pt) (fwP b lv pt) (upd fk n k) (upd fv n v) f1 f2)
          have hN : ndP b c (n + 1) (fwL b lv pt) (fwP b lv pt) (upd fk n k) ≤ 130000 := nd_le o3 (by omega) (by omega)
          refine g_aload_n C dX1_put_104 2 rfl rfl ?_
          refine g_get (ci := 1) C inX1_put rfl 0 2 (by decide) lkX1_put_29 dX1_put_105 rfl rfl ?_
          refine g_icmp_gt C 113 dX1_put_108 (by decide) (by omega) (by omega) (fun h108 => ?_) (fun h108 => ?_)
          · refine g_iload C dX1_put_113 0 rfl ?_
            refine g_if_eq C 122 dX1_put_115 (by decide) (fun h115 => ?_) (fun h115 => ?_)
            · exact absurd h115 (by decide)
            · refine g_aload_n C dX1_put_118 2 rfl rfl ?_
              refine g_callV0 (ci := 1) (q0 := 0) (rest := []) C (c_X1_back _ _ okP (by rw [fw_B]; have := rd_ge (b := b) lv; omega)) gX1_put_X1_back rfl rfl rfl hdX1_back (by decide) rfl rfl rfl rfl (Nat.le_of_ble_eq_true rfl) dX1_put_119 (fun _ _ => ?_)
              show G K 0 0 122 [(4, .int (nI 1)), (3, .int r), (0, .ref g0), (1, .int k), (2, .int v)] [] (wM g0 gk gv gh gc cA b c pl bl (n + 1) (bwL (fwP b lv pt) (fwL b lv pt)) (bwP b (fwL b lv pt) (fwP b lv pt)) (upd fk n k) (upd fv n v) f1 f2)
              refine g_wd (ws' := wM g0 gk gv gh gc cA b c pl bl (n + 1) lv pt (upd fk n k) (upd fv n v) f1 f2) (by rw [(bw_fw (b := b) (lv := lv) (pt := pt) (by omega)).1, (bw_fw (b := b) (lv := lv) (pt := pt) (by omega)).2]) ?_
              refine g_aload_n C dX1_put_122 2 rfl rfl ?_
              refine g_dup C dX1_put_123 rfl ?_
              refine g_get (ci := 1) C inX1_put rfl 0 4 (by decide) lkX1_put_46 dX1_put_124 rfl rfl ?_
              refine g_iconst (v := nI 1) C dX1_put_127 (by decide) ?_
              refine g_isub C dX1_put_128 (by omega) ?_
              refine g_top (by rw [Nat.add_sub_cancel]) ?_
              refine g_put (ci := 1) (ty := .int) (ws' := wM g0 gk gv gh gc cA b c pl bl n lv pt (upd fk n k) (upd fv n v) f1 f2) C inX1_put tyX1 tyX1_ok nmX1 rfl 0 4 (by decide) lkX1_put_46 rfl pdX1_4 dX1_put_129 rfl rfl rfl (Nat.le_of_ble_eq_true rfl) rfl ?_
              refine g_aload_n C dX1_put_132 2 rfl rfl ?_
              refine g_callV0 (ci := 1) (q0 := 0) (rest := []) C (c_X1_settle _ _ ok) gX1_put_X1_settle rfl rfl rfl hdX1_settle (by decide) rfl rfl rfl rfl (Nat.le_of_ble_eq_true rfl) dX1_put_133 (fun f3 hh3 => ?_)
              show G K 0 0 136 [(4, .int (nI 1)), (3, .int r), (0, .ref g0), (1, .int k), (2, .int v)] [] (wM g0 gk gv gh gc cA b c pl bl n lv pt (upd fk n k) (upd fv n v) f3 f2)
              refine g_iconst (v := nI 2) C dX1_put_136 (by decide) ?_
              exact hret _ _ _ (n, lv, pt, upd fk n k, upd fv n v, f3, f2) dX1_put_137 rfl ⟨Or.inr ⟨hno, Or.inr ⟨by rw [eL, eP]; exact h108, rfl, rfl, rfl, rfl, rfl, rfl⟩⟩, hh3⟩
          · refine g_iconst (v := nI 0) C dX1_put_111 (by decide) ?_
            exact hret _ _ _ (n + 1, fwL b lv pt, fwP b lv pt, upd fk n k, upd fv n v, f1, f2) dX1_put_112 rfl ⟨Or.inr ⟨hno, Or.inl ⟨by rw [eL, eP]; exact h108, rfl, rfl, eL.symm, eP.symm, rfl, rfl⟩⟩, hh1⟩
  · obtain ⟨j, hj, hkj, er⟩ : ∃ j, j < n ∧ fk j = k ∧ r = nI j := by
      rcases hw with a | ⟨_, a3⟩
      · exact a
      · exact absurd (show r < 0 by rw [a3]; decide) h7
    subst er
    refine g_aload_n C dX1_put_10 1 rfl rfl ?_
    refine g_get (ci := 1) C inX1_put rfl 0 6 (by decide) lkX1_put_13 dX1_put_11 rfl rfl ?_
    refine g_iload_n C dX1_put_14 0 rfl rfl ?_
    refine g_iload_n C dX1_put_15 3 rfl rfl ?_
    refine g_iast (ws' := wM g0 gk gv gh gc cA b c pl bl n lv pt fk (upd fv j v) fh fc) C 2 dX1_put_16 rfl (by omega) (by omega) rfl ?_
    refine g_iconst (v := nI 1) C dX1_put_17 (by decide) ?_
    exact hret _ _ _ (n, lv, pt, fk, upd fv j v, fh, fc) dX1_put_18 rfl ⟨Or.inl ⟨j, hj, hkj, rfl, rfl, rfl, rfl, rfl, rfl⟩, hho⟩
set_option maxHeartbeats 4000000 in
set_option maxRecDepth 100000 in
theorem c_X1_remove (l : Launch) (D : va_G) {cA : ClassId} {g0 gk gv gh gc b c pl bl n lv pt : Nat} {fk fv fh fc : Nat → Int32} (ok : okS b c pl bl n lv pt) (k : Int32) (hho : hom b n lv pt fk fh) : MetI (S := MS) l yX1_remove wsX1_remove ({ frames := 3, cells := 0, slots := 0, locals := 66 } : Room) D [(cA, .int)] [.ref g0, .int k] (wM g0 gk gv gh gc cA b c pl bl n lv pt fk fv fh fc) (fun u => wM g0 gk gv gh gc cA b c pl bl u.1 u.2.1 u.2.2.1 u.2.2.2.1 u.2.2.2.2.1 u.2.2.2.2.2.1 u.2.2.2.2.2.2) (fun r u => (((∀ j, j < n → fk j ≠ k) ∧ r = nI 0 ∧ u.1 = n ∧ u.2.1 = lv ∧ u.2.2.1 = pt ∧ u.2.2.2.1 = fk ∧ u.2.2.2.2.1 = fv) ∨ (∃ j m, j < n ∧ fk j = k ∧ lastP b n lv pt fk j m ∧ r = nI 1 ∧ u.1 = n - 1 ∧ ((4 * (n - 1) < c * (rd b lv + pt) ∧ b < rd b lv + pt ∧ u.2.1 = bwL pt lv ∧ u.2.2.1 = bwP b lv pt ∧ u.2.2.2.1 = (mb (bk b lv pt) (rd b lv + pt - 1) (n - 1) (n - 1) 0 (sh (upd fk j (fk m)) m (n - 1)) (sh (upd fv j (fv m)) m (n - 1))).1 ∧ u.2.2.2.2.1 = (mb (bk b lv pt) (rd b lv + pt - 1) (n - 1) (n - 1) 0 (sh (upd fk j (fk m)) m (n - 1)) (sh (upd fv j (fv m)) m (n - 1))).2) ∨ (¬ (4 * (n - 1) < c * (rd b lv + pt) ∧ b < rd b lv + pt) ∧ u.2.1 = lv ∧ u.2.2.1 = pt ∧ u.2.2.2.1 = sh (upd fk j (fk m)) m (n - 1) ∧ u.2.2.2.2.1 = sh (upd fv j (fv m)) m (n - 1))))) ∧ hom b u.1 u.2.1 u.2.2.1 u.2.2.2.1 u.2.2.2.2.2.1) 0 0 := by
  refine MetI_of (cc := cX1_remove) (maxL := 5) (rt := .boolean) (lv0 := [(0, .ref g0), (1, .int k)]) (by decide) rfl (Nat.le_of_ble_eq_true rfl) rfl ?_
  intro K _ _ C hret
  have C : Cx K ({ frames := 3, cells := 0, slots := 0, locals := 66 } : Room) 5 cX1_remove RX1 wsX1_remove [(cA, .int)] := C
  obtain ⟨o1, o2, o3, o4, o5, o6, o7, o8, o9, o10, o11, o12⟩ := id ok
  refine g_aload_n C dX1_remove_0 0 rfl rfl ?_
  refine g_iload_n C dX1_remove_1 1 rfl rfl ?_
  refine g_callI0 (ci := 1) (q0 := 0) (rest := []) C (c_X1_find _ _ ok k) gX1_remove_X1_find rfl rfl rfl hdX1_find (by decide) rfl rfl rfl rfl (Nat.le_of_ble_eq_true rfl) dX1_remove_2 (fun r _ hw => ?_)
  show G K 0 0 5 [(0, .ref g0), (1, .int k)] [.int r] (wM g0 gk gv gh gc cA b c pl bl n lv pt fk fv fh fc)
  refine g_istore_n (lv' := [(2, .int r), (0, .ref g0), (1, .int k)]) C dX1_remove_5 rfl (by decide) rfl ?_
  refine g_iload_n C dX1_remove_6 0 rfl rfl ?_
  refine g_if_ge C 12 dX1_remove_7 (by decide) (fun h7 => ?_) (fun h7 => ?_)
  · obtain ⟨j, hj, hkj, er⟩ : ∃ j, j < n ∧ fk j = k ∧ r = nI j := by
      rcases hw with a | ⟨_, a3⟩
      · exact a
      · exact absurd h7 (by rw [a3]; decide)
    subst er
    have ok1 := ok_n (n' := n - 1) ok (by omega)
    refine g_iload_n C dX1_remove_12 0 rfl rfl ?_
    refine g_istore_n (lv' := [(3, .int (nI j)), (2, .int (nI j)), (0, .ref g0), (1, .int k)]) C dX1_remove_13 rfl (by decide) rfl ?_
    refine g_iload_n C dX1_remove_14 1 rfl rfl ?_
    refine g_istore (lv' := [(4, .int (nI j)), (3, .int (nI j)), (2, .int (nI j)), (0, .ref g0), (1, .int k)]) C dX1_remove_15 (by decide) rfl ?_
    have loop17 : ∀ (t : Nat) (m : Nat) (i : Nat), j ≤ m → m < n → j ≤ i → i ≤ n → n < i + t → bk b lv pt (fk m) = bk b lv pt (fk j) → (∀ x, m < x → x < i → bk b lv pt (fk x) ≠ bk b lv pt (fk j)) → G K 0 0 17 [(4, .int (nI i)), (3, .int (nI m)), (0, .ref g0), (1, .int k), (2, .int (nI j))] [] (wM g0 gk gv gh gc cA b c pl bl n lv pt fk fv fh fc) := by
      intro t
      induction t with
      | zero =>
        intro m i hjm hmn hji hi ht hmb hall
        exact absurd ht (by omega)
      | succ t ih =>
        intro m i hjm hmn hji hi ht hmb hall
        refine g_iload C dX1_remove_17 0 rfl ?_
        refine g_aload_n C dX1_remove_19 2 rfl rfl ?_
        refine g_get (ci := 1) C inX1_remove rfl 0 4 (by decide) lkX1_remove_46 dX1_remove_20 rfl rfl ?_
        refine g_icmp_ge C 55 dX1_remove_23 (by decide) (by omega) (by omega) (fun h23 => ?_) (fun h23 => ?_)
        · obtain rfl : n = i := by omega
          refine g_aload_n C dX1_remove_55 2 rfl rfl ?_
          refine g_get (ci := 1) C inX1_remove rfl 0 5 (by decide) lkX1_remove_7 dX1_remove_56 rfl rfl ?_
          refine g_iload_n C dX1_remove_59 4 rfl rfl ?_
          refine g_aload_n C dX1_remove_60 2 rfl rfl ?_
          refine g_get (ci := 1) C inX1_remove rfl 0 5 (by decide) lkX1_remove_7 dX1_remove_61 rfl rfl ?_
          refine g_iload_n C dX1_remove_64 1 rfl rfl ?_
          refine g_iald C 1 dX1_remove_65 rfl (by omega) (by omega) ?_
          refine g_iast (ws' := wM g0 gk gv gh gc cA b c pl bl n lv pt (upd fk j (fk m)) fv fh fc) C 1 dX1_remove_66 rfl (by omega) (by omega) rfl ?_
          refine g_aload_n C dX1_remove_67 2 rfl rfl ?_
          refine g_get (ci := 1) C inX1_remove rfl 0 6 (by decide) lkX1_remove_13 dX1_remove_68 rfl rfl ?_
          refine g_iload_n C dX1_remove_71 4 rfl rfl ?_
          refine g_aload_n C dX1_remove_72 2 rfl rfl ?_
          refine g_get (ci := 1) C inX1_remove rfl 0 6 (by decide) lkX1_remove_13 dX1_remove_73 rfl rfl ?_
          refine g_iload_n C dX1_remove_76 1 rfl rfl ?_
          refine g_iald C 2 dX1_remove_77 rfl (by omega) (by omega) ?_
          refine g_iast (ws' := wM g0 gk gv gh gc cA b c pl bl n lv pt (upd fk j (fk m)) (upd fv j (fv m)) fh fc) C 2 dX1_remove_78 rfl (by omega) (by omega) rfl ?_
          refine g_aload_n C dX1_remove_79 2 rfl rfl ?_
          refine g_iload_n C dX1_remove_80 1 rfl rfl ?_
          refine g_callV0 (ci := 1) (q0 := 0) (rest := []) C (c_X1_cut _ _ ok m hmn) gX1_remove_X1_cut rfl rfl rfl hdX1_cut (by decide) rfl rfl rfl rfl (Nat.le_of_ble_eq_true rfl) dX1_remove_81 (fun _ _ => ?_)
          show G K 0 0 84 [(4, .int (nI n)), (3, .int (nI m)), (0, .ref g0), (1, .int k), (2, .int (nI j))] [] (wM g0 gk gv gh gc cA b c pl bl (n - 1) lv pt (sh (upd fk j (fk m)) m (n - 1)) (sh (upd fv j (fv m)) m (n - 1)) (sh fh m (n - 1)) fc)
          have hho1 : hom b (n - 1) lv pt (sh (upd fk j (fk m)) m (n - 1)) (sh fh m (n - 1)) := hom_cut hjm hmn hmb hho
          refine g_iconst (v := nI 4) C dX1_remove_84 (by decide) ?_
          refine g_aload_n C dX1_remove_85 2 rfl rfl ?_
          refine g_get (ci := 1) C inX1_remove rfl 0 4 (by decide) lkX1_remove_46 dX1_remove_86 rfl rfl ?_
          refine g_imul C dX1_remove_89 ?_
          refine g_aload_n C dX1_remove_90 2 rfl rfl ?_
          refine g_get (ci := 1) C inX1_remove rfl 0 1 (by decide) lkX1_remove_26 dX1_remove_91 rfl rfl ?_
          refine g_aload_n C dX1_remove_94 2 rfl rfl ?_
          refine g_callI0 (ci := 1) (q0 := 0) (rest := [.int (nI c), .int (nI (4 * (n - 1)))]) C (c_X1_buckets _ _ ok1) gX1_remove_X1_buckets rfl rfl rfl hdX1_buckets (by decide) rfl rfl rfl rfl (Nat.le_of_ble_eq_true rfl) dX1_remove_95 (fun r _ hw => ?_)
          subst hw
          show G K 0 0 98 [(4, .int (nI n)), (3, .int (nI m)), (0, .ref g0), (1, .int k), (2, .int (nI j))] [.int (nI (rd b lv + pt)), .int (nI c), .int (nI (4 * (n - 1)))] (wM g0 gk gv gh gc cA b c pl bl (n - 1) lv pt (sh (upd fk j (fk m)) m (n - 1)) (sh (upd fv j (fv m)) m (n - 1)) (sh fh m (n - 1)) fc)
          refine g_imul C dX1_remove_98 ?_
          refine g_icmp_ge C 131 dX1_remove_99 (by decide) (by omega) (by have := ok_m1 ok; omega) (fun h99 => ?_) (fun h99 => ?_)
          · refine g_iconst (v := nI 1) C dX1_remove_131 (by decide) ?_
            exact hret _ _ _ (n - 1, lv, pt, sh (upd fk j (fk m)) m (n - 1), sh (upd fv j (fv m)) m (n - 1), sh fh m (n - 1), fc) dX1_remove_132 (by decide) ⟨Or.inr ⟨j, m, hj, hkj, ⟨hjm, hmn, hmb, hall⟩, rfl, rfl, Or.inr ⟨(fun z => absurd z.1 (by omega)), rfl, rfl, rfl, rfl⟩⟩, hho1⟩
          · refine g_aload_n C dX1_remove_102 2 rfl rfl ?_
            refine g_callI0 (ci := 1) (q0 := 0) (rest := []) C (c_X1_buckets _ _ ok1) gX1_remove_X1_buckets rfl rfl rfl hdX1_buckets (by decide) rfl rfl rfl rfl (Nat.le_of_ble_eq_true rfl) dX1_remove_103 (fun r _ hw => ?_)
            subst hw
            show G K 0 0 106 [(4, .int (nI n)), (3, .int (nI m)), (0, .ref g0), (1, .int k), (2, .int (nI j))] [.int (nI (rd b lv + pt))] (wM g0 gk gv gh gc cA b c pl bl (n - 1) lv pt (sh (upd fk j (fk m)) m (n - 1)) (sh (upd fv j (fv m)) m (n - 1)) (sh fh m (n - 1)) fc)
            refine g_aload_n C dX1_remove_106 2 rfl rfl ?_
            refine g_get (ci := 1) C inX1_remove rfl 0 0 (by decide) lkX1_remove_22 dX1_remove_107 rfl rfl ?_
            refine g_icmp_le C 131 dX1_remove_110 (by decide) (by omega) (by omega) (fun h110 => ?_) (fun h110 => ?_)
            · refine g_iconst (v := nI 1) C dX1_remove_131 (by decide) ?_
              exact hret _ _ _ (n - 1, lv, pt, sh (upd fk j (fk m)) m (n - 1), sh (upd fv j (fv m)) m (n - 1), sh fh m (n - 1), fc) dX1_remove_132 (by decide) ⟨Or.inr ⟨j, m, hj, hkj, ⟨hjm, hmn, hmb, hall⟩, rfl, rfl, Or.inr ⟨(fun z => absurd z.2 (by omega)), rfl, rfl, rfl, rfl⟩⟩, hho1⟩
            · refine g_aload_n C dX1_remove_113 2 rfl rfl ?_
              refine g_aload_n C dX1_remove_114 2 rfl rfl ?_
              refine g_callI0 (ci := 1) (q0 := 0) (rest := [.ref g0]) C (c_X1_buckets _ _ ok1) gX1_remove_X1_buckets rfl rfl rfl hdX1_buckets (by decide) rfl rfl rfl rfl (Nat.le_of_ble_eq_true rfl) dX1_remove_115 (fun r _ hw => ?_)
              subst hw
              show G K 0 0 118 [(4, .int (nI n)), (3, .int (nI m)), (0, .ref g0), (1, .int k), (2, .int (nI j))] [.int (nI (rd b lv + pt)), .ref g0] (wM g0 gk gv gh gc cA b c pl bl (n - 1) lv pt (sh (upd fk j (fk m)) m (n - 1)) (sh (upd fv j (fv m)) m (n - 1)) (sh fh m (n - 1)) fc)
              refine g_iconst (v := nI 1) C dX1_remove_118 (by decide) ?_
              refine g_isub C dX1_remove_119 (by omega) ?_
              refine g_callV0 (ci := 1) (q0 := 0) (rest := []) C (c_X1_toEnd _ _ ok1 (rd b lv + pt - 1) (by omega) hho1) gX1_remove_X1_toEnd rfl rfl rfl hdX1_toEnd (by decide) rfl rfl rfl rfl (Nat.le_of_ble_eq_true rfl) dX1_remove_120 (fun f1 hh1 => ?_)
              show G K 0 0 123 [(4, .int (nI n)), (3, .int (nI m)), (0, .ref g0), (1, .int k), (2, .int (nI j))] [] (wM g0 gk gv gh gc cA b c pl bl (n - 1) lv pt ((mb (bk b lv pt) (rd b lv + pt - 1) (n - 1) (n - 1) 0 (sh (upd fk j (fk m)) m (n - 1)) (sh (upd fv j (fv m)) m (n - 1))).1) ((mb (bk b lv pt) (rd b lv + pt - 1) (n - 1) (n - 1) 0 (sh (upd fk j (fk m)) m (n - 1)) (sh (upd fv j (fv m)) m (n - 1))).2) f1 fc)
              refine g_aload_n C dX1_remove_123 2 rfl rfl ?_
              refine g_callV0 (ci := 1) (q0 := 0) (rest := []) C (c_X1_back _ _ ok1 h110) gX1_remove_X1_back rfl rfl rfl hdX1_back (by decide) rfl rfl rfl rfl (Nat.le_of_ble_eq_true rfl) dX1_remove_124 (fun _ _ => ?_)
              show G K 0 0 127 [(4, .int (nI n)), (3, .int (nI m)), (0, .ref g0), (1, .int k), (2, .int (nI j))] [] (wM g0 gk gv gh gc cA b c pl bl (n - 1) (bwL pt lv) (bwP b lv pt) ((mb (bk b lv pt) (rd b lv + pt - 1) (n - 1) (n - 1) 0 (sh (upd fk j (fk m)) m (n - 1)) (sh (upd fv j (fv m)) m (n - 1))).1) ((mb (bk b lv pt) (rd b lv + pt - 1) (n - 1) (n - 1) 0 (sh (upd fk j (fk m)) m (n - 1)) (sh (upd fv j (fv m)) m (n - 1))).2) f1 fc)
              refine g_aload_n C dX1_remove_127 2 rfl rfl ?_
              refine g_callV0 (ci := 1) (q0 := 0) (rest := []) C (c_X1_settle _ _ (ok_bw ok1 h110)) gX1_remove_X1_settle rfl rfl rfl hdX1_settle (by decide) rfl rfl rfl rfl (Nat.le_of_ble_eq_true rfl) dX1_remove_128 (fun f2 hh2 => ?_)
              show G K 0 0 131 [(4, .int (nI n)), (3, .int (nI m)), (0, .ref g0), (1, .int k), (2, .int (nI j))] [] (wM g0 gk gv gh gc cA b c pl bl (n - 1) (bwL pt lv) (bwP b lv pt) ((mb (bk b lv pt) (rd b lv + pt - 1) (n - 1) (n - 1) 0 (sh (upd fk j (fk m)) m (n - 1)) (sh (upd fv j (fv m)) m (n - 1))).1) ((mb (bk b lv pt) (rd b lv + pt - 1) (n - 1) (n - 1) 0 (sh (upd fk j (fk m)) m (n - 1)) (sh (upd fv j (fv m)) m (n - 1))).2) f2 fc)
              refine g_iconst (v := nI 1) C dX1_remove_131 (by decide) ?_
              exact hret _ _ _ (n - 1, bwL pt lv, bwP b lv pt, (mb (bk b lv pt) (rd b lv + pt - 1) (n - 1) (n - 1) 0 (sh (upd fk j (fk m)) m (n - 1)) (sh (upd fv j (fv m)) m (n - 1))).1, (mb (bk b lv pt) (rd b lv + pt - 1) (n - 1) (n - 1) 0 (sh (upd fk j (fk m)) m (n - 1)) (sh (upd fv j (fv m)) m (n - 1))).2, f2, fc) dX1_remove_132 (by decide) ⟨Or.inr ⟨j, m, hj, hkj, ⟨hjm, hmn, hmb, hall⟩, rfl, rfl, Or.inl ⟨h99, h110, rfl, rfl, rfl, rfl⟩⟩, hh2⟩
        · refine g_aload_n C dX1_remove_26 2 rfl rfl ?_
          refine g_get (ci := 1) C inX1_remove rfl 0 7 (by decide) lkX1_remove_16 dX1_remove_27 rfl rfl ?_
          refine g_iload C dX1_remove_30 0 rfl ?_
          refine g_iald C 3 dX1_remove_32 rfl (by omega) (by omega) ?_
          refine g_top (hho i h23) ?_
          refine g_aload_n C dX1_remove_33 2 rfl rfl ?_
          refine g_get (ci := 1) C inX1_remove rfl 0 7 (by decide) lkX1_remove_16 dX1_remove_34 rfl rfl ?_
          refine g_iload_n C dX1_remove_37 4 rfl rfl ?_
          refine g_iald C 3 dX1_remove_38 rfl (by omega) (by omega) ?_
          refine g_top (hho j hj) ?_
          refine g_icmp_ne C 47 dX1_remove_39 (by decide) (by have := bk_lt (b := b) (lv := lv) (pt := pt) (fk i) (by omega); omega) (by have := bk_lt (b := b) (lv := lv) (pt := pt) (fk j) (by omega); omega) (fun h39 => ?_) (fun h39 => ?_)
          · refine g_iload_n C dX1_remove_47 1 rfl rfl ?_
            refine g_istore_n (lv' := [(3, .int (nI m)), (4, .int (nI i)), (0, .ref g0), (1, .int k), (2, .int (nI j))]) C dX1_remove_48 rfl (by decide) rfl ?_
            refine g_iinc (v := nI (i + 1)) (lv' := [(4, .int (nI (i + 1))), (3, .int (nI m)), (0, .ref g0), (1, .int k), (2, .int (nI j))]) C dX1_remove_49 1 rfl (nI_add _ 1) (by decide) rfl ?_
            refine g_goto C 17 dX1_remove_52 (by decide) ?_
            refine g_lv [0, 1, 2, 3, 4] rfl ?_
            exact ih m (i + 1) (by omega) (by omega) (by omega) (by omega) (by omega) hmb (fun x a1 a2 => (Nat.lt_succ_iff_lt_or_eq.mp a2).elim (fun e => hall x a1 e) (fun e => e ▸ h39))
          · refine g_iload C dX1_remove_42 0 rfl ?_
            refine g_goto C 48 dX1_remove_44 (by decide) ?_
            refine g_istore_n (lv' := [(3, .int (nI i)), (4, .int (nI i)), (0, .ref g0), (1, .int k), (2, .int (nI j))]) C dX1_remove_48 rfl (by decide) rfl ?_
            refine g_iinc (v := nI (i + 1)) (lv' := [(4, .int (nI (i + 1))), (3, .int (nI i)), (0, .ref g0), (1, .int k), (2, .int (nI j))]) C dX1_remove_49 1 rfl (nI_add _ 1) (by decide) rfl ?_
            refine g_goto C 17 dX1_remove_52 (by decide) ?_
            refine g_lv [0, 1, 2, 3, 4] rfl ?_
            exact ih i (i + 1) (by omega) (by omega) (by omega) (by omega) (by omega) h39 (fun x a1 a2 => absurd a1 (by omega))
    refine g_lv [0, 1, 3, 4, 2] rfl ?_
    exact loop17 (n + 1) j j (by omega) (by omega) (by omega) (by omega) (by omega) rfl (fun x a1 a2 => absurd a1 (by omega))
  · have hno : ∀ j, j < n → fk j ≠ k := by
      rcases hw with ⟨j, a1, a2, a3⟩ | ⟨a1, _⟩
      · exact absurd (show 0 ≤ r by rw [a3]; exact nI_pos' (by omega)) h7
      · exact a1
    refine g_iconst (v := nI 0) C dX1_remove_10 (by decide) ?_
    exact hret _ _ _ (n, lv, pt, fk, fv, fh, fc) dX1_remove_11 (by decide) ⟨Or.inl ⟨hno, rfl, rfl, rfl, rfl, rfl, rfl⟩, hho⟩
set_option maxHeartbeats 4000000 in
set_option maxRecDepth 100000 in
theorem c_X1_pages (l : Launch) (D : va_G) {cA : ClassId} {g0 gk gv gh gc b c pl bl n lv pt : Nat} {fk fv fh fc : Nat → Int32} (ok : okS b c pl bl n lv pt) (x : Int32) (hho : hom b n lv pt fk fh) : MetI (S := (Nat → Int32)) l yX1_pages wsX1_pages ({ frames := 2, cells := 0, slots := 0, locals := 42 } : Room) D [(cA, .int)] [.ref g0, .int x] (wM g0 gk gv gh gc cA b c pl bl n lv pt fk fv fh fc) (fun u => wM g0 gk gv gh gc cA b c pl bl n lv pt fk fv fh u) (fun r _ => (∃ q, q < rd b lv + pt ∧ x = nI q ∧ r = nI (pg c (ct (fun j => bk b lv pt (fk j)) q n))) ∨ ((¬ ∃ q, q < rd b lv + pt ∧ x = nI q) ∧ r = -1)) 0 0 := by
  refine MetI_of (cc := cX1_pages) (maxL := 2) (rt := .int) (lv0 := [(0, .ref g0), (1, .int x)]) (by decide) rfl (Nat.le_of_ble_eq_true rfl) rfl ?_
  intro K _ _ C hret
  have C : Cx K ({ frames := 2, cells := 0, slots := 0, locals := 42 } : Room) 2 cX1_pages RX1 wsX1_pages [(cA, .int)] := C
  obtain ⟨o1, o2, o3, o4, o5, o6, o7, o8, o9, o10, o11, o12⟩ := id ok
  refine g_iload_n C dX1_pages_0 1 rfl rfl ?_
  refine g_if_lt C 12 dX1_pages_1 (by decide) (fun h1 => ?_) (fun h1 => ?_)
  · refine g_iconst (v := -1) C dX1_pages_12 (by decide) ?_
    exact hret _ _ _ fc dX1_pages_13 rfl (Or.inr ⟨ib_neg h1 (by omega), rfl⟩)
  · refine g_iload_n C dX1_pages_4 1 rfl rfl ?_
    refine g_aload_n C dX1_pages_5 0 rfl rfl ?_
    refine g_callI0 (ci := 1) (q0 := 0) (rest := [.int x]) C (c_X1_buckets _ _ ok) gX1_pages_X1_buckets rfl rfl rfl hdX1_buckets (by decide) rfl rfl rfl rfl (Nat.le_of_ble_eq_true rfl) dX1_pages_6 (fun r _ hw => ?_)
    subst hw
    show G K 0 0 9 [(0, .ref g0), (1, .int x)] [.int (nI (rd b lv + pt)), .int x] (wM g0 gk gv gh gc cA b c pl bl n lv pt fk fv fh fc)
    refine g_icmp_ltI C 14 dX1_pages_9 (by decide) (fun h9 => ?_) (fun h9 => ?_)
    · obtain ⟨q, hq, ex⟩ := ib_ok h1 (Int32.not_le.mpr h9) (by omega)
      subst ex
      refine g_aload_n C dX1_pages_14 0 rfl rfl ?_
      refine g_callV0 (ci := 1) (q0 := 0) (rest := []) C (c_X1_count _ _ ok hho) gX1_pages_X1_count rfl rfl rfl hdX1_count (by decide) rfl rfl rfl rfl (Nat.le_of_ble_eq_true rfl) dX1_pages_15 (fun f hc => ?_)
      show G K 0 0 18 [(0, .ref g0), (1, .int (nI q))] [] (wM g0 gk gv gh gc cA b c pl bl n lv pt fk fv fh f)
      refine g_aload_n C dX1_pages_18 0 rfl rfl ?_
      refine g_aload_n C dX1_pages_19 0 rfl rfl ?_
      refine g_get (ci := 1) C inX1_pages rfl 0 10 (by decide) lkX1_pages_19 dX1_pages_20 rfl rfl ?_
      refine g_iload_n C dX1_pages_23 1 rfl rfl ?_
      refine g_iald C 4 dX1_pages_24 rfl (by omega) (by omega) ?_
      refine g_top (hc q (by omega)) ?_
      have hle := ct_le (fun j => bk b lv pt (fk j)) q n
      refine g_callI0 (ci := 1) (q0 := 0) (rest := []) C (c_X1_pagesFor _ _ ok (ct (fun j => bk b lv pt (fk j)) q n) (by omega)) gX1_pages_X1_pagesFor rfl rfl rfl hdX1_pagesFor (by decide) rfl rfl rfl rfl (Nat.le_of_ble_eq_true rfl) dX1_pages_25 (fun r _ hw => ?_)
      subst hw
      show G K 0 0 28 [(0, .ref g0), (1, .int (nI q))] [.int (nI (pg c (ct (fun j => bk b lv pt (fk j)) q n)))] (wM g0 gk gv gh gc cA b c pl bl n lv pt fk fv fh f)
      exact hret _ _ _ f dX1_pages_28 rfl (Or.inl ⟨q, hq, rfl, rfl⟩)
    · have q1 := ib_big (Int32.not_lt.mp h9) (show rd b lv + pt < 2 ^ 31 by omega)
      refine g_iconst (v := -1) C dX1_pages_12 (by decide) ?_
      exact hret _ _ _ fc dX1_pages_13 rfl (Or.inr ⟨q1, rfl⟩)
set_option maxHeartbeats 4000000 in
set_option maxRecDepth 100000 in
theorem c_X1_free (l : Launch) (D : va_G) {cA : ClassId} {g0 gk gv gh gc b c pl bl n lv pt : Nat} {fk fv fh fc : Nat → Int32} (ok : okS b c pl bl n lv pt)  (hho : hom b n lv pt fk fh) : MetI (S := (Nat → Int32)) l yX1_free wsX1_free ({ frames := 3, cells := 0, slots := 0, locals := 64 } : Room) D [(cA, .int)] [.ref g0] (wM g0 gk gv gh gc cA b c pl bl n lv pt fk fv fh fc) (fun u => wM g0 gk gv gh gc cA b c pl bl n lv pt fk fv fh u) (fun r _ => r = nI pl - nI (ndP b c n lv pt fk)) 0 0 := by
  refine MetI_of (cc := cX1_free) (maxL := 1) (rt := .int) (lv0 := [(0, .ref g0)]) (by decide) rfl (Nat.le_of_ble_eq_true rfl) rfl ?_
  intro K _ _ C hret
  have C : Cx K ({ frames := 3, cells := 0, slots := 0, locals := 64 } : Room) 1 cX1_free RX1 wsX1_free [(cA, .int)] := C
  obtain ⟨o1, o2, o3, o4, o5, o6, o7, o8, o9, o10, o11, o12⟩ := id ok
  refine g_aload_n C dX1_free_0 0 rfl rfl ?_
  refine g_get (ci := 1) C inX1_free rfl 0 2 (by decide) lkX1_free_29 dX1_free_1 rfl rfl ?_
  refine g_aload_n C dX1_free_4 0 rfl rfl ?_
  refine g_callI0 (ci := 1) (q0 := 0) (rest := [.int (nI pl)]) C (c_X1_needed _ _ ok hho) gX1_free_X1_needed rfl rfl rfl hdX1_needed (by decide) rfl rfl rfl rfl (Nat.le_of_ble_eq_true rfl) dX1_free_5 (fun r f hw => ?_)
  subst hw
  show G K 0 0 8 [(0, .ref g0)] [.int (nI (ndP b c n lv pt fk)), .int (nI pl)] (wM g0 gk gv gh gc cA b c pl bl n lv pt fk fv fh f)
  refine g_isubI C dX1_free_8 ?_
  exact hret _ _ _ f dX1_free_9 rfl rfl
set_option maxHeartbeats 4000000 in
set_option maxRecDepth 100000 in
theorem c_X1_key (l : Launch) (D : va_G) {cA : ClassId} {g0 gk gv gh gc b c pl bl n lv pt : Nat} {fk fv fh fc : Nat → Int32} (ok : okS b c pl bl n lv pt) (x y : Int32) (hho : hom b n lv pt fk fh) : MetI (S := Unit) l yX1_key wsX1_key ({ frames := 2, cells := 0, slots := 0, locals := 42 } : Room) D [(cA, .int)] [.ref g0, .int x, .int y] (wM g0 gk gv gh gc cA b c pl bl n lv pt fk fv fh fc) (fun _ => wM g0 gk gv gh gc cA b c pl bl n lv pt fk fv fh fc) (fun r _ => keyP b n lv pt fk x y r) 0 0 := by
  refine MetI_of (cc := cX1_key) (maxL := 5) (rt := .int) (lv0 := [(0, .ref g0), (1, .int x), (2, .int y)]) (by decide) rfl (Nat.le_of_ble_eq_true rfl) rfl ?_
  intro K _ _ C hret
  have C : Cx K ({ frames := 2, cells := 0, slots := 0, locals := 42 } : Room) 5 cX1_key RX1 wsX1_key [(cA, .int)] := C
  obtain ⟨o1, o2, o3, o4, o5, o6, o7, o8, o9, o10, o11, o12⟩ := id ok
  refine g_iload_n C dX1_key_0 1 rfl rfl ?_
  refine g_if_lt C 16 dX1_key_1 (by decide) (fun h1 => ?_) (fun h1 => ?_)
  · refine g_iconst (v := -1) C dX1_key_16 (by decide) ?_
    exact hret _ _ _ () dX1_key_17 rfl (Or.inr ⟨fun q z i a1 a2 => absurd ⟨q, a1, a2⟩ (ib_neg h1 (show rd b lv + pt < 2 ^ 31 by omega)), rfl⟩)
  · refine g_iload_n C dX1_key_4 1 rfl rfl ?_
    refine g_aload_n C dX1_key_5 0 rfl rfl ?_
    refine g_callI0 (ci := 1) (q0 := 0) (rest := [.int x]) C (c_X1_buckets _ _ ok) gX1_key_X1_buckets rfl rfl rfl hdX1_buckets (by decide) rfl rfl rfl rfl (Nat.le_of_ble_eq_true rfl) dX1_key_6 (fun r _ hw => ?_)
    subst hw
    show G K 0 0 9 [(0, .ref g0), (1, .int x), (2, .int y)] [.int (nI (rd b lv + pt)), .int x] (wM g0 gk gv gh gc cA b c pl bl n lv pt fk fv fh fc)
    refine g_icmp_geI C 16 dX1_key_9 (by decide) (fun h9 => ?_) (fun h9 => ?_)
    · have q1 := ib_big h9 (show rd b lv + pt < 2 ^ 31 by omega)
      refine g_iconst (v := -1) C dX1_key_16 (by decide) ?_
      exact hret _ _ _ () dX1_key_17 rfl (Or.inr ⟨fun q z i a1 a2 => absurd ⟨q, a1, a2⟩ q1, rfl⟩)
    · obtain ⟨q, hq, ex⟩ := ib_ok h1 h9 (by omega)
      subst ex
      refine g_iload_n C dX1_key_12 2 rfl rfl ?_
      refine g_if_ge C 18 dX1_key_13 (by decide) (fun h13 => ?_) (fun h13 => ?_)
      · obtain ⟨z, hz, ez⟩ := nI_of (Int32.not_lt.mpr h13)
        subst ez
        refine g_iload_n C dX1_key_18 2 rfl rfl ?_
        refine g_istore_n (lv' := [(3, .int (nI z)), (0, .ref g0), (1, .int (nI q)), (2, .int (nI z))]) C dX1_key_19 rfl (by decide) rfl ?_
        refine g_iconst (v := nI 0) C dX1_key_20 (by decide) ?_
        refine g_istore (lv' := [(4, .int (nI 0)), (3, .int (nI z)), (0, .ref g0), (1, .int (nI q)), (2, .int (nI z))]) C dX1_key_21 (by decide) rfl ?_
        have loop23 : ∀ (t : Nat) (i : Nat) (m : Nat), i ≤ n → n < i + t → ct (fun j => bk b lv pt (fk j)) q i + m = z → (∀ i', i' < i → bk b lv pt (fk i') = q → ct (fun j => bk b lv pt (fk j)) q (i') ≠ z) → G K 0 0 23 [(4, .int (nI i)), (3, .int (nI m)), (0, .ref g0), (1, .int (nI q)), (2, .int (nI z))] [] (wM g0 gk gv gh gc cA b c pl bl n lv pt fk fv fh fc) := by
          intro t
          induction t with
          | zero =>
            intro i m hi ht hm hall
            exact absurd ht (by omega)
          | succ t ih =>
            intro i m hi ht hm hall
            refine g_iload C dX1_key_23 0 rfl ?_
            refine g_aload_n C dX1_key_25 2 rfl rfl ?_
            refine g_get (ci := 1) C inX1_key rfl 0 4 (by decide) lkX1_key_46 dX1_key_26 rfl rfl ?_
            refine g_icmp_ge C 64 dX1_key_29 (by decide) (by omega) (by omega) (fun h29 => ?_) (fun h29 => ?_)
            · refine g_iconst (v := -1) C dX1_key_64 (by decide) ?_
              exact hret _ _ _ () dX1_key_65 rfl (Or.inr ⟨fun q2 z2 i2 a1 a2 a3 a4 a5 a6 => by rw [← (nI_eq (by omega) (by omega)).mp a2] at a6 ⊢; rw [← (nI_eq hz a3).mp a4]; exact hall i2 (by omega) a6, rfl⟩)
            · refine g_aload_n C dX1_key_32 2 rfl rfl ?_
              refine g_get (ci := 1) C inX1_key rfl 0 7 (by decide) lkX1_key_16 dX1_key_33 rfl rfl ?_
              refine g_iload C dX1_key_36 0 rfl ?_
              refine g_iald C 3 dX1_key_38 rfl (by omega) (by omega) ?_
              refine g_top (hho i h29) ?_
              refine g_iload_n C dX1_key_39 3 rfl rfl ?_
              refine g_icmp_ne C 58 dX1_key_40 (by decide) (by have := bk_lt (b := b) (lv := lv) (pt := pt) (fk i) (by omega); omega) (by omega) (fun h40 => ?_) (fun h40 => ?_)
              · refine g_iinc (v := nI (i + 1)) (lv' := [(4, .int (nI (i + 1))), (3, .int (nI m)), (0, .ref g0), (1, .int (nI q)), (2, .int (nI z))]) C dX1_key_58 0 rfl (nI_add _ 1) (by decide) rfl ?_
                refine g_goto C 23 dX1_key_61 (by decide) ?_
                refine g_lv [0, 1, 2, 3, 4] rfl ?_
                exact ih (i + 1) m (by omega) (by omega) (by rw [ct_ne (g := fun j => bk b lv pt (fk j)) h40]; exact hm) (lt_s hall (fun e => absurd e h40))
              · refine g_iload_n C dX1_key_43 1 rfl rfl ?_
                refine g_if_ne C 55 dX1_key_44 (by decide) (fun h44 => ?_) (fun h44 => ?_)
                · obtain ⟨m1, rfl⟩ : ∃ m1, m = m1 + 1 := ⟨m - 1, by have : 0 < m := Nat.pos_of_ne_zero (fun e => h44 (by rw [e]; rfl)); omega⟩
                  refine g_iinc (v := nI m1) (lv' := [(3, .int (nI m1)), (4, .int (nI i)), (0, .ref g0), (1, .int (nI q)), (2, .int (nI z))]) C dX1_key_55 1 rfl (pk_m1 m1) (by decide) rfl ?_
                  refine g_iinc (v := nI (i + 1)) (lv' := [(4, .int (nI (i + 1))), (3, .int (nI m1)), (0, .ref g0), (1, .int (nI q)), (2, .int (nI z))]) C dX1_key_58 1 rfl (nI_add _ 1) (by decide) rfl ?_
                  refine g_goto C 23 dX1_key_61 (by decide) ?_
                  refine g_lv [0, 1, 2, 3, 4] rfl ?_
                  exact ih (i + 1) m1 (by omega) (by omega) (by rw [ct_eq (g := fun j => bk b lv pt (fk j)) h40]; omega) (lt_s hall (fun _ => by omega))
                · have hm0 : m = 0 := (nI_eq (by omega) (by omega)).mp (h44.trans nI_0.symm)
                  refine g_aload_n C dX1_key_47 2 rfl rfl ?_
                  refine g_get (ci := 1) C inX1_key rfl 0 5 (by decide) lkX1_key_7 dX1_key_48 rfl rfl ?_
                  refine g_iload C dX1_key_51 0 rfl ?_
                  refine g_iald C 1 dX1_key_53 rfl (by omega) (by omega) ?_
                  exact hret _ _ _ () dX1_key_54 rfl (Or.inl ⟨q, z, i, hq, rfl, hz, rfl, h29, h40, by rw [← hm, hm0]; rfl, hall, rfl⟩)
        refine g_lv [0, 1, 2, 3, 4] rfl ?_
        exact loop23 (n + 1) 0 z (by omega) (by omega) (Nat.zero_add z) (fun i' a => absurd a (by omega))
      · refine g_iconst (v := -1) C dX1_key_16 (by decide) ?_
        exact hret _ _ _ () dX1_key_17 rfl (Or.inr ⟨fun q z i a1 a2 a3 a4 => absurd (a4 ▸ nI_pos' a3) h13, rfl⟩)
set_option maxHeartbeats 4000000 in
set_option maxRecDepth 100000 in
theorem c_X1_clear (l : Launch) (D : va_G) {cA : ClassId} {g0 gk gv gh gc b c pl bl n lv pt : Nat} {fk fv fh fc : Nat → Int32} (ok : okS b c pl bl n lv pt)   : MetV (S := Unit) l yX1_clear wsX1_clear ({ frames := 0, cells := 0, slots := 0, locals := 0 } : Room) D [(cA, .int)] [.ref g0] (wM g0 gk gv gh gc cA b c pl bl n lv pt fk fv fh fc) (fun _ => wM g0 gk gv gh gc cA b c pl bl 0 0 0 fk fv fh fc) (fun _ => True) 0 0 := by
  refine MetV_of (cc := cX1_clear) (maxL := 1) (lv0 := [(0, .ref g0)]) (by decide) rfl (Nat.le_of_ble_eq_true rfl) rfl ?_
  intro K _ _ C _ hret
  have C : Cx K ({ frames := 0, cells := 0, slots := 0, locals := 0 } : Room) 1 cX1_clear RX1 wsX1_clear [(cA, .int)] := C
  obtain ⟨o1, o2, o3, o4, o5, o6, o7, o8, o9, o10, o11, o12⟩ := id ok
  refine g_aload_n C dX1_clear_0 0 rfl rfl ?_
  refine g_iconst (v := nI 0) C dX1_clear_1 (by decide) ?_
  refine g_put (ci := 1) (ty := .int) (ws' := wM g0 gk gv gh gc cA b c pl bl 0 lv pt fk fv fh fc) C inX1_clear tyX1 tyX1_ok nmX1 rfl 0 4 (by decide) lkX1_clear_46 rfl pdX1_4 dX1_clear_2 rfl rfl rfl (Nat.le_of_ble_eq_true rfl) rfl ?_
  refine g_aload_n C dX1_clear_5 0 rfl rfl ?_
  refine g_iconst (v := nI 0) C dX1_clear_6 (by decide) ?_
  refine g_put (ci := 1) (ty := .int) (ws' := wM g0 gk gv gh gc cA b c pl bl 0 0 pt fk fv fh fc) C inX1_clear tyX1 tyX1_ok nmX1 rfl 0 8 (by decide) lkX1_clear_35 rfl pdX1_8 dX1_clear_7 rfl rfl rfl (Nat.le_of_ble_eq_true rfl) rfl ?_
  refine g_aload_n C dX1_clear_10 0 rfl rfl ?_
  refine g_iconst (v := nI 0) C dX1_clear_11 (by decide) ?_
  refine g_put (ci := 1) (ty := .int) (ws' := wM g0 gk gv gh gc cA b c pl bl 0 0 0 fk fv fh fc) C inX1_clear tyX1 tyX1_ok nmX1 rfl 0 9 (by decide) lkX1_clear_42 rfl pdX1_9 dX1_clear_12 rfl rfl rfl (Nat.le_of_ble_eq_true rfl) rfl ?_
  exact hret _ _ () dX1_clear_15 trivial
