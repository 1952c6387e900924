/-! the law's loop: t calls are done -/
set_option maxHeartbeats 8000000 in
set_option maxRecDepth 100000 in
theorem law_loop {K : gK} {cA : ClassId} {sb L : Nat} {xs : Nat → Int32} (C : Cx K room_1 4 cL_law RL wsL_law [(cA, .int)]) (hX : va_X sb L xs K.1.2.2.2.2 K.1.2.2.2.2.heap) (hbl : sb < K.1.2.2.2.2.heap.size) (hbA : ¬ K.2.2.2.2.1 sb) (hL : L ≤ 1540) (hend : ∀ lv ws, G K 600000 7302250 404 lv [.int 1] ws) {h0 hk hv hr g0 ak av ah ac b c pl bl nk : Nat} :
    ∀ (f t n lv pt : Nat) (fk fv fr gk gv gh gc : Nat → Int32), L < 4 + 3 * t + f → t ≤ 513 → Rel b c pl bl nk t n lv pt fk fv gk gv gh → G K 9 8648 58 [(3, .int (nI (4 + 3 * t))), (0, .ref sb), (1, .ref h0), (2, .ref g0)] [] (wX h0 hk hv hr cA nk bl b c pl bl n lv pt fk fv fr ++ wM g0 ak av ah ac cA b c pl bl n lv pt gk gv gh gc) := by
  intro f
  induction f with
  | zero =>
    intro t n lv pt fk fv fr gk gv gh gc hf ht R0
    refine g_iload_n C dL_law_58 0 rfl rfl ?_
    refine g_aload_n C dL_law_59 1 rfl rfl ?_
    refine g_slen C hX hbl hbA dL_law_60 ?_
    refine g_iconst (v := nI 3) C dL_law_61 (by decide) ?_
    refine g_isubI C dL_law_62 ?_
    refine g_icmp_gtI C 403 dL_law_63 (by decide) (fun h63 => ?_) (fun h63 => ?_)
    · refine g_iconst (v := 1) C dL_law_403 (by decide) ?_
      exact g_widen (by omega) (by omega) (hend _ _)
    · rw [Int32.lt_iff_toInt_lt, pk_sub_toInt (by omega) (by omega), nI_toInt (by omega)] at h63
      exact absurd hf (by omega)
  | succ f ih =>
    intro t n lv pt fk fv fr gk gv gh gc hf ht R0
    refine g_iload_n C dL_law_58 0 rfl rfl ?_
    refine g_aload_n C dL_law_59 1 rfl rfl ?_
    refine g_slen C hX hbl hbA dL_law_60 ?_
    refine g_iconst (v := nI 3) C dL_law_61 (by decide) ?_
    refine g_isubI C dL_law_62 ?_
    refine g_icmp_gtI C 403 dL_law_63 (by decide) (fun h63 => ?_) (fun h63 => ?_)
    · refine g_iconst (v := 1) C dL_law_403 (by decide) ?_
      exact g_widen (by omega) (by omega) (hend _ _)
    rw [Int32.lt_iff_toInt_lt, pk_sub_toInt (by omega) (by omega), nI_toInt (by omega)] at h63
    have hi : 4 + 3 * t + 3 ≤ L := by omega
    obtain ⟨ok, enk, hn, hnt, ak1, av1, hd, hho⟩ := id R0
    obtain ⟨o1, o2, o3, o4, o5, o6, o7, o8, o9, o10, o11, o12⟩ := id ok
    have hnk : nk ≤ 512 := by rw [enk]; exact Nat.min_le_right _ _
    have hx : n ≤ nk ∧ nk ≤ 512 ∧ bl = bl := ⟨hn, hnk, rfl⟩
    have tail : ∀ (n lv pt : Nat) (fk fv fr gk gv gh gc : Nat → Int32), Rel b c pl bl nk (t + 1) n lv pt fk fv gk gv gh → G K 9 8648 397 [(3, .int (nI (4 + 3 * t))), (0, .ref sb), (1, .ref h0), (2, .ref g0)] [] (wX h0 hk hv hr cA nk bl b c pl bl n lv pt fk fv fr ++ wM g0 ak av ah ac cA b c pl bl n lv pt gk gv gh gc) := by
      intro n lv pt fk fv fr gk gv gh gc R1
      refine g_iinc (v := nI (4 + 3 * (t + 1))) (lv' := [(3, .int (nI (4 + 3 * (t + 1)))), (0, .ref sb), (1, .ref h0), (2, .ref g0)]) C dL_law_397 0 rfl (by rw [show 4 + 3 * (t + 1) = 4 + 3 * t + 3 by omega]; exact nI_add _ 3) (by decide) rfl ?_
      refine g_goto C 58 dL_law_400 (by decide) ?_
      exact ih (t + 1) n lv pt fk fv fr gk gv gh gc (by omega) (by omega) R1
    refine g_aload_n C dL_law_66 1 rfl rfl ?_
    refine g_iload_n C dL_law_67 0 rfl rfl ?_
    refine g_sld C hX hbl hbA (by omega) dL_law_68 (by omega) ?_
    refine g_bipush (v := nI 15) C dL_law_69 (by decide) ?_
    refine g_iand C dL_law_71 ?_
    obtain ⟨op, hop, eop⟩ := pk_andE (xs (4 + 3 * t)) (m := nI 15) 4 (by decide)
    refine g_top eop ?_
    rcases (show op = 0 ∨ op = 1 ∨ op = 2 ∨ op = 3 ∨ op = 4 ∨ op = 5 ∨ op = 6 ∨ op = 7 ∨ op = 8 ∨ op = 9 ∨ op = 10 ∨ op = 11 ∨ op = 12 ∨ 13 ≤ op by omega) with rfl | rfl | rfl | rfl | rfl | rfl | rfl | rfl | rfl | rfl | rfl | rfl | rfl | hbig
    · refine g_tableIn C 140 dL_law_72 (by decide) (by decide) rfl (by decide) ?_
      refine g_aload_n C dL_law_140 2 rfl rfl ?_
      refine g_aload_n C dL_law_141 1 rfl rfl ?_
      refine g_iload_n C dL_law_142 0 rfl rfl ?_
      refine g_iconst (v := nI 1) C dL_law_143 (by decide) ?_
      refine g_iadd C dL_law_144 ?_
      refine g_sld C hX hbl hbA (by omega) dL_law_145 (by omega) ?_
      refine g_aload_n C dL_law_146 1 rfl rfl ?_
      refine g_iload_n C dL_law_147 0 rfl rfl ?_
      refine g_iconst (v := nI 2) C dL_law_148 (by decide) ?_
      refine g_iadd C dL_law_149 ?_
      refine g_sld C hX hbl hbA (by omega) dL_law_150 (by omega) ?_
      refine g_swap ?_
      refine g_callI (wM g0 ak av ah ac cA b c pl bl n lv pt gk gv gh gc) (ci := 0) (q0 := 0) (rest := []) C (c_X0_put _ _ ok hx (xs (4 + 3 * t + 1)) (xs (4 + 3 * t + 2))) gL_law_X0_put rfl rfl rfl hdX0_put (by decide) rfl rfl rfl rfl (Nat.le_of_ble_eq_true rfl) dL_law_151 (fun r1 ⟨n1, l1, p1, fk1, fv1, fr1⟩ hw1 => ?_)
      refine g_swap ?_
      show G K 9 8648 154 [(3, .int (nI (4 + 3 * t))), (0, .ref sb), (1, .ref h0), (2, .ref g0)] [.int r1] (wX h0 hk hv hr cA nk bl b c pl bl n1 l1 p1 fk1 fv1 fr1 ++ wM g0 ak av ah ac cA b c pl bl n lv pt gk gv gh gc)
      refine g_aload_n C dL_law_154 3 rfl rfl ?_
      refine g_aload_n C dL_law_155 1 rfl rfl ?_
      refine g_iload_n C dL_law_156 0 rfl rfl ?_
      refine g_iconst (v := nI 1) C dL_law_157 (by decide) ?_
      refine g_iadd C dL_law_158 ?_
      refine g_sld C hX hbl hbA (by omega) dL_law_159 (by omega) ?_
      refine g_aload_n C dL_law_160 1 rfl rfl ?_
      refine g_iload_n C dL_law_161 0 rfl rfl ?_
      refine g_iconst (v := nI 2) C dL_law_162 (by decide) ?_
      refine g_iadd C dL_law_163 ?_
      refine g_sld C hX hbl hbA (by omega) dL_law_164 (by omega) ?_
      refine g_callI (wX h0 hk hv hr cA nk bl b c pl bl n1 l1 p1 fk1 fv1 fr1) (ci := 1) (q0 := 0) (rest := [.int r1]) C (c_X1_put _ _ ok (xs (4 + 3 * t + 1)) (xs (4 + 3 * t + 2)) (by omega) hho) gL_law_X1_put rfl rfl rfl hdX1_put (by decide) rfl rfl rfl rfl (Nat.le_of_ble_eq_true rfl) dL_law_165 (fun r2 ⟨n2, l2, p2, gk2, gv2, gh2, gc2⟩ hw2 => ?_)
      show G K 9 8648 168 [(3, .int (nI (4 + 3 * t))), (0, .ref sb), (1, .ref h0), (2, .ref g0)] [.int r2, .int r1] (wX h0 hk hv hr cA nk bl b c pl bl n1 l1 p1 fk1 fv1 fr1 ++ wM g0 ak av ah ac cA b c pl bl n2 l2 p2 gk2 gv2 gh2 gc2)
      obtain ⟨er, en, el, ep, R1⟩ := rel_put R0 (by omega) hw1 hw2
      subst en el ep
      refine g_icmp_eqI C 397 dL_law_168 (by decide) (fun _ => ?_) (fun hne => absurd er hne)
      exact tail _ _ _ _ _ _ _ _ _ _ R1
    · refine g_tableIn C 173 dL_law_72 (by decide) (by decide) rfl (by decide) ?_
      refine g_aload_n C dL_law_173 2 rfl rfl ?_
      refine g_aload_n C dL_law_174 1 rfl rfl ?_
      refine g_iload_n C dL_law_175 0 rfl rfl ?_
      refine g_iconst (v := nI 1) C dL_law_176 (by decide) ?_
      refine g_iadd C dL_law_177 ?_
      refine g_sld C hX hbl hbA (by omega) dL_law_178 (by omega) ?_
      refine g_swap ?_
      refine g_callI (wM g0 ak av ah ac cA b c pl bl n lv pt gk gv gh gc) (ci := 0) (q0 := 0) (rest := []) C (c_X0_get _ _ ok hx (xs (4 + 3 * t + 1))) gL_law_X0_get rfl rfl rfl hdX0_get (by decide) rfl rfl rfl rfl (Nat.le_of_ble_eq_true rfl) dL_law_179 (fun r1 _ hw1 => ?_)
      refine g_swap ?_
      show G K 9 8648 182 [(3, .int (nI (4 + 3 * t))), (0, .ref sb), (1, .ref h0), (2, .ref g0)] [.int r1] (wX h0 hk hv hr cA nk bl b c pl bl n lv pt fk fv fr ++ wM g0 ak av ah ac cA b c pl bl n lv pt gk gv gh gc)
      refine g_aload_n C dL_law_182 3 rfl rfl ?_
      refine g_aload_n C dL_law_183 1 rfl rfl ?_
      refine g_iload_n C dL_law_184 0 rfl rfl ?_
      refine g_iconst (v := nI 1) C dL_law_185 (by decide) ?_
      refine g_iadd C dL_law_186 ?_
      refine g_sld C hX hbl hbA (by omega) dL_law_187 (by omega) ?_
      refine g_callI (wX h0 hk hv hr cA nk bl b c pl bl n lv pt fk fv fr) (ci := 1) (q0 := 0) (rest := [.int r1]) C (c_X1_get _ _ ok (xs (4 + 3 * t + 1))) gL_law_X1_get rfl rfl rfl hdX1_get (by decide) rfl rfl rfl rfl (Nat.le_of_ble_eq_true rfl) dL_law_188 (fun r2 _ hw2 => ?_)
      show G K 9 8648 191 [(3, .int (nI (4 + 3 * t))), (0, .ref sb), (1, .ref h0), (2, .ref g0)] [.int r2, .int r1] (wX h0 hk hv hr cA nk bl b c pl bl n lv pt fk fv fr ++ wM g0 ak av ah ac cA b c pl bl n lv pt gk gv gh gc)
      have er : r1 = r2 := rel_get ak1 av1 hd hw1 hw2
      have R1 := R0.later
      refine g_icmp_eqI C 397 dL_law_191 (by decide) (fun _ => ?_) (fun hne => absurd er hne)
      exact tail _ _ _ _ _ _ _ _ _ _ R1
    · refine g_tableIn C 196 dL_law_72 (by decide) (by decide) rfl (by decide) ?_
      refine g_aload_n C dL_law_196 2 rfl rfl ?_
      refine g_aload_n C dL_law_197 1 rfl rfl ?_
      refine g_iload_n C dL_law_198 0 rfl rfl ?_
      refine g_iconst (v := nI 1) C dL_law_199 (by decide) ?_
      refine g_iadd C dL_law_200 ?_
      refine g_sld C hX hbl hbA (by omega) dL_law_201 (by omega) ?_
      refine g_swap ?_
      refine g_callI (wM g0 ak av ah ac cA b c pl bl n lv pt gk gv gh gc) (ci := 0) (q0 := 0) (rest := []) C (c_X0_has _ _ ok hx (xs (4 + 3 * t + 1))) gL_law_X0_has rfl rfl rfl hdX0_has (by decide) rfl rfl rfl rfl (Nat.le_of_ble_eq_true rfl) dL_law_202 (fun r1 _ hw1 => ?_)
      refine g_swap ?_
      show G K 9 8648 205 [(3, .int (nI (4 + 3 * t))), (0, .ref sb), (1, .ref h0), (2, .ref g0)] [.int r1] (wX h0 hk hv hr cA nk bl b c pl bl n lv pt fk fv fr ++ wM g0 ak av ah ac cA b c pl bl n lv pt gk gv gh gc)
      refine g_aload_n C dL_law_205 3 rfl rfl ?_
      refine g_aload_n C dL_law_206 1 rfl rfl ?_
      refine g_iload_n C dL_law_207 0 rfl rfl ?_
      refine g_iconst (v := nI 1) C dL_law_208 (by decide) ?_
      refine g_iadd C dL_law_209 ?_
      refine g_sld C hX hbl hbA (by omega) dL_law_210 (by omega) ?_
      refine g_callI (wX h0 hk hv hr cA nk bl b c pl bl n lv pt fk fv fr) (ci := 1) (q0 := 0) (rest := [.int r1]) C (c_X1_has _ _ ok (xs (4 + 3 * t + 1))) gL_law_X1_has rfl rfl rfl hdX1_has (by decide) rfl rfl rfl rfl (Nat.le_of_ble_eq_true rfl) dL_law_211 (fun r2 _ hw2 => ?_)
      show G K 9 8648 214 [(3, .int (nI (4 + 3 * t))), (0, .ref sb), (1, .ref h0), (2, .ref g0)] [.int r2, .int r1] (wX h0 hk hv hr cA nk bl b c pl bl n lv pt fk fv fr ++ wM g0 ak av ah ac cA b c pl bl n lv pt gk gv gh gc)
      have er : r1 = r2 := rel_has ak1 hw1 hw2
      have R1 := R0.later
      refine g_icmp_eqI C 397 dL_law_214 (by decide) (fun _ => ?_) (fun hne => absurd er hne)
      exact tail _ _ _ _ _ _ _ _ _ _ R1
    · refine g_tableIn C 219 dL_law_72 (by decide) (by decide) rfl (by decide) ?_
      refine g_aload_n C dL_law_219 2 rfl rfl ?_
      refine g_aload_n C dL_law_220 1 rfl rfl ?_
      refine g_iload_n C dL_law_221 0 rfl rfl ?_
      refine g_iconst (v := nI 1) C dL_law_222 (by decide) ?_
      refine g_iadd C dL_law_223 ?_
      refine g_sld C hX hbl hbA (by omega) dL_law_224 (by omega) ?_
      refine g_swap ?_
      refine g_callI (wM g0 ak av ah ac cA b c pl bl n lv pt gk gv gh gc) (ci := 0) (q0 := 0) (rest := []) C (c_X0_remove _ _ ok hx (xs (4 + 3 * t + 1))) gL_law_X0_remove rfl rfl rfl hdX0_remove (by decide) rfl rfl rfl rfl (Nat.le_of_ble_eq_true rfl) dL_law_225 (fun r1 ⟨n1, l1, p1, fk1, fv1, fr1⟩ hw1 => ?_)
      refine g_swap ?_
      show G K 9 8648 228 [(3, .int (nI (4 + 3 * t))), (0, .ref sb), (1, .ref h0), (2, .ref g0)] [.int r1] (wX h0 hk hv hr cA nk bl b c pl bl n1 l1 p1 fk1 fv1 fr1 ++ wM g0 ak av ah ac cA b c pl bl n lv pt gk gv gh gc)
      refine g_aload_n C dL_law_228 3 rfl rfl ?_
      refine g_aload_n C dL_law_229 1 rfl rfl ?_
      refine g_iload_n C dL_law_230 0 rfl rfl ?_
      refine g_iconst (v := nI 1) C dL_law_231 (by decide) ?_
      refine g_iadd C dL_law_232 ?_
      refine g_sld C hX hbl hbA (by omega) dL_law_233 (by omega) ?_
      refine g_callI (wX h0 hk hv hr cA nk bl b c pl bl n1 l1 p1 fk1 fv1 fr1) (ci := 1) (q0 := 0) (rest := [.int r1]) C (c_X1_remove _ _ ok (xs (4 + 3 * t + 1)) hho) gL_law_X1_remove rfl rfl rfl hdX1_remove (by decide) rfl rfl rfl rfl (Nat.le_of_ble_eq_true rfl) dL_law_234 (fun r2 ⟨n2, l2, p2, gk2, gv2, gh2, gc2⟩ hw2 => ?_)
      show G K 9 8648 237 [(3, .int (nI (4 + 3 * t))), (0, .ref sb), (1, .ref h0), (2, .ref g0)] [.int r2, .int r1] (wX h0 hk hv hr cA nk bl b c pl bl n1 l1 p1 fk1 fv1 fr1 ++ wM g0 ak av ah ac cA b c pl bl n2 l2 p2 gk2 gv2 gh2 gc2)
      obtain ⟨er, en, el, ep, R1⟩ := rel_rem R0 hw1 hw2
      subst en el ep
      refine g_icmp_eqI C 397 dL_law_237 (by decide) (fun _ => ?_) (fun hne => absurd er hne)
      exact tail _ _ _ _ _ _ _ _ _ _ R1
    · refine g_tableIn C 242 dL_law_72 (by decide) (by decide) rfl (by decide) ?_
      refine g_aload_n C dL_law_242 2 rfl rfl ?_
      refine g_swap ?_
      refine g_callI (wM g0 ak av ah ac cA b c pl bl n lv pt gk gv gh gc) (ci := 0) (q0 := 0) (rest := []) C (c_X0_size _ _ ok hx) gL_law_X0_size rfl rfl rfl hdX0_size (by decide) rfl rfl rfl rfl (Nat.le_of_ble_eq_true rfl) dL_law_243 (fun r1 _ hw1 => ?_)
      refine g_swap ?_
      show G K 9 8648 246 [(3, .int (nI (4 + 3 * t))), (0, .ref sb), (1, .ref h0), (2, .ref g0)] [.int r1] (wX h0 hk hv hr cA nk bl b c pl bl n lv pt fk fv fr ++ wM g0 ak av ah ac cA b c pl bl n lv pt gk gv gh gc)
      refine g_aload_n C dL_law_246 3 rfl rfl ?_
      refine g_callI (wX h0 hk hv hr cA nk bl b c pl bl n lv pt fk fv fr) (ci := 1) (q0 := 0) (rest := [.int r1]) C (c_X1_size _ _ ok) gL_law_X1_size rfl rfl rfl hdX1_size (by decide) rfl rfl rfl rfl (Nat.le_of_ble_eq_true rfl) dL_law_247 (fun r2 _ hw2 => ?_)
      show G K 9 8648 250 [(3, .int (nI (4 + 3 * t))), (0, .ref sb), (1, .ref h0), (2, .ref g0)] [.int r2, .int r1] (wX h0 hk hv hr cA nk bl b c pl bl n lv pt fk fv fr ++ wM g0 ak av ah ac cA b c pl bl n lv pt gk gv gh gc)
      have er : r1 = r2 := hw1.trans hw2.symm
      have R1 := R0.later
      refine g_icmp_eqI C 397 dL_law_250 (by decide) (fun _ => ?_) (fun hne => absurd er hne)
      exact tail _ _ _ _ _ _ _ _ _ _ R1
    · refine g_tableIn C 255 dL_law_72 (by decide) (by decide) rfl (by decide) ?_
      refine g_aload_n C dL_law_255 2 rfl rfl ?_
      refine g_swap ?_
      refine g_callI (wM g0 ak av ah ac cA b c pl bl n lv pt gk gv gh gc) (ci := 0) (q0 := 0) (rest := []) C (c_X0_buckets _ _ ok hx) gL_law_X0_buckets rfl rfl rfl hdX0_buckets (by decide) rfl rfl rfl rfl (Nat.le_of_ble_eq_true rfl) dL_law_256 (fun r1 _ hw1 => ?_)
      refine g_swap ?_
      show G K 9 8648 259 [(3, .int (nI (4 + 3 * t))), (0, .ref sb), (1, .ref h0), (2, .ref g0)] [.int r1] (wX h0 hk hv hr cA nk bl b c pl bl n lv pt fk fv fr ++ wM g0 ak av ah ac cA b c pl bl n lv pt gk gv gh gc)
      refine g_aload_n C dL_law_259 3 rfl rfl ?_
      refine g_callI (wX h0 hk hv hr cA nk bl b c pl bl n lv pt fk fv fr) (ci := 1) (q0 := 0) (rest := [.int r1]) C (c_X1_buckets _ _ ok) gL_law_X1_buckets rfl rfl rfl hdX1_buckets (by decide) rfl rfl rfl rfl (Nat.le_of_ble_eq_true rfl) dL_law_260 (fun r2 _ hw2 => ?_)
      show G K 9 8648 263 [(3, .int (nI (4 + 3 * t))), (0, .ref sb), (1, .ref h0), (2, .ref g0)] [.int r2, .int r1] (wX h0 hk hv hr cA nk bl b c pl bl n lv pt fk fv fr ++ wM g0 ak av ah ac cA b c pl bl n lv pt gk gv gh gc)
      have er : r1 = r2 := hw1.trans hw2.symm
      have R1 := R0.later
      refine g_icmp_eqI C 397 dL_law_263 (by decide) (fun _ => ?_) (fun hne => absurd er hne)
      exact tail _ _ _ _ _ _ _ _ _ _ R1
    · refine g_tableIn C 268 dL_law_72 (by decide) (by decide) rfl (by decide) ?_
      refine g_aload_n C dL_law_268 2 rfl rfl ?_
      refine g_swap ?_
      refine g_callI (wM g0 ak av ah ac cA b c pl bl n lv pt gk gv gh gc) (ci := 0) (q0 := 0) (rest := []) C (c_X0_level _ _ ok hx) gL_law_X0_level rfl rfl rfl hdX0_level (by decide) rfl rfl rfl rfl (Nat.le_of_ble_eq_true rfl) dL_law_269 (fun r1 _ hw1 => ?_)
      refine g_swap ?_
      show G K 9 8648 272 [(3, .int (nI (4 + 3 * t))), (0, .ref sb), (1, .ref h0), (2, .ref g0)] [.int r1] (wX h0 hk hv hr cA nk bl b c pl bl n lv pt fk fv fr ++ wM g0 ak av ah ac cA b c pl bl n lv pt gk gv gh gc)
      refine g_aload_n C dL_law_272 3 rfl rfl ?_
      refine g_callI (wX h0 hk hv hr cA nk bl b c pl bl n lv pt fk fv fr) (ci := 1) (q0 := 0) (rest := [.int r1]) C (c_X1_level _ _ ok) gL_law_X1_level rfl rfl rfl hdX1_level (by decide) rfl rfl rfl rfl (Nat.le_of_ble_eq_true rfl) dL_law_273 (fun r2 _ hw2 => ?_)
      show G K 9 8648 276 [(3, .int (nI (4 + 3 * t))), (0, .ref sb), (1, .ref h0), (2, .ref g0)] [.int r2, .int r1] (wX h0 hk hv hr cA nk bl b c pl bl n lv pt fk fv fr ++ wM g0 ak av ah ac cA b c pl bl n lv pt gk gv gh gc)
      have er : r1 = r2 := hw1.trans hw2.symm
      have R1 := R0.later
      refine g_icmp_eqI C 397 dL_law_276 (by decide) (fun _ => ?_) (fun hne => absurd er hne)
      exact tail _ _ _ _ _ _ _ _ _ _ R1
    · refine g_tableIn C 281 dL_law_72 (by decide) (by decide) rfl (by decide) ?_
      refine g_aload_n C dL_law_281 2 rfl rfl ?_
      refine g_swap ?_
      refine g_callI (wM g0 ak av ah ac cA b c pl bl n lv pt gk gv gh gc) (ci := 0) (q0 := 0) (rest := []) C (c_X0_pointer _ _ ok hx) gL_law_X0_pointer rfl rfl rfl hdX0_pointer (by decide) rfl rfl rfl rfl (Nat.le_of_ble_eq_true rfl) dL_law_282 (fun r1 _ hw1 => ?_)
      refine g_swap ?_
      show G K 9 8648 285 [(3, .int (nI (4 + 3 * t))), (0, .ref sb), (1, .ref h0), (2, .ref g0)] [.int r1] (wX h0 hk hv hr cA nk bl b c pl bl n lv pt fk fv fr ++ wM g0 ak av ah ac cA b c pl bl n lv pt gk gv gh gc)
      refine g_aload_n C dL_law_285 3 rfl rfl ?_
      refine g_callI (wX h0 hk hv hr cA nk bl b c pl bl n lv pt fk fv fr) (ci := 1) (q0 := 0) (rest := [.int r1]) C (c_X1_pointer _ _ ok) gL_law_X1_pointer rfl rfl rfl hdX1_pointer (by decide) rfl rfl rfl rfl (Nat.le_of_ble_eq_true rfl) dL_law_286 (fun r2 _ hw2 => ?_)
      show G K 9 8648 289 [(3, .int (nI (4 + 3 * t))), (0, .ref sb), (1, .ref h0), (2, .ref g0)] [.int r2, .int r1] (wX h0 hk hv hr cA nk bl b c pl bl n lv pt fk fv fr ++ wM g0 ak av ah ac cA b c pl bl n lv pt gk gv gh gc)
      have er : r1 = r2 := hw1.trans hw2.symm
      have R1 := R0.later
      refine g_icmp_eqI C 397 dL_law_289 (by decide) (fun _ => ?_) (fun hne => absurd er hne)
      exact tail _ _ _ _ _ _ _ _ _ _ R1
    · refine g_tableIn C 294 dL_law_72 (by decide) (by decide) rfl (by decide) ?_
      refine g_aload_n C dL_law_294 2 rfl rfl ?_
      refine g_aload_n C dL_law_295 1 rfl rfl ?_
      refine g_iload_n C dL_law_296 0 rfl rfl ?_
      refine g_iconst (v := nI 1) C dL_law_297 (by decide) ?_
      refine g_iadd C dL_law_298 ?_
      refine g_sld C hX hbl hbA (by omega) dL_law_299 (by omega) ?_
      refine g_swap ?_
      refine g_callI (wM g0 ak av ah ac cA b c pl bl n lv pt gk gv gh gc) (ci := 0) (q0 := 0) (rest := []) C (c_X0_bucketOf _ _ ok hx (xs (4 + 3 * t + 1))) gL_law_X0_bucketOf rfl rfl rfl hdX0_bucketOf (by decide) rfl rfl rfl rfl (Nat.le_of_ble_eq_true rfl) dL_law_300 (fun r1 _ hw1 => ?_)
      refine g_swap ?_
      show G K 9 8648 303 [(3, .int (nI (4 + 3 * t))), (0, .ref sb), (1, .ref h0), (2, .ref g0)] [.int r1] (wX h0 hk hv hr cA nk bl b c pl bl n lv pt fk fv fr ++ wM g0 ak av ah ac cA b c pl bl n lv pt gk gv gh gc)
      refine g_aload_n C dL_law_303 3 rfl rfl ?_
      refine g_aload_n C dL_law_304 1 rfl rfl ?_
      refine g_iload_n C dL_law_305 0 rfl rfl ?_
      refine g_iconst (v := nI 1) C dL_law_306 (by decide) ?_
      refine g_iadd C dL_law_307 ?_
      refine g_sld C hX hbl hbA (by omega) dL_law_308 (by omega) ?_
      refine g_callI (wX h0 hk hv hr cA nk bl b c pl bl n lv pt fk fv fr) (ci := 1) (q0 := 0) (rest := [.int r1]) C (c_X1_bucketOf _ _ ok (xs (4 + 3 * t + 1))) gL_law_X1_bucketOf rfl rfl rfl hdX1_bucketOf (by decide) rfl rfl rfl rfl (Nat.le_of_ble_eq_true rfl) dL_law_309 (fun r2 _ hw2 => ?_)
      show G K 9 8648 312 [(3, .int (nI (4 + 3 * t))), (0, .ref sb), (1, .ref h0), (2, .ref g0)] [.int r2, .int r1] (wX h0 hk hv hr cA nk bl b c pl bl n lv pt fk fv fr ++ wM g0 ak av ah ac cA b c pl bl n lv pt gk gv gh gc)
      have er : r1 = r2 := hw1.trans hw2.symm
      have R1 := R0.later
      refine g_icmp_eqI C 397 dL_law_312 (by decide) (fun _ => ?_) (fun hne => absurd er hne)
      exact tail _ _ _ _ _ _ _ _ _ _ R1
    · refine g_tableIn C 317 dL_law_72 (by decide) (by decide) rfl (by decide) ?_
      refine g_aload_n C dL_law_317 2 rfl rfl ?_
      refine g_aload_n C dL_law_318 1 rfl rfl ?_
      refine g_iload_n C dL_law_319 0 rfl rfl ?_
      refine g_iconst (v := nI 1) C dL_law_320 (by decide) ?_
      refine g_iadd C dL_law_321 ?_
      refine g_sld C hX hbl hbA (by omega) dL_law_322 (by omega) ?_
      refine g_swap ?_
      refine g_callI (wM g0 ak av ah ac cA b c pl bl n lv pt gk gv gh gc) (ci := 0) (q0 := 0) (rest := []) C (c_X0_pages _ _ ok hx (xs (4 + 3 * t + 1))) gL_law_X0_pages rfl rfl rfl hdX0_pages (by decide) rfl rfl rfl rfl (Nat.le_of_ble_eq_true rfl) dL_law_323 (fun r1 _ hw1 => ?_)
      refine g_swap ?_
      show G K 9 8648 326 [(3, .int (nI (4 + 3 * t))), (0, .ref sb), (1, .ref h0), (2, .ref g0)] [.int r1] (wX h0 hk hv hr cA nk bl b c pl bl n lv pt fk fv fr ++ wM g0 ak av ah ac cA b c pl bl n lv pt gk gv gh gc)
      refine g_aload_n C dL_law_326 3 rfl rfl ?_
      refine g_aload_n C dL_law_327 1 rfl rfl ?_
      refine g_iload_n C dL_law_328 0 rfl rfl ?_
      refine g_iconst (v := nI 1) C dL_law_329 (by decide) ?_
      refine g_iadd C dL_law_330 ?_
      refine g_sld C hX hbl hbA (by omega) dL_law_331 (by omega) ?_
      refine g_callI (wX h0 hk hv hr cA nk bl b c pl bl n lv pt fk fv fr) (ci := 1) (q0 := 0) (rest := [.int r1]) C (c_X1_pages _ _ ok (xs (4 + 3 * t + 1)) hho) gL_law_X1_pages rfl rfl rfl hdX1_pages (by decide) rfl rfl rfl rfl (Nat.le_of_ble_eq_true rfl) dL_law_332 (fun r2 f2 hw2 => ?_)
      show G K 9 8648 335 [(3, .int (nI (4 + 3 * t))), (0, .ref sb), (1, .ref h0), (2, .ref g0)] [.int r2, .int r1] (wX h0 hk hv hr cA nk bl b c pl bl n lv pt fk fv fr ++ wM g0 ak av ah ac cA b c pl bl n lv pt gk gv gh f2)
      have er : r1 = r2 := rel_pages ak1 (by omega) hw1 hw2
      have R1 := R0.later
      refine g_icmp_eqI C 397 dL_law_335 (by decide) (fun _ => ?_) (fun hne => absurd er hne)
      exact tail _ _ _ _ _ _ _ _ _ _ R1
    · refine g_tableIn C 340 dL_law_72 (by decide) (by decide) rfl (by decide) ?_
      refine g_aload_n C dL_law_340 2 rfl rfl ?_
      refine g_swap ?_
      refine g_callI (wM g0 ak av ah ac cA b c pl bl n lv pt gk gv gh gc) (ci := 0) (q0 := 0) (rest := []) C (c_X0_free _ _ ok hx) gL_law_X0_free rfl rfl rfl hdX0_free (by decide) rfl rfl rfl rfl (Nat.le_of_ble_eq_true rfl) dL_law_341 (fun r1 f1 hw1 => ?_)
      refine g_swap ?_
      show G K 9 8648 344 [(3, .int (nI (4 + 3 * t))), (0, .ref sb), (1, .ref h0), (2, .ref g0)] [.int r1] (wX h0 hk hv hr cA nk bl b c pl bl n lv pt fk fv f1 ++ wM g0 ak av ah ac cA b c pl bl n lv pt gk gv gh gc)
      refine g_aload_n C dL_law_344 3 rfl rfl ?_
      refine g_callI (wX h0 hk hv hr cA nk bl b c pl bl n lv pt fk fv f1) (ci := 1) (q0 := 0) (rest := [.int r1]) C (c_X1_free _ _ ok hho) gL_law_X1_free rfl rfl rfl hdX1_free (by decide) rfl rfl rfl rfl (Nat.le_of_ble_eq_true rfl) dL_law_345 (fun r2 f2 hw2 => ?_)
      show G K 9 8648 348 [(3, .int (nI (4 + 3 * t))), (0, .ref sb), (1, .ref h0), (2, .ref g0)] [.int r2, .int r1] (wX h0 hk hv hr cA nk bl b c pl bl n lv pt fk fv f1 ++ wM g0 ak av ah ac cA b c pl bl n lv pt gk gv gh f2)
      have er : r1 = r2 := (by rw [hw1, hw2, ndP_congr ak1])
      have R1 := R0.later
      refine g_icmp_eqI C 397 dL_law_348 (by decide) (fun _ => ?_) (fun hne => absurd er hne)
      exact tail _ _ _ _ _ _ _ _ _ _ R1
    · refine g_tableIn C 353 dL_law_72 (by decide) (by decide) rfl (by decide) ?_
      refine g_aload_n C dL_law_353 2 rfl rfl ?_
      refine g_aload_n C dL_law_354 1 rfl rfl ?_
      refine g_iload_n C dL_law_355 0 rfl rfl ?_
      refine g_iconst (v := nI 1) C dL_law_356 (by decide) ?_
      refine g_iadd C dL_law_357 ?_
      refine g_sld C hX hbl hbA (by omega) dL_law_358 (by omega) ?_
      refine g_aload_n C dL_law_359 1 rfl rfl ?_
      refine g_iload_n C dL_law_360 0 rfl rfl ?_
      refine g_iconst (v := nI 2) C dL_law_361 (by decide) ?_
      refine g_iadd C dL_law_362 ?_
      refine g_sld C hX hbl hbA (by omega) dL_law_363 (by omega) ?_
      refine g_swap ?_
      refine g_callI (wM g0 ak av ah ac cA b c pl bl n lv pt gk gv gh gc) (ci := 0) (q0 := 0) (rest := []) C (c_X0_key _ _ ok hx (xs (4 + 3 * t + 1)) (xs (4 + 3 * t + 2))) gL_law_X0_key rfl rfl rfl hdX0_key (by decide) rfl rfl rfl rfl (Nat.le_of_ble_eq_true rfl) dL_law_364 (fun r1 _ hw1 => ?_)
      refine g_swap ?_
      show G K 9 8648 367 [(3, .int (nI (4 + 3 * t))), (0, .ref sb), (1, .ref h0), (2, .ref g0)] [.int r1] (wX h0 hk hv hr cA nk bl b c pl bl n lv pt fk fv fr ++ wM g0 ak av ah ac cA b c pl bl n lv pt gk gv gh gc)
      refine g_aload_n C dL_law_367 3 rfl rfl ?_
      refine g_aload_n C dL_law_368 1 rfl rfl ?_
      refine g_iload_n C dL_law_369 0 rfl rfl ?_
      refine g_iconst (v := nI 1) C dL_law_370 (by decide) ?_
      refine g_iadd C dL_law_371 ?_
      refine g_sld C hX hbl hbA (by omega) dL_law_372 (by omega) ?_
      refine g_aload_n C dL_law_373 1 rfl rfl ?_
      refine g_iload_n C dL_law_374 0 rfl rfl ?_
      refine g_iconst (v := nI 2) C dL_law_375 (by decide) ?_
      refine g_iadd C dL_law_376 ?_
      refine g_sld C hX hbl hbA (by omega) dL_law_377 (by omega) ?_
      refine g_callI (wX h0 hk hv hr cA nk bl b c pl bl n lv pt fk fv fr) (ci := 1) (q0 := 0) (rest := [.int r1]) C (c_X1_key _ _ ok (xs (4 + 3 * t + 1)) (xs (4 + 3 * t + 2)) hho) gL_law_X1_key rfl rfl rfl hdX1_key (by decide) rfl rfl rfl rfl (Nat.le_of_ble_eq_true rfl) dL_law_378 (fun r2 _ hw2 => ?_)
      show G K 9 8648 381 [(3, .int (nI (4 + 3 * t))), (0, .ref sb), (1, .ref h0), (2, .ref g0)] [.int r2, .int r1] (wX h0 hk hv hr cA nk bl b c pl bl n lv pt fk fv fr ++ wM g0 ak av ah ac cA b c pl bl n lv pt gk gv gh gc)
      have er : r1 = r2 := rel_key ak1 (by omega) hw1 hw2
      have R1 := R0.later
      refine g_icmp_eqI C 397 dL_law_381 (by decide) (fun _ => ?_) (fun hne => absurd er hne)
      exact tail _ _ _ _ _ _ _ _ _ _ R1
    · refine g_tableIn C 386 dL_law_72 (by decide) (by decide) rfl (by decide) ?_
      refine g_aload_n C dL_law_386 2 rfl rfl ?_
      refine g_swap ?_
      refine g_callV (wM g0 ak av ah ac cA b c pl bl n lv pt gk gv gh gc) (ci := 0) (q0 := 0) (rest := []) C (c_X0_clear _ _ ok hx) gL_law_X0_clear rfl rfl rfl hdX0_clear (by decide) rfl rfl rfl rfl (Nat.le_of_ble_eq_true rfl) dL_law_387 (fun _ _ => ?_)
      refine g_swap ?_
      show G K 9 8648 390 [(3, .int (nI (4 + 3 * t))), (0, .ref sb), (1, .ref h0), (2, .ref g0)] [] (wX h0 hk hv hr cA nk bl b c pl bl 0 0 0 fk fv fr ++ wM g0 ak av ah ac cA b c pl bl n lv pt gk gv gh gc)
      refine g_aload_n C dL_law_390 3 rfl rfl ?_
      refine g_callV (wX h0 hk hv hr cA nk bl b c pl bl 0 0 0 fk fv fr) (ci := 1) (q0 := 0) (rest := []) C (c_X1_clear _ _ ok) gL_law_X1_clear rfl rfl rfl hdX1_clear (by decide) rfl rfl rfl rfl (Nat.le_of_ble_eq_true rfl) dL_law_391 (fun _ _ => ?_)
      show G K 9 8648 394 [(3, .int (nI (4 + 3 * t))), (0, .ref sb), (1, .ref h0), (2, .ref g0)] [] (wX h0 hk hv hr cA nk bl b c pl bl 0 0 0 fk fv fr ++ wM g0 ak av ah ac cA b c pl bl 0 0 0 gk gv gh gc)
      have R1 := rel_clear R0
      refine g_goto C 397 dL_law_394 (by decide) ?_
      exact tail _ _ _ _ _ _ _ _ _ _ R1
    · refine g_tableOut C 397 dL_law_72 (Or.inr (by rw [nI_toInt (by omega)]; omega)) (by decide) ?_
      exact tail _ _ _ _ _ _ _ _ _ _ R0.later
