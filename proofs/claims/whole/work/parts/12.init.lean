/-! bounds brought within, constructors -/
def cl3 (x lo hi : Int32) : Int32 := if lo < (if x < hi then x else hi) then (if x < hi then x else hi) else lo
def clM (x lo hi : Int32) : Int32 := if x < lo then lo else if hi < x then hi else x
theorem cl_mid {x : Int32} {lo hi : Nat} (h1 : ¬ x < nI lo) (h2 : ¬ nI hi < x) (hl : lo < 2 ^ 31) (hh : hi < 2 ^ 31) : ∃ j, lo ≤ j ∧ j ≤ hi ∧ x = nI j := by
  rw [Int32.lt_iff_toInt_lt, nI_toInt hl] at h1
  rw [Int32.lt_iff_toInt_lt, nI_toInt hh] at h2
  have h0 : ¬ x < 0 := by
    rw [Int32.lt_iff_toInt_lt, show (0 : Int32).toInt = 0 from rfl]
    omega
  obtain ⟨j, hj, rfl⟩ := nI_of h0
  rw [nI_toInt hj] at h1 h2
  exact ⟨j, by omega, by omega, rfl⟩
theorem cl_both (x : Int32) {lo hi : Nat} (h : lo ≤ hi) (hh : hi < 2 ^ 31) : ∃ j, lo ≤ j ∧ j ≤ hi ∧ cl3 x (nI lo) (nI hi) = nI j ∧ clM x (nI lo) (nI hi) = nI j := by
  unfold cl3 clM
  by_cases h1 : x < nI lo
  · refine ⟨lo, Nat.le_refl _, h, ?_, by rw [if_pos h1]⟩
    have h2 : x < nI hi := by
      rw [Int32.lt_iff_toInt_lt, nI_toInt (by omega)] at h1
      rw [Int32.lt_iff_toInt_lt, nI_toInt hh]
      omega
    have h3 : ¬ nI lo < x := by
      rw [Int32.lt_iff_toInt_lt, nI_toInt (by omega)] at h1 ⊢
      omega
    rw [if_pos h2, if_neg h3]
  · by_cases h2 : nI hi < x
    · refine ⟨hi, h, Nat.le_refl _, ?_, by rw [if_neg h1, if_pos h2]⟩
      have h3 : ¬ x < nI hi := by
        rw [Int32.lt_iff_toInt_lt, nI_toInt hh] at h2 ⊢
        omega
      rw [if_neg h3]
      by_cases h4 : lo = hi
      · subst h4
        split <;> rfl
      · rw [if_pos ((nI_ltI (by omega) hh).mpr (by omega))]
    · obtain ⟨j, a1, a2, rfl⟩ := cl_mid h1 h2 (by omega) hh
      refine ⟨j, a1, a2, ?_, by rw [if_neg h1, if_neg h2]⟩
      have h5 : (if nI j < nI hi then nI j else nI hi) = nI j := by
        by_cases e : j < hi
        · rw [if_pos ((nI_ltI (by omega) hh).mpr e)]
        · rw [show j = hi by omega]; split <;> rfl
      rw [h5]
      by_cases e : lo < j
      · rw [if_pos ((nI_ltI (by omega) (by omega)).mpr e)]
      · rw [show j = lo by omega]; split <;> rfl
theorem mn_512 {m : Nat} (h : m < 2 ^ 31) : (if nI 512 < nI m then nI 512 else nI m) = nI (min m 512) := by
  by_cases e : 512 < m
  · rw [if_pos ((nI_ltI (by omega) h).mpr e), Nat.min_eq_right (by omega)]
  · rw [if_neg (fun q => e ((nI_ltI (by omega) h).mp q)), Nat.min_eq_left (by omega)]
theorem pdX0_4 : parseFieldDescriptor (TX0 4).2.2.1 = some (.array .int) := by decide +kernel
theorem pdX0_5 : parseFieldDescriptor (TX0 5).2.2.1 = some (.array .int) := by decide +kernel
theorem pdX0_9 : parseFieldDescriptor (TX0 9).2.2.1 = some (.array .int) := by decide +kernel
theorem pdX0_0 : parseFieldDescriptor (TX0 0).2.2.1 = some .int := by decide +kernel
theorem pdX0_1 : parseFieldDescriptor (TX0 1).2.2.1 = some .int := by decide +kernel
theorem pdX0_2 : parseFieldDescriptor (TX0 2).2.2.1 = some .int := by decide +kernel
theorem pdX0_3 : parseFieldDescriptor (TX0 3).2.2.1 = some .int := by decide +kernel
theorem pdX1_5 : parseFieldDescriptor (TX1 5).2.2.1 = some (.array .int) := by decide +kernel
theorem pdX1_6 : parseFieldDescriptor (TX1 6).2.2.1 = some (.array .int) := by decide +kernel
theorem pdX1_7 : parseFieldDescriptor (TX1 7).2.2.1 = some (.array .int) := by decide +kernel
theorem pdX1_10 : parseFieldDescriptor (TX1 10).2.2.1 = some (.array .int) := by decide +kernel
theorem pdX1_0 : parseFieldDescriptor (TX1 0).2.2.1 = some .int := by decide +kernel
theorem pdX1_1 : parseFieldDescriptor (TX1 1).2.2.1 = some .int := by decide +kernel
theorem pdX1_2 : parseFieldDescriptor (TX1 2).2.2.1 = some .int := by decide +kernel
theorem pdX1_3 : parseFieldDescriptor (TX1 3).2.2.1 = some .int := by decide +kernel
theorem inX0_init : ∀ w ∈ wsX00, w ∈ wsX0_init := fun w h => List.mem_cons_of_mem _ (List.mem_append_right _ h)
theorem lkX0_init_13 : Cond.fieldLink RX0 13 (TX0 0).1 (TX0 0).2.1 (TX0 0).2.2.1 ∈ wsX0_init := by decide +kernel
theorem lkX0_init_17 : Cond.fieldLink RX0 17 (TX0 1).1 (TX0 1).2.1 (TX0 1).2.2.1 ∈ wsX0_init := by decide +kernel
theorem lkX0_init_20 : Cond.fieldLink RX0 20 (TX0 2).1 (TX0 2).2.1 (TX0 2).2.2.1 ∈ wsX0_init := by decide +kernel
theorem lkX0_init_23 : Cond.fieldLink RX0 23 (TX0 3).1 (TX0 3).2.1 (TX0 3).2.2.1 ∈ wsX0_init := by decide +kernel
theorem lkX0_init_32 : Cond.fieldLink RX0 32 (TX0 4).1 (TX0 4).2.1 (TX0 4).2.2.1 ∈ wsX0_init := by decide +kernel
theorem lkX0_init_36 : Cond.fieldLink RX0 36 (TX0 5).1 (TX0 5).2.1 (TX0 5).2.2.1 ∈ wsX0_init := by decide +kernel
theorem lkX0_init_39 : Cond.fieldLink RX0 39 (TX0 9).1 (TX0 9).2.1 (TX0 9).2.2.1 ∈ wsX0_init := by decide +kernel
theorem inX1_init : ∀ w ∈ wsX10, w ∈ wsX1_init := fun w h => List.mem_cons_of_mem _ (List.mem_append_right _ h)
theorem lkX1_init_7 : Cond.fieldLink RX1 7 (TX1 5).1 (TX1 5).2.1 (TX1 5).2.2.1 ∈ wsX1_init := by decide +kernel
theorem lkX1_init_13 : Cond.fieldLink RX1 13 (TX1 6).1 (TX1 6).2.1 (TX1 6).2.2.1 ∈ wsX1_init := by decide +kernel
theorem lkX1_init_16 : Cond.fieldLink RX1 16 (TX1 7).1 (TX1 7).2.1 (TX1 7).2.2.1 ∈ wsX1_init := by decide +kernel
theorem lkX1_init_19 : Cond.fieldLink RX1 19 (TX1 10).1 (TX1 10).2.1 (TX1 10).2.2.1 ∈ wsX1_init := by decide +kernel
theorem lkX1_init_22 : Cond.fieldLink RX1 22 (TX1 0).1 (TX1 0).2.1 (TX1 0).2.2.1 ∈ wsX1_init := by decide +kernel
theorem lkX1_init_26 : Cond.fieldLink RX1 26 (TX1 1).1 (TX1 1).2.1 (TX1 1).2.2.1 ∈ wsX1_init := by decide +kernel
theorem lkX1_init_29 : Cond.fieldLink RX1 29 (TX1 2).1 (TX1 2).2.1 (TX1 2).2.2.1 ∈ wsX1_init := by decide +kernel
theorem lkX1_init_32 : Cond.fieldLink RX1 32 (TX1 3).1 (TX1 3).2.1 (TX1 3).2.2.1 ∈ wsX1_init := by decide +kernel
set_option maxHeartbeats 4000000 in
set_option maxRecDepth 100000 in
theorem c_X0_within (l : Launch) (D : va_G) {cA : ClassId} (x lo hi : Int32) : MetI (S := Unit) l yX0_within wsX0_within ({ frames := 1, cells := 0, slots := 0, locals := 14 } : Room) D [(cA, .int)] [.int x, .int lo, .int hi] [] (fun _ => []) (fun r _ => r = cl3 x lo hi) 0 0 := by
  refine MetI_of (cc := cX0_within) (maxL := 3) (rt := .int) (lv0 := [(0, .int x), (1, .int lo), (2, .int hi)]) (by decide) rfl (Nat.le_of_ble_eq_true rfl) rfl ?_
  intro K _ _ C hret
  have C : Cx K ({ frames := 1, cells := 0, slots := 0, locals := 14 } : Room) 3 cX0_within RX0 wsX0_within [(cA, .int)] := C
  refine g_iload_n C dX0_within_0 1 rfl rfl ?_
  refine g_iload_n C dX0_within_1 2 rfl rfl ?_
  refine g_iload_n C dX0_within_2 0 rfl rfl ?_
  refine g_mmin C (by decide +kernel) dX0_within_3 ⟨by decide, Nat.le_of_ble_eq_true rfl, by decide, by decide⟩ ?_
  refine g_mmax C (by decide +kernel) dX0_within_6 ⟨by decide, Nat.le_of_ble_eq_true rfl, by decide, by decide⟩ ?_
  exact hret _ _ _ () dX0_within_9 rfl rfl
theorem hdX0_within : yX0_within.cls ≠ "java/lang/invoke/MethodHandle" ∧ yX0_within.cls ≠ "java/lang/invoke/VarHandle" ∧ (parseMethodDescriptor yX0_within.desc).map (fun d => d.parameters.length) = some 3 := by decide +kernel
set_option maxHeartbeats 4000000 in
set_option maxRecDepth 100000 in
theorem c_X0_init (l : Launch) (D : va_G) {cA : ClassId} {h0 b c pl bl nk : Nat} (a1 a2 a3 a4 : Int32) (eb : cl3 a1 (nI 1) (nI 8) = nI b) (ec : cl3 a2 (nI 1) (nI 8) = nI c) (ep : cl3 a3 (nI 8) (nI 300) = nI pl) (el : cl3 a4 (nI b) (nI 200) = nI bl) (enk : nk = min (pl * c) 512) (hpc : pl * c < 2 ^ 31) (hbl : bl ≤ 200) : MetV (S := Nat × Nat × Nat) l yX0_init wsX0_init ({ frames := 2, cells := 3, slots := 1224, locals := 36 } : Room) D [(cA, .int)] [.ref h0, .int a1, .int a2, .int a3, .int a4] [(h0, .inr (0, [.int 0, .int 0, .int 0, .int 0, .null, .null, .int 0, .int 0, .int 0, .null]))] (fun u => wX h0 u.1 u.2.1 u.2.2 cA nk bl b c pl bl 0 0 0 (fun _ => 0) (fun _ => 0) (fun _ => 0)) (fun _ => True) 3 1224 := by
  refine MetV_of (cc := cX0_init) (maxL := 6) (lv0 := [(0, .ref h0), (1, .int a1), (2, .int a2), (3, .int a3), (4, .int a4)]) (by decide) rfl (Nat.le_of_ble_eq_true rfl) rfl ?_
  intro K _ _ C hnm hret
  have C : Cx K ({ frames := 2, cells := 3, slots := 1224, locals := 36 } : Room) 6 cX0_init RX0 wsX0_init [(cA, .int)] := C
  have hnk : nk ≤ 512 := by rw [enk]; exact Nat.min_le_right _ _
  refine g_aload_n C dX0_init_0 0 rfl rfl ?_
  refine g_objInit C (by decide +kernel) dX0_init_1 ⟨by decide, Nat.le_of_ble_eq_true rfl⟩ ?_
  refine g_aload_n C dX0_init_4 0 rfl rfl ?_
  refine g_iload_n C dX0_init_5 1 rfl rfl ?_
  refine g_iconst (v := nI 1) C dX0_init_6 (by decide) ?_
  refine g_bipush (v := nI 8) C dX0_init_7 (by decide) ?_
  refine g_callS (rest := [.ref h0]) C (c_X0_within _ _ a1 (nI 1) (nI 8)) gX0_init_X0_within rfl rfl rfl hdX0_within (by decide) rfl rfl (Nat.le_of_ble_eq_true rfl) dX0_init_9 (fun r hw => ?_)
  rw [eb] at hw
  subst hw
  refine g_putF (ci := 0) (ty := .int) (ws' := [(h0, .inr (0, [.int (nI b), .int 0, .int 0, .int 0, .null, .null, .int 0, .int 0, .int 0, .null]))]) C inX0_init tyX0 tyX0_ok nmX0 rfl hnm 0 0 (by decide) lkX0_init_13 rfl rfl pdX0_0 dX0_init_12 rfl rfl rfl (Nat.le_of_ble_eq_true rfl) rfl ?_
  refine g_aload_n C dX0_init_15 0 rfl rfl ?_
  refine g_iload_n C dX0_init_16 2 rfl rfl ?_
  refine g_iconst (v := nI 1) C dX0_init_17 (by decide) ?_
  refine g_bipush (v := nI 8) C dX0_init_18 (by decide) ?_
  refine g_callS (rest := [.ref h0]) C (c_X0_within _ _ a2 (nI 1) (nI 8)) gX0_init_X0_within rfl rfl rfl hdX0_within (by decide) rfl rfl (Nat.le_of_ble_eq_true rfl) dX0_init_20 (fun r hw => ?_)
  rw [ec] at hw
  subst hw
  refine g_putF (ci := 0) (ty := .int) (ws' := [(h0, .inr (0, [.int (nI b), .int (nI c), .int 0, .int 0, .null, .null, .int 0, .int 0, .int 0, .null]))]) C inX0_init tyX0 tyX0_ok nmX0 rfl hnm 0 1 (by decide) lkX0_init_17 rfl rfl pdX0_1 dX0_init_23 rfl rfl rfl (Nat.le_of_ble_eq_true rfl) rfl ?_
  refine g_aload_n C dX0_init_26 0 rfl rfl ?_
  refine g_iload_n C dX0_init_27 3 rfl rfl ?_
  refine g_bipush (v := nI 8) C dX0_init_28 (by decide) ?_
  refine g_sipush (v := nI 300) C dX0_init_30 (by decide) ?_
  refine g_callS (rest := [.ref h0]) C (c_X0_within _ _ a3 (nI 8) (nI 300)) gX0_init_X0_within rfl rfl rfl hdX0_within (by decide) rfl rfl (Nat.le_of_ble_eq_true rfl) dX0_init_33 (fun r hw => ?_)
  rw [ep] at hw
  subst hw
  refine g_putF (ci := 0) (ty := .int) (ws' := [(h0, .inr (0, [.int (nI b), .int (nI c), .int (nI pl), .int 0, .null, .null, .int 0, .int 0, .int 0, .null]))]) C inX0_init tyX0 tyX0_ok nmX0 rfl hnm 0 2 (by decide) lkX0_init_20 rfl rfl pdX0_2 dX0_init_36 rfl rfl rfl (Nat.le_of_ble_eq_true rfl) rfl ?_
  refine g_aload_n C dX0_init_39 0 rfl rfl ?_
  refine g_iload C dX0_init_40 4 rfl ?_
  refine g_aload_n C dX0_init_42 0 rfl rfl ?_
  refine g_get (ci := 0) C inX0_init rfl 0 0 (by decide) lkX0_init_13 dX0_init_43 rfl rfl ?_
  refine g_sipush (v := nI 200) C dX0_init_46 (by decide) ?_
  refine g_callS (rest := [.ref h0]) C (c_X0_within _ _ a4 (nI b) (nI 200)) gX0_init_X0_within rfl rfl rfl hdX0_within (by decide) rfl rfl (Nat.le_of_ble_eq_true rfl) dX0_init_49 (fun r hw => ?_)
  rw [el] at hw
  subst hw
  refine g_putF (ci := 0) (ty := .int) (ws' := [(h0, .inr (0, [.int (nI b), .int (nI c), .int (nI pl), .int (nI bl), .null, .null, .int 0, .int 0, .int 0, .null]))]) C inX0_init tyX0 tyX0_ok nmX0 rfl hnm 0 3 (by decide) lkX0_init_23 rfl rfl pdX0_3 dX0_init_52 rfl rfl rfl (Nat.le_of_ble_eq_true rfl) rfl ?_
  refine g_aload_n C dX0_init_55 0 rfl rfl ?_
  refine g_get (ci := 0) C inX0_init rfl 0 2 (by decide) lkX0_init_20 dX0_init_56 rfl rfl ?_
  refine g_aload_n C dX0_init_59 0 rfl rfl ?_
  refine g_get (ci := 0) C inX0_init rfl 0 1 (by decide) lkX0_init_17 dX0_init_60 rfl rfl ?_
  refine g_imul C dX0_init_63 ?_
  refine g_sipush (v := nI 512) C dX0_init_64 (by decide) ?_
  refine g_mmin C (by decide +kernel) dX0_init_67 ⟨by decide, Nat.le_of_ble_eq_true rfl, by decide, by decide⟩ ?_
  refine g_top (y := nI nk) (by rw [enk]; exact mn_512 (by omega)) ?_
  refine g_istore (lv' := [(5, .int (nI nk)), (0, .ref h0), (1, .int a1), (2, .int a2), (3, .int a3), (4, .int a4)]) C dX0_init_70 (by decide) rfl ?_
  refine g_aload_n C dX0_init_72 1 rfl rfl ?_
  refine g_iload C dX0_init_73 0 rfl ?_
  refine g_newa (N := nk) C (by decide +kernel) dX0_init_75 (by omega) ⟨by decide, by show 0 + nk ≤ 1224; omega⟩ (fun q1 => ?_)
  refine g_putF (ci := 0) (ty := .array .int) (ws' := [(h0, .inr (0, [.int (nI b), .int (nI c), .int (nI pl), .int (nI bl), .ref q1, .null, .int 0, .int 0, .int 0, .null])), (q1, .inl (cA, nk, .inl (fun _ => 0)))]) C inX0_init tyX0 tyX0_ok nmX0 rfl hnm 0 4 (by decide) lkX0_init_32 rfl rfl pdX0_4 dX0_init_77 rfl rfl rfl (Nat.le_of_ble_eq_true rfl) rfl ?_
  refine g_aload_n C dX0_init_80 1 rfl rfl ?_
  refine g_iload C dX0_init_81 0 rfl ?_
  refine g_newa (N := nk) C (by decide +kernel) dX0_init_83 (by omega) ⟨by decide, by show 0 + nk + nk ≤ 1224; omega⟩ (fun q2 => ?_)
  refine g_putF (ci := 0) (ty := .array .int) (ws' := [(h0, .inr (0, [.int (nI b), .int (nI c), .int (nI pl), .int (nI bl), .ref q1, .ref q2, .int 0, .int 0, .int 0, .null])), (q1, .inl (cA, nk, .inl (fun _ => 0))), (q2, .inl (cA, nk, .inl (fun _ => 0)))]) C inX0_init tyX0 tyX0_ok nmX0 rfl hnm 0 5 (by decide) lkX0_init_36 rfl rfl pdX0_5 dX0_init_85 rfl rfl rfl (Nat.le_of_ble_eq_true rfl) rfl ?_
  refine g_aload_n C dX0_init_88 1 rfl rfl ?_
  refine g_aload_n C dX0_init_89 1 rfl rfl ?_
  refine g_get (ci := 0) C inX0_init rfl 0 3 (by decide) lkX0_init_23 dX0_init_90 rfl rfl ?_
  refine g_newa (N := bl) C (by decide +kernel) dX0_init_93 (by omega) ⟨by decide, by show 0 + nk + nk + bl ≤ 1224; omega⟩ (fun q3 => ?_)
  refine g_putF (ci := 0) (ty := .array .int) (ws' := [(h0, .inr (0, [.int (nI b), .int (nI c), .int (nI pl), .int (nI bl), .ref q1, .ref q2, .int 0, .int 0, .int 0, .ref q3])), (q1, .inl (cA, nk, .inl (fun _ => 0))), (q2, .inl (cA, nk, .inl (fun _ => 0))), (q3, .inl (cA, bl, .inl (fun _ => 0)))]) C inX0_init tyX0 tyX0_ok nmX0 rfl hnm 0 9 (by decide) lkX0_init_39 rfl rfl pdX0_9 dX0_init_95 rfl rfl rfl (Nat.le_of_ble_eq_true rfl) rfl ?_
  refine g_widen (k := 3) (n := 1224) (by omega) (by omega) ?_
  exact hret _ _ (q1, q2, q3) dX0_init_98 trivial
set_option maxHeartbeats 4000000 in
set_option maxRecDepth 100000 in
theorem c_X1_init (l : Launch) (D : va_G) {cA : ClassId} {g0 b c pl bl : Nat} (a1 a2 a3 a4 : Int32) (eb : clM a1 (nI 1) (nI 8) = nI b) (ec : clM a2 (nI 1) (nI 8) = nI c) (ep : clM a3 (nI 8) (nI 300) = nI pl) (el : clM a4 (nI b) (nI 200) = nI bl) : MetV (S := Nat × Nat × Nat × Nat) l yX1_init wsX1_init ({ frames := 1, cells := 4, slots := 7403, locals := 12 } : Room) D [(cA, .int)] [.ref g0, .int a1, .int a2, .int a3, .int a4] [(g0, .inr (1, [.int 0, .int 0, .int 0, .int 0, .int 0, .null, .null, .null, .int 0, .int 0, .null]))] (fun u => wM g0 u.1 u.2.1 u.2.2.1 u.2.2.2 cA b c pl bl 0 0 0 (fun _ => 0) (fun _ => 0) (fun _ => 0) (fun _ => 0)) (fun _ => True) 4 7403 := by
  refine MetV_of (cc := cX1_init) (maxL := 5) (lv0 := [(0, .ref g0), (1, .int a1), (2, .int a2), (3, .int a3), (4, .int a4)]) (by decide) rfl (Nat.le_of_ble_eq_true rfl) rfl ?_
  intro K _ _ C hnm hret
  have C : Cx K ({ frames := 1, cells := 4, slots := 7403, locals := 12 } : Room) 5 cX1_init RX1 wsX1_init [(cA, .int)] := C
  refine g_aload_n C dX1_init_0 0 rfl rfl ?_
  refine g_objInit C (by decide +kernel) dX1_init_1 ⟨by decide, Nat.le_of_ble_eq_true rfl⟩ ?_
  refine g_aload_n C dX1_init_4 0 rfl rfl ?_
  refine g_sipush (v := nI 2401) C dX1_init_5 (by decide) ?_
  refine g_newa (N := 2401) C (by decide +kernel) dX1_init_8 (by omega) (by decide) (fun q1 => ?_)
  refine g_putF (ci := 1) (ty := .array .int) (ws' := [(g0, .inr (1, [.int 0, .int 0, .int 0, .int 0, .int 0, .ref q1, .null, .null, .int 0, .int 0, .null])), (q1, .inl (cA, 2401, .inl (fun _ => 0)))]) C inX1_init tyX1 tyX1_ok nmX1 rfl hnm 0 5 (by decide) lkX1_init_7 rfl rfl pdX1_5 dX1_init_10 rfl rfl rfl (Nat.le_of_ble_eq_true rfl) rfl ?_
  refine g_aload_n C dX1_init_13 0 rfl rfl ?_
  refine g_sipush (v := nI 2401) C dX1_init_14 (by decide) ?_
  refine g_newa (N := 2401) C (by decide +kernel) dX1_init_17 (by omega) (by decide) (fun q2 => ?_)
  refine g_putF (ci := 1) (ty := .array .int) (ws' := [(g0, .inr (1, [.int 0, .int 0, .int 0, .int 0, .int 0, .ref q1, .ref q2, .null, .int 0, .int 0, .null])), (q1, .inl (cA, 2401, .inl (fun _ => 0))), (q2, .inl (cA, 2401, .inl (fun _ => 0)))]) C inX1_init tyX1 tyX1_ok nmX1 rfl hnm 0 6 (by decide) lkX1_init_13 rfl rfl pdX1_6 dX1_init_19 rfl rfl rfl (Nat.le_of_ble_eq_true rfl) rfl ?_
  refine g_aload_n C dX1_init_22 0 rfl rfl ?_
  refine g_sipush (v := nI 2401) C dX1_init_23 (by decide) ?_
  refine g_newa (N := 2401) C (by decide +kernel) dX1_init_26 (by omega) (by decide) (fun q3 => ?_)
  refine g_putF (ci := 1) (ty := .array .int) (ws' := [(g0, .inr (1, [.int 0, .int 0, .int 0, .int 0, .int 0, .ref q1, .ref q2, .ref q3, .int 0, .int 0, .null])), (q1, .inl (cA, 2401, .inl (fun _ => 0))), (q2, .inl (cA, 2401, .inl (fun _ => 0))), (q3, .inl (cA, 2401, .inl (fun _ => 0)))]) C inX1_init tyX1 tyX1_ok nmX1 rfl hnm 0 7 (by decide) lkX1_init_16 rfl rfl pdX1_7 dX1_init_28 rfl rfl rfl (Nat.le_of_ble_eq_true rfl) rfl ?_
  refine g_aload_n C dX1_init_31 0 rfl rfl ?_
  refine g_sipush (v := nI 200) C dX1_init_32 (by decide) ?_
  refine g_newa (N := 200) C (by decide +kernel) dX1_init_35 (by omega) (by decide) (fun q4 => ?_)
  refine g_putF (ci := 1) (ty := .array .int) (ws' := [(g0, .inr (1, [.int 0, .int 0, .int 0, .int 0, .int 0, .ref q1, .ref q2, .ref q3, .int 0, .int 0, .ref q4])), (q1, .inl (cA, 2401, .inl (fun _ => 0))), (q2, .inl (cA, 2401, .inl (fun _ => 0))), (q3, .inl (cA, 2401, .inl (fun _ => 0))), (q4, .inl (cA, 200, .inl (fun _ => 0)))]) C inX1_init tyX1 tyX1_ok nmX1 rfl hnm 0 10 (by decide) lkX1_init_19 rfl rfl pdX1_10 dX1_init_37 rfl rfl rfl (Nat.le_of_ble_eq_true rfl) rfl ?_
  show G K 4 7403 40 [(0, .ref g0), (1, .int a1), (2, .int a2), (3, .int a3), (4, .int a4)] [] [(g0, .inr (1, [.int 0, .int 0, .int 0, .int 0, .int 0, .ref q1, .ref q2, .ref q3, .int 0, .int 0, .ref q4])), (q1, .inl (cA, 2401, .inl (fun _ => 0))), (q2, .inl (cA, 2401, .inl (fun _ => 0))), (q3, .inl (cA, 2401, .inl (fun _ => 0))), (q4, .inl (cA, 200, .inl (fun _ => 0)))]
  refine g_aload_n C dX1_init_40 0 rfl rfl ?_
  suffices kj : G K 4 7403 62 [(0, .ref g0), (1, .int a1), (2, .int a2), (3, .int a3), (4, .int a4)] [.int (nI b), .ref g0] [(g0, .inr (1, [.int 0, .int 0, .int 0, .int 0, .int 0, .ref q1, .ref q2, .ref q3, .int 0, .int 0, .ref q4])), (q1, .inl (cA, 2401, .inl (fun _ => 0))), (q2, .inl (cA, 2401, .inl (fun _ => 0))), (q3, .inl (cA, 2401, .inl (fun _ => 0))), (q4, .inl (cA, 200, .inl (fun _ => 0)))] by
    refine g_iload_n C dX1_init_41 1 rfl rfl ?_
    refine g_iconst (v := nI 1) C dX1_init_42 (by decide) ?_
    refine g_icmp_geI C 50 dX1_init_43 (by decide) (fun hge => ?_) (fun hlt => ?_)
    · refine g_iload_n C dX1_init_50 1 rfl rfl ?_
      refine g_bipush (v := nI 8) C dX1_init_51 (by decide) ?_
      refine g_icmp_leI C 61 dX1_init_53 (by decide) (fun hle => ?_) (fun hgt => ?_)
      · refine g_iload_n C dX1_init_61 1 rfl rfl ?_
        refine g_top (y := nI b) (by rw [← eb]; unfold clM; rw [if_neg (Int32.not_lt.mpr hge), if_neg (Int32.not_lt.mpr hle)]) ?_
        exact kj
      · refine g_bipush (v := nI 8) C dX1_init_56 (by decide) ?_
        refine g_goto C 62 dX1_init_58 (by decide) ?_
        refine g_top (y := nI b) (by rw [← eb]; unfold clM; rw [if_neg (Int32.not_lt.mpr hge), if_pos (Int32.not_le.mp hgt)]) ?_
        exact kj
    · refine g_iconst (v := nI 1) C dX1_init_46 (by decide) ?_
      refine g_goto C 62 dX1_init_47 (by decide) ?_
      refine g_top (y := nI b) (by rw [← eb]; unfold clM; rw [if_pos (Int32.not_le.mp hlt)]) ?_
      exact kj
  refine g_putF (ci := 1) (ty := .int) (ws' := [(g0, .inr (1, [.int (nI b), .int 0, .int 0, .int 0, .int 0, .ref q1, .ref q2, .ref q3, .int 0, .int 0, .ref q4])), (q1, .inl (cA, 2401, .inl (fun _ => 0))), (q2, .inl (cA, 2401, .inl (fun _ => 0))), (q3, .inl (cA, 2401, .inl (fun _ => 0))), (q4, .inl (cA, 200, .inl (fun _ => 0)))]) C inX1_init tyX1 tyX1_ok nmX1 rfl hnm 0 0 (by decide) lkX1_init_22 rfl rfl pdX1_0 dX1_init_62 rfl rfl rfl (Nat.le_of_ble_eq_true rfl) rfl ?_
  refine g_aload_n C dX1_init_65 0 rfl rfl ?_
  suffices kj : G K 4 7403 87 [(0, .ref g0), (1, .int a1), (2, .int a2), (3, .int a3), (4, .int a4)] [.int (nI c), .ref g0] [(g0, .inr (1, [.int (nI b), .int 0, .int 0, .int 0, .int 0, .ref q1, .ref q2, .ref q3, .int 0, .int 0, .ref q4])), (q1, .inl (cA, 2401, .inl (fun _ => 0))), (q2, .inl (cA, 2401, .inl (fun _ => 0))), (q3, .inl (cA, 2401, .inl (fun _ => 0))), (q4, .inl (cA, 200, .inl (fun _ => 0)))] by
    refine g_iload_n C dX1_init_66 2 rfl rfl ?_
    refine g_iconst (v := nI 1) C dX1_init_67 (by decide) ?_
    refine g_icmp_geI C 75 dX1_init_68 (by decide) (fun hge => ?_) (fun hlt => ?_)
    · refine g_iload_n C dX1_init_75 2 rfl rfl ?_
      refine g_bipush (v := nI 8) C dX1_init_76 (by decide) ?_
      refine g_icmp_leI C 86 dX1_init_78 (by decide) (fun hle => ?_) (fun hgt => ?_)
      · refine g_iload_n C dX1_init_86 2 rfl rfl ?_
        refine g_top (y := nI c) (by rw [← ec]; unfold clM; rw [if_neg (Int32.not_lt.mpr hge), if_neg (Int32.not_lt.mpr hle)]) ?_
        exact kj
      · refine g_bipush (v := nI 8) C dX1_init_81 (by decide) ?_
        refine g_goto C 87 dX1_init_83 (by decide) ?_
        refine g_top (y := nI c) (by rw [← ec]; unfold clM; rw [if_neg (Int32.not_lt.mpr hge), if_pos (Int32.not_le.mp hgt)]) ?_
        exact kj
    · refine g_iconst (v := nI 1) C dX1_init_71 (by decide) ?_
      refine g_goto C 87 dX1_init_72 (by decide) ?_
      refine g_top (y := nI c) (by rw [← ec]; unfold clM; rw [if_pos (Int32.not_le.mp hlt)]) ?_
      exact kj
  refine g_putF (ci := 1) (ty := .int) (ws' := [(g0, .inr (1, [.int (nI b), .int (nI c), .int 0, .int 0, .int 0, .ref q1, .ref q2, .ref q3, .int 0, .int 0, .ref q4])), (q1, .inl (cA, 2401, .inl (fun _ => 0))), (q2, .inl (cA, 2401, .inl (fun _ => 0))), (q3, .inl (cA, 2401, .inl (fun _ => 0))), (q4, .inl (cA, 200, .inl (fun _ => 0)))]) C inX1_init tyX1 tyX1_ok nmX1 rfl hnm 0 1 (by decide) lkX1_init_26 rfl rfl pdX1_1 dX1_init_87 rfl rfl rfl (Nat.le_of_ble_eq_true rfl) rfl ?_
  refine g_aload_n C dX1_init_90 0 rfl rfl ?_
  suffices kj : G K 4 7403 116 [(0, .ref g0), (1, .int a1), (2, .int a2), (3, .int a3), (4, .int a4)] [.int (nI pl), .ref g0] [(g0, .inr (1, [.int (nI b), .int (nI c), .int 0, .int 0, .int 0, .ref q1, .ref q2, .ref q3, .int 0, .int 0, .ref q4])), (q1, .inl (cA, 2401, .inl (fun _ => 0))), (q2, .inl (cA, 2401, .inl (fun _ => 0))), (q3, .inl (cA, 2401, .inl (fun _ => 0))), (q4, .inl (cA, 200, .inl (fun _ => 0)))] by
    refine g_iload_n C dX1_init_91 3 rfl rfl ?_
    refine g_bipush (v := nI 8) C dX1_init_92 (by decide) ?_
    refine g_icmp_geI C 102 dX1_init_94 (by decide) (fun hge => ?_) (fun hlt => ?_)
    · refine g_iload_n C dX1_init_102 3 rfl rfl ?_
      refine g_sipush (v := nI 300) C dX1_init_103 (by decide) ?_
      refine g_icmp_leI C 115 dX1_init_106 (by decide) (fun hle => ?_) (fun hgt => ?_)
      · refine g_iload_n C dX1_init_115 3 rfl rfl ?_
        refine g_top (y := nI pl) (by rw [← ep]; unfold clM; rw [if_neg (Int32.not_lt.mpr hge), if_neg (Int32.not_lt.mpr hle)]) ?_
        exact kj
      · refine g_sipush (v := nI 300) C dX1_init_109 (by decide) ?_
        refine g_goto C 116 dX1_init_112 (by decide) ?_
        refine g_top (y := nI pl) (by rw [← ep]; unfold clM; rw [if_neg (Int32.not_lt.mpr hge), if_pos (Int32.not_le.mp hgt)]) ?_
        exact kj
    · refine g_bipush (v := nI 8) C dX1_init_97 (by decide) ?_
      refine g_goto C 116 dX1_init_99 (by decide) ?_
      refine g_top (y := nI pl) (by rw [← ep]; unfold clM; rw [if_pos (Int32.not_le.mp hlt)]) ?_
      exact kj
  refine g_putF (ci := 1) (ty := .int) (ws' := [(g0, .inr (1, [.int (nI b), .int (nI c), .int (nI pl), .int 0, .int 0, .ref q1, .ref q2, .ref q3, .int 0, .int 0, .ref q4])), (q1, .inl (cA, 2401, .inl (fun _ => 0))), (q2, .inl (cA, 2401, .inl (fun _ => 0))), (q3, .inl (cA, 2401, .inl (fun _ => 0))), (q4, .inl (cA, 200, .inl (fun _ => 0)))]) C inX1_init tyX1 tyX1_ok nmX1 rfl hnm 0 2 (by decide) lkX1_init_29 rfl rfl pdX1_2 dX1_init_116 rfl rfl rfl (Nat.le_of_ble_eq_true rfl) rfl ?_
  refine g_aload_n C dX1_init_119 0 rfl rfl ?_
  suffices kj : G K 4 7403 152 [(0, .ref g0), (1, .int a1), (2, .int a2), (3, .int a3), (4, .int a4)] [.int (nI bl), .ref g0] [(g0, .inr (1, [.int (nI b), .int (nI c), .int (nI pl), .int 0, .int 0, .ref q1, .ref q2, .ref q3, .int 0, .int 0, .ref q4])), (q1, .inl (cA, 2401, .inl (fun _ => 0))), (q2, .inl (cA, 2401, .inl (fun _ => 0))), (q3, .inl (cA, 2401, .inl (fun _ => 0))), (q4, .inl (cA, 200, .inl (fun _ => 0)))] by
    refine g_iload C dX1_init_120 4 rfl ?_
    refine g_aload_n C dX1_init_122 0 rfl rfl ?_
    refine g_get (ci := 1) C inX1_init rfl 0 0 (by decide) lkX1_init_22 dX1_init_123 rfl rfl ?_
    refine g_icmp_geI C 136 dX1_init_126 (by decide) (fun hge => ?_) (fun hlt => ?_)
    · refine g_iload C dX1_init_136 4 rfl ?_
      refine g_sipush (v := nI 200) C dX1_init_138 (by decide) ?_
      refine g_icmp_leI C 150 dX1_init_141 (by decide) (fun hle => ?_) (fun hgt => ?_)
      · refine g_iload C dX1_init_150 4 rfl ?_
        refine g_top (y := nI bl) (by rw [← el]; unfold clM; rw [if_neg (Int32.not_lt.mpr hge), if_neg (Int32.not_lt.mpr hle)]) ?_
        exact kj
      · refine g_sipush (v := nI 200) C dX1_init_144 (by decide) ?_
        refine g_goto C 152 dX1_init_147 (by decide) ?_
        refine g_top (y := nI bl) (by rw [← el]; unfold clM; rw [if_neg (Int32.not_lt.mpr hge), if_pos (Int32.not_le.mp hgt)]) ?_
        exact kj
    · refine g_aload_n C dX1_init_129 0 rfl rfl ?_
      refine g_get (ci := 1) C inX1_init rfl 0 0 (by decide) lkX1_init_22 dX1_init_130 rfl rfl ?_
      refine g_goto C 152 dX1_init_133 (by decide) ?_
      refine g_top (y := nI bl) (by rw [← el]; unfold clM; rw [if_pos (Int32.not_le.mp hlt)]) ?_
      exact kj
  refine g_putF (ci := 1) (ty := .int) (ws' := [(g0, .inr (1, [.int (nI b), .int (nI c), .int (nI pl), .int (nI bl), .int 0, .ref q1, .ref q2, .ref q3, .int 0, .int 0, .ref q4])), (q1, .inl (cA, 2401, .inl (fun _ => 0))), (q2, .inl (cA, 2401, .inl (fun _ => 0))), (q3, .inl (cA, 2401, .inl (fun _ => 0))), (q4, .inl (cA, 200, .inl (fun _ => 0)))]) C inX1_init tyX1 tyX1_ok nmX1 rfl hnm 0 3 (by decide) lkX1_init_32 rfl rfl pdX1_3 dX1_init_152 rfl rfl rfl (Nat.le_of_ble_eq_true rfl) rfl ?_
  exact hret _ _ (q1, q2, q3, q4) dX1_init_155 trivial
