/-! the law's own rows -/
section GL
variable {K : gK} {R : Room} {nL cz sz pc : Nat} {cc : ByteArray} {own : String} {Ts : List Cond} {tys : List (ClassId × FieldType)} {lv : List (Nat × Value)} {st : List Value} {ws : va_W}
theorem g_swap {a b : va_W} (kk : G K cz sz pc lv st (b ++ a)) : G K cz sz pc lv st (a ++ b) := fun H locs ls hl hP hD hS => kk H locs ls hl (wp_swap hP) (wd_swap hD) hS
theorem g_sld {sb L i : Nat} {xs : Nat → Int32} (C : Cx K R nL cc own Ts tys) (hX : va_X sb L xs K.1.2.2.2.2 K.1.2.2.2.2.heap) (hbl : sb < K.1.2.2.2.2.heap.size) (hbA : ¬ K.2.2.2.2.1 sb) (hL : L < 2 ^ 31) (hdg : decode cc pc = .ok (.iaload, 1)) (hi : i < L) (kk : G K cz sz (pc + 1) lv (.int (xs i) :: st) ws) : G K cz sz pc lv (.int (nI i) :: .ref sb :: st) ws :=
  fun H locs ls hl hP hD hS => va_sld C.1 C.2.1 hX hbl hbA hS (vp_in_nI hi hL) hdg (by rw [nI_clamp (by omega)]; exact kk H locs ls hl hP hD hS)
theorem g_slen {sb L : Nat} {xs : Nat → Int32} (C : Cx K R nL cc own Ts tys) (hX : va_X sb L xs K.1.2.2.2.2 K.1.2.2.2.2.heap) (hbl : sb < K.1.2.2.2.2.heap.size) (hbA : ¬ K.2.2.2.2.1 sb) (hdg : decode cc pc = .ok (.arraylength, 1)) (kk : G K cz sz (pc + 1) lv (.int (nI L) :: st) ws) : G K cz sz pc lv (.ref sb :: st) ws :=
  fun H locs ls hl hP hD hS => va_slen C.1 C.2.1 hX hbl hbA hS hdg (kk H locs ls hl hP hD hS)
theorem g_tableIn (C : Cx K R nL cc own Ts tys) {dflt lo hi : Int} {offs : Array Int} {len : Nat} {x : Int32} {off : Int} (tgt : Nat) (hdg : decode cc pc = .ok (.tableswitch dflt lo hi offs, len)) (h1 : ¬ x.toInt < lo) (h2 : ¬ hi < x.toInt) (ho : offs[(x.toInt - lo).toNat]? = some off) (ht : (pc : Int) + off = (tgt : Int)) (kk : G K cz sz tgt lv st ws) : G K cz sz pc lv (.int x :: st) ws :=
  fun H locs ls hl hP hD hS => lv_tableIn C.1 C.2.1 hdg h1 h2 ho ht (kk H locs ls hl hP hD hS)
theorem g_tableOut (C : Cx K R nL cc own Ts tys) {dflt lo hi : Int} {offs : Array Int} {len : Nat} {x : Int32} (tgt : Nat) (hdg : decode cc pc = .ok (.tableswitch dflt lo hi offs, len)) (h : x.toInt < lo ∨ hi < x.toInt) (ht : (pc : Int) + dflt = (tgt : Int)) (kk : G K cz sz tgt lv st ws) : G K cz sz pc lv (.int x :: st) ws :=
  fun H locs ls hl hP hD hS => lv_tableOut C.1 C.2.1 hdg h ht (kk H locs ls hl hP hD hS)
theorem g_new (C : Cx K R nL cc own Ts tys) {Cn : String} {T : u_T} {N ci index : Nat} (hin : ∀ w ∈ u_ws Cn T N, w ∈ Ts) (ty : Nat → FieldType) (hty : ∀ k, k < N → parseFieldDescriptor (T k).2.2.1 = some (ty k)) (hm : ∀ w ∈ ([Cond.classLink own index Cn, Cond.instantiable Cn N, Cond.initialized Cn] : List Cond), w ∈ Ts) (hc : vwCl[ci]? = some (Cn, T, N)) {fs : List Value} (hfs : ∀ j, j < N → defaultValue (ty j) = vp_V fs j) (hdg : decode cc pc = .ok (.new index, 3)) (hR : cz + 1 ≤ R.cells ∧ sz + N ≤ R.slots)
    (kk : ∀ q : Nat, G K (cz + 1) (sz + N) (pc + 3) lv (.ref q :: st) (ws ++ [(q, .inr (ci, fs))])) : G K cz sz pc lv st ws := by
  intro H locs ls hl hP hD hS
  obtain ⟨hx, hb, hml, hown, hts, hK, hA, hR0, hnL⟩ := C
  have ok : ∀ w ∈ ([Cond.classLink own index Cn, Cond.instantiable Cn N, Cond.initialized Cn] : List Cond), w.before K.2.1.2.1 K.1.2.2.2.2 = true := fun w h => hts w (hm w h)
  exact va_new hx hb hts hin ty hty hown (ok _ (List.mem_of_getElem? (i := 0) rfl)) (ok _ (List.mem_of_getElem? (i := 1) rfl)) (ok _ (List.mem_of_getElem? (i := 2) rfl)) hK hP hD hS hA hc hfs (by rw [hR0]; exact hR.1) (by rw [hR0]; exact hR.2) hdg (fun q H1 hP1 hD1 hS1 => kk q H1 locs ls hl hP1 hD1 hS1)
end GL
def cellP (L : Nat) (xs : Nat → Int32) (k : Nat) : Int32 := if k < L then xs k else 0
set_option maxHeartbeats 4000000 in
set_option maxRecDepth 100000 in
theorem c_L_cell (l : Launch) (sb L : Nat) (xs : Nat → Int32) (hL : L < 2 ^ 31) (sz k : Nat) (hk : k < 2 ^ 31) : Met l yL_cell wsL_cell ({ frames := 0, cells := 0, slots := 0, locals := 0 } : Room) (va_Pc [.ref sb, .int (nI k)] (fun U => U.heap.size = sz ∧ sb < sz ∧ va_X sb L xs U U.heap)) (va_Qi (fun (r : Int32) (_ : Unit) => r = cellP L xs k) (fun _ _ => True) (fun q => sz ≤ q)) 0 0 (fun q => sz ≤ q) := by
  refine Met.ofW (cc := cL_cell) (maxL := 2) (ret := some .int) (by decide) rfl ?_
  intro p e s m args below meth c s₁ B hml hv
  obtain ⟨rfl, hsz, hbl, hX⟩ := hv
  have hx := B.exec
  have hb := B.bytes
  have hr := B.returns
  have hlocks := B.notSynchronized
  subst hsz
  have hbA : ¬ (fun q : Nat => s.heap.size ≤ q) sb := Nat.not_le.mpr hbl
  have hS : va_S (fun q : Nat => s.heap.size ≤ q) s.heap s.heap [] := va_S.rf
  have hl := lv_entry ([.ref sb, .int (nI k)]) (n := 2) (Nat.le_of_ble_eq_true rfl)
  rw [lg_entry_eq]
  generalize (lg_sl ([.ref sb, .int (nI k)]) ++ List.replicate (2 - (lg_sl ([.ref sb, .int (nI k)])).length) Slot.unset).toArray = ls at hl ⊢
  have hl : lv_has ls 2 [(0, .ref sb), (1, .int (nI k))] := hl
  refine lv_iload_n hx hb dL_cell_0 rfl (lv_at hl 1 rfl) ?_
  refine lv_aload_n hx hb dL_cell_1 rfl (lv_at hl 0 rfl) ?_
  refine va_slen hx hb hX hbl hbA hS dL_cell_2 ?_
  refine lv_icmp_ge (tgt := 12) hx hb dL_cell_3 (by decide) (fun h => ?_) (fun h => ?_)
  · have hn : ¬ k < L := Nat.not_lt.mpr ((nI_leI hL hk).mp h)
    refine lv_iconst (v := 0) hx hb dL_cell_12 (by decide) ?_
    exact W.iret (v := 0) hx hb hr (fun t ht hW => ⟨⟨0, (), rfl, by unfold cellP; rw [if_neg hn], trivial⟩, hS.F ht⟩) hS.2.2 dL_cell_13
  · have hn : k < L := Nat.lt_of_not_le (fun q => h ((nI_leI hL hk).mpr q))
    refine lv_aload_n hx hb dL_cell_6 rfl (lv_at hl 0 rfl) ?_
    refine lv_iload_n hx hb dL_cell_7 rfl (lv_at hl 1 rfl) ?_
    refine va_sld hx hb hX hbl hbA hS (vp_in_nI hn hL) dL_cell_8 ?_
    refine lv_goto (tgt := 13) hx hb dL_cell_9 (by decide) ?_
    exact W.iret (v := xs (nI k).toNatClampNeg) hx hb hr (fun t ht hW => ⟨⟨_, (), rfl, by unfold cellP; rw [if_pos hn, nI_clamp hk], trivial⟩, hS.F ht⟩) hS.2.2 dL_cell_13
theorem hdL_cell : yL_cell.cls ≠ "java/lang/invoke/MethodHandle" ∧ yL_cell.cls ≠ "java/lang/invoke/VarHandle" ∧ (parseMethodDescriptor yL_cell.desc).map (fun d => d.parameters.length) = some 2 := by decide +kernel
theorem g_cell {K : gK} {nL cz sz pc : Nat} {tys : List (ClassId × FieldType)} {lv : List (Nat × Value)} {rest : List Value} {ws : va_W} {sb L : Nat} {xs : Nat → Int32} (C : Cx K room_1 nL cL_law RL wsL_law tys) (hX : va_X sb L xs K.1.2.2.2.2 K.1.2.2.2.2.heap) (hbl : sb < K.1.2.2.2.2.heap.size) (hbA : ¬ K.2.2.2.2.1 sb) (hL : L < 2 ^ 31) (k : Nat) (hk : k < 2 ^ 31) (hR : cz ≤ 600000 ∧ sz ≤ 7302250) (hro : (rest.map fun v => v.category).sum ≤ 8) (hdg : decode cL_law pc = .ok (.invokestatic 9, 3))
    (kk : G K cz sz (pc + 3) lv (.int (cellP L xs k) :: rest) ws) : G K cz sz pc lv (.int (nI k) :: .ref sb :: rest) ws := by
  intro H locs ls hl hP hD hS
  obtain ⟨hx, hb, hml, hown, hts, hK, hA, hR0, hnL⟩ := C
  have hXH : va_X sb L xs K.1.2.2.2.2 H := hX.kept (hS.2.1 sb hbl hbA)
  have hF : ∀ q, H.size ≤ q → K.2.2.2.2.1 q := fun q h => hA q (Nat.le_trans hS.1 h)
  refine va_calli (va_runS (As := [.ref sb, .int (nI k)]) (rest := rest) ⟨hx, hb, hml, hown, hts⟩ (c_L_cell _ sb L xs hL H.size k hk) (va_cwS 2 hts gL_law_L_cell rfl rfl rfl hdL_cell (by rw [hR0]; decide)) ⟨fun a U g mk q => by
      obtain ⟨q0, q1, q2, q3⟩ := q
      exact ⟨q0, q1, q2, q3.moved (u := U) (U := U.calling g mk a) (Vm.Alike.refl U.vm)⟩, fun U hU hW => ⟨rfl, by rw [hU], Nat.lt_of_lt_of_le hbl hS.1, by rw [hU]; exact hXH.moved hW.alike⟩⟩ rfl rfl hl.1 rfl (lv_room hro) hdg (by rw [hR0]; exact hR)) hS (fun q _ h => hF q h) hF (fun r u t H1 locs1 ht hvm hpost _ hz1 hk1 hS1 => ?_)
  subst hpost
  exact kk H1 locs1 ls hl (hP.kept (fun j q hq => hk1 q.1 ((hP j q hq).lt) (Nat.not_le.mpr ((hP j q hq).lt)))) hD hS1
theorem hdX0_put : yX0_put.cls = RX0 ∧ yX0_put.cls ≠ "java/lang/invoke/MethodHandle" ∧ yX0_put.cls ≠ "java/lang/invoke/VarHandle" ∧ (parseMethodDescriptor yX0_put.desc).map (fun d => d.parameters.length) = some 2 := by decide +kernel
theorem hdX0_get : yX0_get.cls = RX0 ∧ yX0_get.cls ≠ "java/lang/invoke/MethodHandle" ∧ yX0_get.cls ≠ "java/lang/invoke/VarHandle" ∧ (parseMethodDescriptor yX0_get.desc).map (fun d => d.parameters.length) = some 1 := by decide +kernel
theorem hdX0_has : yX0_has.cls = RX0 ∧ yX0_has.cls ≠ "java/lang/invoke/MethodHandle" ∧ yX0_has.cls ≠ "java/lang/invoke/VarHandle" ∧ (parseMethodDescriptor yX0_has.desc).map (fun d => d.parameters.length) = some 1 := by decide +kernel
theorem hdX0_remove : yX0_remove.cls = RX0 ∧ yX0_remove.cls ≠ "java/lang/invoke/MethodHandle" ∧ yX0_remove.cls ≠ "java/lang/invoke/VarHandle" ∧ (parseMethodDescriptor yX0_remove.desc).map (fun d => d.parameters.length) = some 1 := by decide +kernel
theorem hdX0_size : yX0_size.cls = RX0 ∧ yX0_size.cls ≠ "java/lang/invoke/MethodHandle" ∧ yX0_size.cls ≠ "java/lang/invoke/VarHandle" ∧ (parseMethodDescriptor yX0_size.desc).map (fun d => d.parameters.length) = some 0 := by decide +kernel
theorem hdX0_level : yX0_level.cls = RX0 ∧ yX0_level.cls ≠ "java/lang/invoke/MethodHandle" ∧ yX0_level.cls ≠ "java/lang/invoke/VarHandle" ∧ (parseMethodDescriptor yX0_level.desc).map (fun d => d.parameters.length) = some 0 := by decide +kernel
theorem hdX0_pointer : yX0_pointer.cls = RX0 ∧ yX0_pointer.cls ≠ "java/lang/invoke/MethodHandle" ∧ yX0_pointer.cls ≠ "java/lang/invoke/VarHandle" ∧ (parseMethodDescriptor yX0_pointer.desc).map (fun d => d.parameters.length) = some 0 := by decide +kernel
theorem hdX0_pages : yX0_pages.cls = RX0 ∧ yX0_pages.cls ≠ "java/lang/invoke/MethodHandle" ∧ yX0_pages.cls ≠ "java/lang/invoke/VarHandle" ∧ (parseMethodDescriptor yX0_pages.desc).map (fun d => d.parameters.length) = some 1 := by decide +kernel
theorem hdX0_free : yX0_free.cls = RX0 ∧ yX0_free.cls ≠ "java/lang/invoke/MethodHandle" ∧ yX0_free.cls ≠ "java/lang/invoke/VarHandle" ∧ (parseMethodDescriptor yX0_free.desc).map (fun d => d.parameters.length) = some 0 := by decide +kernel
theorem hdX0_key : yX0_key.cls = RX0 ∧ yX0_key.cls ≠ "java/lang/invoke/MethodHandle" ∧ yX0_key.cls ≠ "java/lang/invoke/VarHandle" ∧ (parseMethodDescriptor yX0_key.desc).map (fun d => d.parameters.length) = some 2 := by decide +kernel
theorem hdX0_clear : yX0_clear.cls = RX0 ∧ yX0_clear.cls ≠ "java/lang/invoke/MethodHandle" ∧ yX0_clear.cls ≠ "java/lang/invoke/VarHandle" ∧ (parseMethodDescriptor yX0_clear.desc).map (fun d => d.parameters.length) = some 0 := by decide +kernel
theorem hcX0_init : yX0_init.cls ≠ "java/lang/invoke/MethodHandle" ∧ yX0_init.cls ≠ "java/lang/invoke/VarHandle" ∧ (parseMethodDescriptor yX0_init.desc).map (fun d => d.parameters.length) = some 4 := by decide +kernel
theorem hdX1_put : yX1_put.cls = RX1 ∧ yX1_put.cls ≠ "java/lang/invoke/MethodHandle" ∧ yX1_put.cls ≠ "java/lang/invoke/VarHandle" ∧ (parseMethodDescriptor yX1_put.desc).map (fun d => d.parameters.length) = some 2 := by decide +kernel
theorem hdX1_get : yX1_get.cls = RX1 ∧ yX1_get.cls ≠ "java/lang/invoke/MethodHandle" ∧ yX1_get.cls ≠ "java/lang/invoke/VarHandle" ∧ (parseMethodDescriptor yX1_get.desc).map (fun d => d.parameters.length) = some 1 := by decide +kernel
theorem hdX1_has : yX1_has.cls = RX1 ∧ yX1_has.cls ≠ "java/lang/invoke/MethodHandle" ∧ yX1_has.cls ≠ "java/lang/invoke/VarHandle" ∧ (parseMethodDescriptor yX1_has.desc).map (fun d => d.parameters.length) = some 1 := by decide +kernel
theorem hdX1_remove : yX1_remove.cls = RX1 ∧ yX1_remove.cls ≠ "java/lang/invoke/MethodHandle" ∧ yX1_remove.cls ≠ "java/lang/invoke/VarHandle" ∧ (parseMethodDescriptor yX1_remove.desc).map (fun d => d.parameters.length) = some 1 := by decide +kernel
theorem hdX1_size : yX1_size.cls = RX1 ∧ yX1_size.cls ≠ "java/lang/invoke/MethodHandle" ∧ yX1_size.cls ≠ "java/lang/invoke/VarHandle" ∧ (parseMethodDescriptor yX1_size.desc).map (fun d => d.parameters.length) = some 0 := by decide +kernel
theorem hdX1_level : yX1_level.cls = RX1 ∧ yX1_level.cls ≠ "java/lang/invoke/MethodHandle" ∧ yX1_level.cls ≠ "java/lang/invoke/VarHandle" ∧ (parseMethodDescriptor yX1_level.desc).map (fun d => d.parameters.length) = some 0 := by decide +kernel
theorem hdX1_pointer : yX1_pointer.cls = RX1 ∧ yX1_pointer.cls ≠ "java/lang/invoke/MethodHandle" ∧ yX1_pointer.cls ≠ "java/lang/invoke/VarHandle" ∧ (parseMethodDescriptor yX1_pointer.desc).map (fun d => d.parameters.length) = some 0 := by decide +kernel
theorem hdX1_pages : yX1_pages.cls = RX1 ∧ yX1_pages.cls ≠ "java/lang/invoke/MethodHandle" ∧ yX1_pages.cls ≠ "java/lang/invoke/VarHandle" ∧ (parseMethodDescriptor yX1_pages.desc).map (fun d => d.parameters.length) = some 1 := by decide +kernel
theorem hdX1_free : yX1_free.cls = RX1 ∧ yX1_free.cls ≠ "java/lang/invoke/MethodHandle" ∧ yX1_free.cls ≠ "java/lang/invoke/VarHandle" ∧ (parseMethodDescriptor yX1_free.desc).map (fun d => d.parameters.length) = some 0 := by decide +kernel
theorem hdX1_key : yX1_key.cls = RX1 ∧ yX1_key.cls ≠ "java/lang/invoke/MethodHandle" ∧ yX1_key.cls ≠ "java/lang/invoke/VarHandle" ∧ (parseMethodDescriptor yX1_key.desc).map (fun d => d.parameters.length) = some 2 := by decide +kernel
theorem hdX1_clear : yX1_clear.cls = RX1 ∧ yX1_clear.cls ≠ "java/lang/invoke/MethodHandle" ∧ yX1_clear.cls ≠ "java/lang/invoke/VarHandle" ∧ (parseMethodDescriptor yX1_clear.desc).map (fun d => d.parameters.length) = some 0 := by decide +kernel
theorem hcX1_init : yX1_init.cls ≠ "java/lang/invoke/MethodHandle" ∧ yX1_init.cls ≠ "java/lang/invoke/VarHandle" ∧ (parseMethodDescriptor yX1_init.desc).map (fun d => d.parameters.length) = some 4 := by decide +kernel
