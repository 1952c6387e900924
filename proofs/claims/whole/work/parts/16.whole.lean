-- ===== end of PART A; then your names; then what follows =====
/-! THE CLAIM OUT OF ONE WALK OF THE LAW'S BODY. Your part is whole_start (and what it stands on); all else here is the same for every law, but numbers. -/
def R_law : String := "PointerBucketsLaw"
def lw_P (b : Addr) (xs : List Int32) (args : Array Value) (s : State) : Prop := args = #[.ref b] ∧ s.IntsAt b xs ∧ xs.length ≤ 1540 ∧ (Jvm.Cond.and given_1 narrow_1).before args s = true
def lw_Q (_ : Array Value) (s : State) (o : Outcome) (t : State) : Prop := o = .returned (some (.int 1)) ∧ Framed s o t [] 600000 7302250
def lw_Z (below : List Frame) (a : Array Value) (s : State) : State → Prop := fun t => ∃ o, t.status = .running ∧ Ended t below o ∧ lw_Q a s o t
/-- the law's own end, with 1 on the stack, nothing written that was there before, its room as the claim has it -/
theorem lw_ret {p : Program} {l : Launch} {e : Env} {s : State} {m : MethodId} {below : List Frame} {meth : Method} {c : Code} {b : Nat} (hx : p.tables.exec = Jvm.exec) (hb : c.code = code) (hr : meth.sig.returnType = ret) (hlocks : meth.locks = false) {pc : Nat} {H : Heap} {ls : Array Slot} (hdg : decode code pc = .ok (.ireturn, 1)) : W p l e room_1 s m #[Value.ref b] below meth c H [] 600000 7302250 (lw_Z below #[Value.ref b] s) (F0 m pc ls [.int 1]) := by
  intro T hT X
  obtain ⟨fs, hret, hrun, hended, hW, hframe⟩ := X.leave (v := some (.int 1)) (hlocks := hlocks) (fun h => by rw [hr] at h; cases h)
  have hmeth' : T.vm.method? m = some meth := X.method'
  refine ⟨T.setFrames fs, ?_, .returned (some (.int 1)), hrun, hended, rfl, ⟨_, rfl⟩, hW, hframe⟩
  jvm_step X.here [X.here.top, hx, hb, hdg, hmeth', hr, ret, narrow_b1]
  (try refine ⟨rfl, ?_⟩); (try refine ⟨rfl, ?_⟩)
  first | (intro acts; rw [hret _ acts rfl rfl rfl]) | rw [hret _ _ rfl rfl rfl]
  exact Steps.refl _
/-- what holds at the law's entry: the machine, the code, the tables' words (any of lw_tbl by 'hts w (by decide +kernel)'), the script of L ints xs at the cell b, what the Statement gives of the start (any of its parts by flat_of_before) -/
def lw_At (p : Program) (s : State) (m : MethodId) (meth : Method) (c : Code) (b L : Nat) (xs : Nat → Int32) : Prop :=
  p.tables.exec = Jvm.exec ∧ c.code = code ∧ meth.sig.returnType = ret ∧ c.maxLocals = 4 ∧ s.vm.findClass R_law = some m.cls ∧ (∀ w ∈ lw_tbl, w.before #[Value.ref b] s = true) ∧ va_X b L xs s s.heap ∧ b < s.heap.size ∧ meth.locks = false ∧ (Jvm.Cond.and given_1 narrow_1).before #[Value.ref b] s = true
-- ===== YOUR PART BEGINS =====
set_option maxHeartbeats 8000000 in
set_option maxRecDepth 100000 in
theorem whole_start {p : Program} {e : Env} {s : State} {m : MethodId} {below : List Frame} {meth : Method} {c : Code} (l : Launch) {b L : Nat} {xs : Nat → Int32} (hL : L ≤ 1540) (C0 : lw_At p s m meth c b L xs) : W p l e room_1 s m #[Value.ref b] below meth c s.heap [] 0 0 (lw_Z below #[Value.ref b] s) (entryFrame m ([Value.ref b] : List Value).toArray 4) := by
  obtain ⟨hx, hb, hr, hml, hown, hts, hX, hbl, hlocks, hgv⟩ := id C0
  have hts := fun w h => hts w (wsL_law_in w h)
  have hbA : ¬ (fun q : Nat => s.heap.size ≤ q) b := Nat.not_le.mpr hbl
  obtain ⟨c0, iS0, hKn0⟩ := u_known (C := RX0) (T := TX0) (N := 10) (n := 10) hts inlX0 (hts (.instantiable RX0 10) (by decide +kernel))
  obtain ⟨c1, iS1, hKn1⟩ := u_known (C := RX1) (T := TX1) (N := 11) (n := 11) hts inlX1 (hts (.instantiable RX1 11) (by decide +kernel))
  obtain ⟨dC, dI, hKc⟩ : ∃ (dC : Nat → ClassId) (dI : Nat → Nat → Nat), ∀ (k : Nat) (q : vw_C), vwCl[k]? = some q → u_Kn s q.1 q.2.1 q.2.2 (dC k) (dI k) := by
    refine ⟨fun k => if k = 0 then c0 else c1, fun k => if k = 0 then iS0 else iS1, ?_⟩
    intro k q hq
    match k, hq with
    | 0, hq => cases hq; exact hKn0
    | 1, hq => cases hq; exact hKn1
    | k + 2, hq => simp [vwCl] at hq
  obtain ⟨cA, kA, comp, hfA, hkA, hkindA⟩ := Cond.arrayClass_spec (hts (.arrayClass .int) (by decide +kernel))
  have hK : va_K (dC, dI) vwCl [(cA, .int)] s := ⟨hKc, fun k q hq => by
    match k, hq with
    | 0, hq => cases hq; exact ⟨fun n z => ⟨fun k h => (by cases h), kA, hkA, comp, hkindA⟩, hfA⟩
    | k + 1, hq => simp at hq⟩
  have hP : va_P (dC, dI) vwCl [] s.heap := fun k q h => by simp at h
  have hD : va_D (fun q : Nat => s.heap.size ≤ q) [] := ⟨fun i j p q h => by simp at h, fun k q h => by simp at h⟩
  have hl := lv_entry ([.ref b]) (n := 4) (Nat.le_of_ble_eq_true rfl)
  rw [lg_entry_eq]
  obtain ⟨K, eK⟩ : ∃ K : gK, K = ((p, l, e, room_1, s), (m, #[Value.ref b], below, meth, c), (4, (dC, dI), (fun q : Nat => s.heap.size ≤ q), lw_Z below #[Value.ref b] s)) := ⟨_, rfl⟩
  have C : Cx K room_1 4 cL_law RL wsL_law [(cA, .int)] := by rw [eK]; exact ⟨hx, hb, hml, hown, hts, hK, fun q h => h, rfl, rfl⟩
  have hend : ∀ lv ws, G K 600000 7302250 404 lv [.int 1] ws := by
    rw [eK]
    intro lv ws H locs ls hl hP hD hS
    exact va_forget (fun q hq => hS.2.2 q hq) (lw_ret hx hb hr hlocks dL_law_404)
  have hXK : va_X b L xs K.1.2.2.2.2 K.1.2.2.2.2.heap := by rw [eK]; exact hX
  have hblK : b < K.1.2.2.2.2.heap.size := by rw [eK]; exact hbl
  have hbAK : ¬ K.2.2.2.2.1 b := by rw [eK]; exact hbA
  suffices k0 : G K 0 0 0 [(0, .ref b)] [] [] by
    rw [eK] at k0
    exact k0 s.heap [] _ hl hP hD va_S.rf
  obtain ⟨vb, b1, b2, eb, eb2⟩ := cl_both (cellP L xs 0) (lo := 1) (hi := 8) (by omega) (by omega)
  obtain ⟨vc, c1, c2, ec, ec2⟩ := cl_both (cellP L xs 1) (lo := 1) (hi := 8) (by omega) (by omega)
  obtain ⟨vp, p1, p2, ep, ep2⟩ := cl_both (cellP L xs 2) (lo := 8) (hi := 300) (by omega) (by omega)
  obtain ⟨vl, l1, l2, el, el2⟩ := cl_both (cellP L xs 3) (lo := vb) (hi := 200) (by omega) (by omega)
  have hpc : vp * vc ≤ 2400 := Nat.mul_le_mul p2 c2
  refine g_new (ci := 0) (fs := [.int 0, .int 0, .int 0, .int 0, .null, .null, .int 0, .int 0, .int 0, .null]) C inlX0 tyX0 tyX0_ok (by decide +kernel) rfl (fun j hj => by rcases (show j = 0 ∨ j = 1 ∨ j = 2 ∨ j = 3 ∨ j = 4 ∨ j = 5 ∨ j = 6 ∨ j = 7 ∨ j = 8 ∨ j = 9 by omega) with rfl | rfl | rfl | rfl | rfl | rfl | rfl | rfl | rfl | rfl <;> rfl) dL_law_0 (by decide) (fun h0 => ?_)
  show G K 1 10 3 [(0, .ref b)] [.ref h0] [(h0, .inr (0, [.int 0, .int 0, .int 0, .int 0, .null, .null, .int 0, .int 0, .int 0, .null]))]
  refine g_dup C dL_law_3 rfl ?_
  refine g_aload_n C dL_law_4 0 rfl rfl ?_
  refine g_iconst (v := nI 0) C dL_law_5 (by decide) ?_
  refine g_cell C hXK hblK hbAK (by omega) 0 (by omega) (by decide) (Nat.le_of_ble_eq_true rfl) dL_law_6 ?_
  refine g_aload_n C dL_law_9 0 rfl rfl ?_
  refine g_iconst (v := nI 1) C dL_law_10 (by decide) ?_
  refine g_cell C hXK hblK hbAK (by omega) 1 (by omega) (by decide) (Nat.le_of_ble_eq_true rfl) dL_law_11 ?_
  refine g_aload_n C dL_law_14 0 rfl rfl ?_
  refine g_iconst (v := nI 2) C dL_law_15 (by decide) ?_
  refine g_cell C hXK hblK hbAK (by omega) 2 (by omega) (by decide) (Nat.le_of_ble_eq_true rfl) dL_law_16 ?_
  refine g_aload_n C dL_law_19 0 rfl rfl ?_
  refine g_iconst (v := nI 3) C dL_law_20 (by decide) ?_
  refine g_cell C hXK hblK hbAK (by omega) 3 (by omega) (by decide) (Nat.le_of_ble_eq_true rfl) dL_law_21 ?_
  refine g_callC [] (rest := [.ref h0]) C (c_X0_init _ _ (cellP L xs 0) (cellP L xs 1) (cellP L xs 2) (cellP L xs 3) eb ec ep el rfl (by omega) l2) gL_law_X0_init rfl rfl rfl (by decide +kernel) rfl hcX0_init (by decide) rfl rfl (Nat.le_of_ble_eq_true rfl) dL_law_24 (fun u _ => ?_)
  obtain ⟨hk, hv, hr⟩ := u
  show G K 4 1234 27 [(0, .ref b)] [.ref h0] (wX h0 hk hv hr cA (min (vp * vc) 512) vl vb vc vp vl 0 0 0 (fun _ => 0) (fun _ => 0) (fun _ => 0))
  refine g_astore_n (lv' := [(1, .ref h0), (0, .ref b)]) C dL_law_27 rfl (by decide) rfl ?_
  refine g_new (ci := 1) (fs := [.int 0, .int 0, .int 0, .int 0, .int 0, .null, .null, .null, .int 0, .int 0, .null]) C inlX1 tyX1 tyX1_ok (by decide +kernel) rfl (fun j hj => by rcases (show j = 0 ∨ j = 1 ∨ j = 2 ∨ j = 3 ∨ j = 4 ∨ j = 5 ∨ j = 6 ∨ j = 7 ∨ j = 8 ∨ j = 9 ∨ j = 10 by omega) with rfl | rfl | rfl | rfl | rfl | rfl | rfl | rfl | rfl | rfl | rfl <;> rfl) dL_law_28 (by decide) (fun g0 => ?_)
  show G K 5 1245 31 [(1, .ref h0), (0, .ref b)] [.ref g0] (wX h0 hk hv hr cA (min (vp * vc) 512) vl vb vc vp vl 0 0 0 (fun _ => 0) (fun _ => 0) (fun _ => 0) ++ [(g0, .inr (1, [.int 0, .int 0, .int 0, .int 0, .int 0, .null, .null, .null, .int 0, .int 0, .null]))])
  refine g_dup C dL_law_31 rfl ?_
  refine g_aload_n C dL_law_32 1 rfl rfl ?_
  refine g_iconst (v := nI 0) C dL_law_33 (by decide) ?_
  refine g_cell C hXK hblK hbAK (by omega) 0 (by omega) (by decide) (Nat.le_of_ble_eq_true rfl) dL_law_34 ?_
  refine g_aload_n C dL_law_37 1 rfl rfl ?_
  refine g_iconst (v := nI 1) C dL_law_38 (by decide) ?_
  refine g_cell C hXK hblK hbAK (by omega) 1 (by omega) (by decide) (Nat.le_of_ble_eq_true rfl) dL_law_39 ?_
  refine g_aload_n C dL_law_42 1 rfl rfl ?_
  refine g_iconst (v := nI 2) C dL_law_43 (by decide) ?_
  refine g_cell C hXK hblK hbAK (by omega) 2 (by omega) (by decide) (Nat.le_of_ble_eq_true rfl) dL_law_44 ?_
  refine g_aload_n C dL_law_47 1 rfl rfl ?_
  refine g_iconst (v := nI 3) C dL_law_48 (by decide) ?_
  refine g_cell C hXK hblK hbAK (by omega) 3 (by omega) (by decide) (Nat.le_of_ble_eq_true rfl) dL_law_49 ?_
  refine g_callC (wX h0 hk hv hr cA (min (vp * vc) 512) vl vb vc vp vl 0 0 0 (fun _ => 0) (fun _ => 0) (fun _ => 0)) (rest := [.ref g0]) C (c_X1_init _ _ (cellP L xs 0) (cellP L xs 1) (cellP L xs 2) (cellP L xs 3) eb2 ec2 ep2 el2) gL_law_X1_init rfl rfl rfl (by decide +kernel) rfl hcX1_init (by decide) rfl rfl (Nat.le_of_ble_eq_true rfl) dL_law_52 (fun u _ => ?_)
  obtain ⟨ak, av, ah, ac⟩ := u
  show G K 9 8648 55 [(1, .ref h0), (0, .ref b)] [.ref g0] (wX h0 hk hv hr cA (min (vp * vc) 512) vl vb vc vp vl 0 0 0 (fun _ => 0) (fun _ => 0) (fun _ => 0) ++ wM g0 ak av ah ac cA vb vc vp vl 0 0 0 (fun _ => 0) (fun _ => 0) (fun _ => 0) (fun _ => 0))
  refine g_astore_n (lv' := [(2, .ref g0), (1, .ref h0), (0, .ref b)]) C dL_law_55 rfl (by decide) rfl ?_
  refine g_iconst (v := nI (4 + 3 * 0)) C dL_law_56 (by decide) ?_
  refine g_istore_n (lv' := [(3, .int (nI (4 + 3 * 0))), (2, .ref g0), (1, .ref h0), (0, .ref b)]) C dL_law_57 rfl (by decide) rfl ?_
  refine g_lv [0, 3, 2, 1] rfl ?_
  refine law_loop C hXK hblK hbAK hL hend (L + 1) 0 0 0 0 _ _ _ _ _ _ _ (by omega) (by omega) ?_
  exact ⟨⟨by omega, by omega, by omega, by omega, by omega, by omega, by omega, by omega, by omega, by rw [rd_0]; omega, by rw [rd_0]; omega, by omega⟩, rfl, Nat.zero_le _, Nat.zero_le _, fun j hj => absurd hj (by omega), fun j hj => absurd hj (by omega), fun i j hi => absurd hi (by omega), fun j hj => absurd hj (by omega)⟩
-- ===== YOUR PART ENDS =====
set_option maxHeartbeats 4000000 in
theorem lw_walk (l : Launch) (b : Addr) (xs : List Int32) : MetFree l x (headSpec (Jvm.Cond.code x code maxLocals ret :: tables_1) room_1) (lw_P b xs) (fun _ _ _ _ _ => True) lw_Q := by
  refine MetFree.of_bodyS (code := code) (maxLocals := maxLocals) (ret := ret) (by decide) ?_ ?_
  · intro args s m h hn
    obtain ⟨meth, c, h1, h2, h3, h4, h5, h6, -, -⟩ := Cond.code_spec hn (atoms_spec (ws := Jvm.Cond.code x code maxLocals ret :: tables_1) h _ List.mem_cons_self)
    exact ⟨meth, c, h1, h2, h3, h4, h5, h6⟩
  · intro p e s m args below meth c s₁ B hml0 hP _
    obtain ⟨rfl, hx, hbd, hgv⟩ := hP
    obtain ⟨scr, harrAt, hlist, hof, hsmall⟩ := hx
    obtain ⟨hcb, hkn, -, -⟩ := State.arrayAt?_spec harrAt
    have hown : s.vm.findClass R_law = some m.cls := findClass_of_methodNamed B.named
    have hts0 : ∀ c ∈ (Jvm.Cond.code x code maxLocals ret :: tables_1), c.before #[Value.ref b] s = true := atoms_spec (ws := Jvm.Cond.code x code maxLocals ret :: tables_1) B.pre
    have hts : ∀ w ∈ lw_tbl, w.before #[Value.ref b] s = true := k2_hts_sels lw_privs (fun w hw => hts0 w (List.mem_cons_of_mem _ hw)) lw_privs_ok
    have hml : c.maxLocals = 4 := B.maxLocals_eq (hts0 _ List.mem_cons_self)
    have X₀ : Stand p l e room_1 s m #[Value.ref b] below meth c s₁ [] 0 0 := Stand.of_body B
    have hh0 : s₁.heap = s.heap := by rw [B.state]; rfl
    have hsz : scr.slots.size = xs.length := by rw [← Array.length_toList, hlist, List.length_map]
    have hval : ∀ j : Nat, j < xs.length → scr.slots[j]? = some (.int (xs.getD j 0)) := fun j hj => by
      rw [← Array.getElem?_toList, hlist]
      simp [hj]
    have hbl : b < s.heap.size := (Array.getElem?_eq_some_iff.mp hcb).1
    have hX : va_X b xs.length (fun j => xs.getD j 0) s s.heap := ⟨scr, hcb, hof, hkn, hsz, hval⟩
    have K : W p l e room_1 s m #[Value.ref b] below meth c s₁.heap [] 0 0 (lw_Z below #[Value.ref b] s) (entryFrame m ([Value.ref b] : List Value).toArray 4) := by
      rw [hh0]
      exact whole_start l hbd ⟨B.exec, B.bytes, B.returns, hml, hown, hts, hX, hbl, B.notSynchronized, hgv⟩
    obtain ⟨t, a1, o, b1, b2, b3⟩ := K s₁ rfl X₀
    exact ⟨t, o, a1, b1, b2, b3⟩
theorem lw_pre_spec {args : Array Value} {s : State} (h : (Jvm.Cond.and given_1 narrow_1).before args s = true) (hr : rest_1_c.before args s = true) : ∃ (b : Addr) (xs : List Int32), lw_P b xs args s := by
  have hs := flat_of_before _ h
  have hq := flat_of_before _ hr
  have hc : (Cond.count 1).before args s = true := hs _ (by decide +kernel)
  have harr : (Cond.arrayOf (.arg 0) .int).before args s = true := hs _ (by decide +kernel)
  have hle : (Cond.le (.length (.arg 0)) (.int 1540)).before args s = true := hs _ (by decide +kernel)
  have hlen : (Cond.isInt (.length (.arg 0))).before args s = true := hq _ (by decide +kernel)
  have hall : (Cond.all (.arg 0) (.isInt (.elem (.arg 0) (.index 0)))).before args s = true := hq _ (by decide +kernel)
  obtain ⟨b, xs, hb, hx⟩ := State.ints_of_pre rfl harr hlen hall
  have hsm : xs.length < 2 ^ 31 := hx.choose_spec.2.2.2
  have hev : (Term.length (.arg 0)).eval args s none [] s = some (.int xs.length.toInt32) := hx.length_eval hb
  have hv := Cond.le_ints hev (show (Term.int 1540).eval args s none [] s = some (.int 1540) from rfl)
  have hd : xs.length.toInt32 ≤ 1540 := by
    simpa [Cond.before, Cond.holds, hv] using hle
  have hN : xs.length ≤ 1540 := (Int32.ofNat_le_ofNat hsm (by decide)).mp (show Int32.ofNat xs.length ≤ Int32.ofNat 1540 from hd)
  exact ⟨b, xs, Cond.one_arg hc (show args[0]? = some (.ref b) from hb), hx, hN, h⟩
theorem lw_comes (l : Launch) : Comes l x (Jvm.Cond.code x code maxLocals ret :: tables_1) room_1 (fun tb e args s => Calls_1 tb e args s ∧ rest_1 tb e args s ∧ Pre_1 tb e args s)
    (fun _ _ args s o t => lw_Q args s o t) := by
  intro p e ha hc hk s m args below hf hfit hheap happ hpre
  obtain ⟨b, xs, hP⟩ := lw_pre_spec hpre.2.2 hpre.2.1
  obtain ⟨k, o, h1, h2, h3, hQ⟩ := lw_walk l b xs p e ha hc hk s m args below hf ((Spec.applies_iff_loose hf).mp happ).1 hP trivial
  exact ⟨k, o, h1, h2, h3, hQ⟩
theorem lw_frame {s t : State} {o : Outcome} {args : Array Value} (h : Framed s o t [] 600000 7302250) :
    Framed s o t (fieldLocs frame_1_writes args s ++ arrayLocs frame_1_arrays args s ++ staticLocs frame_1_statics s) 600000 7302250 := h
theorem lw_limb (L : Cond) (hL : ∀ (args : Array Value) (s t : State), L.after args s (.returned (some (.int 1))) t = true) :
    ArmFor flags0 classFile x code maxLocals ret World_1 tables_1 room_1 Calls_1 rest_1 Pre_1
      (fun tb e a s o t => postC L tb e a s o t ∧ Framed s o t (fieldLocs frame_1_writes a s ++ arrayLocs frame_1_arrays a s ++ staticLocs frame_1_statics s) 600000 7302250) := by
  intro l _ _ _ p e ha hc hk s m args below hf hfit hheap happ hpre
  obtain ⟨k, o, h1, h2, h3, rfl, hF⟩ := lw_comes l p e ha hc hk s m args below hf hfit hheap happ hpre
  exact ⟨k, _, h1, h2, h3, hL args s _, lw_frame hF⟩
theorem i_vc : Claimed_1_1 ∧ Claimed_1_2 := ⟨lw_limb limb_1_1 (fun args s t => by simp [limb_1_1, Cond.after, Cond.holds, Cond.value]), lw_limb limb_1_2 (fun args s t => Cond.after_iff.mpr (by
  first | (rw [show limb_1_2 = Cond.eq .result (.int 1) from rfl, Cond.eq_ints (x := 1) (y := 1) rfl rfl]; simp; done) | (simp [limb_1_2, Cond.value, Term.eval]; done)))⟩
