/-! contracts and calls over G -/
theorem wl_right {D : va_G} {a b : va_W} {H : Heap} (h : va_P D vwCl (a ++ b) H) : va_P D vwCl b H := fun k q hk => h (a.length + k) q (by rw [List.getElem?_append_right (by omega)]; rw [show a.length + k - a.length = k by omega]; exact hk)
theorem wl_left {D : va_G} {a b : va_W} {H : Heap} (h : va_P D vwCl (a ++ b) H) : va_P D vwCl a H := fun k q hk => h k q (by rw [List.getElem?_append_left ((List.getElem?_eq_some_iff.mp hk).1)]; exact hk)
theorem wd_right {A : Nat → Prop} {a b : va_W} (h : va_D A (a ++ b)) : va_D A b := by
  have at' : ∀ (k : Nat) (q : Nat × va_E), b[k]? = some q → (a ++ b)[a.length + k]? = some q := fun k q hk => by
    rw [List.getElem?_append_right (by omega)]; rw [show a.length + k - a.length = k by omega]; exact hk
  refine ⟨fun i j p q hi hj e => ?_, fun k q hk => h.2 _ q (at' k q hk)⟩
  have := h.1 _ _ p q (at' i p hi) (at' j q hj) e
  omega
theorem wd_left {A : Nat → Prop} {a b : va_W} (h : va_D A (a ++ b)) : va_D A a := by
  have at' : ∀ (k : Nat) (q : Nat × va_E), a[k]? = some q → (a ++ b)[k]? = some q := fun k q hk => by
    rw [List.getElem?_append_left ((List.getElem?_eq_some_iff.mp hk).1)]; exact hk
  exact ⟨fun i j p q hi hj e => h.1 _ _ p q (at' i p hi) (at' j q hj) e, fun k q hk => h.2 _ q (at' k q hk)⟩
theorem wd_cross {A : Nat → Prop} {a b : va_W} (h : va_D A (a ++ b)) : ∀ (i j : Nat) (p q : Nat × va_E), a[i]? = some p → b[j]? = some q → p.1 = q.1 → False := by
  intro i j p q hi hj e
  have hl := (List.getElem?_eq_some_iff.mp hi).1
  have h1 : (a ++ b)[i]? = some p := by rw [List.getElem?_append_left hl]; exact hi
  have h2 : (a ++ b)[a.length + j]? = some q := by rw [List.getElem?_append_right (by omega)]; rw [show a.length + j - a.length = j by omega]; exact hj
  have := h.1 _ _ p q h1 h2 e
  omega
theorem wp_swap {D : va_G} {a b : va_W} {H : Heap} (h : va_P D vwCl (a ++ b) H) : va_P D vwCl (b ++ a) H := va_P.app (wl_right h) (wl_left h)
theorem wd_swap {A : Nat → Prop} {a b : va_W} (h : va_D A (a ++ b)) : va_D A (b ++ a) := va_D.app (wd_right h) (wd_left h) (fun i j p q hi hj e => wd_cross h j i q p hj hi e.symm)
theorem wj {A0 : Nat → Prop} {D : va_G} {wr w0 w1 : va_W} {H H1 : Heap} (hP : va_P D vwCl (wr ++ w0) H) (hD : va_D A0 (wr ++ w0)) (hk : ∀ q : Nat, q < H.size → ¬ va_A w0 H.size q → H1[q]? = H[q]?) (hF : ∀ q, va_A w0 H.size q → A0 q) (hP1 : va_P D vwCl w1 H1) (hD1 : va_D (va_A w0 H.size) w1) : va_P D vwCl (wr ++ w1) H1 ∧ va_D A0 (wr ++ w1) := by
  have apart : ∀ (k : Nat) (q : Nat × va_E), wr[k]? = some q → q.1 < H.size ∧ ¬ va_A w0 H.size q.1 := by
    intro k q hq
    have hl := (wl_left hP k q hq).lt
    refine ⟨hl, fun h => ?_⟩
    rcases h with ⟨k2, e, h⟩ | h
    · exact wd_cross hD k k2 q (q.1, e) hq h rfl
    · omega
  refine ⟨va_P.app (fun k q hq => ?_) hP1, va_D.app (wd_left hD) (hD1.weaken (fun k q _ h => hF q.1 h)) (fun i j x y hx hy hxy => ?_)⟩
  · obtain ⟨g1, g2⟩ := apart k q hq
    exact (wl_left hP k q hq).kept (hk q.1 g1 g2)
  · exact (apart i x hx).2 (by rw [hxy]; exact hD1.2 j y hy)
def mPc (D : va_G) (tys : List (ClassId × FieldType)) (w0 : va_W) (sz : Nat) : State → Prop := fun U => U.heap.size = sz ∧ va_P D vwCl w0 U.heap ∧ va_K D vwCl tys U ∧ va_D (fun _ => True) w0
def mB {S : Type} (D : va_G) (tys : List (ClassId × FieldType)) (A : Nat → Prop) (w : S → va_W) : S → State → Prop := fun u t => va_P D vwCl (w u) t.heap ∧ va_K D vwCl tys t ∧ va_D A (w u)
/-- a method with an int (or boolean) answer: from the world w0 it comes to a world w u with post r u -/
def MetI {S : Type} (l : Launch) (y : MethodName) (wc : List Cond) (rm : Room) (D : va_G) (tys : List (ClassId × FieldType)) (av : List Value) (w0 : va_W) (w : S → va_W) (post : Int32 → S → Prop) (mc ms : Nat) : Prop :=
  ∀ sz : Nat, Met l y wc rm (va_Pc av (mPc D tys w0 sz)) (va_Qi post (mB D tys (va_A w0 sz) w) (va_A w0 sz)) mc ms (va_A w0 sz)
def MetV {S : Type} (l : Launch) (y : MethodName) (wc : List Cond) (rm : Room) (D : va_G) (tys : List (ClassId × FieldType)) (av : List Value) (w0 : va_W) (w : S → va_W) (post : S → Prop) (mc ms : Nat) : Prop :=
  ∀ sz : Nat, Met l y wc rm (va_Pc av (mPc D tys w0 sz)) (va_Qv post (mB D tys (va_A w0 sz) w) (va_A w0 sz)) mc ms (va_A w0 sz)
theorem mBlind {D : va_G} {tys : List (ClassId × FieldType)} {w0 : va_W} {sz : Nat} {av : List Value} : FrameBlind (va_Pc av (mPc D tys w0 sz)) := fun a U g mk q => by
  obtain ⟨q0, q1, qP, qK, qD⟩ := q
  exact ⟨q0, q1, qP, va_K.moved (u := U) (U := U.calling g mk a) (Vm.Alike.refl U.vm) qK, qD⟩
theorem MetI_of {S : Type} {l : Launch} {y : MethodName} {wc wc' : List Cond} {rm : Room} {D : va_G} {tys : List (ClassId × FieldType)} {av : List Value} {w0 : va_W} {w : S → va_W} {post : Int32 → S → Prop} {mc ms maxL : Nat} {cc : ByteArray} {rt : FieldType} {lv0 : List (Nat × Value)}
    (hy : plainName y.cls = true) (hw : wc = Cond.code y cc maxL (some rt) :: wc') (hlen : (lg_sl av).length ≤ maxL) (hlv : lv_args 0 av = lv0)
    (body : ∀ K : gK, K.1.2.1 = l → K.2.2.2.1 = D → Cx K rm maxL cc y.cls wc tys → (∀ (pc : Nat) (lv : List (Nat × Value)) (r : Int32) (u : S), decode cc pc = .ok (.ireturn, 1) → narrow rt (.int r) = .int r → post r u → G K mc ms pc lv [.int r] (w u)) → G K 0 0 0 lv0 [] w0) :
    MetI l y wc rm D tys av w0 w post mc ms := by
  intro sz
  refine Met.ofW (cc := cc) (maxL := maxL) (ret := some rt) hy hw ?_
  intro p e s m args below meth c s₁ B hml hv
  obtain ⟨rfl, hsz, hP, hK, hD0⟩ := hv
  have hx := B.exec
  have hb := B.bytes
  have hr := B.returns
  have hts := atoms_spec (ws := wc) B.pre
  have hown : s.vm.findClass y.cls = some m.cls := findClass_of_methodNamed B.named
  have hlocks := B.notSynchronized
  subst hsz
  have hD := hD0.self (sz := s.heap.size)
  have hl := lv_entry av (n := maxL) hlen
  rw [hlv] at hl
  rw [lg_entry_eq]
  refine (body ((p, l, e, rm, s), (m, av.toArray, below, meth, c), (maxL, D, va_A w0 s.heap.size, MQ below (va_Qi post (mB D tys (va_A w0 s.heap.size) w) (va_A w0 s.heap.size)) av.toArray s mc ms (va_A w0 s.heap.size))) rfl rfl ⟨hx, hb, hml, hown, hts, hK, fun q h => Or.inr h, rfl, rfl⟩ ?_) s.heap [] _ hl hP hD va_S.rf
  intro pc lv r u hdg hn hpost H locs ls hl' hP' hD' hS'
  exact W.zret hx hb hr hn (fun t ht hW => ⟨⟨r, u, rfl, hpost, by rw [ht]; exact hP', va_K.moved hW.alike hK, hD'⟩, hS'.F ht⟩) hS'.2.2 hdg
theorem MetV_of {S : Type} {l : Launch} {y : MethodName} {wc wc' : List Cond} {rm : Room} {D : va_G} {tys : List (ClassId × FieldType)} {av : List Value} {w0 : va_W} {w : S → va_W} {post : S → Prop} {mc ms maxL : Nat} {cc : ByteArray} {lv0 : List (Nat × Value)}
    (hy : plainName y.cls = true) (hw : wc = Cond.code y cc maxL none :: wc') (hlen : (lg_sl av).length ≤ maxL) (hlv : lv_args 0 av = lv0)
    (body : ∀ K : gK, K.1.2.1 = l → K.2.2.2.1 = D → Cx K rm maxL cc y.cls wc tys → K.2.1.2.2.2.1.name = y.name → (∀ (pc : Nat) (lv : List (Nat × Value)) (u : S), decode cc pc = .ok (.return_, 1) → post u → G K mc ms pc lv [] (w u)) → G K 0 0 0 lv0 [] w0) :
    MetV l y wc rm D tys av w0 w post mc ms := by
  intro sz
  refine Met.ofW (cc := cc) (maxL := maxL) (ret := none) hy hw ?_
  intro p e s m args below meth c s₁ B hml hv
  obtain ⟨rfl, hsz, hP, hK, hD0⟩ := hv
  have hx := B.exec
  have hb := B.bytes
  have hr := B.returns
  have hts := atoms_spec (ws := wc) B.pre
  have hown : s.vm.findClass y.cls = some m.cls := findClass_of_methodNamed B.named
  have hlocks := B.notSynchronized
  subst hsz
  have hD := hD0.self (sz := s.heap.size)
  have hl := lv_entry av (n := maxL) hlen
  rw [hlv] at hl
  rw [lg_entry_eq]
  refine (body ((p, l, e, rm, s), (m, av.toArray, below, meth, c), (maxL, D, va_A w0 s.heap.size, MQ below (va_Qv post (mB D tys (va_A w0 s.heap.size) w) (va_A w0 s.heap.size)) av.toArray s mc ms (va_A w0 s.heap.size))) rfl rfl ⟨hx, hb, hml, hown, hts, hK, fun q h => Or.inr h, rfl, rfl⟩ ((name_of_methodNamed B.named B.method).1) ?_) s.heap [] _ hl hP hD va_S.rf
  intro pc lv u hdg hpost H locs ls hl' hP' hD' hS'
  exact W.vret hx hb hr (fun t ht hW => ⟨⟨u, rfl, hpost, by rw [ht]; exact hP', va_K.moved hW.alike hK, hD'⟩, hS'.F ht⟩) hS'.2.2 hdg
section GC
variable {K : gK} {R : Room} {nL cz sz pc : Nat} {cc : ByteArray} {own : String} {Ts : List Cond} {tys : List (ClassId × FieldType)} {lv : List (Nat × Value)} {st : List Value}
theorem wF {A0 : Nat → Prop} {wr w0 : va_W} {H0 H : Heap} {locs : List Loc} (hD : va_D A0 (wr ++ w0)) (hS : va_S A0 H0 H locs) (hA : ∀ q, H0.size ≤ q → A0 q) : ∀ q, va_A w0 H.size q → A0 q := by
  intro q h
  rcases h with ⟨k, e, h⟩ | h
  · exact (wd_right hD).2 k (q, e) h
  · exact hA q (Nat.le_trans hS.1 h)
theorem g_callI (wr : va_W) {S : Type} {y : MethodName} {wc wc' : List Cond} {rm : Room} {As rest : List Value} {w0 : va_W} {w : S → va_W} {post : Int32 → S → Prop} {mc ms index maxL n b ci q0 : Nat} {bytes : ByteArray} {ret : Option FieldType} {fs : List Value} {Cn : String} {T : u_T} {N : Nat} (C : Cx K R nL cc own Ts tys)
    (hM : MetI K.1.2.1 y wc rm K.2.2.2.1 tys (.ref b :: As) w0 w post mc ms) (hG : GoodIn Ts (wsV own index Cn y wc)) (hw : wc = Cond.code y bytes maxL ret :: wc') (hrc : rm.cells = mc) (hrs : rm.slots = ms)
    (hd : y.cls = Cn ∧ y.cls ≠ "java/lang/invoke/MethodHandle" ∧ y.cls ≠ "java/lang/invoke/VarHandle" ∧ (parseMethodDescriptor y.desc).map (fun d => d.parameters.length) = some n) (hR : (rm.frames + 1 ≤ R.frames ∧ 8 + (maxL + 11) + rm.locals ≤ R.locals) ∧ cz + mc ≤ R.cells ∧ sz + ms ≤ R.slots)
    (hc : vwCl[ci]? = some (Cn, T, N)) (he : w0[q0]? = some (b, .inr (ci, fs))) (hn : As.length = n) (hst : st = As.reverse ++ .ref b :: rest) (hro : (rest.map fun v => v.category).sum ≤ 8) (hdg : decode cc pc = .ok (.invokevirtual index, 3))
    (kk : ∀ (r : Int32) (u : S), post r u → G K (cz + mc) (sz + ms) (pc + 3) lv (.int r :: rest) (wr ++ w u)) : G K cz sz pc lv st (wr ++ w0) := by
  intro H locs ls hl hP hD hS
  obtain ⟨hx, hb, hml, hown, hts, hK, hA, hR0, hnL⟩ := C
  have hF := wF hD hS hA
  refine va_calli (va_runV (As := As) (rest := rest) ⟨hx, hb, hml, hown, hts⟩ (hM H.size) (cwV n hts hG hw hrc hrs hd (by rw [hR0]; exact hR.1)) ⟨mBlind, va_recv hK (wl_right hP) hc he, fun U hU hW => ⟨rfl, by rw [hU], by rw [hU]; exact wl_right hP, va_K.moved hW.alike hK, (wd_right hD).weaken (fun _ _ _ _ => trivial)⟩⟩ rfl hn hl.1 hst (lv_room hro) hdg (by rw [hR0]; exact hR.2)) hS (fun q _ h => hF q h) hF (fun r u t H1 locs1 ht hvm hpost hB hz1 hk1 hS1 => ?_)
  obtain ⟨hPu, -, hDu⟩ := hB
  rw [ht] at hPu
  obtain ⟨hP2, hD2⟩ := wj hP hD hk1 hF hPu hDu
  exact kk r u hpost H1 locs1 ls hl hP2 hD2 hS1
theorem g_callV (wr : va_W) {S : Type} {y : MethodName} {wc wc' : List Cond} {rm : Room} {As rest : List Value} {w0 : va_W} {w : S → va_W} {post : S → Prop} {mc ms index maxL n b ci q0 : Nat} {bytes : ByteArray} {ret : Option FieldType} {fs : List Value} {Cn : String} {T : u_T} {N : Nat} (C : Cx K R nL cc own Ts tys)
    (hM : MetV K.1.2.1 y wc rm K.2.2.2.1 tys (.ref b :: As) w0 w post mc ms) (hG : GoodIn Ts (wsV own index Cn y wc)) (hw : wc = Cond.code y bytes maxL ret :: wc') (hrc : rm.cells = mc) (hrs : rm.slots = ms)
    (hd : y.cls = Cn ∧ y.cls ≠ "java/lang/invoke/MethodHandle" ∧ y.cls ≠ "java/lang/invoke/VarHandle" ∧ (parseMethodDescriptor y.desc).map (fun d => d.parameters.length) = some n) (hR : (rm.frames + 1 ≤ R.frames ∧ 8 + (maxL + 11) + rm.locals ≤ R.locals) ∧ cz + mc ≤ R.cells ∧ sz + ms ≤ R.slots)
    (hc : vwCl[ci]? = some (Cn, T, N)) (he : w0[q0]? = some (b, .inr (ci, fs))) (hn : As.length = n) (hst : st = As.reverse ++ .ref b :: rest) (hro : (rest.map fun v => v.category).sum ≤ 8) (hdg : decode cc pc = .ok (.invokevirtual index, 3))
    (kk : ∀ (u : S), post u → G K (cz + mc) (sz + ms) (pc + 3) lv rest (wr ++ w u)) : G K cz sz pc lv st (wr ++ w0) := by
  intro H locs ls hl hP hD hS
  obtain ⟨hx, hb, hml, hown, hts, hK, hA, hR0, hnL⟩ := C
  have hF := wF hD hS hA
  refine va_callv (va_runV (As := As) (rest := rest) ⟨hx, hb, hml, hown, hts⟩ (hM H.size) (cwV n hts hG hw hrc hrs hd (by rw [hR0]; exact hR.1)) ⟨mBlind, va_recv hK (wl_right hP) hc he, fun U hU hW => ⟨rfl, by rw [hU], by rw [hU]; exact wl_right hP, va_K.moved hW.alike hK, (wd_right hD).weaken (fun _ _ _ _ => trivial)⟩⟩ rfl hn hl.1 hst (lv_room hro) hdg (by rw [hR0]; exact hR.2)) hS (fun q _ h => hF q h) hF (fun u t H1 locs1 ht hvm hpost hB hz1 hk1 hS1 => ?_)
  obtain ⟨hPu, -, hDu⟩ := hB
  rw [ht] at hPu
  obtain ⟨hP2, hD2⟩ := wj hP hD hk1 hF hPu hDu
  exact kk u hpost H1 locs1 ls hl hP2 hD2 hS1
/-- a call of a constructor -/
theorem g_callC (wr : va_W) {S : Type} {y : MethodName} {wc wc' : List Cond} {rm : Room} {As rest : List Value} {w0 : va_W} {w : S → va_W} {post : S → Prop} {mc ms index maxL n b : Nat} {bytes : ByteArray} (C : Cx K R nL cc own Ts tys)
    (hM : MetV K.1.2.1 y wc rm K.2.2.2.1 tys (.ref b :: As) w0 w post mc ms) (hG : GoodIn Ts wc) (hw : wc = Cond.code y bytes maxL none :: wc') (hrc : rm.cells = mc) (hrs : rm.slots = ms) (hm : ∀ w ∈ ([Cond.initialized y.cls, Cond.methodLink own index y, Cond.instanceMethod y] : List Cond), w ∈ Ts) (hy1 : y.name = "<init>")
    (hd : y.cls ≠ "java/lang/invoke/MethodHandle" ∧ y.cls ≠ "java/lang/invoke/VarHandle" ∧ (parseMethodDescriptor y.desc).map (fun d => d.parameters.length) = some n) (hR : (rm.frames + 1 ≤ R.frames ∧ 8 + (maxL + 11) + rm.locals ≤ R.locals) ∧ cz + mc ≤ R.cells ∧ sz + ms ≤ R.slots)
    (hn : As.length = n) (hst : st = As.reverse ++ .ref b :: rest) (hro : (rest.map fun v => v.category).sum ≤ 8) (hdg : decode cc pc = .ok (.invokespecial index, 3))
    (kk : ∀ (u : S), post u → G K (cz + mc) (sz + ms) (pc + 3) lv rest (wr ++ w u)) : G K cz sz pc lv st (wr ++ w0) := by
  intro H locs ls hl hP hD hS
  obtain ⟨hx, hb, hml, hown, hts, hK, hA, hR0, hnL⟩ := C
  have hF := wF hD hS hA
  have ok : ∀ w ∈ ([Cond.initialized y.cls, Cond.methodLink own index y, Cond.instanceMethod y] : List Cond), w.before K.2.1.2.1 K.1.2.2.2.2 = true := fun w h => hts w (hm w h)
  refine va_callv (va_runI (As := As) (rest := rest) ⟨hx, hb, hml, hown, hts⟩ (hM H.size) (cwI n hts hG hw hrc hrs (ok _ (List.mem_of_getElem? (i := 0) rfl)) (ok _ (List.mem_of_getElem? (i := 1) rfl)) (ok _ (List.mem_of_getElem? (i := 2) rfl)) hy1 hd (by rw [hR0]; exact hR.1)) ⟨mBlind, fun U hU hW => ⟨rfl, by rw [hU], by rw [hU]; exact wl_right hP, va_K.moved hW.alike hK, (wd_right hD).weaken (fun _ _ _ _ => trivial)⟩⟩ rfl hn hl.1 hst (lv_room hro) hdg (by rw [hR0]; exact hR.2)) hS (fun q _ h => hF q h) hF (fun u t H1 locs1 ht hvm hpost hB hz1 hk1 hS1 => ?_)
  obtain ⟨hPu, -, hDu⟩ := hB
  rw [ht] at hPu
  obtain ⟨hP2, hD2⟩ := wj hP hD hk1 hF hPu hDu
  exact kk u hpost H1 locs1 ls hl hP2 hD2 hS1
/-- a call of a static method that needs no world -/
theorem g_callS {y : MethodName} {wc wc' : List Cond} {rm : Room} {As rest : List Value} {post : Int32 → Unit → Prop} {index maxL n : Nat} {bytes : ByteArray} {ret : Option FieldType} {ws : va_W} (C : Cx K R nL cc own Ts tys)
    (hM : MetI (S := Unit) K.1.2.1 y wc rm K.2.2.2.1 tys As [] (fun _ => []) post 0 0) (hG : GoodIn Ts (va_wsS own index y wc)) (hw : wc = Cond.code y bytes maxL ret :: wc') (hrc : rm.cells = 0) (hrs : rm.slots = 0)
    (hd : y.cls ≠ "java/lang/invoke/MethodHandle" ∧ y.cls ≠ "java/lang/invoke/VarHandle" ∧ (parseMethodDescriptor y.desc).map (fun d => d.parameters.length) = some n) (hR : (rm.frames + 1 ≤ R.frames ∧ 8 + (maxL + 11) + rm.locals ≤ R.locals) ∧ cz + 0 ≤ R.cells ∧ sz + 0 ≤ R.slots)
    (hn : As.length = n) (hst : st = As.reverse ++ rest) (hro : (rest.map fun v => v.category).sum ≤ 8) (hdg : decode cc pc = .ok (.invokestatic index, 3))
    (kk : ∀ (r : Int32), post r () → G K cz sz (pc + 3) lv (.int r :: rest) ws) : G K cz sz pc lv st ws := by
  intro H locs ls hl hP hD hS
  obtain ⟨hx, hb, hml, hown, hts, hK, hA, hR0, hnL⟩ := C
  have hP' : va_P K.2.2.2.1 vwCl (ws ++ []) H := by rw [List.append_nil]; exact hP
  have hD' : va_D K.2.2.2.2.1 (ws ++ []) := by rw [List.append_nil]; exact hD
  have hF := wF hD' hS hA
  refine va_calli (va_runS (As := As) (rest := rest) ⟨hx, hb, hml, hown, hts⟩ (hM H.size) (va_cwS n hts hG hw hrc hrs hd (by rw [hR0]; exact hR.1)) ⟨mBlind, fun U hU hW => ⟨rfl, by rw [hU], by rw [hU]; exact wl_right hP', va_K.moved hW.alike hK, (wd_right hD').weaken (fun _ _ _ _ => trivial)⟩⟩ rfl hn hl.1 hst (lv_room hro) hdg (by rw [hR0]; exact hR.2)) hS (fun q _ h => hF q h) hF (fun r u t H1 locs1 ht hvm hpost hB hz1 hk1 hS1 => ?_)
  obtain ⟨hPu, -, hDu⟩ := hB
  rw [ht] at hPu
  obtain ⟨hP2, hD2⟩ := wj hP' hD' hk1 hF hPu hDu
  rw [List.append_nil] at hP2 hD2
  exact kk r hpost H1 locs1 ls hl hP2 hD2 hS1
/-- a new int array -/
theorem g_newa {ws : va_W} {cA : ClassId} {N : Nat} (C : Cx K R nL cc own Ts [(cA, .int)]) (hm : Cond.arrayClass .int ∈ Ts) (hdg : decode cc pc = .ok (.newarray .int, 2)) (hN : N < 100000) (hR : cz + 1 ≤ R.cells ∧ sz + N ≤ R.slots)
    (kk : ∀ q : Nat, G K (cz + 1) (sz + N) (pc + 2) lv (.ref q :: st) (ws ++ [(q, .inl (cA, N, .inl (fun _ => 0)))])) : G K cz sz pc lv (.int (nI N) :: st) ws := by
  intro H locs ls hl hP hD hS
  obtain ⟨hx, hb, hml, hown, hts, hK, hA, hR0, hnL⟩ := C
  refine va_newa (ty := .int) (N' := N) (a0 := (N, .inl (fun _ => 0))) hx hb (atype := .int) (hts (Cond.arrayClass (newarray.typeOf .int)) hm) rfl hK hP hD hS hA (fun _ => rfl) (nI_pos (by omega)) (nI_clamp (by omega)) (by show N * 4 ≤ 536870912; omega) (by rw [hR0]; exact hR.1) (by rw [hR0]; exact hR.2) hdg (fun q cA' H1 hK1 hP1 hD1 hS1 => ?_)
  have e1 : K.1.2.2.2.2.vm.findClass ("[" ++ FieldType.int.toString) = some cA := (hK.2 0 (cA, .int) rfl).2
  have e2 : K.1.2.2.2.2.vm.findClass ("[" ++ FieldType.int.toString) = some cA' := (hK1.2 1 (cA', .int) rfl).2
  have e3 : cA' = cA := Option.some.inj (e2.symm.trans e1)
  subst e3
  exact kk q H1 locs ls hl hP1 hD1 hS1
/-- Object() -/
theorem g_objInit {ws : va_W} {index a : Nat} (C : Cx K R nL cc own Ts tys) (hm : ∀ w ∈ ([Cond.methodLink own index objectInit, Cond.instanceMethod objectInit, Cond.code objectInit ⟨#[0xb1]⟩ 1 none] : List Cond), w ∈ Ts) (hdg : decode cc pc = .ok (.invokespecial index, 3)) (hR : 1 ≤ R.frames ∧ (st.map fun v => v.category).sum + 12 ≤ R.locals)
    (kk : G K cz sz (pc + 3) lv st ws) : G K cz sz pc lv (.ref a :: st) ws := by
  intro H locs ls hl hP hD hS
  obtain ⟨hx, hb, hml, hown, hts, hK, hA, hR0, hnL⟩ := C
  have ok : ∀ w ∈ ([Cond.methodLink own index objectInit, Cond.instanceMethod objectInit, Cond.code objectInit ⟨#[0xb1]⟩ 1 none] : List Cond), w.before K.2.1.2.1 K.1.2.2.2.2 = true := fun w h => hts w (hm w h)
  refine W.objInit hx hb hown (ok _ (List.mem_of_getElem? (i := 0) rfl)) (ok _ (List.mem_of_getElem? (i := 1) rfl)) (ok _ (List.mem_of_getElem? (i := 2) rfl)) rfl (by rw [hml]; exact hl.1) rfl hdg (by rw [hR0]; exact hR.1) (by rw [hR0]; show 2 * 0 + _ + 12 ≤ _; have := hR.2; omega) ?_
  exact kk H locs ls hl hP hD hS
end GC
section GC0
variable {K : gK} {R : Room} {nL cz sz pc : Nat} {cc : ByteArray} {own : String} {Ts : List Cond} {tys : List (ClassId × FieldType)} {lv : List (Nat × Value)} {st : List Value}
theorem g_callI0 {S : Type} {y : MethodName} {wc wc' : List Cond} {rm : Room} {As rest : List Value} {w0 : va_W} {w : S → va_W} {post : Int32 → S → Prop} {index maxL n b ci q0 : Nat} {bytes : ByteArray} {ret : Option FieldType} {fs : List Value} {Cn : String} {T : u_T} {N : Nat} (C : Cx K R nL cc own Ts tys)
    (hM : MetI K.1.2.1 y wc rm K.2.2.2.1 tys (.ref b :: As) w0 w post 0 0) (hG : GoodIn Ts (wsV own index Cn y wc)) (hw : wc = Cond.code y bytes maxL ret :: wc') (hrc : rm.cells = 0) (hrs : rm.slots = 0)
    (hd : y.cls = Cn ∧ y.cls ≠ "java/lang/invoke/MethodHandle" ∧ y.cls ≠ "java/lang/invoke/VarHandle" ∧ (parseMethodDescriptor y.desc).map (fun d => d.parameters.length) = some n) (hR : (rm.frames + 1 ≤ R.frames ∧ 8 + (maxL + 11) + rm.locals ≤ R.locals) ∧ cz ≤ R.cells ∧ sz ≤ R.slots)
    (hc : vwCl[ci]? = some (Cn, T, N)) (he : w0[q0]? = some (b, .inr (ci, fs))) (hn : As.length = n) (hst : st = As.reverse ++ .ref b :: rest) (hro : (rest.map fun v => v.category).sum ≤ 8) (hdg : decode cc pc = .ok (.invokevirtual index, 3))
    (kk : ∀ (r : Int32) (u : S), post r u → G K cz sz (pc + 3) lv (.int r :: rest) (w u)) : G K cz sz pc lv st w0 :=
  g_callI [] C hM hG hw hrc hrs hd hR hc he hn hst hro hdg kk
theorem g_callV0 {S : Type} {y : MethodName} {wc wc' : List Cond} {rm : Room} {As rest : List Value} {w0 : va_W} {w : S → va_W} {post : S → Prop} {index maxL n b ci q0 : Nat} {bytes : ByteArray} {ret : Option FieldType} {fs : List Value} {Cn : String} {T : u_T} {N : Nat} (C : Cx K R nL cc own Ts tys)
    (hM : MetV K.1.2.1 y wc rm K.2.2.2.1 tys (.ref b :: As) w0 w post 0 0) (hG : GoodIn Ts (wsV own index Cn y wc)) (hw : wc = Cond.code y bytes maxL ret :: wc') (hrc : rm.cells = 0) (hrs : rm.slots = 0)
    (hd : y.cls = Cn ∧ y.cls ≠ "java/lang/invoke/MethodHandle" ∧ y.cls ≠ "java/lang/invoke/VarHandle" ∧ (parseMethodDescriptor y.desc).map (fun d => d.parameters.length) = some n) (hR : (rm.frames + 1 ≤ R.frames ∧ 8 + (maxL + 11) + rm.locals ≤ R.locals) ∧ cz ≤ R.cells ∧ sz ≤ R.slots)
    (hc : vwCl[ci]? = some (Cn, T, N)) (he : w0[q0]? = some (b, .inr (ci, fs))) (hn : As.length = n) (hst : st = As.reverse ++ .ref b :: rest) (hro : (rest.map fun v => v.category).sum ≤ 8) (hdg : decode cc pc = .ok (.invokevirtual index, 3))
    (kk : ∀ (u : S), post u → G K cz sz (pc + 3) lv rest (w u)) : G K cz sz pc lv st w0 :=
  g_callV [] C hM hG hw hrc hrs hd hR hc he hn hst hro hdg kk
end GC0
