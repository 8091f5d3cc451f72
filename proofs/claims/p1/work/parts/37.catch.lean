/-! A method with handlers, into which an IllegalArgumentException comes: the first handler takes it, its class cold or warm. Contracts of such methods, and their static call. -/
section XCA
variable {p : Program} {l : Launch} {e : Env} {R : Room} {s : State} {m : MethodId} {args : Array Value} {below : List Frame} {meth : Method} {c : Code} {H : Heap} {locs : List Loc} {cells slots : Nat} {Q : State → Prop}
variable {cc : ByteArray} {nL pc : Nat} {own : String} {G : xb_EV} {ss : List (Nat × Nat × Nat × (Nat → Int32))} {A : Nat → Prop} {ls : Array Slot} {rest st0 : List Value} {ws wc wr : va_W}
theorem xb_hand {S : State} {f : JFrame} {a : Nat} {ent : ExceptionTableEntry} {more : List ExceptionTableEntry} {k : ClassId} {cell : Cell} {code0 : Code} (hm : S.vm.method? f.method = some meth) (hc : meth.code = some code0) (hl : code0.exceptionTable.toList = ent :: more)
    (hcov : covers ent f.pc = true) (h0 : ent.catchType ≠ 0) (hk : S.vm.ClassLinks e.platform f.method.cls ent.catchType k) (hcell : S.heap[a]? = some cell) (hobj : cell.vm.isStatics = false) (hcl : cell.cls = k) (hex : ∃ kk, S.vm.classes[k]? = some kk)
    (P : Handler → Pre) (E : CtlPost) (d : Bool) (acts : List Action) : wp (findHandler f a) P E e d acts S ↔ P (.found ent.handlerPc) d acts (S.setVm (S.vm.noted f.method.cls ent.catchType (.cls k))) := by
  rw [Jvm.W.findHandler_eq hm hc, hl]
  subst hcl
  obtain ⟨hans, htab⟩ := (resolveClass_links e.toSetting hk).op (op := VmOp.resolveClass f.method.cls ent.catchType) rfl
  have hal : S.vm.Alike (S.vm.noted f.method.cls ent.catchType (.cls cell.cls)) := (Vm.Alike.refl S.vm).noted _ _ _
  obtain ⟨kk, hkk⟩ := hex
  obtain ⟨kk', hkk', -⟩ := hal.2.2 _ _ hkk
  have hfit : (S.vm.noted f.method.cls ent.catchType (.cls cell.cls)).assignable cell.cls cell.cls = true := va_asg _ _
  have hns : ∀ z, cell.vm ≠ .statics z := VmData.ne_statics_of hobj
  simp only [covers] at hcov
  simp [findHandler.go, hcov, h0, hans, htab, hcell, hns, hkk', hfit, VmOp.dirties, VmOp.acts]
theorem xb_caught {x index lo hi hp : Nat} {g : JFrame} {T : State} {tl : List (Nat × Nat × Nat × Nat)} (X : Stand p l e R s m args below meth c T locs cells slots) (hg : g.method = m) (ho : s.vm.findClass own = some m.cls) (hI : xb_IAE T x)
    (hh : c.exceptionTable.toList.map (fun h => (h.startPc, h.endPc, h.handlerPc, h.catchType)) = (lo, hi, hp, index) :: tl) (h0 : index ≠ 0) (hcov : (lo ≤ g.pc && g.pc < hi) = true) (hlink : (Cond.classLink own index "java/lang/IllegalArgumentException").before args s = true) :
    ∃ vm', Stand p l e R s m args below meth c (T.setVm vm') locs cells slots ∧ ∀ target, Steps p.tables e below ((T.setVm vm').setTop { g with pc := hp, stack := [.ref x] }) target → Steps p.tables e below ((T.setTop g).pushFrame (.throwing x)) target := by
  cases htl : c.exceptionTable.toList with
  | nil => rw [htl] at hh; cases hh
  | cons ent more =>
    rw [htl, List.map_cons] at hh
    injection hh with h1 h2
    simp only [Prod.mk.injEq] at h1
    obtain ⟨a1, a2, a3, a4⟩ := h1
    subst a1; subst a2; subst a3; subst a4
    obtain ⟨cell, i1, i2, i3⟩ := hI
    have hpl : e.platform.magicAccessors = ({} : Platform).magicAccessors := by rw [X.admits.platform]
    obtain ⟨k, hk, hcl⟩ := Cond.classLink_spec ho hlink e.platform hpl
    have hal := X.warmed.alike
    rw [hal.findClass, hk] at i3
    have hcls : cell.cls = k := (Option.some.inj i3).symm
    obtain ⟨dk, _, _, kt, hd, _, _, _, _, hkt, _, hres⟩ := hcl.here
    have hW' : s.WarmedH (T.vm.noted m.cls ent.catchType (.cls k)) := X.warmed.noted hd hres (State.rightAt_cls hcl)
    obtain ⟨kt', hkt', -⟩ := hal.2.2 _ _ hkt
    refine ⟨T.vm.noted m.cls ent.catchType (.cls k), X.noted hW', fun target hrest => ?_⟩
    subst hg
    have hat : At T g.method c below := X.here
    obtain ⟨hgo, hw⟩ := hat.throwing x
    refine Steps.head hgo hw ?_
    rw [stepThread_throwing (frames_entered hat.top _)]
    have hstep : (stepThrowing e ((T.setTop g).pushFrame (.throwing x)) x (.java g :: T.frames.tail)).Is ((((T.setTop g).pushFrame (.throwing x)).setVm (T.vm.noted g.method.cls ent.catchType (.cls k))).setFrames (.java { g with pc := ent.handlerPc, stack := [.ref x] } :: T.frames.tail)) [] := by
      simp only [stepThrowing, searchFrame, vmDo]
      generalize hr : Sem.go _ e false [] _ = res
      have hv0 : ((T.setTop g).pushFrame (.throwing x)).vm = T.vm := Stand.throwing_vm T g x
      obtain ⟨as, rfl, ha⟩ := Sem.eq_ok_of hr (a := Handler.found ent.handlerPc) (s' := ((T.setTop g).pushFrame (.throwing x)).setVm (T.vm.noted g.method.cls ent.catchType (.cls k))) (acts' := [])
        (by
          have := xb_hand (e := e) (meth := meth) (S := (T.setTop g).pushFrame (.throwing x)) (f := g) (a := x) (ent := ent) (more := more) (k := k) (cell := cell) (code0 := c) (by rw [hv0]; exact X.method') X.code htl (by simpa [covers] using hcov) h0 (by rw [hv0]; exact X.warmed.classLinks hcl) (by rw [Stand.throwing_heap]; exact i1) i2 hcls ⟨kt', by rw [hv0]; exact hkt'⟩
          rw [hv0] at this
          simp [this _ _ _ _])
      exact ⟨rfl, ha⟩
    rw [hstep.1]
    obtain ⟨g₀, hg0⟩ := Option.isSome_iff_exists.mp hat.top
    obtain ⟨r, hr⟩ := State.topJava?_eq_some.mp hg0
    have hr' : (T.setVm (T.vm.noted g.method.cls ent.catchType (.cls k))).frames = .java g₀ :: r := hr
    have hmove : ∀ (u : State) (F1 F2 : List Frame) (v : Vm), ((u.setFrames F1).setVm v).setFrames F2 = (u.setVm v).setFrames F2 := fun u F1 F2 v => by
      have : (u.setFrames F1).setVm v = (u.setVm v).setFrames F1 := rfl
      rw [this, State.setFrames_setFrames]
    rw [State.setTop_of_frames _ hr'] at hrest
    rw [hr, List.tail_cons, State.pushFrame, hmove, State.setTop_of_frames _ hr, hmove]
    exact hrest
/-- the world behind a call that threw: the cells that it had are forgotten -/
theorem xb_thrW {T' U : State} {L : List Loc} (F : xb_F p s m args c cc nL own G ss A) (h : xb_W G A s ws H locs) (isC isR : List Nat) (hC : isC.map (fun i => ws[i]?) = wc.map some) (hR : isR.map (fun i => ws[i]?) = wr.map some) (hn : va_nd isR = true) (hdis : ∀ i ∈ isR, i ∉ isC)
    (hF' : va_F (va_A wc H.size) U T') (hL : ∀ q ∈ L, va_A wc H.size q.base) (hU : U.heap = H) : xb_W G A s wr T'.heap (locs ++ L) := by
  obtain ⟨hP, hD, hS⟩ := h
  have hF := va_free (wc := wc) hD hS F.2.2.1 isC hC
  obtain ⟨hz, hk⟩ := hF'
  rw [hU] at hz hk
  have hP1 : xb_P G [] T'.heap := fun k q hk => by simp at hk
  obtain ⟨hP2, hD2⟩ := va_join hP hD isC isR hC hR hn hdis hk hF hP1 (w1 := []) (by unfold va_D; simp)
  rw [List.append_nil] at hP2 hD2
  exact ⟨hP2, hD2, Nat.le_trans hS.1 hz, fun q h1 h2 => by rw [hk q (Nat.lt_of_lt_of_le h1 hS.1) (fun z => h2 (hF q z))]; exact hS.2.1 q h1 h2, fun q hq => by
    rcases List.mem_append.mp hq with h | h
    · exact hS.2.2 q h
    · exact hF _ (hL q h)⟩
/-- the contract of a method with handlers -/
def xb_CTW (l : Launch) (y : MethodName) (bytes : ByteArray) (maxL : Nat) (ret : Option FieldType) (hh : List (Nat × Nat × Nat × Nat)) (rm : Room) (G : xb_EV) (av : List Value) (wc : va_W) {S : Type} (val : S → Option Value) (post : S → Prop) (w1 : S → va_W) : Prop :=
  ∀ sz : Nat, Met l y (Cond.codeWith y bytes maxL ret hh :: xb_g) rm (va_Pc av (xb_pre G [] wc sz)) (xb_Q G wc sz val post w1) rm.cells rm.slots (va_A wc sz)
theorem xb_CTW.of {y : MethodName} {bytes : ByteArray} {maxL : Nat} {ret : Option FieldType} {hh : List (Nat × Nat × Nat × Nat)} {rm : Room} {av : List Value} {S : Type} {val : S → Option Value} {post : S → Prop} {w1 : S → va_W} (hy : plainName y.cls = true) (own : String) (hown : y.cls = own)
    (body : ∀ (p : Program) (e : Env) (s : State) (m : MethodId) (args : Array Value) (below : List Frame) (meth : Method) (c : Code) (A : Nat → Prop) (ls : Array Slot) (Q : State → Prop), c.exceptionTable.toList.map (fun h => (h.startPc, h.endPc, h.handlerPc, h.catchType)) = hh → xb_F p s m args c bytes maxL own G [] A → meth.sig.returnType = ret → meth.locks = false → meth.name = y.name → xb_W G A s wc s.heap [] → lv_has ls maxL (lv_args 0 av) → (∀ q, A q ↔ va_A wc s.heap.size q) →
      Q = MQ below (xb_Q G wc s.heap.size val post w1) args s rm.cells rm.slots (va_A wc s.heap.size) → W p l e rm s m args below meth c s.heap [] 0 0 Q (F0 m 0 ls [])) (hlen : (lg_sl av).length ≤ maxL) :
    xb_CTW l y bytes maxL ret hh rm G av wc val post w1 := by
  intro sz
  refine va_MetW (cc := bytes) (maxL := maxL) (ret := ret) (hh := hh) hy rfl ?_
  intro p e s m args below meth c s₁ B hml hv
  obtain ⟨rfl, hsz, hP, hK, hD0, hE, hSS⟩ := hv
  subst hsz
  have hts := atoms_spec (ws := Cond.codeWith y bytes maxL ret hh :: xb_g) B.pre
  have hl := lv_entry av (n := maxL) hlen
  obtain ⟨m9, meth9, c9, hn9, hm9, hc9, -, -, htab, -⟩ := Cond.codeWith_spec (hts _ List.mem_cons_self)
  cases B.named.symm.trans hn9
  cases B.method.symm.trans hm9
  cases (Stand.of_body B).code.symm.trans hc9
  rw [lg_entry_eq]
  exact body p e s m av.toArray below meth c (va_A wc s.heap.size) _ _ htab ⟨⟨B.exec, B.bytes, hml, by rw [← hown]; exact findClass_of_methodNamed B.named, fun w hw => hts w (List.mem_cons_of_mem _ hw)⟩, hK, fun q h => Or.inr h, hE, hSS⟩ B.returns B.notSynchronized (name_of_methodNamed B.named B.method).1 ⟨hP, hD0.self (sz := s.heap.size), va_S.rf⟩ hl (fun _ => Iff.rfl) rfl
/-- a throwing call in a method whose first handler takes it -/
theorem xb_throwVC {y : MethodName} {bytes : ByteArray} {maxL index ix lo hi hp : Nat} {tl : List (Nat × Nat × Nat × Nat)} {ret : Option FieldType} {rm : Room} {ss' : List (Nat × Nat × Nat × (Nat → Int32))} {C : String} {b : Nat} {As : List Value} (F : xb_F p s m args c cc nL own G ss A) (h : xb_W G A s ws H locs)
    (hh : c.exceptionTable.toList.map (fun h => (h.startPc, h.endPc, h.handlerPc, h.catchType)) = (lo, hi, hp, ix) :: tl) (h0 : ix ≠ 0) (hcov : (lo ≤ pc && pc < hi) = true) (kc : Cond.classLink own ix "java/lang/IllegalArgumentException" ∈ xb_g)
    (hM : xb_CTT l y bytes maxL ret rm G ss' (.ref b :: As) wc) (n : Nat) (hb : ∃ cell : Cell, H[b]? = some cell ∧ cell.vm.isStatics = false ∧ s.vm.findClass C = some cell.cls) (k1 : Cond.code y bytes maxL ret ∈ xb_g) (k2 : Cond.initialized y.cls ∈ xb_g) (k3 : Cond.methodLink own index y ∈ xb_g) (k4 : Cond.instanceMethod y ∈ xb_g) (k5 : Cond.selects C y y ∈ xb_g)
    (hd : y.cls ≠ "java/lang/invoke/MethodHandle" ∧ y.cls ≠ "java/lang/invoke/VarHandle" ∧ (parseMethodDescriptor y.desc).map (fun d => d.parameters.length) = some n) (hRm : rm.frames + 1 ≤ R.frames ∧ 8 + (maxL + 11) + rm.locals ≤ R.locals)
    (isC isR : List Nat) (hC : isC.map (fun i => ws[i]?) = wc.map some) (hR : isR.map (fun i => ws[i]?) = wr.map some) (hc : va_nd isC = true) (hn : va_nd isR = true) (hdis : ∀ i ∈ isR, i ∉ isC)
    (hss : ∀ U : State, U.heap = H → s.WarmedH U.vm → xb_SS ss' (va_A wc H.size) U U.heap)
    (hl : ls.size = nL) (hAs : As.length = n) (hst : st0 = As.reverse ++ .ref b :: rest) (hro : (rest.map fun v => v.category).sum ≤ 8) (hf : cells + rm.cells ≤ R.cells ∧ slots + rm.slots ≤ R.slots) (hdg : decode cc pc = .ok (.invokevirtual index, 3))
    (kk : ∀ (x : Nat) (H1 : Heap) (locs1 : List Loc), xb_W G A s wr H1 locs1 → W p l e R s m args below meth c H1 locs1 (cells + rm.cells) (slots + rm.slots) Q (F0 m hp ls [.ref x])) :
    W p l e R s m args below meth c H locs cells slots Q (F0 m pc ls st0) := by
  obtain ⟨hP, hD, hS⟩ := id h
  have hF := va_free (wc := wc) hD hS F.2.2.1 isC hC
  have hts := F.1.2.2.2.2
  have hpay : ∀ w ∈ Cond.code y bytes maxL ret :: xb_g, ∀ (a' : Array Value) (U : State), s.WarmedH U.vm → w.before a' U = true := pay_in hts (xb_gcode k1)
  obtain ⟨cellB, hcB, hoB, hclB⟩ := hb
  obtain ⟨⟨hx, hbb, hml, ho, -⟩, -⟩ := id F
  intro T hT X
  obtain ⟨mk, methM, hnamed, hmethM, hstM, habM⟩ := Cond.instanceMethod_spec (hts _ k4)
  obtain ⟨methM', cM, hmethM', -, -, -, -, -, -, hsigM⟩ := Cond.code_spec hnamed (hts _ k1)
  cases hmethM.symm.trans hmethM'
  obtain ⟨c2, r2, m2, q1, q2, q3, q4, kP, hkP, hkPi⟩ := Cond.selects_spec (hts _ k5)
  cases hclB.symm.trans q1
  cases (State.methodFound?_of_named hnamed ⟨hd.1, hd.2.1⟩).symm.trans q2
  cases hnamed.symm.trans q3
  have hselP : selectMethod e.platform s.vm cellB.cls mk = .method mk := by rw [Launch.admits_selectMethod X.admits]; exact q4
  have hlen : As.length = methM.sig.parameters.length := by
    have h2 := hd.2.2
    rw [hsigM] at h2
    exact hAs.trans (Option.some.inj h2).symm
  obtain ⟨vm₁, X₁, hstep₁⟩ := X.invokevirtual hx ho (hts _ k3) hnamed hmethM hstM hkP hkPi ⟨hd.1, hd.2.1⟩ (a := b) (cell := cellB) (by rw [hT]; exact hcB)
    (fun z h => by rw [h] at hoB; cases hoB) hselP hmethM habM hkP hkPi (g := F0 m pc ls st0) rfl (argsL := As) (rest := rest) hlen hst (by rw [hbb]; exact hdg)
  obtain ⟨x, T', L, X', hL, hI, hF', st⟩ := xb_thr X₁ hM (g := F0 m pc ls rest) (ig := .invokevirtual index) (len := 3) rfl (hl.trans hml.symm) (by rw [hbb]; exact hdg) (lv_room hro) (X₁.named hnamed) (fun w hw => hpay w hw _ _ X₁.warmed) (word_at X₁.warmed (xb_gin _ k2).2 (hts _ k2))
    (by have := xb_pre.at F h isC hC hc hss (U := T.setVm vm₁) hT X₁.warmed; rw [← hT] at this; exact this) hRm hf.1 hf.2
  obtain ⟨vm₂, X₂, hgo⟩ := xb_caught (g := F0 m pc ls rest) X' rfl ho hI hh h0 hcov (hts _ kc)
  have hTh : (T.setVm vm₁).heap = H := hT
  rw [hTh] at hL hF'
  have hW2 : xb_W G A s wr T'.heap (locs ++ L) := xb_thrW F h isC isR hC hR hn hdis hF' hL hTh
  obtain ⟨t, t1, t2⟩ := kk x T'.heap (locs ++ L) hW2 (T'.setVm vm₂) rfl X₂
  exact ⟨t, hstep₁ _ fun acts => (st acts).trans (hgo t t1), t2⟩
end XCA
section XCB
variable {p : Program} {l : Launch} {e : Env} {R : Room} {s : State} {m : MethodId} {args : Array Value} {below : List Frame} {meth : Method} {c : Code} {H : Heap} {locs : List Loc} {cells slots : Nat} {Q : State → Prop}
variable {cc : ByteArray} {nL pc : Nat} {own : String} {G : xb_EV} {ss : List (Nat × Nat × Nat × (Nat → Int32))} {A : Nat → Prop} {ls : Array Slot} {rest st0 : List Value} {ws wc wr : va_W}
theorem xb_callSW {y : MethodName} {bytes : ByteArray} {maxL index : Nat} {ret : Option FieldType} {hh : List (Nat × Nat × Nat × Nat)} {rm : Room} {As : List Value} {S : Type} {val : S → Option Value} {post : S → Prop} {w1 : S → va_W} (F : xb_F p s m args c cc nL own G ss A) (h : xb_W G A s ws H locs)
    (hM : xb_CTW l y bytes maxL ret hh rm G As wc val post w1) (n : Nat) (k1 : Cond.codeWith y bytes maxL ret hh ∈ xb_g) (k2 : Cond.initialized y.cls ∈ xb_g) (k3 : Cond.methodLink own index y ∈ xb_g) (k4 : Cond.static y ∈ xb_g)
    (hd : y.cls ≠ "java/lang/invoke/MethodHandle" ∧ y.cls ≠ "java/lang/invoke/VarHandle" ∧ (parseMethodDescriptor y.desc).map (fun d => d.parameters.length) = some n) (hRm : rm.frames + 1 ≤ R.frames ∧ 8 + (maxL + 11) + rm.locals ≤ R.locals)
    (isC isR : List Nat) (hC : isC.map (fun i => ws[i]?) = wc.map some) (hR : isR.map (fun i => ws[i]?) = wr.map some) (hc : va_nd isC = true) (hn : va_nd isR = true) (hdis : ∀ i ∈ isR, i ∉ isC)
    (hl : ls.size = nL) (hAs : As.length = n) (hst : st0 = As.reverse ++ rest) (hro : (rest.map fun v => v.category).sum ≤ 8) (hf : cells + rm.cells ≤ R.cells ∧ slots + rm.slots ≤ R.slots) (hdg : decode cc pc = .ok (.invokestatic index, 3))
    (kk : ∀ (u : S) (H1 : Heap) (locs1 : List Loc), post u → xb_W G A s (wr ++ w1 u) H1 locs1 → W p l e R s m args below meth c H1 locs1 (cells + rm.cells) (slots + rm.slots) Q (F0 m (pc + 3) ls ((val u).toList ++ rest))) :
    W p l e R s m args below meth c H locs cells slots Q (F0 m pc ls st0) := by
  have hts := F.1.2.2.2.2
  have hgood : GoodIn xb_g (Cond.codeWith y bytes maxL ret hh :: xb_g) := fun w hw => by
    rcases List.mem_cons.mp hw with rfl | hw
    · exact xb_gin _ k1
    · exact xb_gin _ hw
  have hK : Back l R p e below s args y 3 8 (PreOf R rm.cells rm.slots (va_Pc As (xb_pre G [] wc H.size))) (PostOf (xb_Q G wc H.size val post w1) rm.cells rm.slots (va_A wc H.size)) :=
    va_backW (hh := hh) (bytes := bytes) (maxL := maxL) (ret := ret) (hM H.size) xb_blind rfl rfl hRm.1 hRm.2 (pay_in hts hgood) List.mem_cons_self (fun a' U hW => word_at hW (xb_gin _ k2).2 (hts _ k2))
  refine xb_go (rm := rm) (av := As) (wc := wc) F h isC isR hC hR hn hdis ?_ kk
  obtain ⟨⟨hx, hbb, hml, ho, -⟩, -⟩ := id F
  intro T hT X
  obtain ⟨mk, methM, cM, hnamed, hmethM, -, -, -, -, -, -, hsigM⟩ := Cond.codeWith_spec (hts _ k1)
  have hstatic : methM.isStatic = true := Cond.static_spec hnamed hmethM (hts _ k4)
  obtain ⟨kP, hkP, -⟩ := className_of_methodNamed hnamed
  have hinitP : kP.init = .initialized := Cond.initialized_spec (findClass_of_methodNamed hnamed) hkP (hts _ k2)
  have hlen : As.length = methM.sig.parameters.length := by
    have h2 := hd.2.2
    rw [hsigM] at h2
    exact hAs.trans (Option.some.inj h2).symm
  obtain ⟨vm₁, X₁, hstep₁⟩ := X.invokestatic hx ho (hts _ k3) hnamed hmethM hstatic hkP hinitP ⟨hd.1, hd.2.1⟩ (g := F0 m pc ls st0) rfl (argsL := As) (rest := rest) hlen hst (by rw [hbb]; exact hdg)
  obtain ⟨v, ⟨U', l2, c2, s2⟩, X', ⟨g', mk2, t, L, e1, e2, hq, h1, hL, h2, h3⟩, hsteps⟩ := hK m meth c ⟨T.setVm vm₁, locs, cells, slots⟩ (F0 m pc ls rest) (.invokestatic index) mk As.toArray X₁ rfl (hl.trans hml.symm) (by rw [hbb]; exact hdg) (lv_room hro) (X₁.named hnamed) ⟨hf.1, hf.2, rfl, xb_pre.at F h isC hC hc xb_ss0 (U := T.setVm vm₁) hT X₁.warmed⟩
  dsimp only [Pt.U, Pt.locs, Pt.cells, Pt.slots] at X' e1 e2 h1 h2 h3 hsteps
  subst h1; subst h2; subst h3
  exact ⟨v, (T.setVm vm₁).calling g' mk2 As.toArray, t, U', L, hT, X', hL, e1, e2, hq, fun target h => hstep₁ _ fun acts => by rw [doInvoke_state]; exact hsteps.trans h⟩
end XCB
