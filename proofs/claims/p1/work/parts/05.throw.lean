/-! Methods that throw an IllegalArgumentException: their contracts, and a call of such a method in one that has no handler. -/
def xb_IAE (t : State) (x : Nat) : Prop := ∃ cell : Cell, t.heap[x]? = some cell ∧ cell.vm.isStatics = false ∧ t.vm.findClass "java/lang/IllegalArgumentException" = some cell.cls
def xb_TQ (wc : va_W) (sz : Nat) (rm : Room) : Array Value → State → Outcome → State → Prop := fun _ st oc t => ∃ x : Nat, oc = .threw x ∧ xb_IAE t x ∧ st.WarmedH t.vm ∧ (∃ L : List Loc, st.sameButNew ({ t with vm := st.vm } : State) L rm.cells rm.slots ∧ ∀ q ∈ L, va_A wc sz q.base) ∧ va_F (va_A wc sz) st t
def xb_CTT (l : Launch) (y : MethodName) (bytes : ByteArray) (maxL : Nat) (ret : Option FieldType) (rm : Room) (G : xb_EV) (ss : List (Nat × Nat × Nat × (Nat → Int32))) (av : List Value) (wc : va_W) : Prop :=
  ∀ sz : Nat, MetFree l y (headSpec (Cond.code y bytes maxL ret :: xb_g) rm) (va_Pc av (xb_pre G ss wc sz)) (fun _ _ _ _ _ => True) (xb_TQ wc sz rm)
def xb_MT (below : List Frame) (wc : va_W) (a : Array Value) (s : State) (rm : Room) : State → Prop := fun t => ∃ o, t.status = .running ∧ Ended t below o ∧ xb_TQ wc s.heap.size rm a s o t
section XBT
variable {p : Program} {l : Launch} {e : Env} {R : Room} {s : State} {m : MethodId} {args : Array Value} {below : List Frame} {meth : Method} {c : Code} {H : Heap} {locs : List Loc} {cells slots : Nat} {Q : State → Prop}
variable {cc : ByteArray} {nL pc : Nat} {own : String} {G : xb_EV} {ss : List (Nat × Nat × Nat × (Nat → Int32))} {A : Nat → Prop} {ls : Array Slot} {rest st0 : List Value} {ws wc wc0 wr : va_W}
theorem xb_CTT.of {y : MethodName} {bytes : ByteArray} {maxL : Nat} {ret : Option FieldType} {rm : Room} {av : List Value} (hy : plainFor y = true) (own : String) (hown : y.cls = own)
    (body : ∀ (p : Program) (e : Env) (s : State) (m : MethodId) (args : Array Value) (below : List Frame) (meth : Method) (c : Code) (A : Nat → Prop) (ls : Array Slot), l.admits e → xb_F p s m args c bytes maxL own G ss A → c.exceptionTable.isEmpty = true → meth.locks = false → xb_W G A s wc s.heap [] → lv_has ls maxL (lv_args 0 av) → (∀ q, A q ↔ va_A wc s.heap.size q) →
      W p l e rm s m args below meth c s.heap [] 0 0 (xb_MT below wc args s rm) (F0 m 0 ls [])) (hlen : (lg_sl av).length ≤ maxL) :
    xb_CTT l y bytes maxL ret rm G ss av wc := by
  intro sz
  refine MetFree.of_bodySF (code := bytes) (maxLocals := maxL) (ret := ret) hy ?_ ?_
  · intro args s m h hn
    obtain ⟨meth, c, h1, h2, h3, h4, h5, h6, -, -⟩ := Cond.code_spec hn (atoms_spec (ws := Cond.code y bytes maxL ret :: xb_g) h _ List.mem_cons_self)
    exact ⟨meth, c, h1, h2, h3, h4, h5, h6⟩
  · intro p e s m args below meth c s₁ B hml hv _
    obtain ⟨rfl, hsz, hP, hK, hD0, hE, hSS⟩ := hv
    subst hsz
    have hts := atoms_spec (ws := Cond.code y bytes maxL ret :: xb_g) B.pre
    have hl := lv_entry av (n := maxL) hlen
    have hh0 : s₁.heap = s.heap := by rw [B.state]; rfl
    obtain ⟨t, a1, o, b1, b2, b3⟩ := body p e s m av.toArray below meth c (va_A wc s.heap.size) _ B.admits ⟨⟨B.exec, B.bytes, hml, by rw [← hown]; exact findClass_of_methodNamed B.named, fun w hw => hts w (List.mem_cons_of_mem _ hw)⟩, hK, fun q h => Or.inr h, hE, hSS⟩ (B.noHandlers (hts _ List.mem_cons_self)) B.notSynchronized ⟨hP, hD0.self (sz := s.heap.size), va_S.rf⟩ hl (fun _ => Iff.rfl) s₁ hh0 (Stand.of_body B)
    rw [lg_entry_eq]
    exact ⟨t, o, a1, b1, b2, b3⟩
theorem xb_thr {y : MethodName} {bytes : ByteArray} {maxL : Nat} {ret : Option FieldType} {rm : Room} {ss' : List (Nat × Nat × Nat × (Nat → Int32))} {av : List Value} {U : State} (X : Stand p l e R s m args below meth c U locs cells slots) (hM : xb_CTT l y bytes maxL ret rm G ss' av wc) {g : JFrame} {ig : Instr} {len : Nat} (hg : g.method = m) (hsize : g.locals.size = c.maxLocals) (hdg : decode c.code g.pc = .ok (ig, len)) (hW : 2 * g.monitorRoom + (g.stack.map fun v => v.category).sum ≤ 8) {mk : MethodId} (hn : U.methodNamed? y = some mk)
    (h1 : ∀ w ∈ Cond.code y bytes maxL ret :: xb_g, w.before av.toArray U = true) (h3 : (Cond.initialized y.cls).before av.toArray U = true) (hpre : xb_pre G ss' wc U.heap.size U) (hRm : rm.frames + 1 ≤ R.frames ∧ 8 + (maxL + 11) + rm.locals ≤ R.locals) (h4 : cells + rm.cells ≤ R.cells) (h5 : slots + rm.slots ≤ R.slots) :
    ∃ (x : Nat) (T' : State) (L : List Loc), Stand p l e R s m args below meth c T' (locs ++ L) (cells + rm.cells) (slots + rm.slots) ∧ (∀ q ∈ L, va_A wc U.heap.size q.base) ∧ xb_IAE T' x ∧ va_F (va_A wc U.heap.size) U T' ∧ ∀ acts, Steps p.tables e below (doInvoke e (U.setTop g) acts mk av.toArray).1 ((T'.setTop g).pushFrame (.throwing x)) := by
  obtain ⟨methY, cY, hmY, hcY, -, hlY, -, -, -, -⟩ := Cond.code_spec hn (h1 _ List.mem_cons_self)
  obtain ⟨kY, hkY, -⟩ := className_of_methodNamed hn
  have hinitY : kY.init = .initialized := Cond.initialized_spec (findClass_of_methodNamed hn) hkY h3
  have h : At U g.method c below := by rw [hg]; exact X.here
  have happ : (headSpec (Cond.code y bytes maxL ret :: xb_g) rm).appliesLoose y e.platform (U.calling g mk av.toArray) = true :=
    Spec.appliesLoose_calling (g := g) h hdg hn hkY hinitY
      (X.room_calling (g := g) (R' := rm) hsize hmY hcY hRm.1 (by rw [hlY]; omega) h4 h5) (atoms_intro h1)
  obtain ⟨mid, hmid⟩ := h.above
  have hfr : (U.setTop g).frames = (.java g :: mid) ++ below := by rw [State.frames_setTop' g h.top, hmid]; rfl
  obtain ⟨o, s₂, hsteps, -, hend, hq⟩ := Steps.callFree (hM U.heap.size) p X.admits X.cas X.clock (acts := []) hfr happ (xb_blind av.toArray U g mk ⟨rfl, hpre⟩) trivial
  have hq' : xb_TQ wc U.heap.size rm av.toArray (U.calling g mk av.toArray) o s₂ := hq
  rw [State.frames_setTop' g h.top, X.tail] at hend
  obtain ⟨x, rfl, hI, hW2, ⟨L, hsame, hL⟩, hF⟩ := hq'
  obtain ⟨T', X', hWT, hsame', ht⟩ := X.outOfThrown hg hend hW2 hsame
  subst ht
  have hh : ((T'.setTop g).pushFrame (.throwing x)).heap = T'.heap := Stand.throwing_heap T' g x
  have hv : ((T'.setTop g).pushFrame (.throwing x)).vm = T'.vm := Stand.throwing_vm T' g x
  refine ⟨x, T', L, X', hL, ?_, ?_, fun acts => by rw [doInvoke_state]; exact hsteps⟩
  · obtain ⟨cell, i1, i2, i3⟩ := hI
    rw [hh] at i1
    rw [hv] at i3
    exact ⟨cell, i1, i2, i3⟩
  · obtain ⟨f1, f2⟩ := hF
    rw [hh] at f1
    exact ⟨f1, fun q a b => by have := f2 q a b; rw [hh] at this; exact this⟩
/-- the end of a method without handlers, into which an exception has come -/
theorem xb_out {rm rm0 : Room} (hlk : meth.locks = false) (hno : c.exceptionTable.isEmpty = true) (hS : va_S A s.heap H locs) (hF : ∀ q, va_A wc H.size q → A q) (hA : ∀ q, A q ↔ va_A wc0 s.heap.size q) {U T' T : State} {g0 : JFrame} {L : List Loc} {x : Nat} (hU : U.heap = H) (X' : Stand p l e R s m args below meth c T' (locs ++ L) (cells + rm.cells) (slots + rm.slots)) (hL : ∀ q ∈ L, va_A wc U.heap.size q.base) (hI : xb_IAE T' x) (hF' : va_F (va_A wc U.heap.size) U T')
    (hc : cells + rm.cells ≤ rm0.cells) (hs : slots + rm.slots ≤ rm0.slots) (st : Steps p.tables e below (T.setTop g0) ((T'.setTop (F0 m pc ls rest)).pushFrame (.throwing x))) : ∃ t, Steps p.tables e below (T.setTop g0) t ∧ xb_MT below wc0 args s rm0 t := by
  have hnil : c.exceptionTable.toList = [] := by
    have h0 : c.exceptionTable.size = 0 := by simpa [Array.isEmpty] using hno
    exact List.eq_nil_of_length_eq_zero (by simpa using h0)
  obtain ⟨w1, w2, w3, w4, w5⟩ := X'.leaveThrown x (g := F0 m pc ls rest) rfl rfl rfl (fun y hy => by rw [hnil] at hy; cases hy) hlk
  refine ⟨_, st.trans w1, .threw x, w2, w3, x, rfl, hI, w4, ⟨locs ++ L, w5.mono hc hs, fun q hq => ?_⟩, ?_⟩
  · rcases List.mem_append.mp hq with h | h
    · exact (hA _).1 (hS.2.2 q h)
    · exact (hA _).1 (hF _ (by rw [← hU]; exact hL q h))
  · obtain ⟨f1, f2⟩ := hF'
    rw [hU] at f1 f2
    exact ⟨Nat.le_trans hS.1 f1, fun q a b => (f2 q (Nat.lt_of_lt_of_le a hS.1) (fun z => b ((hA q).1 (hF q z)))).trans (hS.2.1 q a (fun z => b ((hA q).1 z)))⟩
theorem xb_throwV {y : MethodName} {bytes : ByteArray} {maxL index : Nat} {ret : Option FieldType} {rm rm0 : Room} {ss' : List (Nat × Nat × Nat × (Nat → Int32))} {C : String} {b : Nat} {As : List Value} (F : xb_F p s m args c cc nL own G ss A) (hlk : meth.locks = false) (hno : c.exceptionTable.isEmpty = true) (hA : ∀ q, A q ↔ va_A wc0 s.heap.size q) (h : xb_W G A s ws H locs)
    (hM : xb_CTT l y bytes maxL ret rm G ss' (.ref b :: As) wc) (n : Nat) (hb : ∃ cell : Cell, H[b]? = some cell ∧ cell.vm.isStatics = false ∧ s.vm.findClass C = some cell.cls) (k1 : Cond.code y bytes maxL ret ∈ xb_g) (k2 : Cond.initialized y.cls ∈ xb_g) (k3 : Cond.methodLink own index y ∈ xb_g) (k4 : Cond.instanceMethod y ∈ xb_g) (k5 : Cond.selects C y y ∈ xb_g)
    (hd : y.cls ≠ "java/lang/invoke/MethodHandle" ∧ y.cls ≠ "java/lang/invoke/VarHandle" ∧ (parseMethodDescriptor y.desc).map (fun d => d.parameters.length) = some n) (hRm : rm.frames + 1 ≤ R.frames ∧ 8 + (maxL + 11) + rm.locals ≤ R.locals)
    (isC : List Nat) (hC : isC.map (fun i => ws[i]?) = wc.map some) (hc : va_nd isC = true)
    (hss : ∀ U : State, U.heap = H → s.WarmedH U.vm → xb_SS ss' (va_A wc H.size) U U.heap)
    (hl : ls.size = nL) (hAs : As.length = n) (hst : st0 = As.reverse ++ .ref b :: rest) (hro : (rest.map fun v => v.category).sum ≤ 8) (hf : cells + rm.cells ≤ R.cells ∧ slots + rm.slots ≤ R.slots) (hw : cells + rm.cells ≤ rm0.cells ∧ slots + rm.slots ≤ rm0.slots) (hdg : decode cc pc = .ok (.invokevirtual index, 3)) :
    W p l e R s m args below meth c H locs cells slots (xb_MT below wc0 args s rm0) (F0 m pc ls st0) := by
  obtain ⟨hP, hD, hS⟩ := id h
  have hF := va_free (wc := wc) hD hS F.2.2.1 isC hC
  have hts := F.1.2.2.2.2
  have hpay : ∀ w ∈ Cond.code y bytes maxL ret :: xb_g, ∀ (a' : Array Value) (U : State), s.WarmedH U.vm → w.before a' U = true := pay_in hts (xb_gcode k1)
  obtain ⟨cellB, hcB, hoB, hclB⟩ := hb
  obtain ⟨⟨hx, hbb, hml, ho, -⟩, -⟩ := id F
  intro T hT X
  obtain ⟨mk, methM, hnamed, hmethM, hstM, habM⟩ := Cond.instanceMethod_spec (hts _ k4)
  obtain ⟨methM', cM, hmethM', -, -, -, -, -, -, hsigM⟩ := Cond.code_spec hnamed (hts _ k1)
  cases hmethM.symm.trans hmethM'
  obtain ⟨c2, r2, m2, q1, q2, q3, q4, kP, hkP, hkPi⟩ := Cond.selects_spec (hts _ k5)
  cases hclB.symm.trans q1
  cases (State.methodFound?_of_named hnamed ⟨hd.1, hd.2.1⟩).symm.trans q2
  cases hnamed.symm.trans q3
  have hselP : selectMethod e.platform s.vm cellB.cls mk = .method mk := by rw [Launch.admits_selectMethod X.admits]; exact q4
  have hlen : As.length = methM.sig.parameters.length := by
    have h2 := hd.2.2
    rw [hsigM] at h2
    exact hAs.trans (Option.some.inj h2).symm
  obtain ⟨vm₁, X₁, hstep₁⟩ := X.invokevirtual hx ho (hts _ k3) hnamed hmethM hstM hkP hkPi ⟨hd.1, hd.2.1⟩ (a := b) (cell := cellB) (by rw [hT]; exact hcB)
    (fun z h => by rw [h] at hoB; cases hoB) hselP hmethM habM hkP hkPi (g := F0 m pc ls st0) rfl (argsL := As) (rest := rest) hlen hst (by rw [hbb]; exact hdg)
  obtain ⟨x, T', L, X', hL, hI, hF', st⟩ := xb_thr X₁ hM (g := F0 m pc ls rest) (ig := .invokevirtual index) (len := 3) rfl (hl.trans hml.symm) (by rw [hbb]; exact hdg) (lv_room hro) (X₁.named hnamed) (fun w hw => hpay w hw _ _ X₁.warmed) (word_at X₁.warmed (xb_gin _ k2).2 (hts _ k2))
    (by have := xb_pre.at F h isC hC hc hss (U := T.setVm vm₁) hT X₁.warmed; rw [← hT] at this; exact this) hRm hf.1 hf.2
  exact xb_out (rm := rm) hlk hno hS hF hA (U := T.setVm vm₁) hT X' hL hI hF' hw.1 hw.2 (hstep₁ _ fun acts => st acts)
end XBT
