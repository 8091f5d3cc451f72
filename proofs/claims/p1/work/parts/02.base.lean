/-! The base: one list of words for all contracts (xb_g), one environment (xb_EV), one form of contract (xb_CT), calls and reads and writes in this form. -/
def xb_g : List Cond := lw_tbl.filter goodWord
theorem xb_gin : GoodIn xb_g xb_g := fun _ h => ⟨h, good_of_word (List.mem_filter.mp h).2⟩
theorem xb_gof {args : Array Value} {s : State} (h : ∀ w ∈ lw_tbl, w.before args s = true) : ∀ w ∈ xb_g, w.before args s = true := fun w hw => h w (List.mem_filter.mp hw).1
theorem xb_gcode {y : MethodName} {b : ByteArray} {n : Nat} {r : Option FieldType} (h : Cond.code y b n r ∈ xb_g) : GoodIn xb_g (Cond.code y b n r :: xb_g) := fun w hw => by
  rcases List.mem_cons.mp hw with rfl | hw
  · exact xb_gin _ h
  · exact xb_gin _ hw
theorem xb_m (i : Nat) {w : Cond} (h : tables_1[i]? = some w) (hg : goodWord w = true) : w ∈ xb_g := List.mem_filter.mpr ⟨List.mem_append_right _ (List.mem_of_getElem? h), hg⟩
theorem xb_ms {q : MethodName × Nat} (h : q ∈ lw_privs) (hg : goodWord (Cond.selects q.1.cls q.1 q.1) = true) : Cond.selects q.1.cls q.1 q.1 ∈ xb_g := List.mem_filter.mpr ⟨List.mem_append_left _ (List.mem_map.mpr ⟨q, h, rfl⟩), hg⟩
/-- the environment: the tables' numbers; the numbers of the array classes; the empty row of ArrayList; the literals (texts, rows of bytes) -/
abbrev xb_EV : Type := va_G × (Nat → ClassId) × Nat × (Nat → Nat) × (Nat → Nat)
abbrev xb_ty (ca : Nat → ClassId) : List (ClassId × FieldType) := [(ca 0, .int), (ca 1, .long), (ca 2, .boolean), (ca 3, .char), (ca 4, .byte), (ca 5, .object "java/lang/Object")]
abbrev xb_K (G : xb_EV) (U : State) : Prop := va_K G.1 xb_cl (xb_ty G.2.1) U
abbrev xb_P (G : xb_EV) (ws : va_W) (H : Heap) : Prop := va_P G.1 xb_cl ws H
/-- a text at a, its bytes at d: n of them -/
def xb_SB (q : Nat × Nat × Nat × (Nat → Int32)) (A : Nat → Prop) (U : State) (H : Heap) : Prop := va_O "java/lang/String" q.1 A U H ∧ va_OF "java/lang/String" "coder" "B" (.int 0) q.1 A U H ∧ va_OF "java/lang/String" "value" "[B" (.ref q.2.1) q.1 A U H ∧ va_T .byte q.2.1 q.2.2.1 (fun j => .int (q.2.2.2 j)) A U H
def xb_SS (ss : List (Nat × Nat × Nat × (Nat → Int32))) (A : Nat → Prop) (U : State) (H : Heap) : Prop := ∀ q ∈ ss, xb_SB q A U H
/-- a static of a reference, and that its place is laid -/
def xb_LS (C n d : String) (A : Nat → Prop) (U : State) (H : Heap) : Prop := ∃ (c : ClassId) (k : Class) (i : Nat) (f : Field) (a : Nat) (cell : Cell) (r : Option Nat), U.vm.findClass C = some c ∧ U.fieldFound? C n d = some (c, k, i, f) ∧ f.isStatic = true ∧ k.statics = some a ∧ H[a]? = some cell ∧ cell.vm.isStatics = true ∧ cell.cls = c ∧ f.slot < cell.slots.size ∧ k.staticTypes[f.slot]? = some f.type ∧ cell.slots[f.slot]? = some (va_rf r) ∧ ¬ A a
theorem xb_LS.go {C n d : String} {A B : Nat → Prop} {u U : State} {H H1 : Heap} (h : xb_LS C n d A u H) (hq : ∀ a : Nat, a < H.size → ¬ A a → H1[a]? = H[a]?) (hAB : ∀ q, B q → A q) (hvm : u.vm.Alike U.vm) : xb_LS C n d B U H1 := by
  obtain ⟨c, k, i, f, a, cell, r, h1, h2, h3, h4, h5, h6, h7, h8, h9, h10, h11⟩ := h
  obtain ⟨k', hi', he⟩ := State.fieldFound?_setVm hvm h2
  exact ⟨c, k', i, f, a, cell, r, by rw [hvm.findClass]; exact h1, hi', h3, by rw [he]; exact h4, by rw [hq a (Array.getElem?_eq_some_iff.mp h5).1 h11]; exact h5, h6, h7, h8, by rw [he]; exact h9, h10, fun z => h11 (hAB a z)⟩
theorem xb_LS.lays {C n d : String} {A : Nat → Prop} {U : State} {args : Array Value} (h : xb_LS C n d A U U.heap) : (Cond.laysStatic C n d).before args U = true := by
  obtain ⟨c, k, i, f, a, cell, r, h1, h2, h3, h4, h5, h6, h7, h8, h9, h10, h11⟩ := h
  exact Cond.laysStatic_of h1 h2 h3 h4 h5 h6 h7 h8 h9
theorem xb_LS.isref {C n d : String} {A : Nat → Prop} {U : State} {args : Array Value} (h : xb_LS C n d A U U.heap) : (Cond.isRef (.static C n d)).before args U = true := by
  obtain ⟨c, k, i, f, a, cell, r, h1, h2, h3, h4, h5, h6, h7, h8, h9, h10, h11⟩ := h
  cases r with
  | none => simp [Cond.before, Cond.holds, Cond.value, Term.eval, State.fieldNamed?, h2, h3, h4, h5, h6, h10, va_rf]
  | some x => simp [Cond.before, Cond.holds, Cond.value, Term.eval, State.fieldNamed?, h2, h3, h4, h5, h6, h10, va_rf]
/-- what is never written: the two statics, the literals -/
def xb_E (G : xb_EV) (A : Nat → Prop) (U : State) (H : Heap) : Prop := va_Z "java/util/ArrayList" "DEFAULTCAPACITY_EMPTY_ELEMENTDATA" "[Ljava/lang/Object;" (.ref G.2.2.1) A U H ∧ va_T (.object "java/lang/Object") G.2.2.1 0 (fun _ => .null) A U H ∧ va_Z "java/lang/String" "COMPACT_STRINGS" "Z" (.int 1) A U H ∧ vk_S xb_sN xb_sL xb_sB G.2.2.2.1 G.2.2.2.2 A U H ∧ (∀ q ∈ xb_sR, vk_R q.1 q.2.1 q.2.2.1 (G.2.2.2.1 q.2.2.2) U) ∧ (∃ z : Option Nat, va_Z "jdk/internal/util/Preconditions" "SIOOBE_FORMATTER" "Ljava/util/function/BiFunction;" (va_rf z) A U H) ∧ (∀ q ∈ xb_cs, va_Nw (.castable q.1 q.2) U) ∧ va_AO "java/lang/Object" U ∧ (∀ y ∈ xb_dl, va_Nw (.declares y) U) ∧ ∀ q ∈ xb_tz, xb_LS "java/lang/Throwable" q.1 q.2 A U H
theorem xb_E.go {G : xb_EV} {A B : Nat → Prop} {s U : State} {H : Heap} {locs : List Loc} (h : xb_E G A s s.heap) (hS : va_S A s.heap H locs) (hAB : ∀ q, B q → A q) (hU : U.heap = H) (hW : s.WarmedH U.vm) : xb_E G B U U.heap := by
  obtain ⟨h1, h2, h3, h4, h5, ⟨z, h6⟩, h7, h8, h9, h10⟩ := h
  rw [hU]
  exact ⟨((h1.kept (fun a x y => hS.2.1 a x y)).narrow hAB).moved hW.alike, ((h2.kept (fun a x y => hS.2.1 a x y)).narrow hAB).moved hW.alike, ((h3.kept (fun a x y => hS.2.1 a x y)).narrow hAB).moved hW.alike, ((h4.kept (fun a x y => hS.2.1 a x y)).narrow hAB).moved hW.alike, fun q hq => (h5 q hq).warm hW, ⟨z, ((h6.kept (fun a x y => hS.2.1 a x y)).narrow hAB).moved hW.alike⟩, fun q hq => va_Nw.warmC hW (h7 q hq), h8.moved hW.alike, fun y hy => va_Nw.warmD hW (h9 y hy), fun q hq => (h10 q hq).go (fun a x y => hS.2.1 a x y) hAB hW.alike⟩
theorem xb_SB.go {q : Nat × Nat × Nat × (Nat → Int32)} {A B : Nat → Prop} {s U : State} {H : Heap} {locs : List Loc} (h : xb_SB q A s s.heap) (hS : va_S A s.heap H locs) (hAB : ∀ q, B q → A q) (hU : U.heap = H) (hW : s.WarmedH U.vm) : xb_SB q B U U.heap := by
  obtain ⟨h1, h2, h3, h4⟩ := h
  rw [hU]
  exact ⟨((h1.kept (fun a x y => hS.2.1 a x y)).narrow hAB).moved hW.alike, ((h2.kept (fun a x y => hS.2.1 a x y)).narrow hAB).moved hW.alike, ((h3.kept (fun a x y => hS.2.1 a x y)).narrow hAB).moved hW.alike, ((h4.kept (fun a x y => hS.2.1 a x y)).narrow hAB).moved hW.alike⟩
theorem xb_SS.go {ss ss' : List (Nat × Nat × Nat × (Nat → Int32))} {A B : Nat → Prop} {s U : State} {H : Heap} {locs : List Loc} (h : xb_SS ss A s s.heap) (hin : ∀ q ∈ ss', q ∈ ss) (hS : va_S A s.heap H locs) (hAB : ∀ q, B q → A q) (hU : U.heap = H) (hW : s.WarmedH U.vm) : xb_SS ss' B U U.heap := fun q hq => (h q (hin q hq)).go hS hAB hU hW
/-- what a contract asks at its start -/
def xb_pre (G : xb_EV) (ss : List (Nat × Nat × Nat × (Nat → Int32))) (wc : va_W) (sz : Nat) (U : State) : Prop := U.heap.size = sz ∧ xb_P G wc U.heap ∧ xb_K G U ∧ va_D (fun _ => True) wc ∧ xb_E G (va_A wc sz) U U.heap ∧ xb_SS ss (va_A wc sz) U U.heap
theorem xb_blind {G : xb_EV} {ss : List (Nat × Nat × Nat × (Nat → Int32))} {wc : va_W} {sz : Nat} {av : List Value} : FrameBlind (va_Pc av (xb_pre G ss wc sz)) := by
  intro a U g mk h
  obtain ⟨h0, h1, h2, h3, h4, h5, h6⟩ := h
  exact ⟨h0, h1, h2, va_K.moved (u := U) (U := U.calling g mk a) (Vm.Alike.refl U.vm) h3, h4, ⟨h5.1.moved (U := U.calling g mk a) (Vm.Alike.refl U.vm), h5.2.1.moved (U := U.calling g mk a) (Vm.Alike.refl U.vm), h5.2.2.1.moved (U := U.calling g mk a) (Vm.Alike.refl U.vm), h5.2.2.2.1.moved (U := U.calling g mk a) (Vm.Alike.refl U.vm), fun q hq => (h5.2.2.2.2.1 q hq).same (u := U) rfl, h5.2.2.2.2.2.1.imp (fun _ hz => hz.moved (U := U.calling g mk a) (Vm.Alike.refl U.vm)), fun q hq => va_Nw.same rfl (u := U) rfl (h5.2.2.2.2.2.2.1 q hq), h5.2.2.2.2.2.2.2.1.moved (U := U.calling g mk a) (Vm.Alike.refl U.vm), fun y hy => va_Nw.same rfl (u := U) rfl (h5.2.2.2.2.2.2.2.2.1 y hy), fun q hq => (h5.2.2.2.2.2.2.2.2.2 q hq).go (U := U.calling g mk a) (fun _ _ _ => rfl) (fun _ z => z) (Vm.Alike.refl U.vm)⟩,
    fun q hq => ⟨(h6 q hq).1.moved (U := U.calling g mk a) (Vm.Alike.refl U.vm), (h6 q hq).2.1.moved (U := U.calling g mk a) (Vm.Alike.refl U.vm), (h6 q hq).2.2.1.moved (U := U.calling g mk a) (Vm.Alike.refl U.vm), (h6 q hq).2.2.2.moved (U := U.calling g mk a) (Vm.Alike.refl U.vm)⟩⟩
/-- a contract's end: some u with 'post u'; the answer is 'val u', the cells wc have become w1 u -/
def xb_Q (G : xb_EV) (wc : va_W) (sz : Nat) {S : Type} (val : S → Option Value) (post : S → Prop) (w1 : S → va_W) : Array Value → State → Outcome → State → Prop := fun _ st oc t => (∃ u : S, oc = .returned (val u) ∧ post u ∧ xb_P G (w1 u) t.heap ∧ va_D (va_A wc sz) (w1 u)) ∧ va_F (va_A wc sz) st t
def xb_CT (l : Launch) (y : MethodName) (bytes : ByteArray) (maxL : Nat) (ret : Option FieldType) (rm : Room) (G : xb_EV) (ss : List (Nat × Nat × Nat × (Nat → Int32))) (av : List Value) (wc : va_W) {S : Type} (val : S → Option Value) (post : S → Prop) (w1 : S → va_W) : Prop :=
  ∀ sz : Nat, Met l y (Cond.code y bytes maxL ret :: xb_g) rm (va_Pc av (xb_pre G ss wc sz)) (xb_Q G wc sz val post w1) rm.cells rm.slots (va_A wc sz)
/-- what stands fast in a method's walk -/
def xb_F (p : Program) (s : State) (m : MethodId) (args : Array Value) (c : Code) (cc : ByteArray) (nL : Nat) (own : String) (G : xb_EV) (ss : List (Nat × Nat × Nat × (Nat → Int32))) (A : Nat → Prop) : Prop :=
  (p.tables.exec = Jvm.exec ∧ c.code = cc ∧ c.maxLocals = nL ∧ s.vm.findClass own = some m.cls ∧ ∀ w ∈ xb_g, w.before args s = true) ∧ xb_K G s ∧ (∀ q : Nat, s.heap.size ≤ q → A q) ∧ xb_E G A s s.heap ∧ xb_SS ss A s s.heap
/-- a point of the walk: the cells, apart and in A; outside A nothing has changed -/
def xb_W (G : xb_EV) (A : Nat → Prop) (s : State) (ws : va_W) (H : Heap) (locs : List Loc) : Prop := xb_P G ws H ∧ va_D A ws ∧ va_S A s.heap H locs
section XBW
variable {p : Program} {l : Launch} {e : Env} {R : Room} {s : State} {m : MethodId} {args : Array Value} {below : List Frame} {meth : Method} {c : Code} {H : Heap} {locs : List Loc} {cells slots : Nat} {Q : State → Prop}
variable {cc : ByteArray} {nL pc : Nat} {own : String} {G : xb_EV} {ss : List (Nat × Nat × Nat × (Nat → Int32))} {A : Nat → Prop} {ls : Array Slot} {rest st0 : List Value} {ws wc wr : va_W}
/-- a walk of a method's body gives its contract -/
theorem xb_CT.of {y : MethodName} {bytes : ByteArray} {maxL : Nat} {ret : Option FieldType} {rm : Room} {av : List Value} {S : Type} {val : S → Option Value} {post : S → Prop} {w1 : S → va_W} (hy : plainFor y = true) (own : String) (hown : y.cls = own)
    (body : ∀ (p : Program) (e : Env) (s : State) (m : MethodId) (args : Array Value) (below : List Frame) (meth : Method) (c : Code) (A : Nat → Prop) (ls : Array Slot) (Q : State → Prop), xb_F p s m args c bytes maxL own G ss A → meth.sig.returnType = ret → meth.locks = false → meth.name = y.name → xb_W G A s wc s.heap [] → lv_has ls maxL (lv_args 0 av) → (∀ q, A q ↔ va_A wc s.heap.size q) →
      Q = MQ below (xb_Q G wc s.heap.size val post w1) args s rm.cells rm.slots (va_A wc s.heap.size) → W p l e rm s m args below meth c s.heap [] 0 0 Q (F0 m 0 ls [])) (hlen : (lg_sl av).length ≤ maxL) :
    xb_CT l y bytes maxL ret rm G ss av wc val post w1 := by
  intro sz
  refine va_MetF (cc := bytes) (maxL := maxL) (ret := ret) hy rfl ?_
  intro p e s m args below meth c s₁ B hml hv
  obtain ⟨rfl, hsz, hP, hK, hD0, hE, hSS⟩ := hv
  subst hsz
  have hts := atoms_spec (ws := Cond.code y bytes maxL ret :: xb_g) B.pre
  have hl := lv_entry av (n := maxL) hlen
  rw [lg_entry_eq]
  exact body p e s m av.toArray below meth c (va_A wc s.heap.size) _ _ ⟨⟨B.exec, B.bytes, hml, by rw [← hown]; exact findClass_of_methodNamed B.named, fun w hw => hts w (List.mem_cons_of_mem _ hw)⟩, hK, fun q h => Or.inr h, hE, hSS⟩ B.returns B.notSynchronized (name_of_methodNamed B.named B.method).1 ⟨hP, hD0.self (sz := s.heap.size), va_S.rf⟩ hl (fun _ => Iff.rfl) rfl
/-- the walk goes on behind a call -/
theorem xb_go {rm : Room} {av : List Value} {S : Type} {val : S → Option Value} {post : S → Prop} {w1 : S → va_W} (F : xb_F p s m args c cc nL own G ss A) (h : xb_W G A s ws H locs)
    (isC isR : List Nat) (hC : isC.map (fun i => ws[i]?) = wc.map some) (hR : isR.map (fun i => ws[i]?) = wr.map some) (hn : va_nd isR = true) (hdis : ∀ i ∈ isR, i ∉ isC)
    (hr : va_Run p l e R s m args below meth c H locs cells slots rm.cells rm.slots (F0 m pc ls st0) rest (xb_Q G wc H.size val post w1 av.toArray) (va_A wc H.size))
    (kk : ∀ (u : S) (H1 : Heap) (locs1 : List Loc), post u → xb_W G A s (wr ++ w1 u) H1 locs1 → W p l e R s m args below meth c H1 locs1 (cells + rm.cells) (slots + rm.slots) Q (F0 m (pc + 3) ls ((val u).toList ++ rest))) :
    W p l e R s m args below meth c H locs cells slots Q (F0 m pc ls st0) := by
  obtain ⟨hP, hD, hS⟩ := h
  have hF := va_free (wc := wc) hD hS F.2.2.1 isC hC
  intro T hT X
  obtain ⟨v, st₀, t, T', L, h0, X', hL, e1, e2, ⟨⟨u, hv, hp, hP1, hD1⟩, hz, hk⟩, st⟩ := hr T hT X
  cases hv
  rw [h0] at hz hk
  obtain ⟨hP2, hD2⟩ := va_join hP hD isC isR hC hR hn hdis hk hF hP1 hD1
  obtain ⟨t2, a1, b1⟩ := kk u T'.heap (locs ++ L) hp ⟨by rw [e1]; exact hP2, hD2,
    Nat.le_trans hS.1 (by rw [e1]; exact hz), fun q h1 h2 => by rw [e1, hk q (Nat.lt_of_lt_of_le h1 hS.1) (fun z => h2 (hF q z))]; exact hS.2.1 q h1 h2, fun q hq => by
      rcases List.mem_append.mp hq with h | h
      · exact hS.2.2 q h
      · exact hF _ (hL q h)⟩ T' rfl X'
  exact ⟨t2, st t2 a1, b1⟩
/-- the callee's start out of the caller's point -/
theorem xb_pre.at {ss' : List (Nat × Nat × Nat × (Nat → Int32))} (F : xb_F p s m args c cc nL own G ss A) (h : xb_W G A s ws H locs) (isC : List Nat) (hC : isC.map (fun i => ws[i]?) = wc.map some) (hc : va_nd isC = true) (hss : ∀ U : State, U.heap = H → s.WarmedH U.vm → xb_SS ss' (va_A wc H.size) U U.heap)
    {U : State} (hU : U.heap = H) (hW : s.WarmedH U.vm) : xb_pre G ss' wc H.size U := by
  obtain ⟨hP, hD, hS⟩ := h
  have hF := va_free (wc := wc) hD hS F.2.2.1 isC hC
  refine ⟨by rw [hU], ?_, va_K.moved hW.alike F.2.1, (hD.sub isC hc hC).weaken (fun _ _ _ _ => trivial), F.2.2.2.1.go hS hF hU hW, hss U hU hW⟩
  rw [hU]
  intro k q hk
  obtain ⟨i, hi⟩ : ∃ i : Nat, ws[i]? = some q := by
    have h1 : (wc.map some)[k]? = some (some q) := by rw [List.getElem?_map, hk]; rfl
    rw [← hC, List.getElem?_map] at h1
    cases h2 : isC[k]? with
    | none => rw [h2] at h1; cases h1
    | some i => rw [h2] at h1; exact ⟨i, Option.some.inj h1⟩
  exact hP i q hi
/-- words of a call: what must stand in the list -/
theorem xb_cI {y : MethodName} {bytes : ByteArray} {maxL index : Nat} {rm : Room} (n : Nat) (hts : ∀ w ∈ xb_g, w.before args s = true) (k1 : Cond.code y bytes maxL none ∈ xb_g) (k2 : Cond.initialized y.cls ∈ xb_g) (k3 : Cond.methodLink own index y ∈ xb_g) (k4 : Cond.instanceMethod y ∈ xb_g) (hy1 : y.name = "<init>")
    (hd : y.cls ≠ "java/lang/invoke/MethodHandle" ∧ y.cls ≠ "java/lang/invoke/VarHandle" ∧ (parseMethodDescriptor y.desc).map (fun d => d.parameters.length) = some n) (hR : rm.frames + 1 ≤ R.frames ∧ 8 + (maxL + 11) + rm.locals ≤ R.locals) :
    CallB R s args own index y bytes maxL none (Cond.code y bytes maxL none :: xb_g) rm rm.cells rm.slots n ∧ y.name = "<init>" ∧ (Cond.instanceMethod y).before args s = true :=
  ⟨callB_of n hts (xb_gcode k1) rfl rfl rfl (hts _ k2) (hts _ k3) hd hR, hy1, hts _ k4⟩
theorem xb_cV {y : MethodName} {bytes : ByteArray} {maxL index : Nat} {ret : Option FieldType} {rm : Room} {C : String} (n : Nat) (hts : ∀ w ∈ xb_g, w.before args s = true) (k1 : Cond.code y bytes maxL ret ∈ xb_g) (k2 : Cond.initialized y.cls ∈ xb_g) (k3 : Cond.methodLink own index y ∈ xb_g) (k4 : Cond.instanceMethod y ∈ xb_g) (k5 : Cond.selects C y y ∈ xb_g)
    (hd : y.cls ≠ "java/lang/invoke/MethodHandle" ∧ y.cls ≠ "java/lang/invoke/VarHandle" ∧ (parseMethodDescriptor y.desc).map (fun d => d.parameters.length) = some n) (hR : rm.frames + 1 ≤ R.frames ∧ 8 + (maxL + 11) + rm.locals ≤ R.locals) :
    CallW R s args own C index y bytes maxL ret (Cond.code y bytes maxL ret :: xb_g) rm rm.cells rm.slots n :=
  ⟨callB_of n hts (xb_gcode k1) rfl rfl rfl (hts _ k2) (hts _ k3) hd hR, hts _ k4, hts _ k5⟩
theorem xb_cS {y : MethodName} {bytes : ByteArray} {maxL index : Nat} {ret : Option FieldType} {rm : Room} (n : Nat) (hts : ∀ w ∈ xb_g, w.before args s = true) (k1 : Cond.code y bytes maxL ret ∈ xb_g) (k2 : Cond.initialized y.cls ∈ xb_g) (k3 : Cond.methodLink own index y ∈ xb_g) (k4 : Cond.static y ∈ xb_g)
    (hd : y.cls ≠ "java/lang/invoke/MethodHandle" ∧ y.cls ≠ "java/lang/invoke/VarHandle" ∧ (parseMethodDescriptor y.desc).map (fun d => d.parameters.length) = some n) (hR : rm.frames + 1 ≤ R.frames ∧ 8 + (maxL + 11) + rm.locals ≤ R.locals) :
    CallB R s args own index y bytes maxL ret (Cond.code y bytes maxL ret :: xb_g) rm rm.cells rm.slots n ∧ (Cond.static y).before args s = true :=
  ⟨callB_of n hts (xb_gcode k1) rfl rfl rfl (hts _ k2) (hts _ k3) hd hR, hts _ k4⟩
/-- invokespecial of a constructor -/
theorem xb_callI {y : MethodName} {bytes : ByteArray} {maxL index : Nat} {rm : Room} {ss' : List (Nat × Nat × Nat × (Nat → Int32))} {b : Nat} {As : List Value} {S : Type} {val : S → Option Value} {post : S → Prop} {w1 : S → va_W} (F : xb_F p s m args c cc nL own G ss A) (h : xb_W G A s ws H locs)
    (hM : xb_CT l y bytes maxL none rm G ss' (.ref b :: As) wc val post w1) (n : Nat) (k1 : Cond.code y bytes maxL none ∈ xb_g) (k2 : Cond.initialized y.cls ∈ xb_g) (k3 : Cond.methodLink own index y ∈ xb_g) (k4 : Cond.instanceMethod y ∈ xb_g) (hy1 : y.name = "<init>")
    (hd : y.cls ≠ "java/lang/invoke/MethodHandle" ∧ y.cls ≠ "java/lang/invoke/VarHandle" ∧ (parseMethodDescriptor y.desc).map (fun d => d.parameters.length) = some n) (hRm : rm.frames + 1 ≤ R.frames ∧ 8 + (maxL + 11) + rm.locals ≤ R.locals)
    (isC isR : List Nat) (hC : isC.map (fun i => ws[i]?) = wc.map some) (hR : isR.map (fun i => ws[i]?) = wr.map some) (hc : va_nd isC = true) (hn : va_nd isR = true) (hdis : ∀ i ∈ isR, i ∉ isC)
    (hss : ∀ U : State, U.heap = H → s.WarmedH U.vm → xb_SS ss' (va_A wc H.size) U U.heap)
    (hl : ls.size = nL) (hAs : As.length = n) (hst : st0 = As.reverse ++ .ref b :: rest) (hro : (rest.map fun v => v.category).sum ≤ 8) (hf : cells + rm.cells ≤ R.cells ∧ slots + rm.slots ≤ R.slots) (hdg : decode cc pc = .ok (.invokespecial index, 3))
    (kk : ∀ (u : S) (H1 : Heap) (locs1 : List Loc), post u → xb_W G A s (wr ++ w1 u) H1 locs1 → W p l e R s m args below meth c H1 locs1 (cells + rm.cells) (slots + rm.slots) Q (F0 m (pc + 3) ls ((val u).toList ++ rest))) :
    W p l e R s m args below meth c H locs cells slots Q (F0 m pc ls st0) :=
  xb_go (rm := rm) (av := .ref b :: As) F h isC isR hC hR hn hdis (va_runI F.1 (hM H.size) (xb_cI n F.1.2.2.2.2 k1 k2 k3 k4 hy1 hd hRm) ⟨xb_blind, fun _ hU hW => ⟨rfl, xb_pre.at F h isC hC hc hss hU hW⟩⟩ rfl hAs hl hst (lv_room hro) hdg hf) kk
/-- invokevirtual; hb: the receiver's cell -/
theorem xb_callV {y : MethodName} {bytes : ByteArray} {maxL index : Nat} {ret : Option FieldType} {rm : Room} {ss' : List (Nat × Nat × Nat × (Nat → Int32))} {C : String} {b : Nat} {As : List Value} {S : Type} {val : S → Option Value} {post : S → Prop} {w1 : S → va_W} (F : xb_F p s m args c cc nL own G ss A) (h : xb_W G A s ws H locs)
    (hM : xb_CT l y bytes maxL ret rm G ss' (.ref b :: As) wc val post w1) (n : Nat) (hb : ∃ cell : Cell, H[b]? = some cell ∧ cell.vm.isStatics = false ∧ s.vm.findClass C = some cell.cls) (k1 : Cond.code y bytes maxL ret ∈ xb_g) (k2 : Cond.initialized y.cls ∈ xb_g) (k3 : Cond.methodLink own index y ∈ xb_g) (k4 : Cond.instanceMethod y ∈ xb_g) (k5 : Cond.selects C y y ∈ xb_g)
    (hd : y.cls ≠ "java/lang/invoke/MethodHandle" ∧ y.cls ≠ "java/lang/invoke/VarHandle" ∧ (parseMethodDescriptor y.desc).map (fun d => d.parameters.length) = some n) (hRm : rm.frames + 1 ≤ R.frames ∧ 8 + (maxL + 11) + rm.locals ≤ R.locals)
    (isC isR : List Nat) (hC : isC.map (fun i => ws[i]?) = wc.map some) (hR : isR.map (fun i => ws[i]?) = wr.map some) (hc : va_nd isC = true) (hn : va_nd isR = true) (hdis : ∀ i ∈ isR, i ∉ isC)
    (hss : ∀ U : State, U.heap = H → s.WarmedH U.vm → xb_SS ss' (va_A wc H.size) U U.heap)
    (hl : ls.size = nL) (hAs : As.length = n) (hst : st0 = As.reverse ++ .ref b :: rest) (hro : (rest.map fun v => v.category).sum ≤ 8) (hf : cells + rm.cells ≤ R.cells ∧ slots + rm.slots ≤ R.slots) (hdg : decode cc pc = .ok (.invokevirtual index, 3))
    (kk : ∀ (u : S) (H1 : Heap) (locs1 : List Loc), post u → xb_W G A s (wr ++ w1 u) H1 locs1 → W p l e R s m args below meth c H1 locs1 (cells + rm.cells) (slots + rm.slots) Q (F0 m (pc + 3) ls ((val u).toList ++ rest))) :
    W p l e R s m args below meth c H locs cells slots Q (F0 m pc ls st0) :=
  xb_go (rm := rm) (av := .ref b :: As) F h isC isR hC hR hn hdis (va_runV F.1 (hM H.size) (xb_cV n F.1.2.2.2.2 k1 k2 k3 k4 k5 hd hRm) ⟨xb_blind, hb, fun _ hU hW => ⟨rfl, xb_pre.at F h isC hC hc hss hU hW⟩⟩ rfl hAs hl hst (lv_room hro) hdg hf) kk
/-- invokestatic -/
theorem xb_callS {y : MethodName} {bytes : ByteArray} {maxL index : Nat} {ret : Option FieldType} {rm : Room} {ss' : List (Nat × Nat × Nat × (Nat → Int32))} {As : List Value} {S : Type} {val : S → Option Value} {post : S → Prop} {w1 : S → va_W} (F : xb_F p s m args c cc nL own G ss A) (h : xb_W G A s ws H locs)
    (hM : xb_CT l y bytes maxL ret rm G ss' As wc val post w1) (n : Nat) (k1 : Cond.code y bytes maxL ret ∈ xb_g) (k2 : Cond.initialized y.cls ∈ xb_g) (k3 : Cond.methodLink own index y ∈ xb_g) (k4 : Cond.static y ∈ xb_g)
    (hd : y.cls ≠ "java/lang/invoke/MethodHandle" ∧ y.cls ≠ "java/lang/invoke/VarHandle" ∧ (parseMethodDescriptor y.desc).map (fun d => d.parameters.length) = some n) (hRm : rm.frames + 1 ≤ R.frames ∧ 8 + (maxL + 11) + rm.locals ≤ R.locals)
    (isC isR : List Nat) (hC : isC.map (fun i => ws[i]?) = wc.map some) (hR : isR.map (fun i => ws[i]?) = wr.map some) (hc : va_nd isC = true) (hn : va_nd isR = true) (hdis : ∀ i ∈ isR, i ∉ isC)
    (hss : ∀ U : State, U.heap = H → s.WarmedH U.vm → xb_SS ss' (va_A wc H.size) U U.heap)
    (hl : ls.size = nL) (hAs : As.length = n) (hst : st0 = As.reverse ++ rest) (hro : (rest.map fun v => v.category).sum ≤ 8) (hf : cells + rm.cells ≤ R.cells ∧ slots + rm.slots ≤ R.slots) (hdg : decode cc pc = .ok (.invokestatic index, 3))
    (kk : ∀ (u : S) (H1 : Heap) (locs1 : List Loc), post u → xb_W G A s (wr ++ w1 u) H1 locs1 → W p l e R s m args below meth c H1 locs1 (cells + rm.cells) (slots + rm.slots) Q (F0 m (pc + 3) ls ((val u).toList ++ rest))) :
    W p l e R s m args below meth c H locs cells slots Q (F0 m pc ls st0) :=
  xb_go (rm := rm) (av := As) F h isC isR hC hR hn hdis (va_runS F.1 (hM H.size) (xb_cS n F.1.2.2.2.2 k1 k2 k3 k4 hd hRm) ⟨xb_blind, fun _ hU hW => ⟨rfl, xb_pre.at F h isC hC hc hss hU hW⟩⟩ rfl hAs hl hst (lv_room hro) hdg hf) kk
/-- a class as the worlds know it -/
def xb_cf (ci : Nat) (C : String) (T : u_T) (N : Nat) (ty : Nat → FieldType) : Prop := xb_cl[ci]? = some (C, T, N) ∧ (∀ w ∈ u_ws C T N, w ∈ xb_g) ∧ (∀ k, k < N → parseFieldDescriptor (T k).2.2.1 = some (ty k)) ∧ ∀ a, a < N → ∀ b, b < N → a ≠ b → (T a).2.1 ≠ (T b).2.1
theorem xb_get {ci N index a : Nat} {C ow ref nm ds : String} {T : u_T} {ty : Nat → FieldType} {fin : Bool} {fs : List Value} {v : Value} (F : xb_F p s m args c cc nL own G ss A) (h : xb_W G A s ws H locs) (cf : xb_cf ci C T N ty) (q0 : Nat) (he : ws[q0]? = some (a, .inr (ci, fs))) (k : Nat) (hk : k < N) (hT : T k = (ow, nm, ds, fin)) (kl : Cond.fieldLink own index ref nm ds ∈ xb_g) (hsm : ref = ow ∨ Cond.sameField ref ow nm ds ∈ xb_g) (hv : fs[k]? = some v) (hdg : decode cc pc = .ok (.getfield index, 3))
    (kk : W p l e R s m args below meth c H locs cells slots Q (F0 m (pc + 3) ls (v :: rest))) : W p l e R s m args below meth c H locs cells slots Q (F0 m pc ls (.ref a :: rest)) :=
  va_get (ref := ref) F.1.1 F.1.2.1 F.1.2.2.2.2 cf.2.1 F.1.2.2.2.1 F.2.1 h.1 q0 he cf.1 k hk (by rw [hT]; exact F.1.2.2.2.2 _ kl) (fun x hx => by
    rw [hT] at hx ⊢
    rcases hsm with h9 | h9
    · rw [h9]; exact hx
    · exact u_same (F.1.2.2.2.2 _ h9) x hx) hv hdg kk
theorem xb_put {ci N index a : Nat} {C ow ref nm ds : String} {T : u_T} {ty : Nat → FieldType} {fs : List Value} {v : Value} {t0 : FieldType} {ws' : va_W} (F : xb_F p s m args c cc nL own G ss A) (h : xb_W G A s ws H locs) (cf : xb_cf ci C T N ty) (q0 : Nat) (he : ws[q0]? = some (a, .inr (ci, fs))) (k : Nat) (hk : k < N) (hT : T k = (ow, nm, ds, false)) (kl : Cond.fieldLink own index ref nm ds ∈ xb_g) (hsm : ref = ow ∨ Cond.sameField ref ow nm ds ∈ xb_g)
    (hd : parseFieldDescriptor ds = some t0) (hn : narrow t0 v = v) (hfit : fits t0 v = true) (hl : k < fs.length) (hw : ws.set q0 (a, .inr (ci, fs.set k v)) = ws') (hdg : decode cc pc = .ok (.putfield index, 3))
    (kk : ∀ (H1 : Heap) (locs1 : List Loc), xb_W G A s ws' H1 locs1 → W p l e R s m args below meth c H1 locs1 cells slots Q (F0 m (pc + 3) ls rest)) : W p l e R s m args below meth c H locs cells slots Q (F0 m pc ls (v :: .ref a :: rest)) := by
  subst hw
  exact va_put (ref := ref) F.1.1 F.1.2.1 F.1.2.2.2.2 cf.2.1 ty cf.2.2.1 cf.2.2.2 F.1.2.2.2.1 F.2.1 h.1 h.2.1 h.2.2 q0 he cf.1 k hk (by rw [hT]; exact F.1.2.2.2.2 _ kl) (fun x hx => by
    rw [hT] at hx ⊢
    rcases hsm with h9 | h9
    · rw [h9]; exact hx
    · exact u_same (F.1.2.2.2.2 _ h9) x hx) (by rw [hT]) (by rw [hT]; exact hd) hn hfit hl hdg (fun H1 locs1 a b c => kk H1 locs1 ⟨a, b, c⟩)
theorem xb_putF {ci N index a : Nat} {C nm ds : String} {T : u_T} {ty : Nat → FieldType} {fs : List Value} {v : Value} {t0 : FieldType} {ws' : va_W} (F : xb_F p s m args c cc nL own G ss A) (h : xb_W G A s ws H locs) (hin : meth.name = "<init>") (cf : xb_cf ci C T N ty) (q0 : Nat) (he : ws[q0]? = some (a, .inr (ci, fs))) (k : Nat) (hk : k < N) (hT : T k = (own, nm, ds, true)) (kl : Cond.fieldLink own index own nm ds ∈ xb_g)
    (hd : parseFieldDescriptor ds = some t0) (hn : narrow t0 v = v) (hfit : fits t0 v = true) (hl : k < fs.length) (hw : ws.set q0 (a, .inr (ci, fs.set k v)) = ws') (hdg : decode cc pc = .ok (.putfield index, 3))
    (kk : ∀ (H1 : Heap) (locs1 : List Loc), xb_W G A s ws' H1 locs1 → W p l e R s m args below meth c H1 locs1 cells slots Q (F0 m (pc + 3) ls rest)) : W p l e R s m args below meth c H locs cells slots Q (F0 m pc ls (v :: .ref a :: rest)) := by
  subst hw
  exact va_putF (ref := own) F.1.1 F.1.2.1 F.1.2.2.2.2 cf.2.1 ty cf.2.2.1 cf.2.2.2 F.1.2.2.2.1 F.2.1 h.1 h.2.1 h.2.2 q0 he cf.1 k hk (by rw [hT]; exact F.1.2.2.2.2 _ kl) (fun x hx => by rw [hT] at hx ⊢; exact hx) (by rw [hT]) hin (by rw [hT]) (by rw [hT]; exact hd) hn hfit hl hdg (fun H1 locs1 a b c => kk H1 locs1 ⟨a, b, c⟩)
theorem xb_new {ci N index : Nat} {C : String} {T : u_T} {ty : Nat → FieldType} {fs : List Value} {ws' : Nat → va_W} (F : xb_F p s m args c cc nL own G ss A) (h : xb_W G A s ws H locs) (cf : xb_cf ci C T N ty) (k1 : Cond.classLink own index C ∈ xb_g) (k2 : Cond.instantiable C N ∈ xb_g) (k3 : Cond.initialized C ∈ xb_g) (hfs : ∀ j, j < N → defaultValue (ty j) = vp_V fs j) (hw : ∀ q, ws ++ [(q, .inr (ci, fs))] = ws' q) (hc : cells + 1 ≤ R.cells) (hs : slots + N ≤ R.slots) (hdg : decode cc pc = .ok (.new index, 3))
    (kk : ∀ (q : Nat) (H1 : Heap), xb_W G A s (ws' q) H1 locs → W p l e R s m args below meth c H1 locs (cells + 1) (slots + N) Q (F0 m (pc + 3) ls (.ref q :: rest))) : W p l e R s m args below meth c H locs cells slots Q (F0 m pc ls rest) :=
  va_new F.1.1 F.1.2.1 F.1.2.2.2.2 cf.2.1 ty cf.2.2.1 F.1.2.2.2.1 (F.1.2.2.2.2 _ k1) (F.1.2.2.2.2 _ k2) (F.1.2.2.2.2 _ k3) F.2.1 h.1 h.2.1 h.2.2 F.2.2.1 cf.1 hfs hc hs hdg (fun q H1 a b c => kk q H1 (by rw [← hw q]; exact ⟨a, b, c⟩))
theorem xb_RA {U : State} {a b : ClassId} {ty : FieldType} (h1 : va_RA U a ty) (h2 : va_RA U b ty) : a = b := by
  cases ty with
  | object C =>
    obtain ⟨_, _, _, _, _, h1⟩ := h1
    obtain ⟨_, _, _, _, _, h2⟩ := h2
    exact Option.some.inj (h1.symm.trans h2)
  | array t => exact Option.some.inj ((show U.vm.findClass _ = some a from h1).symm.trans (show U.vm.findClass _ = some b from h2))
  | int => exact Option.some.inj ((show U.vm.findClass _ = some a from h1).symm.trans (show U.vm.findClass _ = some b from h2))
  | long => exact Option.some.inj ((show U.vm.findClass _ = some a from h1).symm.trans (show U.vm.findClass _ = some b from h2))
  | float => exact Option.some.inj ((show U.vm.findClass _ = some a from h1).symm.trans (show U.vm.findClass _ = some b from h2))
  | double => exact Option.some.inj ((show U.vm.findClass _ = some a from h1).symm.trans (show U.vm.findClass _ = some b from h2))
  | boolean => exact Option.some.inj ((show U.vm.findClass _ = some a from h1).symm.trans (show U.vm.findClass _ = some b from h2))
  | byte => exact Option.some.inj ((show U.vm.findClass _ = some a from h1).symm.trans (show U.vm.findClass _ = some b from h2))
  | char => exact Option.some.inj ((show U.vm.findClass _ = some a from h1).symm.trans (show U.vm.findClass _ = some b from h2))
  | short => exact Option.some.inj ((show U.vm.findClass _ = some a from h1).symm.trans (show U.vm.findClass _ = some b from h2))
theorem xb_newa {atype : ArrayType} {ty : FieldType} {n : Int32} {N' : Nat} {a0 : vp_A} {cA0 : ClassId} {ws' : Nat → va_W} (F : xb_F p s m args c cc nL own G ss A) (h : xb_W G A s ws H locs) (hty : newarray.typeOf atype = ty) (t0 : Nat) (ht : (xb_ty G.2.1)[t0]? = some (cA0, ty)) (k1 : Cond.arrayClass ty ∈ xb_g) (ha : ∀ cA : ClassId, vp_cell cA a0 = arrV cA N' (fun _ => defaultValue ty)) (hn : ¬ n < 0) (hN : n.toNatClampNeg = N') (hby : N' * componentBytes ty ≤ 536870912) (hw : ∀ q, ws ++ [(q, .inl (cA0, a0))] = ws' q) (hc : cells + 1 ≤ R.cells) (hs : slots + N' ≤ R.slots) (hdg : decode cc pc = .ok (.newarray atype, 2))
    (kk : ∀ (q : Nat) (H1 : Heap), xb_W G A s (ws' q) H1 locs → W p l e R s m args below meth c H1 locs (cells + 1) (slots + N') Q (F0 m (pc + 2) ls (.ref q :: rest))) : W p l e R s m args below meth c H locs cells slots Q (F0 m pc ls (.int n :: rest)) := by
  refine va_newa F.1.1 F.1.2.1 (by rw [hty]; exact F.1.2.2.2.2 _ k1) hty F.2.1 h.1 h.2.1 h.2.2 F.2.2.1 ha hn hN hby hc hs hdg (fun q cA H1 hK1 hP1 hD1 hS1 => ?_)
  have e1 : va_RA s cA ty := (hK1.2 (xb_ty G.2.1).length (cA, ty) (by simp)).2
  have e2 : va_RA s cA0 ty := (F.2.1.2 t0 (cA0, ty) ht).2
  obtain rfl := xb_RA e1 e2
  exact kk q H1 (by rw [← hw q]; exact ⟨hP1, hD1, hS1⟩)
theorem xb_newq {index : Nat} {n : Int32} {N' : Nat} {ws' : Nat → va_W} (F : xb_F p s m args c cc nL own G ss A) (h : xb_W G A s ws H locs) (k1 : Cond.classLink own index "java/lang/Object" ∈ xb_g) (hn : ¬ n < 0) (hN : n.toNatClampNeg = N') (hby : N' * 4 ≤ 536870912) (hw : ∀ q, ws ++ [(q, .inl (G.2.1 5, N', .inr (.inr (.inr (.inr (fun _ => none))))))] = ws' q) (hc : cells + 1 ≤ R.cells) (hs : slots + N' ≤ R.slots) (hdg : decode cc pc = .ok (.anewarray index, 3))
    (kk : ∀ (q : Nat) (H1 : Heap), xb_W G A s (ws' q) H1 locs → W p l e R s m args below meth c H1 locs (cells + 1) (slots + N') Q (F0 m (pc + 3) ls (.ref q :: rest))) : W p l e R s m args below meth c H locs cells slots Q (F0 m pc ls (.int n :: rest)) := by
  refine va_newq F.1.1 F.1.2.1 F.1.2.2.2.1 (F.1.2.2.2.2 _ k1) F.2.2.2.1.2.2.2.2.2.2.2.1 F.2.1 h.1 h.2.1 h.2.2 F.2.2.1 hn hN hby hc hs hdg (fun q cA H1 hK1 hP1 hD1 hS1 => ?_)
  have e1 : va_RA s cA (.object "java/lang/Object") := (hK1.2 (xb_ty G.2.1).length (cA, .object "java/lang/Object") (by simp)).2
  have e2 : va_RA s (G.2.1 5) (.object "java/lang/Object") := (F.2.1.2 5 (G.2.1 5, .object "java/lang/Object") rfl).2
  have e3 : cA = G.2.1 5 := xb_RA e1 e2
  rw [e3] at hP1 hD1
  exact kk q H1 (by rw [← hw q]; exact ⟨hP1, hD1, hS1⟩)
/-- stores into arrays of numbers: exactly, or with contents that nobody asks (F) -/
theorem xb_iast {a n : Nat} {cA : ClassId} {f : Nat → Int32} {i x : Int32} {ws' : va_W} (F : xb_F p s m args c cc nL own G ss A) (h : xb_W G A s ws H locs) (q0 t0 : Nat) (ha : ws[q0]? = some (a, .inl (cA, n, .inl f))) (ht : (xb_ty G.2.1)[t0]? = some (cA, .int)) (hin : vp_in i n) (hw : ws.set q0 (a, .inl (cA, n, .inl (upd f i.toNatClampNeg x))) = ws') (hdg : decode cc pc = .ok (.iastore, 1))
    (kk : ∀ (H1 : Heap) (locs1 : List Loc), xb_W G A s ws' H1 locs1 → W p l e R s m args below meth c H1 locs1 cells slots Q (F0 m (pc + 1) ls rest)) : W p l e R s m args below meth c H locs cells slots Q (F0 m pc ls (.int x :: .int i :: .ref a :: rest)) := by
  subst hw
  exact va_iast F.1.1 F.1.2.1 F.2.1 h.1 h.2.1 h.2.2 q0 t0 ha ht hin hdg (fun H1 locs1 a b c => kk H1 locs1 ⟨a, b, c⟩)
theorem xb_zast {a n : Nat} {cA : ClassId} {f : Nat → Int32} {i x : Int32} {ws' : va_W} (F : xb_F p s m args c cc nL own G ss A) (h : xb_W G A s ws H locs) (q0 t0 : Nat) (ha : ws[q0]? = some (a, .inl (cA, n, .inl f))) (ht : (xb_ty G.2.1)[t0]? = some (cA, .boolean)) (hin : vp_in i n) (hw : ws.set q0 (a, .inl (cA, n, .inl (upd f i.toNatClampNeg (vp_nar .boolean x)))) = ws') (hdg : decode cc pc = .ok (.bastore, 1))
    (kk : ∀ (H1 : Heap) (locs1 : List Loc), xb_W G A s ws' H1 locs1 → W p l e R s m args below meth c H1 locs1 cells slots Q (F0 m (pc + 1) ls rest)) : W p l e R s m args below meth c H locs cells slots Q (F0 m pc ls (.int x :: .int i :: .ref a :: rest)) := by
  subst hw
  exact va_zast F.1.1 F.1.2.1 F.2.1 h.1 h.2.1 h.2.2 q0 t0 ha ht hin hdg (fun H1 locs1 a b c => kk H1 locs1 ⟨a, b, c⟩)
theorem xb_last {a n : Nat} {cA : ClassId} {f : Nat → Int64} {i : Int32} {x : Int64} {ws' : va_W} (F : xb_F p s m args c cc nL own G ss A) (h : xb_W G A s ws H locs) (q0 t0 : Nat) (ha : ws[q0]? = some (a, .inl (cA, n, .inr (.inl f)))) (ht : (xb_ty G.2.1)[t0]? = some (cA, .long)) (hin : vp_in i n) (hw : ws.set q0 (a, .inl (cA, n, .inr (.inl (vp_updL f i.toNatClampNeg x)))) = ws') (hdg : decode cc pc = .ok (.lastore, 1))
    (kk : ∀ (H1 : Heap) (locs1 : List Loc), xb_W G A s ws' H1 locs1 → W p l e R s m args below meth c H1 locs1 cells slots Q (F0 m (pc + 1) ls rest)) : W p l e R s m args below meth c H locs cells slots Q (F0 m pc ls (.long x :: .int i :: .ref a :: rest)) := by
  subst hw
  exact va_last F.1.1 F.1.2.1 F.2.1 h.1 h.2.1 h.2.2 q0 t0 ha ht hin hdg (fun H1 locs1 a b c => kk H1 locs1 ⟨a, b, c⟩)
theorem xb_cast {a n : Nat} {cA : ClassId} {f : Nat → Int32} {i x : Int32} {ws' : va_W} (F : xb_F p s m args c cc nL own G ss A) (h : xb_W G A s ws H locs) (q0 t0 : Nat) (ha : ws[q0]? = some (a, .inl (cA, n, .inl f))) (ht : (xb_ty G.2.1)[t0]? = some (cA, .char)) (hin : vp_in i n) (hw : ws.set q0 (a, .inl (cA, n, .inl (upd f i.toNatClampNeg (vp_nar .char x)))) = ws') (hdg : decode cc pc = .ok (.castore, 1))
    (kk : ∀ (H1 : Heap) (locs1 : List Loc), xb_W G A s ws' H1 locs1 → W p l e R s m args below meth c H1 locs1 cells slots Q (F0 m (pc + 1) ls rest)) : W p l e R s m args below meth c H locs cells slots Q (F0 m pc ls (.int x :: .int i :: .ref a :: rest)) := by
  subst hw
  exact va_cast F.1.1 F.1.2.1 F.2.1 h.1 h.2.1 h.2.2 q0 t0 ha ht hin hdg (fun H1 locs1 a b c => kk H1 locs1 ⟨a, b, c⟩)
theorem xb_iastF {a n : Nat} {cA : ClassId} {f : Nat → Int32} {i x : Int32} {ws' : (Nat → Int32) → va_W} (F : xb_F p s m args c cc nL own G ss A) (h : xb_W G A s ws H locs) (q0 t0 : Nat) (ha : ws[q0]? = some (a, .inl (cA, n, .inl f))) (ht : (xb_ty G.2.1)[t0]? = some (cA, .int)) (hin : vp_in i n) (hw : ∀ g, ws.set q0 (a, .inl (cA, n, .inl g)) = ws' g) (hdg : decode cc pc = .ok (.iastore, 1))
    (kk : ∀ (g : Nat → Int32) (H1 : Heap) (locs1 : List Loc), xb_W G A s (ws' g) H1 locs1 → W p l e R s m args below meth c H1 locs1 cells slots Q (F0 m (pc + 1) ls rest)) : W p l e R s m args below meth c H locs cells slots Q (F0 m pc ls (.int x :: .int i :: .ref a :: rest)) :=
  xb_iast F h q0 t0 ha ht hin (hw _) hdg (kk _)
theorem xb_zastF {a n : Nat} {cA : ClassId} {f : Nat → Int32} {i x : Int32} {ws' : (Nat → Int32) → va_W} (F : xb_F p s m args c cc nL own G ss A) (h : xb_W G A s ws H locs) (q0 t0 : Nat) (ha : ws[q0]? = some (a, .inl (cA, n, .inl f))) (ht : (xb_ty G.2.1)[t0]? = some (cA, .boolean)) (hin : vp_in i n) (hw : ∀ g, ws.set q0 (a, .inl (cA, n, .inl g)) = ws' g) (hdg : decode cc pc = .ok (.bastore, 1))
    (kk : ∀ (g : Nat → Int32) (H1 : Heap) (locs1 : List Loc), xb_W G A s (ws' g) H1 locs1 → W p l e R s m args below meth c H1 locs1 cells slots Q (F0 m (pc + 1) ls rest)) : W p l e R s m args below meth c H locs cells slots Q (F0 m pc ls (.int x :: .int i :: .ref a :: rest)) :=
  xb_zast F h q0 t0 ha ht hin (hw _) hdg (kk _)
theorem xb_lastF {a n : Nat} {cA : ClassId} {f : Nat → Int64} {i : Int32} {x : Int64} {ws' : (Nat → Int64) → va_W} (F : xb_F p s m args c cc nL own G ss A) (h : xb_W G A s ws H locs) (q0 t0 : Nat) (ha : ws[q0]? = some (a, .inl (cA, n, .inr (.inl f)))) (ht : (xb_ty G.2.1)[t0]? = some (cA, .long)) (hin : vp_in i n) (hw : ∀ g, ws.set q0 (a, .inl (cA, n, .inr (.inl g))) = ws' g) (hdg : decode cc pc = .ok (.lastore, 1))
    (kk : ∀ (g : Nat → Int64) (H1 : Heap) (locs1 : List Loc), xb_W G A s (ws' g) H1 locs1 → W p l e R s m args below meth c H1 locs1 cells slots Q (F0 m (pc + 1) ls rest)) : W p l e R s m args below meth c H locs cells slots Q (F0 m pc ls (.long x :: .int i :: .ref a :: rest)) :=
  xb_last F h q0 t0 ha ht hin (hw _) hdg (kk _)
theorem xb_castF {a n : Nat} {cA : ClassId} {f : Nat → Int32} {i x : Int32} {ws' : (Nat → Int32) → va_W} (F : xb_F p s m args c cc nL own G ss A) (h : xb_W G A s ws H locs) (q0 t0 : Nat) (ha : ws[q0]? = some (a, .inl (cA, n, .inl f))) (ht : (xb_ty G.2.1)[t0]? = some (cA, .char)) (hin : vp_in i n) (hw : ∀ g, ws.set q0 (a, .inl (cA, n, .inl g)) = ws' g) (hdg : decode cc pc = .ok (.castore, 1))
    (kk : ∀ (g : Nat → Int32) (H1 : Heap) (locs1 : List Loc), xb_W G A s (ws' g) H1 locs1 → W p l e R s m args below meth c H1 locs1 cells slots Q (F0 m (pc + 1) ls rest)) : W p l e R s m args below meth c H locs cells slots Q (F0 m pc ls (.int x :: .int i :: .ref a :: rest)) :=
  xb_cast F h q0 t0 ha ht hin (hw _) hdg (kk _)
/-- an object into a row of objects -/
theorem xb_aast {a n v ci : Nat} {f : Nat → Option Nat} {vs : List Value} {r : vw_C} {i : Int32} {ws' : va_W} (F : xb_F p s m args c cc nL own G ss A) (h : xb_W G A s ws H locs) (q0 qk : Nat) (ha : ws[q0]? = some (a, .inl (G.2.1 5, n, .inr (.inr (.inr (.inr f)))))) (hca : (r.1, "java/lang/Object") ∈ xb_cs) (hv : ws[qk]? = some (v, .inr (ci, vs))) (hc : xb_cl[ci]? = some r) (hin : vp_in i n) (hw : ws.set q0 (a, .inl (G.2.1 5, n, .inr (.inr (.inr (.inr (va_up f i.toNatClampNeg (some v))))))) = ws') (hdg : decode cc pc = .ok (.aastore, 1))
    (kk : ∀ (H1 : Heap) (locs1 : List Loc), xb_W G A s ws' H1 locs1 → W p l e R s m args below meth c H1 locs1 cells slots Q (F0 m (pc + 1) ls rest)) : W p l e R s m args below meth c H locs cells slots Q (F0 m pc ls (.ref v :: .int i :: .ref a :: rest)) := by
  subst hw
  exact va_astqO F.1.1 F.1.2.1 F.2.1 h.1 h.2.1 h.2.2 q0 5 qk ci ha rfl (F.2.2.2.1.2.2.2.2.2.2.1 _ hca) hv hc hin hdg (fun H1 locs1 a b c => kk H1 locs1 ⟨a, b, c⟩)
/-- fewer cells, by their places -/
theorem xb_subP {ws' : va_W} (hP : xb_P G ws H) (is : List Nat) (hw : is.map (fun i => ws[i]?) = ws'.map some) : xb_P G ws' H := by
  intro k q hk
  obtain ⟨i, hi⟩ : ∃ i : Nat, ws[i]? = some q := by
    have h1 : (ws'.map some)[k]? = some (some q) := by rw [List.getElem?_map, hk]; rfl
    rw [← hw, List.getElem?_map] at h1
    cases h2 : is[k]? with
    | none => rw [h2] at h1; cases h1
    | some i => rw [h2] at h1; exact ⟨i, Option.some.inj h1⟩
  exact hP i q hi
theorem xb_sub {ws' : va_W} (h : xb_W G A s ws H locs) (is : List Nat) (hn : va_nd is = true) (hw : is.map (fun i => ws[i]?) = ws'.map some) : xb_W G A s ws' H locs := ⟨xb_subP h.1 is hw, h.2.1.sub is hn hw, h.2.2⟩
theorem xb_fr {st t : State} (hS : va_S A st.heap H locs) (hA : ∀ q, A q ↔ va_A wc st.heap.size q) (ht : t.heap = H) : va_F (va_A wc st.heap.size) st t := ⟨by rw [ht]; exact hS.1, fun q h1 h2 => by rw [ht]; exact hS.2.1 q h1 (fun z => h2 ((hA q).1 z))⟩
theorem xb_vret {rm : Room} {S : Type} {val : S → Option Value} {post : S → Prop} {w1 : S → va_W} (F : xb_F p s m args c cc nL own G ss A) (hr : meth.sig.returnType = none) (hlk : meth.locks = false) (hA : ∀ q, A q ↔ va_A wc s.heap.size q) (hQ : Q = MQ below (xb_Q G wc s.heap.size val post w1) args s rm.cells rm.slots (va_A wc s.heap.size)) (h : xb_W G A s ws H locs) (u : S) (hu : post u) (hval : val u = none) (is : List Nat) (hn : va_nd is = true) (hw : is.map (fun i => ws[i]?) = (w1 u).map some) (hc : cells ≤ rm.cells) (hs : slots ≤ rm.slots) (hdg : decode cc pc = .ok (.return_, 1)) :
    W p l e R s m args below meth c H locs cells slots Q (F0 m pc ls []) := by
  subst hQ
  exact W.widen hc hs (W.vret F.1.1 F.1.2.1 hr (fun t ht _ => ⟨⟨u, by rw [hval], hu, by rw [ht]; exact xb_subP h.1 is hw, (h.2.1.sub is hn hw).weaken (fun _ _ _ z => (hA _).1 z)⟩, xb_fr h.2.2 hA ht⟩) (fun q hq => (hA _).1 (h.2.2.2.2 q hq)) hdg (hlocks := hlk))
theorem xb_iret {v : Int32} {rm : Room} {S : Type} {val : S → Option Value} {post : S → Prop} {w1 : S → va_W} (F : xb_F p s m args c cc nL own G ss A) (hr : meth.sig.returnType = some .int) (hlk : meth.locks = false) (hA : ∀ q, A q ↔ va_A wc s.heap.size q) (hQ : Q = MQ below (xb_Q G wc s.heap.size val post w1) args s rm.cells rm.slots (va_A wc s.heap.size)) (h : xb_W G A s ws H locs) (u : S) (hu : post u) (hval : val u = some (.int v)) (is : List Nat) (hn : va_nd is = true) (hw : is.map (fun i => ws[i]?) = (w1 u).map some) (hc : cells ≤ rm.cells) (hs : slots ≤ rm.slots) (hdg : decode cc pc = .ok (.ireturn, 1)) :
    W p l e R s m args below meth c H locs cells slots Q (F0 m pc ls [.int v]) := by
  subst hQ
  exact W.widen hc hs (W.iret F.1.1 F.1.2.1 hr (fun t ht _ => ⟨⟨u, by rw [hval], hu, by rw [ht]; exact xb_subP h.1 is hw, (h.2.1.sub is hn hw).weaken (fun _ _ _ z => (hA _).1 z)⟩, xb_fr h.2.2 hA ht⟩) (fun q hq => (hA _).1 (h.2.2.2.2 q hq)) hdg (hlocks := hlk))
theorem xb_zret {v : Int32} {ty : FieldType} {rm : Room} {S : Type} {val : S → Option Value} {post : S → Prop} {w1 : S → va_W} (F : xb_F p s m args c cc nL own G ss A) (hr : meth.sig.returnType = some ty) (hlk : meth.locks = false) (hnar : narrow ty (.int v) = .int v) (hA : ∀ q, A q ↔ va_A wc s.heap.size q) (hQ : Q = MQ below (xb_Q G wc s.heap.size val post w1) args s rm.cells rm.slots (va_A wc s.heap.size)) (h : xb_W G A s ws H locs) (u : S) (hu : post u) (hval : val u = some (.int v)) (is : List Nat) (hn : va_nd is = true) (hw : is.map (fun i => ws[i]?) = (w1 u).map some) (hc : cells ≤ rm.cells) (hs : slots ≤ rm.slots) (hdg : decode cc pc = .ok (.ireturn, 1)) :
    W p l e R s m args below meth c H locs cells slots Q (F0 m pc ls [.int v]) := by
  subst hQ
  exact W.widen hc hs (W.zret F.1.1 F.1.2.1 hr hnar (fun t ht _ => ⟨⟨u, by rw [hval], hu, by rw [ht]; exact xb_subP h.1 is hw, (h.2.1.sub is hn hw).weaken (fun _ _ _ z => (hA _).1 z)⟩, xb_fr h.2.2 hA ht⟩) (fun q hq => (hA _).1 (h.2.2.2.2 q hq)) hdg (hlocks := hlk))
theorem xb_lret {v : Int64} {rm : Room} {S : Type} {val : S → Option Value} {post : S → Prop} {w1 : S → va_W} (F : xb_F p s m args c cc nL own G ss A) (hr : meth.sig.returnType = some .long) (hlk : meth.locks = false) (hA : ∀ q, A q ↔ va_A wc s.heap.size q) (hQ : Q = MQ below (xb_Q G wc s.heap.size val post w1) args s rm.cells rm.slots (va_A wc s.heap.size)) (h : xb_W G A s ws H locs) (u : S) (hu : post u) (hval : val u = some (.long v)) (is : List Nat) (hn : va_nd is = true) (hw : is.map (fun i => ws[i]?) = (w1 u).map some) (hc : cells ≤ rm.cells) (hs : slots ≤ rm.slots) (hdg : decode cc pc = .ok (.lreturn, 1)) :
    W p l e R s m args below meth c H locs cells slots Q (F0 m pc ls [.long v]) := by
  subst hQ
  exact W.widen hc hs (W.lret F.1.1 F.1.2.1 hr (fun t ht _ => ⟨⟨u, by rw [hval], hu, by rw [ht]; exact xb_subP h.1 is hw, (h.2.1.sub is hn hw).weaken (fun _ _ _ z => (hA _).1 z)⟩, xb_fr h.2.2 hA ht⟩) (fun q hq => (hA _).1 (h.2.2.2.2 q hq)) hdg (hlocks := hlk))
theorem xb_aret {v : Value} {rt : FieldType} {rm : Room} {S : Type} {val : S → Option Value} {post : S → Prop} {w1 : S → va_W} (F : xb_F p s m args c cc nL own G ss A) (hr : meth.sig.returnType = some rt) (hrt : (∃ n, rt = .object n) ∨ ∃ t, rt = .array t) (hv : v = .null ∨ ∃ a, v = .ref a) (hlk : meth.locks = false) (hA : ∀ q, A q ↔ va_A wc s.heap.size q) (hQ : Q = MQ below (xb_Q G wc s.heap.size val post w1) args s rm.cells rm.slots (va_A wc s.heap.size)) (h : xb_W G A s ws H locs) (u : S) (hu : post u) (hval : val u = some v) (is : List Nat) (hn : va_nd is = true) (hw : is.map (fun i => ws[i]?) = (w1 u).map some) (hc : cells ≤ rm.cells) (hs : slots ≤ rm.slots) (hdg : decode cc pc = .ok (.areturn, 1)) :
    W p l e R s m args below meth c H locs cells slots Q (F0 m pc ls [v]) := by
  subst hQ
  exact W.widen hc hs (W.aret F.1.1 F.1.2.1 hr hrt hv (fun t ht _ => ⟨⟨u, by rw [hval], hu, by rw [ht]; exact xb_subP h.1 is hw, (h.2.1.sub is hn hw).weaken (fun _ _ _ z => (hA _).1 z)⟩, xb_fr h.2.2 hA ht⟩) (fun q hq => (hA _).1 (h.2.2.2.2 q hq)) hdg (hlocks := hlk))
end XBW
