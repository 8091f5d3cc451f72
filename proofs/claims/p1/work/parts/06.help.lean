/-! Helpers: texts of the outside and of the world; a new exception. -/
theorem xb_ss0 {s : State} {H : Heap} {A : Nat → Prop} : ∀ U : State, U.heap = H → s.WarmedH U.vm → xb_SS [] A U U.heap := fun _ _ _ _ hq => absurd hq List.not_mem_nil
theorem xb_min {a b : Nat} (h : b ≤ a) (ha : a < 2 ^ 31) : (if nI b < nI a then nI b else nI a) = nI b := by
  by_cases e : b = a
  · subst e
    split <;> rfl
  · rw [if_pos ((nI_ltI (by omega) ha).mpr (by omega))]
section XBH
variable {p : Program} {l : Launch} {e : Env} {R : Room} {s : State} {m : MethodId} {args : Array Value} {below : List Frame} {meth : Method} {c : Code} {H : Heap} {locs : List Loc} {cells slots : Nat} {Q : State → Prop}
variable {cc : ByteArray} {nL pc : Nat} {own : String} {G : xb_EV} {ss : List (Nat × Nat × Nat × (Nat → Int32))} {A : Nat → Prop} {ls : Array Slot} {rest st0 : List Value} {ws wc wc0 wr : va_W}
theorem xb_ssg {ss' : List (Nat × Nat × Nat × (Nat → Int32))} (F : xb_F p s m args c cc nL own G ss A) (h : xb_W G A s ws H locs) (isC : List Nat) (hC : isC.map (fun i => ws[i]?) = wc.map some) (hin : ∀ q ∈ ss', q ∈ ss) : ∀ U : State, U.heap = H → s.WarmedH U.vm → xb_SS ss' (va_A wc H.size) U U.heap :=
  fun _ hU hW => F.2.2.2.2.go hin h.2.2 (va_free h.2.1 h.2.2 F.2.2.1 isC hC) hU hW
theorem xb_litF (F : xb_F p s m args c cc nL own G ss A) (i : Nat) (hi : i < xb_sN) : xb_SB (G.2.2.2.1 i, G.2.2.2.2 i, xb_sL.getD i 0, fun j => (xb_sB.getD i []).getD j 0) A s s.heap :=
  F.2.2.2.1.2.2.2.1.1 i hi
theorem xb_lit (F : xb_F p s m args c cc nL own G ss A) (h : xb_W G A s ws H locs) (i : Nat) (hi : i < xb_sN) : ∀ U : State, U.heap = H → s.WarmedH U.vm → xb_SS [(G.2.2.2.1 i, G.2.2.2.2 i, xb_sL.getD i 0, fun j => (xb_sB.getD i []).getD j 0)] (va_A [] H.size) U U.heap := by
  intro U hU hW q hq
  obtain rfl : q = _ := List.mem_singleton.mp hq
  exact (xb_litF F i hi).go h.2.2 (va_free (wc := []) h.2.1 h.2.2 F.2.2.1 [] rfl) hU hW
theorem xb_str {q : String × Nat × String × Nat} (F : xb_F p s m args c cc nL own G ss A) (j : Nat) (hj : xb_sR[j]? = some q) : vk_R q.1 q.2.1 q.2.2.1 (G.2.2.2.1 q.2.2.2) s := F.2.2.2.1.2.2.2.2.1 q (List.mem_of_getElem? hj)
/-- a field of an object of the world, as one of the outside -/
theorem xb_wOF {ci N a : Nat} {C ow nm ds : String} {T : u_T} {ty : Nat → FieldType} {fin : Bool} {fs : List Value} {v : Value} {B : Nat → Prop} (F : xb_F p s m args c cc nL own G ss A) (h : xb_W G A s ws H locs) (cf : xb_cf ci C T N ty) (q0 : Nat) (he : ws[q0]? = some (a, .inr (ci, fs))) (k : Nat) (hk : k < N) (hT : T k = (ow, nm, ds, fin)) (hv : fs[k]? = some v) (hB : a < H.size → ¬ B a) : va_OF ow nm ds v a B s H := by
  obtain ⟨r, h1, cell, q1, q2, q3, q4⟩ := h.1 q0 _ he
  have hr : r = (C, T, N) := Option.some.inj (h1.symm.trans cf.1)
  subst hr
  obtain ⟨hS, hfc, kC, hkC, hkind⟩ := F.2.1.1 ci _ cf.1
  obtain ⟨c9, kf, fi, f, hi, hsl⟩ := hS k hk
  have hst := (u_facts hfc hkC (u_lays F.1.2.2.2.2 cf.2.1 hk) hi).1
  have hi : s.fieldFound? (T k).1 (T k).2.1 (T k).2.2.1 = some (c9, kf, fi, f) := hi
  rw [hT] at hi
  refine ⟨c9, kf, fi, f, cell, hi, hst, q1, by rw [q3]; exact nofun, ?_, hB (Array.getElem?_eq_some_iff.mp q1).1⟩
  rw [hsl, q4 k hk]
  simp [vp_V, hv]
/-- a text that the world holds, as one of the outside of a callee to whom nothing is given -/
theorem xb_wstr {a d n : Nat} {f : Nat → Int32} {v2 v3 : Value} (F : xb_F p s m args c cc nL own G ss A) (h : xb_W G A s ws H locs) (q0 q1 : Nat) (he : ws[q0]? = some (a, .inr (xb_iS, [.ref d, .int 0, v2, v3]))) (he1 : ws[q1]? = some (d, .inl (G.2.1 4, n, .inl f))) (hn : n < 2 ^ 31) : ∀ U : State, U.heap = H → s.WarmedH U.vm → xb_SS [(a, d, n, f)] (va_A [] H.size) U U.heap := by
  intro U hU hW q hq
  obtain rfl : q = _ := List.mem_singleton.mp hq
  have hB : ∀ x : Nat, x < H.size → ¬ va_A [] H.size x := by
    intro x hx z
    rcases z with ⟨k, e9, z⟩ | z
    · cases z
    · omega
  rw [hU]
  obtain ⟨cell, c1, c2, c3⟩ := va_recv F.2.1 h.1 cf_S.1 he
  have hd : H[d]? = some (arrV (G.2.1 4) n (fun j => .int (f j))) := h.1 q1 _ he1
  refine ⟨va_O.moved hW.alike ⟨cell, c1, c2, c3, hB _ (Array.getElem?_eq_some_iff.mp c1).1⟩, va_OF.moved hW.alike (xb_wOF F h cf_S q0 he 1 (by decide) rfl rfl (hB _)), va_OF.moved hW.alike (xb_wOF F h cf_S q0 he 0 (by decide) rfl rfl (hB _)), va_T.moved hW.alike ⟨_, hd, (F.2.1.2 4 (G.2.1 4, .byte) rfl).1 n _, nofun, Nat.le_of_eq (arrV_size _ _ _).symm, by first | (rw [arrV_size]; done) | (rw [arrV_size]; rfl), fun j hj => arrV_read _ _ hj, hB _ (Array.getElem?_eq_some_iff.mp hd).1⟩⟩
end XBH
/-- where no old slot was written, every old cell is as it was -/
theorem xb_same {s U : State} {k n : Nat} (h : s.sameButNew ({ U with vm := s.vm } : State) [] k n) : s.heap.size ≤ U.heap.size ∧ ∀ q : Nat, q < s.heap.size → U.heap[q]? = s.heap[q]? := by
  obtain ⟨-, h2, -, -, -, h6⟩ := h
  refine ⟨h2, fun q hq => ?_⟩
  have hc : s.heap[q]? = some s.heap[q] := Array.getElem?_eq_getElem hq
  obtain ⟨c', e1, e2, e3, e4⟩ := h6 q _ hc
  have e1 : U.heap[q]? = some c' := e1
  have hs : c'.slots = (s.heap[q]).slots := Array.ext_getElem? (fun i => e4 i List.not_mem_nil)
  rw [hs] at e2
  rw [e1, hc, e2]
section XBN
variable {p : Program} {l : Launch} {e : Env} {R : Room} {s : State} {m : MethodId} {args : Array Value} {below : List Frame} {meth : Method} {c : Code} {H : Heap} {locs : List Loc} {cells slots : Nat} {Q : State → Prop}
variable {cc : ByteArray} {nL pc : Nat} {own : String} {G : xb_EV} {ss : List (Nat × Nat × Nat × (Nat → Int32))} {A : Nat → Prop} {ls : Array Slot} {rest st0 : List Value} {ws wc wc0 wr : va_W}
/-- throw new IllegalArgumentException(), in a method that has written nothing -/
theorem xb_thrownew {rm0 : Room} {index ic : Nat} (F : xb_F p s m args c cc nL own G ss A) (hst : e.platform.stackTraces = false) (hlk : meth.locks = false) (hno : c.exceptionTable.isEmpty = true) (h : xb_W G A s ws s.heap []) (k1 : Cond.classLink own index "java/lang/IllegalArgumentException" ∈ xb_g) (k2 : Cond.instantiable "java/lang/IllegalArgumentException" 6 ∈ xb_g) (k3 : Cond.initialized "java/lang/IllegalArgumentException" ∈ xb_g)
    (hat : ∀ a ∈ Bundle.ownAtoms0 own ic "java/lang/IllegalArgumentException" ["java/lang/RuntimeException", "java/lang/Exception"], a.before args s = true) (hl : ls.size = nL) (hc : 1 ≤ R.cells ∧ 6 ≤ R.slots) (hc0 : 1 ≤ rm0.cells ∧ 6 ≤ rm0.slots) (hRf : 5 < R.frames) (hRl : 90 ≤ R.locals)
    (d0 : decode cc pc = .ok (.new index, 3)) (d3 : decode cc (pc + 3) = .ok (.dup, 1)) (d4 : decode cc (pc + 4) = .ok (.invokespecial ic, 3)) (d7 : decode cc (pc + 7) = .ok (.athrow, 1)) :
    W p l e R s m args below meth c s.heap [] 0 0 (xb_MT below wc0 args s rm0) (F0 m pc ls []) := by
  obtain ⟨⟨hx, hb, hml, hown, hts⟩, -⟩ := id F
  have hnil : c.exceptionTable.toList = [] := by
    have h0 : c.exceptionTable.size = 0 := by simpa [Array.isEmpty] using hno
    exact List.eq_nil_of_length_eq_zero (by simpa using h0)
  refine W.newc hx hb hown (hts _ k1) (hts _ k2) (hts _ k3) (g := F0 m pc ls []) rfl d0 (by omega) (by omega) (fun cC kC hf hk hkind hsz => ?_)
  refine W.eq (g2 := F0 m (pc + 3) ls [.ref s.heap.size]) rfl ?_
  refine lv_dup hx hb d3 rfl ?_
  intro T hT X
  have hcell : T.heap[s.heap.size]? = some (freshCell cC kC) := by
    rw [hT]
    exact Array.getElem?_push_size
  obtain ⟨U, st, hrun, hend, hW, hsame, ce, hce, hown2⟩ := X.ctorThrow0 hx hst hown (cls := "java/lang/IllegalArgumentException") (names := ["java/lang/RuntimeException", "java/lang/Exception"]) (ic := ic) (by decide) (by decide) hat (fun x hx => by cases hx) hf hk hcell (Nat.le_refl _)
    (g := F0 m (pc + 3 + 1) ls [.ref s.heap.size, .ref s.heap.size]) rfl (hl.trans hml.symm) rfl rfl (rest := []) rfl (by rw [hb]; exact d4) (by rw [hb]; exact d7) (fun x hx => by rw [hnil] at hx; cases hx) (by simpa using hRf) (by simp [Value.category]; omega) hlk
  obtain ⟨z1, z2⟩ := xb_same hsame
  exact ⟨U, st, .threw s.heap.size, hrun, hend, s.heap.size, rfl, ⟨ce, hce, by rw [hown2.vm]; rfl, by rw [hW.alike.findClass]; exact hown2.cls⟩, hW, ⟨[], hsame.mono (by simpa using hc0.1) (by simpa using hc0.2), fun q hq => by cases hq⟩, z1, fun q a _ => z2 q a⟩
end XBN
