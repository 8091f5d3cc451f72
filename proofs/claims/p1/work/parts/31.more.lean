/-! More rows: a call of a method of the class above; numbers. -/
section XBU
variable {p : Program} {l : Launch} {e : Env} {R : Room} {s : State} {m : MethodId} {args : Array Value} {below : List Frame} {meth : Method} {c : Code} {H : Heap} {locs : List Loc} {cells slots : Nat} {Q : State → Prop}
variable {cc : ByteArray} {nL pc : Nat} {own : String} {G : xb_EV} {ss : List (Nat × Nat × Nat × (Nat → Int32))} {A : Nat → Prop} {ls : Array Slot} {rest st0 : List Value} {ws wc wr : va_W}
/-- invokespecial of a method of the class above -/
theorem xb_callSU {ci N : Nat} {T : u_T} {ty : Nat → FieldType} {y : MethodName} {bytes : ByteArray} {maxL index : Nat} {ret : Option FieldType} {rm : Room} {ss' : List (Nat × Nat × Nat × (Nat → Int32))} {C : String} {b : Nat} {As : List Value} {S : Type} {val : S → Option Value} {post : S → Prop} {w1 : S → va_W} (F : xb_F p s m args c cc nL own G ss A) (h : xb_W G A s ws H locs) (cf : xb_cf ci C T N ty)
    (hM : xb_CT l y bytes maxL ret rm G ss' (.ref b :: As) wc val post w1) (n : Nat) (hb : ∃ cell : Cell, H[b]? = some cell ∧ cell.vm.isStatics = false ∧ s.vm.findClass C = some cell.cls) (k1 : Cond.code y bytes maxL ret ∈ xb_g) (k2 : Cond.initialized y.cls ∈ xb_g) (k3 : Cond.methodLink own index y ∈ xb_g) (k4 : Cond.instanceMethod y ∈ xb_g) (k5 : Cond.sameMethod y.cls y.cls y.name y.desc ∈ xb_g) (k6 : Cond.superclass own y.cls ∈ xb_g)
    (hd : y.name ≠ "<init>" ∧ (parseMethodDescriptor y.desc).map (fun d => d.parameters.length) = some n) (hRm : rm.frames + 1 ≤ R.frames ∧ 8 + (maxL + 11) + rm.locals ≤ R.locals)
    (isC isR : List Nat) (hC : isC.map (fun i => ws[i]?) = wc.map some) (hR : isR.map (fun i => ws[i]?) = wr.map some) (hc : va_nd isC = true) (hn : va_nd isR = true) (hdis : ∀ i ∈ isR, i ∉ isC)
    (hss : ∀ U : State, U.heap = H → s.WarmedH U.vm → xb_SS ss' (va_A wc H.size) U U.heap)
    (hl : ls.size = nL) (hAs : As.length = n) (hst : st0 = As.reverse ++ .ref b :: rest) (hro : (rest.map fun v => v.category).sum ≤ 8) (hf : cells + rm.cells ≤ R.cells ∧ slots + rm.slots ≤ R.slots) (hdg : decode cc pc = .ok (.invokespecial index, 3))
    (kk : ∀ (u : S) (H1 : Heap) (locs1 : List Loc), post u → xb_W G A s (wr ++ w1 u) H1 locs1 → W p l e R s m args below meth c H1 locs1 (cells + rm.cells) (slots + rm.slots) Q (F0 m (pc + 3) ls ((val u).toList ++ rest))) :
    W p l e R s m args below meth c H locs cells slots Q (F0 m pc ls st0) := by
  have hts := F.1.2.2.2.2
  refine xb_go (rm := rm) (av := .ref b :: As) F h isC isR hC hR hn hdis (va_runSU (F.2.1.1 ci _ cf.1).2 F.1 (hM H.size) ⟨⟨rfl, rfl, hRm.1, hRm.2, pay_in hts (xb_gcode k1), List.mem_cons_self⟩, hts _ k3, hts _ k5, hts _ k6, hts _ k4, hts _ k2, hts _ k1, hd.1, fun sig h9 => ?_⟩ ⟨xb_blind, hb, fun _ hU hW => ⟨rfl, xb_pre.at F h isC hC hc hss hU hW⟩⟩ rfl hAs hl hst (lv_room hro) hdg hf) kk
  have h2 := hd.2
  rw [h9] at h2
  exact (Option.some.inj h2).symm
end XBU
theorem xi_ge {k : Int32} (h : ¬ k < 0) : 0 ≤ k := Int32.not_lt.mp h
theorem xi_neg {k : Int32} (h : k < 0) : ¬ k = 0 ∧ ¬ k = 1 ∧ k < 2 ∧ ¬ 0 ≤ k := by
  refine ⟨fun z => ?_, fun z => ?_, ?_, fun z => ?_⟩
  · subst z; exact absurd h (by decide)
  · subst z; exact absurd h (by decide)
  · rw [Int32.lt_iff_toInt_lt] at h ⊢
    have h0 : (0 : Int32).toInt = 0 := by decide
    have h2 : (2 : Int32).toInt = 2 := by decide
    omega
  · exact absurd h (Int32.not_lt.mpr z)
theorem xi_big {k : Int32} (h : 4 ≤ k) : ¬ k = 0 ∧ ¬ k = 1 ∧ ¬ k < 2 ∧ ¬ k - 2 < 2 ∧ 0 ≤ k ∧ ¬ k - 2 < 0 := by
  have h0 : ¬ k < 0 := fun z => by
    rw [Int32.lt_iff_toInt_lt] at z
    rw [Int32.le_iff_toInt_le] at h
    have h0 : (0 : Int32).toInt = 0 := by decide
    have h4 : (4 : Int32).toInt = 4 := by decide
    omega
  obtain ⟨j, hj, rfl⟩ := nI_of h0
  have h4 : 4 ≤ j := (nI_leI (a := 4) (by decide) hj).mp h
  have e : nI j - 2 = nI (j - 2) := pk_sub (a := j) (b := 2) (by omega)
  rw [e]
  refine ⟨fun z => ?_, fun z => ?_, nI_nlt (a := j) (b := 2) (by omega) hj, nI_nlt (a := j - 2) (b := 2) (by omega) (by omega), nI_pos' hj, nI_pos (by omega)⟩
  · have := (nI_eq (a := j) (b := 0) hj (by decide)).mp z
    omega
  · have := (nI_eq (a := j) (b := 1) hj (by decide)).mp z
    omega
theorem xi_cases (k : Int32) : k < 0 ∨ k = 0 ∨ k = 1 ∨ k = 2 ∨ k = 3 ∨ 4 ≤ k := by
  by_cases h0 : k < 0
  · exact Or.inl h0
  · obtain ⟨j, hj, rfl⟩ := nI_of h0
    rcases (by omega : j = 0 ∨ j = 1 ∨ j = 2 ∨ j = 3 ∨ 4 ≤ j) with rfl | rfl | rfl | rfl | h
    · exact Or.inr (Or.inl rfl)
    · exact Or.inr (Or.inr (Or.inl rfl))
    · exact Or.inr (Or.inr (Or.inr (Or.inl rfl)))
    · exact Or.inr (Or.inr (Or.inr (Or.inr (Or.inl rfl))))
    · exact Or.inr (Or.inr (Or.inr (Or.inr (Or.inr (nI_le (a := 4) h hj)))))
