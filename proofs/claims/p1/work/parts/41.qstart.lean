/-! The start: the outside facts out of the tables' words and of the premises. -/
theorem xs_mt (i : Nat) {w : Cond} (h : tables_1[i]? = some w) : w ∈ lw_tbl := List.mem_append_right _ (List.mem_of_getElem? h)
theorem xs_a (ty : FieldType) {args : Array Value} {s : State} (h : (Cond.arrayClass ty).before args s = true) (hr : ∀ cA, s.vm.findClass ("[" ++ ty.toString) = some cA → va_RA s cA ty) : ∃ cA, ArrOfT s cA ty ∧ va_RA s cA ty := by
  obtain ⟨cA, kA, comp, h1, h2, h3⟩ := Cond.arrayClass_spec h
  exact ⟨cA, fun n z => ⟨fun k h => (by cases h), kA, h2, comp, h3⟩, hr cA h1⟩
theorem xs_o {C : String} {args : Array Value} {s : State} (h : (Cond.arrayOver (.object C)).before args s = true) : ∃ cA, ArrOfT s cA (.object C) ∧ va_RA s cA (.object C) := by
  obtain ⟨comp, c, k, h1, h2, h3, h4, h5⟩ := Cond.arrayOver_spec h
  exact ⟨c, fun n z => ⟨fun k h => (by cases h), k, h3, comp, h4⟩, k, comp, h3, h4, h1, h5⟩
theorem xs_ls {C n d : String} {args : Array Value} {s : State} {A : Nat → Prop} (hl : (Cond.laysStatic C n d).before args s = true) (h : (Cond.isRef (.static C n d)).before args s = true) (hA : ∀ a : Nat, a < s.heap.size → ¬ A a) : xb_LS C n d A s s.heap := by
  obtain ⟨c, k, i, f, a, cell, hc, hi, hst, ha, hcell, hs, hcls, hlt, hty⟩ := Cond.laysStatic_spec hl
  obtain ⟨v, hv, hr⟩ := Cond.isRef_spec h
  obtain ⟨hst', a', cell', ha', hcell', -, hslot⟩ := Term.static_spec hi hv
  cases ha.symm.trans ha'
  cases hcell.symm.trans hcell'
  obtain ⟨r, rfl⟩ : ∃ r, v = va_rf r := by
    cases v with
    | null => exact ⟨none, rfl⟩
    | ref x => exact ⟨some x, rfl⟩
    | _ => simp [Value.isRef] at hr
  exact ⟨c, k, i, f, a, cell, r, hc, hi, hst, ha, hcell, hs, hcls, hlt, hty, hslot, hA a (Array.getElem?_eq_some_iff.mp hcell).1⟩
theorem xs_kn {args : Array Value} {s : State} (hts : ∀ w ∈ xb_g, w.before args s = true) : ∀ i : Nat, ∃ q : ClassId × (Nat → Nat), ∀ z : vw_C, xb_cl[i]? = some z → u_Kn s z.1 z.2.1 z.2.2 q.1 q.2
  | 0 => by
    obtain ⟨a, b, h⟩ := u_known hts cf_0.2.1 (hts _ k_711)
    refine ⟨(a, b), fun z hz => ?_⟩
    have e : (R_0, F_0, 9) = z := Option.some.inj (show some (R_0, F_0, 9) = some z from hz)
    subst e
    exact h
  | 1 => by
    obtain ⟨a, b, h⟩ := u_known hts cf_1.2.1 (hts _ k_201)
    refine ⟨(a, b), fun z hz => ?_⟩
    have e : (R_1, F_1, 4) = z := Option.some.inj (show some (R_1, F_1, 4) = some z from hz)
    subst e
    exact h
  | 2 => by
    obtain ⟨a, b, h⟩ := u_known hts cf_2.2.1 (hts _ k_181)
    refine ⟨(a, b), fun z hz => ?_⟩
    have e : (R_2, F_2, 5) = z := Option.some.inj (show some (R_2, F_2, 5) = some z from hz)
    subst e
    exact h
  | 3 => by
    obtain ⟨a, b, h⟩ := u_known hts cf_3.2.1 (hts _ k_187)
    refine ⟨(a, b), fun z hz => ?_⟩
    have e : (R_3, F_3, 1) = z := Option.some.inj (show some (R_3, F_3, 1) = some z from hz)
    subst e
    exact h
  | 4 => by
    obtain ⟨a, b, h⟩ := u_known hts cf_4.2.1 (hts _ k_208)
    refine ⟨(a, b), fun z hz => ?_⟩
    have e : (R_4, F_4, 5) = z := Option.some.inj (show some (R_4, F_4, 5) = some z from hz)
    subst e
    exact h
  | 5 => by
    obtain ⟨a, b, h⟩ := u_known hts cf_5.2.1 (hts _ k_78)
    refine ⟨(a, b), fun z hz => ?_⟩
    have e : (R_5, F_5, 8) = z := Option.some.inj (show some (R_5, F_5, 8) = some z from hz)
    subst e
    exact h
  | 6 => by
    obtain ⟨a, b, h⟩ := u_known hts cf_6.2.1 (hts _ k_94)
    refine ⟨(a, b), fun z hz => ?_⟩
    have e : (R_6, F_6, 5) = z := Option.some.inj (show some (R_6, F_6, 5) = some z from hz)
    subst e
    exact h
  | 7 => by
    obtain ⟨a, b, h⟩ := u_known hts cf_7.2.1 (hts _ k_153)
    refine ⟨(a, b), fun z hz => ?_⟩
    have e : (R_7, F_7, 3) = z := Option.some.inj (show some (R_7, F_7, 3) = some z from hz)
    subst e
    exact h
  | 8 => by
    obtain ⟨a, b, h⟩ := u_known hts cf_8.2.1 (hts _ k_215)
    refine ⟨(a, b), fun z hz => ?_⟩
    have e : (R_8, F_8, 6) = z := Option.some.inj (show some (R_8, F_8, 6) = some z from hz)
    subst e
    exact h
  | 9 => by
    obtain ⟨a, b, h⟩ := u_known hts cf_9.2.1 (hts _ k_110)
    refine ⟨(a, b), fun z hz => ?_⟩
    have e : (R_9, F_9, 4) = z := Option.some.inj (show some (R_9, F_9, 4) = some z from hz)
    subst e
    exact h
  | 10 => by
    obtain ⟨a, b, h⟩ := u_known hts cf_10.2.1 (hts _ k_222)
    refine ⟨(a, b), fun z hz => ?_⟩
    have e : (R_10, F_10, 2) = z := Option.some.inj (show some (R_10, F_10, 2) = some z from hz)
    subst e
    exact h
  | 11 => by
    obtain ⟨a, b, h⟩ := u_known hts cf_11.2.1 (hts _ k_85)
    refine ⟨(a, b), fun z hz => ?_⟩
    have e : (R_11, F_11, 3) = z := Option.some.inj (show some (R_11, F_11, 3) = some z from hz)
    subst e
    exact h
  | 12 => by
    obtain ⟨a, b, h⟩ := u_known hts cf_12.2.1 (hts _ k_123)
    refine ⟨(a, b), fun z hz => ?_⟩
    have e : (R_12, F_12, 4) = z := Option.some.inj (show some (R_12, F_12, 4) = some z from hz)
    subst e
    exact h
  | 13 => by
    obtain ⟨a, b, h⟩ := u_known hts cf_13.2.1 (hts _ k_379)
    refine ⟨(a, b), fun z hz => ?_⟩
    have e : (R_13, F_13, 4) = z := Option.some.inj (show some (R_13, F_13, 4) = some z from hz)
    subst e
    exact h
  | 14 => by
    obtain ⟨a, b, h⟩ := u_known hts cf_14.2.1 (hts _ k_716)
    refine ⟨(a, b), fun z hz => ?_⟩
    have e : (R_14, F_14, 80) = z := Option.some.inj (show some (R_14, F_14, 80) = some z from hz)
    subst e
    exact h
  | k + 15 => ⟨(0, fun _ => 0), fun z hz => by
    rw [List.getElem?_eq_none (by show 15 ≤ k + 15; omega)] at hz
    cases hz⟩
abbrev xs_fl : List Cond := flatC (Jvm.Cond.and given_1 narrow_1)
def xs_tm (i : Nat) : Term := [Term.string "TypeFinder$Tokens" 22, Term.string "TypeFinder$Parser" 35, Term.string "TypeFinder$Known" 30, Term.string "TypeFinder$Known" 55, Term.string "TypeFinder$Known" 64, Term.string "TypeFinder$Known" 66, Term.string "TypeFinder$Known" 77].getD i (Term.int 0)
def xs_b : List Nat := [304, 656, 369, 381, 394, 409, 424]
def xs_p : List (List Nat) := [[0, 670, 377, 389, 403, 417, 431], [670, 0, 674, 675, 676, 677, 678], [377, 674, 0, 393, 407, 421, 435], [389, 675, 393, 0, 408, 422, 436], [403, 676, 407, 408, 0, 423, 437], [417, 677, 421, 422, 423, 0, 438], [431, 678, 435, 436, 437, 438, 0]]
set_option maxRecDepth 100000 in
theorem xs_f1 : ∀ i, i < 7 → xs_fl[xs_b.getD i 0]? = some (Cond.exactly (xs_tm i) "java/lang/String") ∧ xs_fl[xs_b.getD i 0 + 1]? = some (Cond.eq (.field (xs_tm i) "java/lang/String" "coder" "B") (.int 0)) ∧ xs_fl[xs_b.getD i 0 + 2]? = some (Cond.arrayOf (.field (xs_tm i) "java/lang/String" "value" "[B") .byte) ∧ xs_fl[xs_b.getD i 0 + 3]? = some (Cond.eq (.length (.field (xs_tm i) "java/lang/String" "value" "[B")) (.int (Int32.ofNat (xb_sL.getD i 0)))) := by decide +kernel
set_option maxRecDepth 100000 in
theorem xs_e0 : ∀ j, j < 40 → xs_fl[308 + j]? = some (Cond.eq (.elem (.field (xs_tm 0) "java/lang/String" "value" "[B") (.int (Int32.ofNat j))) (.int ((xb_sB.getD 0 []).getD j 0))) := by decide +kernel
set_option maxRecDepth 100000 in
theorem xs_e1 : ∀ j, j < 10 → xs_fl[660 + j]? = some (Cond.eq (.elem (.field (xs_tm 1) "java/lang/String" "value" "[B") (.int (Int32.ofNat j))) (.int ((xb_sB.getD 1 []).getD j 0))) := by decide +kernel
set_option maxRecDepth 100000 in
theorem xs_e2 : ∀ j, j < 4 → xs_fl[373 + j]? = some (Cond.eq (.elem (.field (xs_tm 2) "java/lang/String" "value" "[B") (.int (Int32.ofNat j))) (.int ((xb_sB.getD 2 []).getD j 0))) := by decide +kernel
set_option maxRecDepth 100000 in
theorem xs_e3 : ∀ j, j < 4 → xs_fl[385 + j]? = some (Cond.eq (.elem (.field (xs_tm 3) "java/lang/String" "value" "[B") (.int (Int32.ofNat j))) (.int ((xb_sB.getD 3 []).getD j 0))) := by decide +kernel
set_option maxRecDepth 100000 in
theorem xs_e4 : ∀ j, j < 5 → xs_fl[398 + j]? = some (Cond.eq (.elem (.field (xs_tm 4) "java/lang/String" "value" "[B") (.int (Int32.ofNat j))) (.int ((xb_sB.getD 4 []).getD j 0))) := by decide +kernel
set_option maxRecDepth 100000 in
theorem xs_e5 : ∀ j, j < 4 → xs_fl[413 + j]? = some (Cond.eq (.elem (.field (xs_tm 5) "java/lang/String" "value" "[B") (.int (Int32.ofNat j))) (.int ((xb_sB.getD 5 []).getD j 0))) := by decide +kernel
set_option maxRecDepth 100000 in
theorem xs_e6 : ∀ j, j < 3 → xs_fl[428 + j]? = some (Cond.eq (.elem (.field (xs_tm 6) "java/lang/String" "value" "[B") (.int (Int32.ofNat j))) (.int ((xb_sB.getD 6 []).getD j 0))) := by decide +kernel
theorem xs_f2 : ∀ i, i < 7 → ∀ j, j < xb_sL.getD i 0 → Cond.eq (.elem (.field (xs_tm i) "java/lang/String" "value" "[B") (.int (Int32.ofNat j))) (.int ((xb_sB.getD i []).getD j 0)) ∈ xs_fl
  | 0, _, j, hj => List.mem_of_getElem? (xs_e0 j hj)
  | 1, _, j, hj => List.mem_of_getElem? (xs_e1 j hj)
  | 2, _, j, hj => List.mem_of_getElem? (xs_e2 j hj)
  | 3, _, j, hj => List.mem_of_getElem? (xs_e3 j hj)
  | 4, _, j, hj => List.mem_of_getElem? (xs_e4 j hj)
  | 5, _, j, hj => List.mem_of_getElem? (xs_e5 j hj)
  | 6, _, j, hj => List.mem_of_getElem? (xs_e6 j hj)
  | k + 7, h, _, _ => absurd h (by omega)
set_option maxRecDepth 100000 in
theorem xs_f3 : ∀ i, i < 7 → ∀ j, j < 7 → i ≠ j → xs_fl[(xs_p.getD i []).getD j 0]? = some (Cond.not (Cond.eq (xs_tm i) (xs_tm j))) ∨ xs_fl[(xs_p.getD i []).getD j 0]? = some (Cond.not (Cond.eq (xs_tm j) (xs_tm i))) := by decide +kernel
set_option maxRecDepth 100000 in
theorem xs_n1 : Cond.arrayOf (.static "java/util/ArrayList" "DEFAULTCAPACITY_EMPTY_ELEMENTDATA" "[Ljava/lang/Object;") (.object "java/lang/Object") ∈ xs_fl := List.mem_of_getElem? (i := 218) (by decide +kernel)
set_option maxRecDepth 100000 in
theorem xs_n2 : Cond.eq (.length (.static "java/util/ArrayList" "DEFAULTCAPACITY_EMPTY_ELEMENTDATA" "[Ljava/lang/Object;")) (.int (Int32.ofNat 0)) ∈ xs_fl := List.mem_of_getElem? (i := 220) (by decide +kernel)
set_option maxRecDepth 100000 in
theorem xs_n3 : Cond.eq (.static "java/lang/String" "COMPACT_STRINGS" "Z") (.int 1) ∈ xs_fl := List.mem_of_getElem? (i := 4) (by decide +kernel)
set_option maxRecDepth 100000 in
theorem xs_n4 : Cond.isRef (.static "jdk/internal/util/Preconditions" "SIOOBE_FORMATTER" "Ljava/util/function/BiFunction;") ∈ xs_fl := List.mem_of_getElem? (i := 5) (by decide +kernel)
set_option maxRecDepth 100000 in
theorem xs_n5 : Cond.isRef (.static "java/lang/Throwable" "UNASSIGNED_STACK" "[Ljava/lang/StackTraceElement;") ∈ xs_fl := List.mem_of_getElem? (i := 9) (by decide +kernel)
set_option maxRecDepth 100000 in
theorem xs_n6 : Cond.isRef (.static "java/lang/Throwable" "SUPPRESSED_SENTINEL" "Ljava/util/List;") ∈ xs_fl := List.mem_of_getElem? (i := 10) (by decide +kernel)
set_option maxRecDepth 100000 in
theorem xs_sr : ∀ q ∈ xb_sR, Cond.stringRef q.1 q.2.1 q.2.2.1 ∈ lw_tbl ∧ xs_tm q.2.2.2 = Term.string q.1 q.2.1 ∧ q.2.2.2 < xb_sN := by
  intro q hq
  simp only [xb_sR, List.mem_cons, List.not_mem_nil, or_false] at hq
  rcases hq with rfl | rfl | rfl | rfl | rfl | rfl | rfl
  · exact ⟨(xs_mt 968 (by decide +kernel)), rfl, by decide⟩
  · exact ⟨(xs_mt 543 (by decide +kernel)), rfl, by decide⟩
  · exact ⟨(xs_mt 584 (by decide +kernel)), rfl, by decide⟩
  · exact ⟨(xs_mt 659 (by decide +kernel)), rfl, by decide⟩
  · exact ⟨(xs_mt 660 (by decide +kernel)), rfl, by decide⟩
  · exact ⟨(xs_mt 666 (by decide +kernel)), rfl, by decide⟩
  · exact ⟨(xs_mt 59 (by decide +kernel)), rfl, by decide⟩
set_option maxRecDepth 100000 in
theorem xs_cw : ∀ q ∈ xb_cs, Cond.castable q.1 q.2 ∈ lw_tbl := by
  intro q hq
  simp only [xb_cs, List.mem_cons, List.not_mem_nil, or_false] at hq
  rcases hq with rfl | rfl | rfl
  · exact (xs_mt 2291 (by decide +kernel))
  · exact (xs_mt 2290 (by decide +kernel))
  · exact (xs_mt 136 (by decide +kernel))
set_option maxRecDepth 100000 in
theorem xs_dw : ∀ y ∈ xb_dl, Cond.declares y ∈ lw_tbl := by
  intro q hq
  simp only [xb_dl, List.mem_cons, List.not_mem_nil, or_false] at hq
  rcases hq with rfl | rfl | rfl
  · exact (xs_mt 137 (by decide +kernel))
  · exact (xs_mt 139 (by decide +kernel))
  · exact (xs_mt 141 (by decide +kernel))
set_option maxRecDepth 100000 in
theorem xs_start {s : State} {b : Nat} (hts : ∀ w ∈ lw_tbl, w.before #[Value.ref b] s = true) (hg : (Jvm.Cond.and given_1 narrow_1).before #[Value.ref b] s = true) : ∃ G : xb_EV, xb_K G s ∧ xb_E G (fun q => s.heap.size ≤ q) s s.heap := by
  have hx := xb_gof hts
  have hs := flat_of_before _ hg
  have hA : ∀ a : Nat, a < s.heap.size → ¬ (s.heap.size ≤ a) := fun a h z => absurd h (Nat.not_lt.mpr z)
  obtain ⟨ad, had⟩ := Classical.axiomOfChoice (xs_kn hx)
  obtain ⟨c0, a0, r0⟩ := xs_a .int (hx _ k_193) (fun _ h => h)
  obtain ⟨c1, a1, r1⟩ := xs_a .long (hx _ k_404) (fun _ h => h)
  obtain ⟨c2, a2, r2⟩ := xs_a .boolean (hx _ k_195) (fun _ h => h)
  obtain ⟨c3, a3, r3⟩ := xs_a .char (hx _ k_198) (fun _ h => h)
  obtain ⟨c4, a4, r4⟩ := xs_a .byte (hx _ k_61) (fun _ h => h)
  have hAO : (Cond.arrayOver (.object "java/lang/Object")).before #[Value.ref b] s = true := hts _ (xs_mt 655 (by decide +kernel))
  obtain ⟨c5, a5, r5⟩ := xs_o hAO
  obtain ⟨z0, hz0, hT0⟩ := va_Tof (tm := .static "java/util/ArrayList" "DEFAULTCAPACITY_EMPTY_ELEMENTDATA" "[Ljava/lang/Object;") (ty := .object "java/lang/Object") (N := 0) (f := fun _ => .null) (A := fun q => s.heap.size ≤ q) (by decide) (hs _ xs_n1) (va_eqt (hs _ xs_n2)) (fun j hj => absurd hj (Nat.not_lt_zero j)) hA
  obtain ⟨adK, adV, hS, hadK⟩ := vk_Sof (N := xb_sN) (tm := xs_tm) (len := xb_sL) (byt := xb_sB) (A := fun q => s.heap.size ≤ q) (by decide +kernel) (fun i hi => hs _ (List.mem_of_getElem? (xs_f1 i hi).1)) (fun i hi => hs _ (List.mem_of_getElem? (xs_f1 i hi).2.1)) (fun i hi => hs _ (List.mem_of_getElem? (xs_f1 i hi).2.2.1)) (fun i hi => hs _ (List.mem_of_getElem? (xs_f1 i hi).2.2.2)) (fun i hi j hj => hs _ (xs_f2 i hi j hj)) (fun i j hi hj hij => (xs_f3 i hi j hj hij).imp (fun z => hs _ (List.mem_of_getElem? z)) (fun z => hs _ (List.mem_of_getElem? z))) hA
  refine ⟨((fun i => (ad i).1, fun i => (ad i).2), (fun k => [c0, c1, c2, c3, c4, c5].getD k 0), z0, adK, adV), ⟨fun c q hq => had c q hq, fun k q hk => ?_⟩, ?_⟩
  · match k, hk with
    | 0, hk =>
      have e : (c0, (FieldType.int)) = q := Option.some.inj (show some (c0, (FieldType.int)) = some q from hk)
      subst e
      exact ⟨a0, r0⟩
    | 1, hk =>
      have e : (c1, (FieldType.long)) = q := Option.some.inj (show some (c1, (FieldType.long)) = some q from hk)
      subst e
      exact ⟨a1, r1⟩
    | 2, hk =>
      have e : (c2, (FieldType.boolean)) = q := Option.some.inj (show some (c2, (FieldType.boolean)) = some q from hk)
      subst e
      exact ⟨a2, r2⟩
    | 3, hk =>
      have e : (c3, (FieldType.char)) = q := Option.some.inj (show some (c3, (FieldType.char)) = some q from hk)
      subst e
      exact ⟨a3, r3⟩
    | 4, hk =>
      have e : (c4, (FieldType.byte)) = q := Option.some.inj (show some (c4, (FieldType.byte)) = some q from hk)
      subst e
      exact ⟨a4, r4⟩
    | 5, hk =>
      have e : (c5, (FieldType.object "java/lang/Object")) = q := Option.some.inj (show some (c5, (FieldType.object "java/lang/Object")) = some q from hk)
      subst e
      exact ⟨a5, r5⟩
    | k + 6, hk =>
      rw [List.getElem?_eq_none (by show 6 ≤ k + 6; omega)] at hk
      cases hk
  · refine ⟨va_Zof (hts _ (xs_mt 530 (by decide +kernel))) (hx _ k_45) hz0 hA, hT0, va_Zof (hts _ (xs_mt 69 (by decide +kernel))) (hx _ k_4) (va_eqt (hs _ xs_n3)) hA, hS, fun q hq => vk_R.of (hts _ (xs_sr q hq).1) ?_, ?_, fun q hq => va_tabs rfl rfl (hts _ (xs_cw q hq)), va_AO.of hAO, fun y hy => va_tabs rfl rfl (hts _ (xs_dw y hy)), fun q hq => ?_⟩
    · have h9 := hadK q.2.2.2 (xs_sr q hq).2.2
      rw [(xs_sr q hq).2.1] at h9
      exact h9
    · rcases va_Zqof (hts _ (xs_mt 85 (by decide +kernel))) (hx _ k_10) (hs _ xs_n4) hA with h | ⟨t, h⟩
      · exact ⟨none, h⟩
      · exact ⟨some t, h⟩
    · simp only [xb_tz, List.mem_cons, List.not_mem_nil, or_false] at hq
      rcases hq with rfl | rfl
      · exact xs_ls (hts _ (xs_mt 161 (by decide +kernel))) (hs _ xs_n5) hA
      · exact xs_ls (hts _ (xs_mt 163 (by decide +kernel))) (hs _ xs_n6) hA
theorem whole_start {p : Program} {e : Env} {s : State} {m : MethodId} {below : List Frame} {meth : Method} {c : Code} (l : Launch) (hst : ∀ e : Env, l.admits e → e.platform.stackTraces = false) {b L : Nat} {xs : Nat → Int32} (hL : L ≤ 4) (C0 : lw_At p s m meth c b L xs) : W p l e room_1 s m #[Value.ref b] below meth c s.heap [] 0 0 (lw_Z below #[Value.ref b] s) (entryFrame m ([Value.ref b] : List Value).toArray 7) := by
  obtain ⟨hx, hb, hr, hml, hown, hts, hX, hbl, hlk, hg⟩ := C0
  obtain ⟨G, hK, hE⟩ := xs_start hts hg
  rw [lg_entry_eq]
  exact lw_body l hst G hL ⟨⟨hx, hb, hml, hown, xb_gof hts⟩, hK, fun q h => h, hE, fun q hq => absurd hq List.not_mem_nil⟩ (fun q h => h) hr hlk hX hbl (lv_entry [.ref b] (n := 7) (Nat.le_of_ble_eq_true rfl))
theorem xs_traces {l : Launch} (hf : l.flags = flags0) : ∀ e : Env, l.admits e → e.platform.stackTraces = false := by
  intro e he
  have h : e.platform.stackTraces = l.stackTraces := by rw [he.platform]
  rw [h, Launch.stackTraces, hf]
  decide +kernel
