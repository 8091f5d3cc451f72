def xt_st : List Nat := [0, 0, 0, 3, 3, 3, 3, 7, 7, 7, 10, 10, 10, 13, 13, 13, 13, 13, 18, 18, 18, 18, 18, 23, 23, 23, 23, 23, 28, 28, 28, 31, 31, 31, 31, 31, 36, 36, 36, 36, 40]
def xt_kw : List Nat := [0, 0, 0, 1, 1, 1, 1, 2, 2, 2, 3, 3, 3, 4, 4, 4, 4, 4, 5, 5, 5, 5, 5, 6, 6, 6, 6, 6, 7, 7, 7, 8, 8, 8, 8, 8, 9, 9, 9, 9, 10]
def xt_b : List Nat := [102, 110, 32, 108, 101, 116, 32, 105, 110, 32, 105, 102, 32, 116, 104, 101, 110, 32, 101, 108, 115, 101, 32, 99, 97, 115, 101, 32, 111, 102, 32, 100, 97, 116, 97, 32, 105, 110, 116, 32]
theorem xt_1 : ∀ i, i < 40 → xt_st.getD i 0 ≤ i ∧ xt_kw.getD i 0 ≤ 9 ∧ (xt_b.getD i 0 = 32 → xt_st.getD i 0 < i ∧ i - xt_st.getD i 0 ≤ 5 ∧ xt_st.getD (i + 1) 0 = i + 1 ∧ xt_kw.getD (i + 1) 0 = xt_kw.getD i 0 + 1) ∧ (xt_b.getD i 0 ≠ 32 → xt_st.getD (i + 1) 0 = xt_st.getD i 0 ∧ xt_kw.getD (i + 1) 0 = xt_kw.getD i 0) := by decide
theorem xt_2 : ∀ i, i < 40 → (xb_sB.getD 0 []).getD i 0 &&& 255 = nI (xt_b.getD i 0) ∧ fits .byte (.int ((xb_sB.getD 0 []).getD i 0)) = true ∧ xt_b.getD i 0 < 256 := by decide +kernel
abbrev rm_Tokens_init : Room := { frames := 8, cells := 23, slots := 262, locals := 280 }
set_option maxHeartbeats 4000000 in
set_option maxRecDepth 100000 in
theorem ct_Tokens_init (l : Launch) (G : xb_EV) (h0 : Nat) : xb_CT l y_TypeFinder_Tokens_init b_TypeFinder_Tokens_init 4 none rm_Tokens_init G [] [.ref h0] [(h0, .inr (2, [.null, .null, .null, .int 0, .int 0]))] (S := Nat × Nat × Nat) (fun _ => none) (fun _ => True) (fun u => [(h0, .inr (2, [.ref u.1, .ref u.2.1, .ref u.2.2, .int 0, .int 0])), (u.1, .inl (G.2.1 0, 81, .inl (fun _ => 0))), (u.2.1, .inl (G.2.1 1, 81, .inr (.inl (fun _ => 0))))]) := by
  refine xb_CT.of (by decide) "TypeFinder$Tokens" rfl ?_ (Nat.le_of_ble_eq_true rfl)
  intro p e s m args below meth c A ls Q F hr hlk hnm h hl hA hQ
  have hx := F.1.1
  have hb := F.1.2.1
  have hml := F.1.2.2.1
  have hown := F.1.2.2.2.1
  have hts := F.1.2.2.2.2
  have hK := F.2.1
  refine lv_aload_n (pc := 0) hx hb d_TypeFinder_Tokens_init_0 rfl (lv_at hl 0 rfl) ?_
  refine W.objInit hx hb hown (hts _ k_403) (hts _ k_25) (hts _ k_26) rfl (by rw [hml]; exact hl.1) rfl d_TypeFinder_Tokens_init_1 (Nat.le_of_ble_eq_true rfl) (Nat.le_of_ble_eq_true rfl) ?_
  refine W.eq (g2 := F0 m 4 ls []) rfl ?_
  refine lv_aload_n (pc := 4) hx hb d_TypeFinder_Tokens_init_4 rfl (lv_at hl 0 rfl) ?_
  refine lv_bipush (pc := 5) (v := 81) hx hb d_TypeFinder_Tokens_init_5 (by decide) ?_
  refine xb_newa (pc := 7) (a0 := (81, .inl (fun _ => 0))) (ty := .int) (N' := 81) (ws' := fun q7_1 => [(h0, .inr (2, [.null, .null, .null, .int 0, .int 0])), (q7_1, .inl (G.2.1 0, 81, .inl (fun _ => 0)))]) F h rfl 0 rfl k_193 (fun _ => rfl) (by decide) (by decide) (by decide) (fun _ => rfl) (by decide) (by decide) d_TypeFinder_Tokens_init_7 (fun q7_1 H h => ?_)
  refine xb_putF (pc := 9) (t0 := (.array .int)) (ws' := [(h0, .inr (2, [.ref q7_1, .null, .null, .int 0, .int 0])), (q7_1, .inl (G.2.1 0, 81, .inl (fun _ => 0)))]) F h hnm cf_2 0 rfl 0 (by decide) rfl k_297 (by decide +kernel) rfl rfl (Nat.le_of_ble_eq_true rfl) rfl d_TypeFinder_Tokens_init_9 (fun H locs h => ?_)
  refine lv_aload_n (pc := 12) hx hb d_TypeFinder_Tokens_init_12 rfl (lv_at hl 0 rfl) ?_
  refine lv_bipush (pc := 13) (v := 81) hx hb d_TypeFinder_Tokens_init_13 (by decide) ?_
  refine xb_newa (pc := 15) (a0 := (81, .inr (.inl (fun _ => 0)))) (ty := .long) (N' := 81) (ws' := fun q15_2 => [(h0, .inr (2, [.ref q7_1, .null, .null, .int 0, .int 0])), (q7_1, .inl (G.2.1 0, 81, .inl (fun _ => 0))), (q15_2, .inl (G.2.1 1, 81, .inr (.inl (fun _ => 0))))]) F h rfl 1 rfl k_404 (fun _ => rfl) (by decide) (by decide) (by decide) (fun _ => rfl) (by decide) (by decide) d_TypeFinder_Tokens_init_15 (fun q15_2 H h => ?_)
  refine xb_putF (pc := 17) (t0 := (.array .long)) (ws' := [(h0, .inr (2, [.ref q7_1, .ref q15_2, .null, .int 0, .int 0])), (q7_1, .inl (G.2.1 0, 81, .inl (fun _ => 0))), (q15_2, .inl (G.2.1 1, 81, .inr (.inl (fun _ => 0))))]) F h hnm cf_2 0 rfl 1 (by decide) rfl k_298 (by decide +kernel) rfl rfl (Nat.le_of_ble_eq_true rfl) rfl d_TypeFinder_Tokens_init_17 (fun H locs h => ?_)
  refine lv_aload_n (pc := 20) hx hb d_TypeFinder_Tokens_init_20 rfl (lv_at hl 0 rfl) ?_
  refine lv_bipush (pc := 21) (v := 10) hx hb d_TypeFinder_Tokens_init_21 (by decide) ?_
  refine xb_newa (pc := 23) (a0 := (10, .inr (.inl (fun _ => 0)))) (ty := .long) (N' := 10) (ws' := fun q23_3 => [(h0, .inr (2, [.ref q7_1, .ref q15_2, .null, .int 0, .int 0])), (q7_1, .inl (G.2.1 0, 81, .inl (fun _ => 0))), (q15_2, .inl (G.2.1 1, 81, .inr (.inl (fun _ => 0)))), (q23_3, .inl (G.2.1 1, 10, .inr (.inl (fun _ => 0))))]) F h rfl 1 rfl k_404 (fun _ => rfl) (by decide) (by decide) (by decide) (fun _ => rfl) (by decide) (by decide) d_TypeFinder_Tokens_init_23 (fun q23_3 H h => ?_)
  refine xb_putF (pc := 25) (t0 := (.array .long)) (ws' := [(h0, .inr (2, [.ref q7_1, .ref q15_2, .ref q23_3, .int 0, .int 0])), (q7_1, .inl (G.2.1 0, 81, .inl (fun _ => 0))), (q15_2, .inl (G.2.1 1, 81, .inr (.inl (fun _ => 0)))), (q23_3, .inl (G.2.1 1, 10, .inr (.inl (fun _ => 0))))]) F h hnm cf_2 0 rfl 2 (by decide) rfl k_405 (by decide +kernel) rfl rfl (Nat.le_of_ble_eq_true rfl) rfl d_TypeFinder_Tokens_init_25 (fun H locs h => ?_)
  refine lv_iconst (pc := 28) (v := 0) hx hb d_TypeFinder_Tokens_init_28 (by decide) ?_
  refine lv_istore_n (pc := 29) (lv' := [(1, .int 0), (0, .ref h0)]) hx hb d_TypeFinder_Tokens_init_29 rfl hl (by decide) rfl (fun ls hl => ?_)
  refine lv_iconst (pc := 30) (v := 0) hx hb d_TypeFinder_Tokens_init_30 (by decide) ?_
  refine lv_istore_n (pc := 31) (lv' := [(2, .int 0), (1, .int 0), (0, .ref h0)]) hx hb d_TypeFinder_Tokens_init_31 rfl hl (by decide) rfl (fun ls hl => ?_)
  refine lv_iconst (pc := 32) (v := 0) hx hb d_TypeFinder_Tokens_init_32 (by decide) ?_
  refine lv_istore_n (pc := 33) (lv' := [(3, .int 0), (2, .int 0), (1, .int 0), (0, .ref h0)]) hx hb d_TypeFinder_Tokens_init_33 rfl hl (by decide) rfl (fun ls hl => ?_)
  have hsb := xb_litF F 0 (by decide)
  have loop : ∀ (n i : Nat) (fk : Nat → Int64) (ls : Array Slot) (H : Heap) (locs : List Loc), i + n = 40 → xb_W G A s [(h0, .inr (2, [.ref q7_1, .ref q15_2, .ref q23_3, .int 0, .int 0])), (q7_1, .inl (G.2.1 0, 81, .inl (fun _ => 0))), (q15_2, .inl (G.2.1 1, 81, .inr (.inl (fun _ => 0)))), (q23_3, .inl (G.2.1 1, 10, .inr (.inl (fk))))] H locs → lv_has ls 4 [(3, .int (nI i)), (2, .int (nI (xt_st.getD i 0))), (1, .int (nI (xt_kw.getD i 0))), (0, .ref h0)] → W p l e rm_Tokens_init s m args below meth c H locs (3 + 2 * xt_kw.getD i 0) (172 + 9 * xt_kw.getD i 0) Q (F0 m 34 ls []) := by
    intro n
    induction n with
    | zero =>
      intro i fk ls H locs hi h hl
      obtain rfl : i = 40 := by omega
      have k40 : xt_kw.getD 40 0 = 10 := by decide
      refine lv_iload_n (pc := 34) hx hb d_TypeFinder_Tokens_init_34 rfl (lv_at hl 0 rfl) ?_
      refine va_ldcS (pc := 35) hx hb hown (xb_str (q := ("TypeFinder$Tokens", 22, "fn let in if then else case of data int ", 0)) F 6 rfl) d_TypeFinder_Tokens_init_35 ?_
      refine xb_callV (pc := 37) (rm := rm_String_length) (wr := [(h0, .inr (2, [.ref q7_1, .ref q15_2, .ref q23_3, .int 0, .int 0])), (q7_1, .inl (G.2.1 0, 81, .inl (fun _ => 0))), (q15_2, .inl (G.2.1 1, 81, .inr (.inl (fun _ => 0)))), (q23_3, .inl (G.2.1 1, 10, .inr (.inl (fk))))]) F h (ct_String_length l G (G.2.2.2.1 0) (G.2.2.2.2 0) 40 (fun j => (xb_sB.getD 0 []).getD j 0) (by decide)) 0 (va_Orecv hsb.1 h.2.2) k_389 k_4 k_396 k_391 k_392 hd_String_length (by decide) [] [0, 1, 2, 3] rfl rfl (by decide) (by decide) (by decide) (xb_lit F h 0 (by decide)) hl.1 rfl rfl (Nat.le_of_ble_eq_true rfl) (by refine ⟨?_, ?_⟩ <;> simp only [] <;> omega) d_TypeFinder_Tokens_init_37 (fun u H locs hu h => ?_)
      have h : xb_W G A s [(h0, .inr (2, [.ref q7_1, .ref q15_2, .ref q23_3, .int 0, .int 0])), (q7_1, .inl (G.2.1 0, 81, .inl (fun _ => 0))), (q15_2, .inl (G.2.1 1, 81, .inr (.inl (fun _ => 0)))), (q23_3, .inl (G.2.1 1, 10, .inr (.inl (fk))))] _ _ := h
      refine W.eq (g2 := F0 m 40 ls [.int (nI 40), .int (nI 40)]) rfl ?_
      refine lv_icmp_ge (pc := 40) (tgt := 92) hx hb d_TypeFinder_Tokens_init_40 (by decide) (fun _ => ?_) (fun h => absurd (nI_le (Nat.le_refl _) (by decide)) h)
      exact xb_vret (pc := 92) (rm := rm_Tokens_init) F hr hlk hA hQ h (q7_1, q15_2, q23_3) trivial rfl [0, 1, 2] (by decide) rfl (by decide) (by decide) d_TypeFinder_Tokens_init_92
    | succ n ih =>
      intro i fk ls H locs hi h hl
      have hi2 : i < 40 := by omega
      obtain ⟨t1, t2, t3, t4⟩ := xt_1 i hi2
      obtain ⟨t5, -, t6⟩ := xt_2 i hi2
      refine lv_iload_n (pc := 34) hx hb d_TypeFinder_Tokens_init_34 rfl (lv_at hl 0 rfl) ?_
      refine va_ldcS (pc := 35) hx hb hown (xb_str (q := ("TypeFinder$Tokens", 22, "fn let in if then else case of data int ", 0)) F 6 rfl) d_TypeFinder_Tokens_init_35 ?_
      refine xb_callV (pc := 37) (rm := rm_String_length) (wr := [(h0, .inr (2, [.ref q7_1, .ref q15_2, .ref q23_3, .int 0, .int 0])), (q7_1, .inl (G.2.1 0, 81, .inl (fun _ => 0))), (q15_2, .inl (G.2.1 1, 81, .inr (.inl (fun _ => 0)))), (q23_3, .inl (G.2.1 1, 10, .inr (.inl (fk))))]) F h (ct_String_length l G (G.2.2.2.1 0) (G.2.2.2.2 0) 40 (fun j => (xb_sB.getD 0 []).getD j 0) (by decide)) 0 (va_Orecv hsb.1 h.2.2) k_389 k_4 k_396 k_391 k_392 hd_String_length (by decide) [] [0, 1, 2, 3] rfl rfl (by decide) (by decide) (by decide) (xb_lit F h 0 (by decide)) hl.1 rfl rfl (Nat.le_of_ble_eq_true rfl) (by refine ⟨?_, ?_⟩ <;> simp only [] <;> omega) d_TypeFinder_Tokens_init_37 (fun u H locs hu h => ?_)
      have h : xb_W G A s [(h0, .inr (2, [.ref q7_1, .ref q15_2, .ref q23_3, .int 0, .int 0])), (q7_1, .inl (G.2.1 0, 81, .inl (fun _ => 0))), (q15_2, .inl (G.2.1 1, 81, .inr (.inl (fun _ => 0)))), (q23_3, .inl (G.2.1 1, 10, .inr (.inl (fk))))] _ _ := h
      refine W.eq (g2 := F0 m 40 ls [.int (nI 40), .int (nI i)]) rfl ?_
      refine lv_icmp_ge (pc := 40) (tgt := 92) hx hb d_TypeFinder_Tokens_init_40 (by decide) (fun h => absurd h (nI_ge (a := i) (b := 40) hi2 (by decide))) (fun _ => ?_)
      refine lv_iload_n (pc := 43) hx hb d_TypeFinder_Tokens_init_43 rfl (lv_at hl 2 rfl) ?_
      refine lv_aload_n (pc := 44) hx hb d_TypeFinder_Tokens_init_44 rfl (lv_at hl 3 rfl) ?_
      refine xb_get (pc := 45) F h cf_2 0 rfl 2 (by decide) rfl k_405 (Or.inl rfl) rfl d_TypeFinder_Tokens_init_45 ?_
      refine va_alen (pc := 48) (v := 10) hx hb hK h.1 3 1 rfl rfl (by first | rfl | decide) d_TypeFinder_Tokens_init_48 ?_
      refine lv_icmp_ge (pc := 49) (tgt := 92) hx hb d_TypeFinder_Tokens_init_49 (by decide) (fun h => absurd h (nI_ge (a := xt_kw.getD i 0) (b := 10) (by omega) (by decide))) (fun _ => ?_)
      refine va_ldcS (pc := 52) hx hb hown (xb_str (q := ("TypeFinder$Tokens", 22, "fn let in if then else case of data int ", 0)) F 6 rfl) d_TypeFinder_Tokens_init_52 ?_
      refine lv_iload_n (pc := 54) hx hb d_TypeFinder_Tokens_init_54 rfl (lv_at hl 0 rfl) ?_
      refine xb_callV (pc := 55) (rm := rm_String_charAt) (wr := [(h0, .inr (2, [.ref q7_1, .ref q15_2, .ref q23_3, .int 0, .int 0])), (q7_1, .inl (G.2.1 0, 81, .inl (fun _ => 0))), (q15_2, .inl (G.2.1 1, 81, .inr (.inl (fun _ => 0)))), (q23_3, .inl (G.2.1 1, 10, .inr (.inl (fk))))]) F h (ct_String_charAt l G (G.2.2.2.1 0) (G.2.2.2.2 0) 40 (fun j => (xb_sB.getD 0 []).getD j 0) (by decide) i hi2) 1 (va_Orecv hsb.1 h.2.2) k_397 k_4 k_398 k_399 k_400 hd_String_charAt (by decide) [] [0, 1, 2, 3] rfl rfl (by decide) (by decide) (by decide) (xb_lit F h 0 (by decide)) hl.1 rfl rfl (Nat.le_of_ble_eq_true rfl) (by refine ⟨?_, ?_⟩ <;> simp only [] <;> omega) d_TypeFinder_Tokens_init_55 (fun u H locs hu h => ?_)
      obtain rfl : u = nI (xt_b.getD i 0) := hu.2.trans t5
      have h : xb_W G A s [(h0, .inr (2, [.ref q7_1, .ref q15_2, .ref q23_3, .int 0, .int 0])), (q7_1, .inl (G.2.1 0, 81, .inl (fun _ => 0))), (q15_2, .inl (G.2.1 1, 81, .inr (.inl (fun _ => 0)))), (q23_3, .inl (G.2.1 1, 10, .inr (.inl (fk))))] _ _ := h
      refine W.eq (g2 := F0 m 58 ls [.int (nI (xt_b.getD i 0))]) rfl ?_
      refine lv_bipush (pc := 58) (v := 32) hx hb d_TypeFinder_Tokens_init_58 (by decide) ?_
      refine lv_icmp_ne (pc := 60) (tgt := 86) hx hb d_TypeFinder_Tokens_init_60 (by decide) (fun hne => ?_) (fun heq => ?_)
      · have t7 := t4 (fun z => hne (by rw [z]; rfl))
        refine lv_iinc (pc := 86) (k := 0) (v := ((nI i) + 1)) (lv' := [(3, .int ((nI i) + 1)), (2, .int (nI (xt_st.getD i 0))), (1, .int (nI (xt_kw.getD i 0))), (0, .ref h0)]) hx hb d_TypeFinder_Tokens_init_86 hl rfl (rfl) (by decide) rfl (fun ls hl => ?_)
        refine lv_goto (pc := 89) (tgt := 34) hx hb d_TypeFinder_Tokens_init_89 (by decide) ?_
        exact W.widen (Nat.le_of_eq (by simp only []; rw [t7.2]; omega)) (Nat.le_of_eq (by simp only []; rw [t7.2]; omega)) (ih (i + 1) fk _ _ _ (by omega) h (by rw [t7.1, t7.2, nI_succ]; exact hl))
      · have t7 := t3 ((nI_eq (by omega) (by decide)).mp heq)
        refine lv_aload_n (pc := 63) hx hb d_TypeFinder_Tokens_init_63 rfl (lv_at hl 3 rfl) ?_
        refine xb_get (pc := 64) F h cf_2 0 rfl 2 (by decide) rfl k_405 (Or.inl rfl) rfl d_TypeFinder_Tokens_init_64 ?_
        refine lv_iload_n (pc := 67) hx hb d_TypeFinder_Tokens_init_67 rfl (lv_at hl 2 rfl) ?_
        refine va_ldcS (pc := 68) hx hb hown (xb_str (q := ("TypeFinder$Tokens", 22, "fn let in if then else case of data int ", 0)) F 6 rfl) d_TypeFinder_Tokens_init_68 ?_
        refine lv_iload_n (pc := 70) hx hb d_TypeFinder_Tokens_init_70 rfl (lv_at hl 1 rfl) ?_
        refine lv_iload_n (pc := 71) hx hb d_TypeFinder_Tokens_init_71 rfl (lv_at hl 0 rfl) ?_
        refine xb_callV (pc := 72) (rm := rm_substring) (wr := [(h0, .inr (2, [.ref q7_1, .ref q15_2, .ref q23_3, .int 0, .int 0])), (q7_1, .inl (G.2.1 0, 81, .inl (fun _ => 0))), (q15_2, .inl (G.2.1 1, 81, .inr (.inl (fun _ => 0)))), (q23_3, .inl (G.2.1 1, 10, .inr (.inl (fk))))]) F h (ct_substring l G (G.2.2.2.1 0) (G.2.2.2.2 0) 40 (fun j => (xb_sB.getD 0 []).getD j 0) (by decide) (xt_st.getD i 0) i t7.1 (by omega) (by omega) t7.2.1 (fun j hj => (xt_2 j hj).2.1)) 2 (va_Orecv hsb.1 h.2.2) k_406 k_4 k_407 k_408 k_409 hd_String_substring (by decide) [] [0, 1, 2, 3] rfl rfl (by decide) (by decide) (by decide) (xb_lit F h 0 (by decide)) hl.1 rfl rfl (Nat.le_of_ble_eq_true rfl) (by refine ⟨?_, ?_⟩ <;> simp only [] <;> omega) d_TypeFinder_Tokens_init_72 (fun u H locs hu h => ?_)
        obtain ⟨q4, q5, f5⟩ := u
        have h : xb_W G A s [(h0, .inr (2, [.ref q7_1, .ref q15_2, .ref q23_3, .int 0, .int 0])), (q7_1, .inl (G.2.1 0, 81, .inl (fun _ => 0))), (q15_2, .inl (G.2.1 1, 81, .inr (.inl (fun _ => 0)))), (q23_3, .inl (G.2.1 1, 10, .inr (.inl (fk)))), (q5, .inl (G.2.1 4, (i - xt_st.getD i 0), .inl (f5))), (q4, .inr (13, [.ref q5, .int 0, .int 0, .int 0]))] _ _ := h
        refine W.eq (g2 := F0 m 75 ls [.ref q4, .int (nI (xt_kw.getD i 0)), .ref q23_3]) rfl ?_
        refine xb_callS (pc := 75) (rm := rm_packed) (wr := [(h0, .inr (2, [.ref q7_1, .ref q15_2, .ref q23_3, .int 0, .int 0])), (q7_1, .inl (G.2.1 0, 81, .inl (fun _ => 0))), (q15_2, .inl (G.2.1 1, 81, .inr (.inl (fun _ => 0)))), (q23_3, .inl (G.2.1 1, 10, .inr (.inl (fk)))), (q5, .inl (G.2.1 4, (i - xt_st.getD i 0), .inl (f5))), (q4, .inr (13, [.ref q5, .int 0, .int 0, .int 0]))]) F h (ct_packed l G q4 q5 (i - xt_st.getD i 0) f5 (by omega)) 1 k_142 k_143 k_410 k_145 hd_TypeFinder_Tokens_packed (by decide) [] [0, 1, 2, 3, 4, 5] rfl rfl (by decide) (by decide) (by decide) (xb_wstr F h 5 4 rfl rfl (by omega)) hl.1 rfl rfl (Nat.le_of_ble_eq_true rfl) (by refine ⟨?_, ?_⟩ <;> simp only [] <;> omega) d_TypeFinder_Tokens_init_75 (fun u H locs hu h => ?_)
        obtain ⟨wv, rfl⟩ : ∃ z, z = u := ⟨_, rfl⟩
        have h : xb_W G A s [(h0, .inr (2, [.ref q7_1, .ref q15_2, .ref q23_3, .int 0, .int 0])), (q7_1, .inl (G.2.1 0, 81, .inl (fun _ => 0))), (q15_2, .inl (G.2.1 1, 81, .inr (.inl (fun _ => 0)))), (q23_3, .inl (G.2.1 1, 10, .inr (.inl (fk)))), (q5, .inl (G.2.1 4, (i - xt_st.getD i 0), .inl (f5))), (q4, .inr (13, [.ref q5, .int 0, .int 0, .int 0]))] _ _ := h
        refine W.eq (g2 := F0 m 78 ls [.long wv, .int (nI (xt_kw.getD i 0)), .ref q23_3]) rfl ?_
        have h := xb_sub (ws' := [(h0, .inr (2, [.ref q7_1, .ref q15_2, .ref q23_3, .int 0, .int 0])), (q7_1, .inl (G.2.1 0, 81, .inl (fun _ => 0))), (q15_2, .inl (G.2.1 1, 81, .inr (.inl (fun _ => 0)))), (q23_3, .inl (G.2.1 1, 10, .inr (.inl (fk))))]) h [0, 1, 2, 3] (by decide) rfl
        refine xb_lastF (pc := 78) (ws' := fun f78_1 => [(h0, .inr (2, [.ref q7_1, .ref q15_2, .ref q23_3, .int 0, .int 0])), (q7_1, .inl (G.2.1 0, 81, .inl (fun _ => 0))), (q15_2, .inl (G.2.1 1, 81, .inr (.inl (fun _ => 0)))), (q23_3, .inl (G.2.1 1, 10, .inr (.inl (f78_1))))]) F h 3 1 rfl rfl (vp_in_nI (by omega) (by decide)) (fun _ => rfl) d_TypeFinder_Tokens_init_78 (fun f78_1 H locs h => ?_)
        refine lv_iinc (pc := 79) (k := 2) (v := ((nI (xt_kw.getD i 0)) + 1)) (lv' := [(1, .int ((nI (xt_kw.getD i 0)) + 1)), (3, .int (nI i)), (2, .int (nI (xt_st.getD i 0))), (0, .ref h0)]) hx hb d_TypeFinder_Tokens_init_79 hl rfl (rfl) (by decide) rfl (fun ls hl => ?_)
        refine lv_iload_n (pc := 82) hx hb d_TypeFinder_Tokens_init_82 rfl (lv_at hl 1 rfl) ?_
        refine lv_iconst (pc := 83) (v := 1) hx hb d_TypeFinder_Tokens_init_83 (by decide) ?_
        refine lv_iadd (pc := 84) hx hb d_TypeFinder_Tokens_init_84 ?_
        refine lv_istore_n (pc := 85) (lv' := [(2, .int ((nI i) + 1)), (1, .int ((nI (xt_kw.getD i 0)) + 1)), (3, .int (nI i)), (0, .ref h0)]) hx hb d_TypeFinder_Tokens_init_85 rfl hl (by decide) rfl (fun ls hl => ?_)
        refine lv_iinc (pc := 86) (k := 2) (v := ((nI i) + 1)) (lv' := [(3, .int ((nI i) + 1)), (2, .int ((nI i) + 1)), (1, .int ((nI (xt_kw.getD i 0)) + 1)), (0, .ref h0)]) hx hb d_TypeFinder_Tokens_init_86 hl rfl (rfl) (by decide) rfl (fun ls hl => ?_)
        refine lv_goto (pc := 89) (tgt := 34) hx hb d_TypeFinder_Tokens_init_89 (by decide) ?_
        exact W.widen (by simp only []; rw [t7.2.2.2]; omega) (by simp only []; rw [t7.2.2.2]; omega) (ih (i + 1) _ _ _ _ (by omega) h (by rw [t7.2.2.1, t7.2.2.2, nI_succ, nI_succ]; exact lv_sub hl [0, 1, 2, 3] rfl))
  exact loop 40 0 _ _ _ _ rfl h hl
