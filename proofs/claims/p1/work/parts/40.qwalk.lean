set_option maxHeartbeats 4000000 in
set_option maxRecDepth 100000 in
theorem lw_body (l : Launch) (hst : ∀ e : Env, l.admits e → e.platform.stackTraces = false) (G : xb_EV) {p : Program} {e : Env} {s : State} {m : MethodId} {below : List Frame} {meth : Method} {c : Code} {A : Nat → Prop} {b : Nat} {xs : Nat → Int32} {L : Nat} {ls : Array Slot} (hL : L ≤ 4) (F : xb_F p s m #[Value.ref b] c b_TypeFinderLaw_law 7 "TypeFinderLaw" G [] A) (hA : ∀ q, A q → s.heap.size ≤ q) (hr : meth.sig.returnType = ret) (hlk : meth.locks = false) (hX : va_X b L xs s s.heap) (hbl : b < s.heap.size) (hl : lv_has ls 7 [(0, .ref b)]) : W p l e room_1 s m #[Value.ref b] below meth c s.heap [] 0 0 (lw_Z below #[Value.ref b] s) (F0 m 0 ls []) := by
  have hx := F.1.1
  have hb := F.1.2.1
  have hml := F.1.2.2.1
  have hown := F.1.2.2.2.1
  have hts := F.1.2.2.2.2
  have hK := F.2.1
  have hbA : ¬ A b := fun z => absurd (hA b z) (Nat.not_le.mpr hbl)
  have h : xb_W G A s [] s.heap [] := ⟨fun k q hk => by simp at hk, ⟨fun i j p q hi => by simp at hi, fun k q hk => by simp at hk⟩, va_S.rf⟩
  have fin : ∀ (ws : va_W) (ls : Array Slot) (H : Heap) (locs : List Loc) (cells slots : Nat), cells ≤ 600002 → slots ≤ 7302232 → xb_W G A s ws H locs → W p l e room_1 s m #[Value.ref b] below meth c H locs cells slots (lw_Z below #[Value.ref b] s) (F0 m 402 ls []) := by
    intro ws ls H locs cells slots hc hs h
    refine lv_iconst (pc := 402) (v := 1) hx hb d_TypeFinderLaw_law_402 (by decide) ?_
    exact va_forget (fun q hq => hA _ (h.2.2.2.2 q hq)) (W.widen hc hs (lw_ret hx hb hr hlk d_TypeFinderLaw_law_403))
  refine xb_new (pc := 0) (ws' := fun q0_1 => [(q0_1, .inr (0, [.null, .null, .null, .null, .null, .int 0, .int 0, .int 0, .int 0]))]) F h cf_0 k_710 k_711 k_348 df_0 (fun _ => rfl) (by decide) (by decide) d_TypeFinderLaw_law_0 (fun q0_1 H h => ?_)
  refine lv_dup (pc := 3) hx hb d_TypeFinderLaw_law_3 rfl ?_
  refine xb_callI (pc := 4) (rm := rm_TypeFinder_init) (wr := []) F h (ct_TypeFinder_init l G q0_1) 0 k_712 k_348 k_713 k_714 rfl hd_TypeFinder_init (by decide) [0] [] rfl rfl (by decide) (by decide) (by decide) xb_ss0 hl.1 rfl rfl (Nat.le_of_ble_eq_true rfl) (by decide) d_TypeFinderLaw_law_4 (fun u H locs hu h => ?_)
  obtain ⟨u4_2, f4_3, f4_4, x4_5, x4_6⟩ := u
  have h : xb_W G A s [(q0_1, .inr (0, [.ref (u4_2 0), .ref (u4_2 1), .ref (u4_2 9), .ref (u4_2 21), .ref (u4_2 22), .int 0, .int 0, .int 0, .int 0])), ((u4_2 0), .inl (G.2.1 3, 80, .inl (fun _ => 0))), ((u4_2 1), .inr (1, [.ref (u4_2 2), .ref (u4_2 6), .ref (u4_2 7), .ref (u4_2 8)])), ((u4_2 2), .inr (2, [.ref (u4_2 3), .ref (u4_2 4), .ref (u4_2 5), .int 0, .int 0])), ((u4_2 3), .inl (G.2.1 0, 81, .inl (fun _ => 0))), ((u4_2 4), .inl (G.2.1 1, 81, .inr (.inl (fun _ => 0)))), ((u4_2 7), .inl (G.2.1 0, 10, .inl (f4_3))), ((u4_2 8), .inl (G.2.1 2, 10, .inl (f4_4))), ((u4_2 9), .inr (4, [.ref (u4_2 10), .ref (u4_2 15), .ref (u4_2 11), .ref (u4_2 12), .int 6])), ((u4_2 13), .inr (6, [.long x4_5, .int 0, .ref (u4_2 14), .ref (u4_2 15), .int 1])), ((u4_2 11), .inr (11, [.int 2, .ref (u4_2 16), .int 2])), ((u4_2 16), .inl (G.2.1 5, 10, .inr (.inr (.inr (.inr (va_up (va_up (fun _ => none) (Int32.toNatClampNeg 0) (some (u4_2 13))) (Int32.toNatClampNeg 1) (some (u4_2 17)))))))), ((u4_2 17), .inr (6, [.long x4_6, .int 1, .ref (u4_2 18), .ref (u4_2 19), .int 1])), ((u4_2 12), .inr (11, [.int 6, .ref (u4_2 20), .int 6])), ((u4_2 22), .inr (10, [.ref (u4_2 23), .ref (u4_2 25)])), ((u4_2 23), .inr (12, [.ref (u4_2 24), .int 0, .int 0, .int 0])), ((u4_2 25), .inr (11, [.int 0, .ref (G.2.2.1), .int 0]))] _ _ := h
  refine W.widen (k := 75) (n := 632) (by decide) (by decide) ?_
  refine W.eq (g2 := F0 m 7 ls [.ref q0_1]) rfl ?_
  refine lv_astore_n (pc := 7) (lv' := [(1, .ref q0_1), (0, .ref b)]) hx hb d_TypeFinderLaw_law_7 rfl hl (by decide) rfl (fun ls hl => ?_)
  refine xb_new (pc := 8) (ws' := fun q8_7 => [(q0_1, .inr (0, [.ref (u4_2 0), .ref (u4_2 1), .ref (u4_2 9), .ref (u4_2 21), .ref (u4_2 22), .int 0, .int 0, .int 0, .int 0])), ((u4_2 0), .inl (G.2.1 3, 80, .inl (fun _ => 0))), ((u4_2 1), .inr (1, [.ref (u4_2 2), .ref (u4_2 6), .ref (u4_2 7), .ref (u4_2 8)])), ((u4_2 2), .inr (2, [.ref (u4_2 3), .ref (u4_2 4), .ref (u4_2 5), .int 0, .int 0])), ((u4_2 3), .inl (G.2.1 0, 81, .inl (fun _ => 0))), ((u4_2 4), .inl (G.2.1 1, 81, .inr (.inl (fun _ => 0)))), ((u4_2 7), .inl (G.2.1 0, 10, .inl (f4_3))), ((u4_2 8), .inl (G.2.1 2, 10, .inl (f4_4))), ((u4_2 9), .inr (4, [.ref (u4_2 10), .ref (u4_2 15), .ref (u4_2 11), .ref (u4_2 12), .int 6])), ((u4_2 13), .inr (6, [.long x4_5, .int 0, .ref (u4_2 14), .ref (u4_2 15), .int 1])), ((u4_2 11), .inr (11, [.int 2, .ref (u4_2 16), .int 2])), ((u4_2 16), .inl (G.2.1 5, 10, .inr (.inr (.inr (.inr (va_up (va_up (fun _ => none) (Int32.toNatClampNeg 0) (some (u4_2 13))) (Int32.toNatClampNeg 1) (some (u4_2 17)))))))), ((u4_2 17), .inr (6, [.long x4_6, .int 1, .ref (u4_2 18), .ref (u4_2 19), .int 1])), ((u4_2 12), .inr (11, [.int 6, .ref (u4_2 20), .int 6])), ((u4_2 22), .inr (10, [.ref (u4_2 23), .ref (u4_2 25)])), ((u4_2 23), .inr (12, [.ref (u4_2 24), .int 0, .int 0, .int 0])), ((u4_2 25), .inr (11, [.int 0, .ref (G.2.2.1), .int 0])), (q8_7, .inr (14, [.int 0, .int 0, .int 0, .null, .int 0, .null, .null, .null, .null, .int 0, .null, .null, .null, .int 0, .null, .null, .null, .null, .int 0, .null, .null, .null, .null, .null, .int 0, .int 0, .int 0, .null, .null, .null, .int 0, .null, .null, .null, .null, .null, .null, .int 0, .int 0, .int 0, .int 0, .null, .int 0, .null, .null, .null, .null, .null, .int 0, .int 0, .null, .null, .int 0, .null, .int 0, .null, .null, .int 0, .null, .null, .int 0, .null, .null, .int 0, .int 0, .int 0, .null, .int 0, .null, .int 0, .int 0, .int 0, .int 0, .null, .null, .null, .null, .int 0, .null, .null]))]) F h cf_14 k_715 k_716 k_282 df_14 (fun _ => rfl) (by decide) (by decide) d_TypeFinderLaw_law_8 (fun q8_7 H h => ?_)
  refine lv_dup (pc := 11) hx hb d_TypeFinderLaw_law_11 rfl ?_
  refine xb_callI (pc := 12) (rm := rm_Model_init) (wr := [(q0_1, .inr (0, [.ref (u4_2 0), .ref (u4_2 1), .ref (u4_2 9), .ref (u4_2 21), .ref (u4_2 22), .int 0, .int 0, .int 0, .int 0])), ((u4_2 0), .inl (G.2.1 3, 80, .inl (fun _ => 0))), ((u4_2 1), .inr (1, [.ref (u4_2 2), .ref (u4_2 6), .ref (u4_2 7), .ref (u4_2 8)])), ((u4_2 2), .inr (2, [.ref (u4_2 3), .ref (u4_2 4), .ref (u4_2 5), .int 0, .int 0])), ((u4_2 3), .inl (G.2.1 0, 81, .inl (fun _ => 0))), ((u4_2 4), .inl (G.2.1 1, 81, .inr (.inl (fun _ => 0)))), ((u4_2 7), .inl (G.2.1 0, 10, .inl (f4_3))), ((u4_2 8), .inl (G.2.1 2, 10, .inl (f4_4))), ((u4_2 9), .inr (4, [.ref (u4_2 10), .ref (u4_2 15), .ref (u4_2 11), .ref (u4_2 12), .int 6])), ((u4_2 13), .inr (6, [.long x4_5, .int 0, .ref (u4_2 14), .ref (u4_2 15), .int 1])), ((u4_2 11), .inr (11, [.int 2, .ref (u4_2 16), .int 2])), ((u4_2 16), .inl (G.2.1 5, 10, .inr (.inr (.inr (.inr (va_up (va_up (fun _ => none) (Int32.toNatClampNeg 0) (some (u4_2 13))) (Int32.toNatClampNeg 1) (some (u4_2 17)))))))), ((u4_2 17), .inr (6, [.long x4_6, .int 1, .ref (u4_2 18), .ref (u4_2 19), .int 1])), ((u4_2 12), .inr (11, [.int 6, .ref (u4_2 20), .int 6])), ((u4_2 22), .inr (10, [.ref (u4_2 23), .ref (u4_2 25)])), ((u4_2 23), .inr (12, [.ref (u4_2 24), .int 0, .int 0, .int 0])), ((u4_2 25), .inr (11, [.int 0, .ref (G.2.2.1), .int 0]))]) F h (ct_Model_init l G q8_7) 0 k_717 k_282 k_718 k_719 rfl hd_TypeFinderModel_init (by decide) [17] [0, 1, 2, 3, 4, 5, 6, 7, 8, 9, 10, 11, 12, 13, 14, 15, 16] rfl rfl (by decide) (by decide) (by decide) xb_ss0 hl.1 rfl rfl (Nat.le_of_ble_eq_true rfl) (by decide) d_TypeFinderLaw_law_12 (fun u H locs hu h => ?_)
  obtain ⟨u12_8, f12_9, f12_10⟩ := u
  have h : xb_W G A s [(q0_1, .inr (0, [.ref (u4_2 0), .ref (u4_2 1), .ref (u4_2 9), .ref (u4_2 21), .ref (u4_2 22), .int 0, .int 0, .int 0, .int 0])), ((u4_2 0), .inl (G.2.1 3, 80, .inl (fun _ => 0))), ((u4_2 1), .inr (1, [.ref (u4_2 2), .ref (u4_2 6), .ref (u4_2 7), .ref (u4_2 8)])), ((u4_2 2), .inr (2, [.ref (u4_2 3), .ref (u4_2 4), .ref (u4_2 5), .int 0, .int 0])), ((u4_2 3), .inl (G.2.1 0, 81, .inl (fun _ => 0))), ((u4_2 4), .inl (G.2.1 1, 81, .inr (.inl (fun _ => 0)))), ((u4_2 7), .inl (G.2.1 0, 10, .inl (f4_3))), ((u4_2 8), .inl (G.2.1 2, 10, .inl (f4_4))), ((u4_2 9), .inr (4, [.ref (u4_2 10), .ref (u4_2 15), .ref (u4_2 11), .ref (u4_2 12), .int 6])), ((u4_2 13), .inr (6, [.long x4_5, .int 0, .ref (u4_2 14), .ref (u4_2 15), .int 1])), ((u4_2 11), .inr (11, [.int 2, .ref (u4_2 16), .int 2])), ((u4_2 16), .inl (G.2.1 5, 10, .inr (.inr (.inr (.inr (va_up (va_up (fun _ => none) (Int32.toNatClampNeg 0) (some (u4_2 13))) (Int32.toNatClampNeg 1) (some (u4_2 17)))))))), ((u4_2 17), .inr (6, [.long x4_6, .int 1, .ref (u4_2 18), .ref (u4_2 19), .int 1])), ((u4_2 12), .inr (11, [.int 6, .ref (u4_2 20), .int 6])), ((u4_2 22), .inr (10, [.ref (u4_2 23), .ref (u4_2 25)])), ((u4_2 23), .inr (12, [.ref (u4_2 24), .int 0, .int 0, .int 0])), ((u4_2 25), .inr (11, [.int 0, .ref (G.2.2.1), .int 0])), ((u12_8 0), .inl (G.2.1 0, 80, .inl (fun _ => 0))), ((u12_8 1), .inl (G.2.1 0, 82, .inl (fun _ => 0))), ((u12_8 2), .inl (G.2.1 0, 82, .inl (fun _ => 0))), ((u12_8 3), .inl (G.2.1 0, 10, .inl (f12_9))), ((u12_8 4), .inl (G.2.1 2, 10, .inl (f12_10))), ((u12_8 11), .inl (G.2.1 2, 7, .inl (upd (upd (fun _ => 0) (Int32.toNatClampNeg 0) (vp_nar .boolean 1)) (Int32.toNatClampNeg 1) (vp_nar .boolean 1)))), ((u12_8 20), .inl (G.2.1 0, 64, .inl (fun _ => 0))), ((u12_8 21), .inl (G.2.1 0, 64, .inl (fun _ => 0))), ((u12_8 22), .inl (G.2.1 0, 64, .inl (fun _ => 0))), ((u12_8 23), .inl (G.2.1 0, 64, .inl (fun _ => 0))), ((u12_8 24), .inl (G.2.1 0, 64, .inl (fun _ => 0))), ((u12_8 25), .inl (G.2.1 0, 64, .inl (fun _ => 0))), ((u12_8 41), .inl (G.2.1 0, 2, .inl (fun _ => 0))), (q8_7, .inr (14, [.int 0, .int 0, .int 0, .ref (u12_8 0), .int 0, .ref (u12_8 1), .ref (u12_8 2), .ref (u12_8 3), .ref (u12_8 4), .int 6, .ref (u12_8 5), .ref (u12_8 6), .ref (u12_8 7), .int 2, .ref (u12_8 8), .ref (u12_8 9), .ref (u12_8 10), .ref (u12_8 11), .int 4, .ref (u12_8 12), .ref (u12_8 13), .ref (u12_8 14), .ref (u12_8 15), .ref (u12_8 16), .int 0, .int 0, .int 0, .ref (u12_8 17), .ref (u12_8 18), .ref (u12_8 19), .int 0, .ref (u12_8 20), .ref (u12_8 21), .ref (u12_8 22), .ref (u12_8 23), .ref (u12_8 24), .ref (u12_8 25), .int 0, .int 0, .int 0, .int 0, .ref (u12_8 26), .int 0, .ref (u12_8 27), .ref (u12_8 28), .ref (u12_8 29), .ref (u12_8 30), .ref (u12_8 31), .int 0, .int 0, .ref (u12_8 32), .ref (u12_8 33), .int 0, .ref (u12_8 34), .int 0, .ref (u12_8 35), .ref (u12_8 36), .int 0, .ref (u12_8 37), .ref (u12_8 38), .int 0, .ref (u12_8 39), .ref (u12_8 40), .int 0, .int 0, .int 0, .ref (u12_8 41), .int 0, .ref (u12_8 42), .int 0, .int 0, .int 0, .int 0, .ref (u12_8 43), .ref (u12_8 44), .ref (u12_8 45), .ref (u12_8 46), .int 0, .ref (u12_8 47), .ref (u12_8 48)]))] _ _ := h
  refine W.widen (k := 125) (n := 17548) (by decide) (by decide) ?_
  refine W.eq (g2 := F0 m 15 ls [.ref q8_7]) rfl ?_
  refine lv_astore_n (pc := 15) (lv' := [(2, .ref q8_7), (1, .ref q0_1), (0, .ref b)]) hx hb d_TypeFinderLaw_law_15 rfl hl (by decide) rfl (fun ls hl => ?_)
  refine lv_iconst (pc := 16) (v := 1) hx hb d_TypeFinderLaw_law_16 (by decide) ?_
  refine xb_newa (pc := 17) (a0 := (1, .inr (.inl (fun _ => 0)))) (ty := .long) (N' := 1) (ws' := fun q17_11 => [(q0_1, .inr (0, [.ref (u4_2 0), .ref (u4_2 1), .ref (u4_2 9), .ref (u4_2 21), .ref (u4_2 22), .int 0, .int 0, .int 0, .int 0])), ((u4_2 0), .inl (G.2.1 3, 80, .inl (fun _ => 0))), ((u4_2 1), .inr (1, [.ref (u4_2 2), .ref (u4_2 6), .ref (u4_2 7), .ref (u4_2 8)])), ((u4_2 2), .inr (2, [.ref (u4_2 3), .ref (u4_2 4), .ref (u4_2 5), .int 0, .int 0])), ((u4_2 3), .inl (G.2.1 0, 81, .inl (fun _ => 0))), ((u4_2 4), .inl (G.2.1 1, 81, .inr (.inl (fun _ => 0)))), ((u4_2 7), .inl (G.2.1 0, 10, .inl (f4_3))), ((u4_2 8), .inl (G.2.1 2, 10, .inl (f4_4))), ((u4_2 9), .inr (4, [.ref (u4_2 10), .ref (u4_2 15), .ref (u4_2 11), .ref (u4_2 12), .int 6])), ((u4_2 13), .inr (6, [.long x4_5, .int 0, .ref (u4_2 14), .ref (u4_2 15), .int 1])), ((u4_2 11), .inr (11, [.int 2, .ref (u4_2 16), .int 2])), ((u4_2 16), .inl (G.2.1 5, 10, .inr (.inr (.inr (.inr (va_up (va_up (fun _ => none) (Int32.toNatClampNeg 0) (some (u4_2 13))) (Int32.toNatClampNeg 1) (some (u4_2 17)))))))), ((u4_2 17), .inr (6, [.long x4_6, .int 1, .ref (u4_2 18), .ref (u4_2 19), .int 1])), ((u4_2 12), .inr (11, [.int 6, .ref (u4_2 20), .int 6])), ((u4_2 22), .inr (10, [.ref (u4_2 23), .ref (u4_2 25)])), ((u4_2 23), .inr (12, [.ref (u4_2 24), .int 0, .int 0, .int 0])), ((u4_2 25), .inr (11, [.int 0, .ref (G.2.2.1), .int 0])), ((u12_8 0), .inl (G.2.1 0, 80, .inl (fun _ => 0))), ((u12_8 1), .inl (G.2.1 0, 82, .inl (fun _ => 0))), ((u12_8 2), .inl (G.2.1 0, 82, .inl (fun _ => 0))), ((u12_8 3), .inl (G.2.1 0, 10, .inl (f12_9))), ((u12_8 4), .inl (G.2.1 2, 10, .inl (f12_10))), ((u12_8 11), .inl (G.2.1 2, 7, .inl (upd (upd (fun _ => 0) (Int32.toNatClampNeg 0) (vp_nar .boolean 1)) (Int32.toNatClampNeg 1) (vp_nar .boolean 1)))), ((u12_8 20), .inl (G.2.1 0, 64, .inl (fun _ => 0))), ((u12_8 21), .inl (G.2.1 0, 64, .inl (fun _ => 0))), ((u12_8 22), .inl (G.2.1 0, 64, .inl (fun _ => 0))), ((u12_8 23), .inl (G.2.1 0, 64, .inl (fun _ => 0))), ((u12_8 24), .inl (G.2.1 0, 64, .inl (fun _ => 0))), ((u12_8 25), .inl (G.2.1 0, 64, .inl (fun _ => 0))), ((u12_8 41), .inl (G.2.1 0, 2, .inl (fun _ => 0))), (q8_7, .inr (14, [.int 0, .int 0, .int 0, .ref (u12_8 0), .int 0, .ref (u12_8 1), .ref (u12_8 2), .ref (u12_8 3), .ref (u12_8 4), .int 6, .ref (u12_8 5), .ref (u12_8 6), .ref (u12_8 7), .int 2, .ref (u12_8 8), .ref (u12_8 9), .ref (u12_8 10), .ref (u12_8 11), .int 4, .ref (u12_8 12), .ref (u12_8 13), .ref (u12_8 14), .ref (u12_8 15), .ref (u12_8 16), .int 0, .int 0, .int 0, .ref (u12_8 17), .ref (u12_8 18), .ref (u12_8 19), .int 0, .ref (u12_8 20), .ref (u12_8 21), .ref (u12_8 22), .ref (u12_8 23), .ref (u12_8 24), .ref (u12_8 25), .int 0, .int 0, .int 0, .int 0, .ref (u12_8 26), .int 0, .ref (u12_8 27), .ref (u12_8 28), .ref (u12_8 29), .ref (u12_8 30), .ref (u12_8 31), .int 0, .int 0, .ref (u12_8 32), .ref (u12_8 33), .int 0, .ref (u12_8 34), .int 0, .ref (u12_8 35), .ref (u12_8 36), .int 0, .ref (u12_8 37), .ref (u12_8 38), .int 0, .ref (u12_8 39), .ref (u12_8 40), .int 0, .int 0, .int 0, .ref (u12_8 41), .int 0, .ref (u12_8 42), .int 0, .int 0, .int 0, .int 0, .ref (u12_8 43), .ref (u12_8 44), .ref (u12_8 45), .ref (u12_8 46), .int 0, .ref (u12_8 47), .ref (u12_8 48)])), (q17_11, .inl (G.2.1 1, 1, .inr (.inl (fun _ => 0))))]) F h rfl 1 rfl k_404 (fun _ => rfl) (by decide) (by decide) (by decide) (fun _ => rfl) (by decide) (by decide) d_TypeFinderLaw_law_17 (fun q17_11 H h => ?_)
  refine lv_astore_n (pc := 19) (lv' := [(3, .ref q17_11), (2, .ref q8_7), (1, .ref q0_1), (0, .ref b)]) hx hb d_TypeFinderLaw_law_19 rfl hl (by decide) rfl (fun ls hl => ?_)
  refine lv_iconst (pc := 20) (v := 0) hx hb d_TypeFinderLaw_law_20 (by decide) ?_
  refine lv_istore (pc := 21) (lv' := [(4, .int 0), (3, .ref q17_11), (2, .ref q8_7), (1, .ref q0_1), (0, .ref b)]) hx hb d_TypeFinderLaw_law_21 hl (by decide) rfl (fun ls hl => ?_)
  rcases (by omega : L = 0 ∨ L = 1 ∨ L = 2 ∨ L = 3 ∨ L = 4) with rfl | rfl | rfl | rfl | rfl
  · refine lv_iload (pc := 23) hx hb d_TypeFinderLaw_law_23 (lv_at hl 0 rfl) ?_
    refine lv_aload_n (pc := 25) hx hb d_TypeFinderLaw_law_25 rfl (lv_at hl 4 rfl) ?_
    refine va_slen (pc := 26) hx hb hX hbl hbA h.2.2 d_TypeFinderLaw_law_26 ?_
    refine lv_topi (fun y ey => ?_)
    obtain rfl : y = 0 := ey.trans (by decide)
    refine lv_iconst (pc := 27) (v := 4) hx hb d_TypeFinderLaw_law_27 (by decide) ?_
    refine lv_isub (pc := 28) hx hb d_TypeFinderLaw_law_28 ?_
    refine lv_topi (fun y ey => ?_)
    obtain rfl : y = (-4) := ey.trans (by decide)
    refine lv_icmp_gt (pc := 29) (tgt := 402) hx hb d_TypeFinderLaw_law_29 (by decide) (fun _ => ?_) (fun h => absurd (by decide) h)
    exact fin _ _ _ _ _ _ (by decide) (by decide) h
  · refine lv_iload (pc := 23) hx hb d_TypeFinderLaw_law_23 (lv_at hl 0 rfl) ?_
    refine lv_aload_n (pc := 25) hx hb d_TypeFinderLaw_law_25 rfl (lv_at hl 4 rfl) ?_
    refine va_slen (pc := 26) hx hb hX hbl hbA h.2.2 d_TypeFinderLaw_law_26 ?_
    refine lv_topi (fun y ey => ?_)
    obtain rfl : y = 1 := ey.trans (by decide)
    refine lv_iconst (pc := 27) (v := 4) hx hb d_TypeFinderLaw_law_27 (by decide) ?_
    refine lv_isub (pc := 28) hx hb d_TypeFinderLaw_law_28 ?_
    refine lv_topi (fun y ey => ?_)
    obtain rfl : y = (-3) := ey.trans (by decide)
    refine lv_icmp_gt (pc := 29) (tgt := 402) hx hb d_TypeFinderLaw_law_29 (by decide) (fun _ => ?_) (fun h => absurd (by decide) h)
    exact fin _ _ _ _ _ _ (by decide) (by decide) h
  · refine lv_iload (pc := 23) hx hb d_TypeFinderLaw_law_23 (lv_at hl 0 rfl) ?_
    refine lv_aload_n (pc := 25) hx hb d_TypeFinderLaw_law_25 rfl (lv_at hl 4 rfl) ?_
    refine va_slen (pc := 26) hx hb hX hbl hbA h.2.2 d_TypeFinderLaw_law_26 ?_
    refine lv_topi (fun y ey => ?_)
    obtain rfl : y = 2 := ey.trans (by decide)
    refine lv_iconst (pc := 27) (v := 4) hx hb d_TypeFinderLaw_law_27 (by decide) ?_
    refine lv_isub (pc := 28) hx hb d_TypeFinderLaw_law_28 ?_
    refine lv_topi (fun y ey => ?_)
    obtain rfl : y = (-2) := ey.trans (by decide)
    refine lv_icmp_gt (pc := 29) (tgt := 402) hx hb d_TypeFinderLaw_law_29 (by decide) (fun _ => ?_) (fun h => absurd (by decide) h)
    exact fin _ _ _ _ _ _ (by decide) (by decide) h
  · refine lv_iload (pc := 23) hx hb d_TypeFinderLaw_law_23 (lv_at hl 0 rfl) ?_
    refine lv_aload_n (pc := 25) hx hb d_TypeFinderLaw_law_25 rfl (lv_at hl 4 rfl) ?_
    refine va_slen (pc := 26) hx hb hX hbl hbA h.2.2 d_TypeFinderLaw_law_26 ?_
    refine lv_topi (fun y ey => ?_)
    obtain rfl : y = 3 := ey.trans (by decide)
    refine lv_iconst (pc := 27) (v := 4) hx hb d_TypeFinderLaw_law_27 (by decide) ?_
    refine lv_isub (pc := 28) hx hb d_TypeFinderLaw_law_28 ?_
    refine lv_topi (fun y ey => ?_)
    obtain rfl : y = (-1) := ey.trans (by decide)
    refine lv_icmp_gt (pc := 29) (tgt := 402) hx hb d_TypeFinderLaw_law_29 (by decide) (fun _ => ?_) (fun h => absurd (by decide) h)
    exact fin _ _ _ _ _ _ (by decide) (by decide) h
  · have out : ∀ (ws : va_W) (ls : Array Slot) (H : Heap) (locs : List Loc) (cells slots : Nat), cells ≤ 600002 → slots ≤ 7302232 → xb_W G A s ws H locs → lv_has ls 7 [(4, .int 0), (0, .ref b)] → W p l e room_1 s m #[Value.ref b] below meth c H locs cells slots (lw_Z below #[Value.ref b] s) (F0 m 396 ls []) := by
      intro ws ls H locs cells slots hc hs h hl
      refine lv_iinc (pc := 396) (k := 0) (v := 4) (lv' := [(4, .int 4), (0, .ref b)]) hx hb d_TypeFinderLaw_law_396 hl rfl (by decide) (by decide) rfl (fun ls hl => ?_)
      refine lv_goto (pc := 399) (tgt := 23) hx hb d_TypeFinderLaw_law_399 (by decide) ?_
      refine lv_iload (pc := 23) hx hb d_TypeFinderLaw_law_23 (lv_at hl 0 rfl) ?_
      refine lv_aload_n (pc := 25) hx hb d_TypeFinderLaw_law_25 rfl (lv_at hl 1 rfl) ?_
      refine va_slen (pc := 26) hx hb hX hbl hbA h.2.2 d_TypeFinderLaw_law_26 ?_
      refine lv_topi (fun y ey => ?_)
      obtain rfl : y = 4 := ey.trans (by decide)
      refine lv_iconst (pc := 27) (v := 4) hx hb d_TypeFinderLaw_law_27 (by decide) ?_
      refine lv_isub (pc := 28) hx hb d_TypeFinderLaw_law_28 ?_
      refine lv_topi (fun y ey => ?_)
      obtain rfl : y = 0 := ey.trans (by decide)
      refine lv_icmp_gt (pc := 29) (tgt := 402) hx hb d_TypeFinderLaw_law_29 (by decide) (fun _ => ?_) (fun h => absurd (by decide) h)
      exact fin _ _ _ _ _ _ hc hs h
    refine lv_iload (pc := 23) hx hb d_TypeFinderLaw_law_23 (lv_at hl 0 rfl) ?_
    refine lv_aload_n (pc := 25) hx hb d_TypeFinderLaw_law_25 rfl (lv_at hl 4 rfl) ?_
    refine va_slen (pc := 26) hx hb hX hbl hbA h.2.2 d_TypeFinderLaw_law_26 ?_
    refine lv_topi (fun y ey => ?_)
    obtain rfl : y = 4 := ey.trans (by decide)
    refine lv_iconst (pc := 27) (v := 4) hx hb d_TypeFinderLaw_law_27 (by decide) ?_
    refine lv_isub (pc := 28) hx hb d_TypeFinderLaw_law_28 ?_
    refine lv_topi (fun y ey => ?_)
    obtain rfl : y = 0 := ey.trans (by decide)
    refine lv_icmp_gt (pc := 29) (tgt := 402) hx hb d_TypeFinderLaw_law_29 (by decide) (fun h => absurd h (by decide)) (fun _ => ?_)
    refine lv_aload_n (pc := 32) hx hb d_TypeFinderLaw_law_32 rfl (lv_at hl 4 rfl) ?_
    refine lv_iload (pc := 33) hx hb d_TypeFinderLaw_law_33 (lv_at hl 0 rfl) ?_
    refine va_sld (pc := 35) hx hb hX hbl hbA h.2.2 (by unfold vp_in; decide) d_TypeFinderLaw_law_35 ?_
    refine W.eq (g2 := F0 m 36 ls [.int (xs 0)]) (congrArg (fun z => F0 m 36 ls (.int (xs z) :: [])) xl_0) ?_
    refine lv_bipush (pc := 36) (v := 7) hx hb d_TypeFinderLaw_law_36 (by decide) ?_
    refine lv_iand (pc := 38) hx hb d_TypeFinderLaw_law_38 ?_
    rcases xl_seven (xs 0) with h7 | h7 | h7 | h7 | h7 | h7 | h7 | h7 <;> rw [h7]
    · refine lv_tableIn (pc := 39) (tgt := 84) hx hb d_TypeFinderLaw_law_39 (by decide) (by decide) rfl (by decide) ?_
      exact lw_c0 l hst G q0_1 u4_2 f4_3 f4_4 x4_5 x4_6 u12_8 f12_9 f12_10 q8_7 q17_11 F hX hbl hbA h hl out
    · refine lv_tableIn (pc := 39) (tgt := 141) hx hb d_TypeFinderLaw_law_39 (by decide) (by decide) rfl (by decide) ?_
      exact lw_c1 l hst G q0_1 u4_2 f4_3 f4_4 x4_5 x4_6 u12_8 f12_9 f12_10 q8_7 q17_11 F hX hbl hbA h hl out
    · refine lv_tableIn (pc := 39) (tgt := 185) hx hb d_TypeFinderLaw_law_39 (by decide) (by decide) rfl (by decide) ?_
      exact lw_c2 l hst G q0_1 u4_2 f4_3 f4_4 x4_5 x4_6 u12_8 f12_9 f12_10 q8_7 q17_11 F hX hbl hbA h hl out
    · refine lv_tableIn (pc := 39) (tgt := 229) hx hb d_TypeFinderLaw_law_39 (by decide) (by decide) rfl (by decide) ?_
      exact lw_c3 l hst G q0_1 u4_2 f4_3 f4_4 x4_5 x4_6 u12_8 f12_9 f12_10 q8_7 q17_11 F hX hbl hbA h hl out
    · refine lv_tableIn (pc := 39) (tgt := 254) hx hb d_TypeFinderLaw_law_39 (by decide) (by decide) rfl (by decide) ?_
      exact lw_c4 l hst G q0_1 u4_2 f4_3 f4_4 x4_5 x4_6 u12_8 f12_9 f12_10 q8_7 q17_11 F hX hbl hbA h hl out
    · refine lv_tableIn (pc := 39) (tgt := 279) hx hb d_TypeFinderLaw_law_39 (by decide) (by decide) rfl (by decide) ?_
      exact lw_c5 l hst G q0_1 u4_2 f4_3 f4_4 x4_5 x4_6 u12_8 f12_9 f12_10 q8_7 q17_11 F hX hbl hbA h hl out
    · refine lv_tableIn (pc := 39) (tgt := 346) hx hb d_TypeFinderLaw_law_39 (by decide) (by decide) rfl (by decide) ?_
      exact lw_c6 l hst G q0_1 u4_2 f4_3 f4_4 x4_5 x4_6 u12_8 f12_9 f12_10 q8_7 q17_11 F hX hbl hbA h hl out
    · refine lv_tableIn (pc := 39) (tgt := 371) hx hb d_TypeFinderLaw_law_39 (by decide) (by decide) rfl (by decide) ?_
      exact lw_c7 l hst G q0_1 u4_2 f4_3 f4_4 x4_5 x4_6 u12_8 f12_9 f12_10 q8_7 q17_11 F hX hbl hbA h hl out
