abbrev rm_LAW_declare : Room := { frames := 12, cells := 1, slots := 6, locals := 245 }
set_option maxHeartbeats 4000000 in
set_option maxRecDepth 100000 in
theorem ct_LAW_declare (l : Launch) (hst : ∀ e : Env, l.admits e → e.platform.stackTraces = false) (G : xb_EV) (h0 : Nat) (c0 : Nat) (p0 : Nat) (k0 : Nat) (r1 : Nat) (r2 : Nat) (r3 : Nat) (pd : Value) (pl : Value) (pr : Value) (t2 : Value) (t3 : Value) (t4 : Value) (t7 : Value) (t8 : Value) (o0 : Nat) : xb_CTW l y_TypeFinderLaw_declare b_TypeFinderLaw_declare 3 (some .int) [(0, 8, 11, 13), (0, 8, 14, 15), (0, 8, 17, 17), (0, 8, 20, 19)] rm_LAW_declare G [.ref h0, .ref o0] [(h0, .inr (0, [.ref c0, .ref p0, t2, t3, t4, .int 0, .int 0, t7, t8])), (p0, .inr (1, [.ref k0, pd, pl, pr])), (k0, .inr (2, [.ref r1, .ref r2, .ref r3, .int 0, .int 0])), (r1, .inl (G.2.1 0, 81, .inl (fun _ => 0))), (r2, .inl (G.2.1 1, 81, .inr (.inl (fun _ => 0))))] (S := Unit) (fun _ => some (.int 1)) (fun _ => True) (fun _ => []) := by
  refine xb_CTW.of (by decide) "TypeFinderLaw" rfl ?_ (Nat.le_of_ble_eq_true rfl)
  intro p e s m args below meth c A ls Q htab F hr hlk hnm h hl hA hQ
  have hx := F.1.1
  have hb := F.1.2.1
  have hml := F.1.2.2.1
  have hown := F.1.2.2.2.1
  have hts := F.1.2.2.2.2
  have hK := F.2.1
  refine lv_aload_n (pc := 0) hx hb d_TypeFinderLaw_declare_0 rfl (lv_at hl 1 rfl) ?_
  refine lv_iconst (pc := 1) (v := 0) hx hb d_TypeFinderLaw_declare_1 (by decide) ?_
  refine lv_aload_n (pc := 2) hx hb d_TypeFinderLaw_declare_2 rfl (lv_at hl 0 rfl) ?_
  refine xb_throwVC (pc := 3) (rm := rm_declare) (wr := []) (rest := [.int 0, .ref o0]) F h htab (by decide) (by decide) k_700 (ct_declare l hst G h0 c0 p0 k0 r1 r2 r3 pd pl pr t2 t3 t4 t7 t8) 0 (va_recv hK h.1 (q0 := 0) (ci := 0) rfl rfl) k_696 k_348 k_697 k_698 k_699 hd_TypeFinder_declare (by decide) [0, 1, 2, 3, 4] [] rfl rfl (by decide) (by decide) (by decide) xb_ss0 hl.1 rfl rfl (Nat.le_of_ble_eq_true rfl) (by decide) d_TypeFinderLaw_declare_3 (fun x H locs h => ?_)
  refine W.widen (k := 1) (n := 6) (by decide) (by decide) ?_
  refine lv_astore_n (pc := 11) (lv' := [(2, .ref x), (0, .ref h0), (1, .ref o0)]) hx hb d_TypeFinderLaw_declare_11 rfl hl (by decide) rfl (fun ls hl => ?_)
  refine lv_iconst (pc := 12) (v := 1) hx hb d_TypeFinderLaw_declare_12 (by decide) ?_
  exact xb_iret (pc := 13) (rm := rm_LAW_declare) F hr hlk hA hQ h () trivial rfl [] (by decide) rfl (by decide) (by decide) d_TypeFinderLaw_declare_13
abbrev rm_LAW_ask : Room := { frames := 15, cells := 1, slots := 6, locals := 312 }
set_option maxHeartbeats 4000000 in
set_option maxRecDepth 100000 in
theorem ct_LAW_ask (l : Launch) (hst : ∀ e : Env, l.admits e → e.platform.stackTraces = false) (G : xb_EV) (h0 : Nat) (c0 : Nat) (p0 : Nat) (k0 : Nat) (r1 : Nat) (r2 : Nat) (r3 : Nat) (pd : Value) (pl : Value) (pr : Value) (t2 : Value) (t3 : Value) (t4 : Value) (t7 : Value) (t8 : Value) (o0 : Nat) : xb_CTW l y_TypeFinderLaw_ask b_TypeFinderLaw_ask 3 (some .int) [(0, 8, 11, 13), (0, 8, 14, 15), (0, 8, 17, 17)] rm_LAW_ask G [.ref h0, .ref o0] [(h0, .inr (0, [.ref c0, .ref p0, t2, t3, t4, .int 0, .int 0, t7, t8])), (p0, .inr (1, [.ref k0, pd, pl, pr])), (k0, .inr (2, [.ref r1, .ref r2, .ref r3, .int 0, .int 0])), (r1, .inl (G.2.1 0, 81, .inl (fun _ => 0))), (r2, .inl (G.2.1 1, 81, .inr (.inl (fun _ => 0))))] (S := Unit) (fun _ => some (.int 1)) (fun _ => True) (fun _ => []) := by
  refine xb_CTW.of (by decide) "TypeFinderLaw" rfl ?_ (Nat.le_of_ble_eq_true rfl)
  intro p e s m args below meth c A ls Q htab F hr hlk hnm h hl hA hQ
  have hx := F.1.1
  have hb := F.1.2.1
  have hml := F.1.2.2.1
  have hown := F.1.2.2.2.1
  have hts := F.1.2.2.2.2
  have hK := F.2.1
  refine lv_aload_n (pc := 0) hx hb d_TypeFinderLaw_ask_0 rfl (lv_at hl 1 rfl) ?_
  refine lv_iconst (pc := 1) (v := 0) hx hb d_TypeFinderLaw_ask_1 (by decide) ?_
  refine lv_aload_n (pc := 2) hx hb d_TypeFinderLaw_ask_2 rfl (lv_at hl 0 rfl) ?_
  refine xb_throwVC (pc := 3) (rm := rm_ask) (wr := []) (rest := [.int 0, .ref o0]) F h htab (by decide) (by decide) k_700 (ct_ask l hst G h0 c0 p0 k0 r1 r2 r3 pd pl pr t2 t3 t4 t7 t8) 0 (va_recv hK h.1 (q0 := 0) (ci := 0) rfl rfl) k_704 k_348 k_705 k_706 k_707 hd_TypeFinder_ask (by decide) [0, 1, 2, 3, 4] [] rfl rfl (by decide) (by decide) (by decide) xb_ss0 hl.1 rfl rfl (Nat.le_of_ble_eq_true rfl) (by decide) d_TypeFinderLaw_ask_3 (fun x H locs h => ?_)
  refine W.widen (k := 1) (n := 6) (by decide) (by decide) ?_
  refine lv_astore_n (pc := 11) (lv' := [(2, .ref x), (0, .ref h0), (1, .ref o0)]) hx hb d_TypeFinderLaw_ask_11 rfl hl (by decide) rfl (fun ls hl => ?_)
  refine lv_iconst (pc := 12) (v := 1) hx hb d_TypeFinderLaw_ask_12 (by decide) ?_
  exact xb_iret (pc := 13) (rm := rm_LAW_ask) F hr hlk hA hQ h () trivial rfl [] (by decide) rfl (by decide) (by decide) d_TypeFinderLaw_ask_13
