abbrev rm_takeDraft : Room := { frames := 0, cells := 0, slots := 0, locals := 30 }
set_option maxHeartbeats 4000000 in
set_option maxRecDepth 100000 in
theorem ct_takeDraft (l : Launch) (G : xb_EV) (h0 : Nat) (t0 : Value) (t1 : Value) (t2 : Value) (t3 : Value) (t4 : Value) (t7 : Value) (t8 : Value) : xb_CT l y_TypeFinder_takeDraft b_TypeFinder_takeDraft 2 (some .int) rm_takeDraft G [] [.ref h0] [(h0, .inr (0, [t0, t1, t2, t3, t4, .int 0, .int 0, t7, t8]))] (S := Unit) (fun _ => some (.int 0)) (fun _ => True) (fun _ => [(h0, .inr (0, [t0, t1, t2, t3, t4, .int 0, .int 1, t7, t8]))]) := by
  refine xb_CT.of (by decide) "TypeFinder" rfl ?_ (Nat.le_of_ble_eq_true rfl)
  intro p e s m args below meth c A ls Q F hr hlk hnm h hl hA hQ
  have hx := F.1.1
  have hb := F.1.2.1
  have hml := F.1.2.2.1
  have hown := F.1.2.2.2.1
  have hts := F.1.2.2.2.2
  have hK := F.2.1
  refine lv_aload_n (pc := 0) hx hb d_TypeFinder_takeDraft_0 rfl (lv_at hl 0 rfl) ?_
  refine xb_get (pc := 1) F h cf_0 0 rfl 5 (by decide) rfl k_294 (Or.inl rfl) rfl d_TypeFinder_takeDraft_1 ?_
  refine lv_istore_n (pc := 4) (lv' := [(1, .int 0), (0, .ref h0)]) hx hb d_TypeFinder_takeDraft_4 rfl hl (by decide) rfl (fun ls hl => ?_)
  refine lv_aload_n (pc := 5) hx hb d_TypeFinder_takeDraft_5 rfl (lv_at hl 1 rfl) ?_
  refine lv_iconst (pc := 6) (v := 0) hx hb d_TypeFinder_takeDraft_6 (by decide) ?_
  refine xb_put (pc := 7) (t0 := .int) (ws' := [(h0, .inr (0, [t0, t1, t2, t3, t4, .int 0, .int 0, t7, t8]))]) F h cf_0 0 rfl 5 (by decide) rfl k_294 (Or.inl rfl) (by decide +kernel) rfl rfl (Nat.le_of_ble_eq_true rfl) rfl d_TypeFinder_takeDraft_7 (fun H locs h => ?_)
  refine lv_aload_n (pc := 10) hx hb d_TypeFinder_takeDraft_10 rfl (lv_at hl 1 rfl) ?_
  refine lv_dup (pc := 11) hx hb d_TypeFinder_takeDraft_11 rfl ?_
  refine xb_get (pc := 12) F h cf_0 0 rfl 6 (by decide) rfl k_295 (Or.inl rfl) rfl d_TypeFinder_takeDraft_12 ?_
  refine lv_iconst (pc := 15) (v := 1) hx hb d_TypeFinder_takeDraft_15 (by decide) ?_
  refine lv_iadd (pc := 16) hx hb d_TypeFinder_takeDraft_16 ?_
  refine lv_topi (fun y ey => ?_)
  obtain rfl : y = 1 := ey.trans (by decide)
  refine xb_put (pc := 17) (t0 := .int) (ws' := [(h0, .inr (0, [t0, t1, t2, t3, t4, .int 0, .int 1, t7, t8]))]) F h cf_0 0 rfl 6 (by decide) rfl k_295 (Or.inl rfl) (by decide +kernel) rfl rfl (Nat.le_of_ble_eq_true rfl) rfl d_TypeFinder_takeDraft_17 (fun H locs h => ?_)
  refine lv_iload_n (pc := 20) hx hb d_TypeFinder_takeDraft_20 rfl (lv_at hl 0 rfl) ?_
  exact xb_iret (pc := 21) (rm := rm_takeDraft) F hr hlk hA hQ h () trivial rfl [0] (by decide) rfl (by decide) (by decide) d_TypeFinder_takeDraft_21
abbrev rm_put : Room := { frames := 0, cells := 0, slots := 0, locals := 30 }
set_option maxHeartbeats 4000000 in
set_option maxRecDepth 100000 in
theorem ct_put (l : Launch) (G : xb_EV) (k0 : Nat) (r1 : Nat) (r2 : Nat) (r3 : Nat) : xb_CT l y_TypeFinder_Tokens_put b_TypeFinder_Tokens_put 4 none rm_put G [] [.ref k0, .int 0, .long 0] [(k0, .inr (2, [.ref r1, .ref r2, .ref r3, .int 0, .int 0])), (r1, .inl (G.2.1 0, 81, .inl (fun _ => 0))), (r2, .inl (G.2.1 1, 81, .inr (.inl (fun _ => 0))))] (S := Unit) (fun _ => none) (fun _ => True) (fun _ => [(k0, .inr (2, [.ref r1, .ref r2, .ref r3, .int 1, .int 0])), (r1, .inl (G.2.1 0, 81, .inl (upd (fun _ => 0) (Int32.toNatClampNeg 0) 0))), (r2, .inl (G.2.1 1, 81, .inr (.inl (vp_updL (fun _ => 0) (Int32.toNatClampNeg 0) 0))))]) := by
  refine xb_CT.of (by decide) "TypeFinder$Tokens" rfl ?_ (Nat.le_of_ble_eq_true rfl)
  intro p e s m args below meth c A ls Q F hr hlk hnm h hl hA hQ
  have hx := F.1.1
  have hb := F.1.2.1
  have hml := F.1.2.2.1
  have hown := F.1.2.2.2.1
  have hts := F.1.2.2.2.2
  have hK := F.2.1
  refine lv_aload_n (pc := 0) hx hb d_TypeFinder_Tokens_put_0 rfl (lv_at hl 0 rfl) ?_
  refine xb_get (pc := 1) F h cf_2 0 rfl 3 (by decide) rfl k_296 (Or.inl rfl) rfl d_TypeFinder_Tokens_put_1 ?_
  refine lv_aload_n (pc := 4) hx hb d_TypeFinder_Tokens_put_4 rfl (lv_at hl 0 rfl) ?_
  refine xb_get (pc := 5) F h cf_2 0 rfl 0 (by decide) rfl k_297 (Or.inl rfl) rfl d_TypeFinder_Tokens_put_5 ?_
  refine va_alen (pc := 8) (v := 81) hx hb hK h.1 1 0 rfl rfl (by first | rfl | decide) d_TypeFinder_Tokens_put_8 ?_
  refine lv_icmp_lt (pc := 9) (tgt := 20) hx hb d_TypeFinder_Tokens_put_9 (by decide) (fun _ => ?_) (fun h => absurd (by decide) h)
  refine lv_aload_n (pc := 20) hx hb d_TypeFinder_Tokens_put_20 rfl (lv_at hl 0 rfl) ?_
  refine xb_get (pc := 21) F h cf_2 0 rfl 0 (by decide) rfl k_297 (Or.inl rfl) rfl d_TypeFinder_Tokens_put_21 ?_
  refine lv_aload_n (pc := 24) hx hb d_TypeFinder_Tokens_put_24 rfl (lv_at hl 0 rfl) ?_
  refine xb_get (pc := 25) F h cf_2 0 rfl 3 (by decide) rfl k_296 (Or.inl rfl) rfl d_TypeFinder_Tokens_put_25 ?_
  refine lv_iload_n (pc := 28) hx hb d_TypeFinder_Tokens_put_28 rfl (lv_at hl 1 rfl) ?_
  refine xb_iast (pc := 29) (ws' := [(k0, .inr (2, [.ref r1, .ref r2, .ref r3, .int 0, .int 0])), (r1, .inl (G.2.1 0, 81, .inl (upd (fun _ => 0) (Int32.toNatClampNeg 0) 0))), (r2, .inl (G.2.1 1, 81, .inr (.inl (fun _ => 0))))]) F h 1 0 rfl rfl (by unfold vp_in; decide) rfl d_TypeFinder_Tokens_put_29 (fun H locs h => ?_)
  refine lv_aload_n (pc := 30) hx hb d_TypeFinder_Tokens_put_30 rfl (lv_at hl 0 rfl) ?_
  refine xb_get (pc := 31) F h cf_2 0 rfl 1 (by decide) rfl k_298 (Or.inl rfl) rfl d_TypeFinder_Tokens_put_31 ?_
  refine lv_aload_n (pc := 34) hx hb d_TypeFinder_Tokens_put_34 rfl (lv_at hl 0 rfl) ?_
  refine xb_get (pc := 35) F h cf_2 0 rfl 3 (by decide) rfl k_296 (Or.inl rfl) rfl d_TypeFinder_Tokens_put_35 ?_
  refine lv_lload_n (pc := 38) hx hb d_TypeFinder_Tokens_put_38 rfl (lv_at hl 2 rfl) ?_
  refine xb_last (pc := 39) (ws' := [(k0, .inr (2, [.ref r1, .ref r2, .ref r3, .int 0, .int 0])), (r1, .inl (G.2.1 0, 81, .inl (upd (fun _ => 0) (Int32.toNatClampNeg 0) 0))), (r2, .inl (G.2.1 1, 81, .inr (.inl (vp_updL (fun _ => 0) (Int32.toNatClampNeg 0) 0))))]) F h 2 1 rfl rfl (by unfold vp_in; decide) rfl d_TypeFinder_Tokens_put_39 (fun H locs h => ?_)
  refine lv_aload_n (pc := 40) hx hb d_TypeFinder_Tokens_put_40 rfl (lv_at hl 0 rfl) ?_
  refine lv_dup (pc := 41) hx hb d_TypeFinder_Tokens_put_41 rfl ?_
  refine xb_get (pc := 42) F h cf_2 0 rfl 3 (by decide) rfl k_296 (Or.inl rfl) rfl d_TypeFinder_Tokens_put_42 ?_
  refine lv_iconst (pc := 45) (v := 1) hx hb d_TypeFinder_Tokens_put_45 (by decide) ?_
  refine lv_iadd (pc := 46) hx hb d_TypeFinder_Tokens_put_46 ?_
  refine lv_topi (fun y ey => ?_)
  obtain rfl : y = 1 := ey.trans (by decide)
  refine xb_put (pc := 47) (t0 := .int) (ws' := [(k0, .inr (2, [.ref r1, .ref r2, .ref r3, .int 1, .int 0])), (r1, .inl (G.2.1 0, 81, .inl (upd (fun _ => 0) (Int32.toNatClampNeg 0) 0))), (r2, .inl (G.2.1 1, 81, .inr (.inl (vp_updL (fun _ => 0) (Int32.toNatClampNeg 0) 0))))]) F h cf_2 0 rfl 3 (by decide) rfl k_296 (Or.inl rfl) (by decide +kernel) rfl rfl (Nat.le_of_ble_eq_true rfl) rfl d_TypeFinder_Tokens_put_47 (fun H locs h => ?_)
  exact xb_vret (pc := 50) (rm := rm_put) F hr hlk hA hQ h () trivial rfl [0, 1, 2] (by decide) rfl (by decide) (by decide) d_TypeFinder_Tokens_put_50
abbrev rm_read : Room := { frames := 1, cells := 0, slots := 0, locals := 53 }
set_option maxHeartbeats 4000000 in
set_option maxRecDepth 100000 in
theorem ct_read (l : Launch) (G : xb_EV) (k0 : Nat) (r1 : Nat) (r2 : Nat) (r3 : Nat) (c0 : Nat) : xb_CT l y_TypeFinder_Tokens_read b_TypeFinder_Tokens_read 7 none rm_read G [] [.ref k0, .ref c0, .int 0] [(k0, .inr (2, [.ref r1, .ref r2, .ref r3, .int 0, .int 0])), (r1, .inl (G.2.1 0, 81, .inl (fun _ => 0))), (r2, .inl (G.2.1 1, 81, .inr (.inl (fun _ => 0))))] (S := Unit) (fun _ => none) (fun _ => True) (fun _ => [(k0, .inr (2, [.ref r1, .ref r2, .ref r3, .int 1, .int 0])), (r1, .inl (G.2.1 0, 81, .inl (upd (fun _ => 0) (Int32.toNatClampNeg 0) 0))), (r2, .inl (G.2.1 1, 81, .inr (.inl (vp_updL (fun _ => 0) (Int32.toNatClampNeg 0) 0))))]) := by
  refine xb_CT.of (by decide) "TypeFinder$Tokens" rfl ?_ (Nat.le_of_ble_eq_true rfl)
  intro p e s m args below meth c A ls Q F hr hlk hnm h hl hA hQ
  have hx := F.1.1
  have hb := F.1.2.1
  have hml := F.1.2.2.1
  have hown := F.1.2.2.2.1
  have hts := F.1.2.2.2.2
  have hK := F.2.1
  refine lv_aload_n (pc := 0) hx hb d_TypeFinder_Tokens_read_0 rfl (lv_at hl 0 rfl) ?_
  refine lv_iconst (pc := 1) (v := 0) hx hb d_TypeFinder_Tokens_read_1 (by decide) ?_
  refine xb_put (pc := 2) (t0 := .int) (ws' := [(k0, .inr (2, [.ref r1, .ref r2, .ref r3, .int 0, .int 0])), (r1, .inl (G.2.1 0, 81, .inl (fun _ => 0))), (r2, .inl (G.2.1 1, 81, .inr (.inl (fun _ => 0))))]) F h cf_2 0 rfl 3 (by decide) rfl k_296 (Or.inl rfl) (by decide +kernel) rfl rfl (Nat.le_of_ble_eq_true rfl) rfl d_TypeFinder_Tokens_read_2 (fun H locs h => ?_)
  refine lv_aload_n (pc := 5) hx hb d_TypeFinder_Tokens_read_5 rfl (lv_at hl 0 rfl) ?_
  refine lv_iconst (pc := 6) (v := 0) hx hb d_TypeFinder_Tokens_read_6 (by decide) ?_
  refine xb_put (pc := 7) (t0 := .int) (ws' := [(k0, .inr (2, [.ref r1, .ref r2, .ref r3, .int 0, .int 0])), (r1, .inl (G.2.1 0, 81, .inl (fun _ => 0))), (r2, .inl (G.2.1 1, 81, .inr (.inl (fun _ => 0))))]) F h cf_2 0 rfl 4 (by decide) rfl k_299 (Or.inl rfl) (by decide +kernel) rfl rfl (Nat.le_of_ble_eq_true rfl) rfl d_TypeFinder_Tokens_read_7 (fun H locs h => ?_)
  refine lv_iconst (pc := 10) (v := 0) hx hb d_TypeFinder_Tokens_read_10 (by decide) ?_
  refine lv_istore_n (pc := 11) (lv' := [(3, .int 0), (0, .ref k0), (1, .ref c0), (2, .int 0)]) hx hb d_TypeFinder_Tokens_read_11 rfl hl (by decide) rfl (fun ls hl => ?_)
  refine lv_iconst (pc := 12) (v := 0) hx hb d_TypeFinder_Tokens_read_12 (by decide) ?_
  refine lv_istore (pc := 13) (lv' := [(4, .int 0), (3, .int 0), (0, .ref k0), (1, .ref c0), (2, .int 0)]) hx hb d_TypeFinder_Tokens_read_13 hl (by decide) rfl (fun ls hl => ?_)
  refine lv_iload (pc := 15) hx hb d_TypeFinder_Tokens_read_15 (lv_at hl 0 rfl) ?_
  refine lv_iload_n (pc := 17) hx hb d_TypeFinder_Tokens_read_17 rfl (lv_at hl 4 rfl) ?_
  refine lv_icmp_ge (pc := 18) (tgt := 133) hx hb d_TypeFinder_Tokens_read_18 (by decide) (fun _ => ?_) (fun h => absurd (by decide) h)
  refine lv_aload_n (pc := 133) hx hb d_TypeFinder_Tokens_read_133 rfl (lv_at hl 2 rfl) ?_
  refine lv_iconst (pc := 134) (v := 0) hx hb d_TypeFinder_Tokens_read_134 (by decide) ?_
  refine lv_lconst (pc := 135) (v := 0) hx hb d_TypeFinder_Tokens_read_135 (by decide) ?_
  refine xb_callV (pc := 136) (rm := rm_put) (wr := []) F h (ct_put l G k0 r1 r2 r3) 2 (va_recv hK h.1 (q0 := 0) (ci := 2) rfl rfl) k_300 k_143 k_301 k_302 k_303 hd_TypeFinder_Tokens_put (by decide) [0, 1, 2] [] rfl rfl (by decide) (by decide) (by decide) xb_ss0 hl.1 rfl rfl (Nat.le_of_ble_eq_true rfl) (by decide) d_TypeFinder_Tokens_read_136 (fun u H locs hu h => ?_)
  have h : xb_W G A s [(k0, .inr (2, [.ref r1, .ref r2, .ref r3, .int 1, .int 0])), (r1, .inl (G.2.1 0, 81, .inl (upd (fun _ => 0) (Int32.toNatClampNeg 0) 0))), (r2, .inl (G.2.1 1, 81, .inr (.inl (vp_updL (fun _ => 0) (Int32.toNatClampNeg 0) 0))))] _ _ := h
  refine W.widen (k := 0) (n := 0) (by decide) (by decide) ?_
  refine W.eq (g2 := F0 m 139 ls []) rfl ?_
  exact xb_vret (pc := 139) (rm := rm_read) F hr hlk hA hQ h () trivial rfl [0, 1, 2] (by decide) rfl (by decide) (by decide) d_TypeFinder_Tokens_read_139
abbrev rm_accept_20 : Room := { frames := 0, cells := 0, slots := 0, locals := 30 }
set_option maxHeartbeats 4000000 in
set_option maxRecDepth 100000 in
theorem ct_accept_20 (l : Launch) (G : xb_EV) (k0 : Nat) (r1 : Nat) (r2 : Nat) (r3 : Nat) : xb_CT l y_TypeFinder_Tokens_accept b_TypeFinder_Tokens_accept 2 (some .boolean) rm_accept_20 G [] [.ref k0, .int 20] [(k0, .inr (2, [.ref r1, .ref r2, .ref r3, .int 1, .int 0])), (r1, .inl (G.2.1 0, 81, .inl (upd (fun _ => 0) (Int32.toNatClampNeg 0) 0)))] (S := Unit) (fun _ => some (.int 0)) (fun _ => True) (fun _ => [(k0, .inr (2, [.ref r1, .ref r2, .ref r3, .int 1, .int 0])), (r1, .inl (G.2.1 0, 81, .inl (upd (fun _ => 0) (Int32.toNatClampNeg 0) 0)))]) := by
  refine xb_CT.of (by decide) "TypeFinder$Tokens" rfl ?_ (Nat.le_of_ble_eq_true rfl)
  intro p e s m args below meth c A ls Q F hr hlk hnm h hl hA hQ
  have hx := F.1.1
  have hb := F.1.2.1
  have hml := F.1.2.2.1
  have hown := F.1.2.2.2.1
  have hts := F.1.2.2.2.2
  have hK := F.2.1
  refine lv_aload_n (pc := 0) hx hb d_TypeFinder_Tokens_accept_0 rfl (lv_at hl 0 rfl) ?_
  refine xb_get (pc := 1) F h cf_2 0 rfl 0 (by decide) rfl k_297 (Or.inl rfl) rfl d_TypeFinder_Tokens_accept_1 ?_
  refine lv_aload_n (pc := 4) hx hb d_TypeFinder_Tokens_accept_4 rfl (lv_at hl 0 rfl) ?_
  refine xb_get (pc := 5) F h cf_2 0 rfl 4 (by decide) rfl k_299 (Or.inl rfl) rfl d_TypeFinder_Tokens_accept_5 ?_
  refine va_iald (pc := 8) hx hb hK h.1 1 0 rfl rfl (by unfold vp_in; decide) d_TypeFinder_Tokens_accept_8 ?_
  refine lv_topi (fun y ey => ?_)
  obtain rfl : y = 0 := ey.trans (by decide)
  refine lv_iload_n (pc := 9) hx hb d_TypeFinder_Tokens_accept_9 rfl (lv_at hl 1 rfl) ?_
  refine lv_icmp_eq (pc := 10) (tgt := 15) hx hb d_TypeFinder_Tokens_accept_10 (by decide) (fun h => absurd h (by decide)) (fun _ => ?_)
  refine lv_iconst (pc := 13) (v := 0) hx hb d_TypeFinder_Tokens_accept_13 (by decide) ?_
  exact xb_zret (pc := 14) (rm := rm_accept_20) F hr hlk (by decide) hA hQ h () trivial rfl [0, 1] (by decide) rfl (by decide) (by decide) d_TypeFinder_Tokens_accept_14
abbrev rm_accept_12 : Room := { frames := 0, cells := 0, slots := 0, locals := 30 }
set_option maxHeartbeats 4000000 in
set_option maxRecDepth 100000 in
theorem ct_accept_12 (l : Launch) (G : xb_EV) (k0 : Nat) (r1 : Nat) (r2 : Nat) (r3 : Nat) : xb_CT l y_TypeFinder_Tokens_accept b_TypeFinder_Tokens_accept 2 (some .boolean) rm_accept_12 G [] [.ref k0, .int 12] [(k0, .inr (2, [.ref r1, .ref r2, .ref r3, .int 1, .int 0])), (r1, .inl (G.2.1 0, 81, .inl (upd (fun _ => 0) (Int32.toNatClampNeg 0) 0)))] (S := Unit) (fun _ => some (.int 0)) (fun _ => True) (fun _ => [(k0, .inr (2, [.ref r1, .ref r2, .ref r3, .int 1, .int 0])), (r1, .inl (G.2.1 0, 81, .inl (upd (fun _ => 0) (Int32.toNatClampNeg 0) 0)))]) := by
  refine xb_CT.of (by decide) "TypeFinder$Tokens" rfl ?_ (Nat.le_of_ble_eq_true rfl)
  intro p e s m args below meth c A ls Q F hr hlk hnm h hl hA hQ
  have hx := F.1.1
  have hb := F.1.2.1
  have hml := F.1.2.2.1
  have hown := F.1.2.2.2.1
  have hts := F.1.2.2.2.2
  have hK := F.2.1
  refine lv_aload_n (pc := 0) hx hb d_TypeFinder_Tokens_accept_0 rfl (lv_at hl 0 rfl) ?_
  refine xb_get (pc := 1) F h cf_2 0 rfl 0 (by decide) rfl k_297 (Or.inl rfl) rfl d_TypeFinder_Tokens_accept_1 ?_
  refine lv_aload_n (pc := 4) hx hb d_TypeFinder_Tokens_accept_4 rfl (lv_at hl 0 rfl) ?_
  refine xb_get (pc := 5) F h cf_2 0 rfl 4 (by decide) rfl k_299 (Or.inl rfl) rfl d_TypeFinder_Tokens_accept_5 ?_
  refine va_iald (pc := 8) hx hb hK h.1 1 0 rfl rfl (by unfold vp_in; decide) d_TypeFinder_Tokens_accept_8 ?_
  refine lv_topi (fun y ey => ?_)
  obtain rfl : y = 0 := ey.trans (by decide)
  refine lv_iload_n (pc := 9) hx hb d_TypeFinder_Tokens_accept_9 rfl (lv_at hl 1 rfl) ?_
  refine lv_icmp_eq (pc := 10) (tgt := 15) hx hb d_TypeFinder_Tokens_accept_10 (by decide) (fun h => absurd h (by decide)) (fun _ => ?_)
  refine lv_iconst (pc := 13) (v := 0) hx hb d_TypeFinder_Tokens_accept_13 (by decide) ?_
  exact xb_zret (pc := 14) (rm := rm_accept_12) F hr hlk (by decide) hA hQ h () trivial rfl [0, 1] (by decide) rfl (by decide) (by decide) d_TypeFinder_Tokens_accept_14
abbrev rm_accept_13 : Room := { frames := 0, cells := 0, slots := 0, locals := 30 }
set_option maxHeartbeats 4000000 in
set_option maxRecDepth 100000 in
theorem ct_accept_13 (l : Launch) (G : xb_EV) (k0 : Nat) (r1 : Nat) (r2 : Nat) (r3 : Nat) : xb_CT l y_TypeFinder_Tokens_accept b_TypeFinder_Tokens_accept 2 (some .boolean) rm_accept_13 G [] [.ref k0, .int 13] [(k0, .inr (2, [.ref r1, .ref r2, .ref r3, .int 1, .int 0])), (r1, .inl (G.2.1 0, 81, .inl (upd (fun _ => 0) (Int32.toNatClampNeg 0) 0)))] (S := Unit) (fun _ => some (.int 0)) (fun _ => True) (fun _ => [(k0, .inr (2, [.ref r1, .ref r2, .ref r3, .int 1, .int 0])), (r1, .inl (G.2.1 0, 81, .inl (upd (fun _ => 0) (Int32.toNatClampNeg 0) 0)))]) := by
  refine xb_CT.of (by decide) "TypeFinder$Tokens" rfl ?_ (Nat.le_of_ble_eq_true rfl)
  intro p e s m args below meth c A ls Q F hr hlk hnm h hl hA hQ
  have hx := F.1.1
  have hb := F.1.2.1
  have hml := F.1.2.2.1
  have hown := F.1.2.2.2.1
  have hts := F.1.2.2.2.2
  have hK := F.2.1
  refine lv_aload_n (pc := 0) hx hb d_TypeFinder_Tokens_accept_0 rfl (lv_at hl 0 rfl) ?_
  refine xb_get (pc := 1) F h cf_2 0 rfl 0 (by decide) rfl k_297 (Or.inl rfl) rfl d_TypeFinder_Tokens_accept_1 ?_
  refine lv_aload_n (pc := 4) hx hb d_TypeFinder_Tokens_accept_4 rfl (lv_at hl 0 rfl) ?_
  refine xb_get (pc := 5) F h cf_2 0 rfl 4 (by decide) rfl k_299 (Or.inl rfl) rfl d_TypeFinder_Tokens_accept_5 ?_
  refine va_iald (pc := 8) hx hb hK h.1 1 0 rfl rfl (by unfold vp_in; decide) d_TypeFinder_Tokens_accept_8 ?_
  refine lv_topi (fun y ey => ?_)
  obtain rfl : y = 0 := ey.trans (by decide)
  refine lv_iload_n (pc := 9) hx hb d_TypeFinder_Tokens_accept_9 rfl (lv_at hl 1 rfl) ?_
  refine lv_icmp_eq (pc := 10) (tgt := 15) hx hb d_TypeFinder_Tokens_accept_10 (by decide) (fun h => absurd h (by decide)) (fun _ => ?_)
  refine lv_iconst (pc := 13) (v := 0) hx hb d_TypeFinder_Tokens_accept_13 (by decide) ?_
  exact xb_zret (pc := 14) (rm := rm_accept_13) F hr hlk (by decide) hA hQ h () trivial rfl [0, 1] (by decide) rfl (by decide) (by decide) d_TypeFinder_Tokens_accept_14
abbrev rm_accept_15 : Room := { frames := 0, cells := 0, slots := 0, locals := 30 }
set_option maxHeartbeats 4000000 in
set_option maxRecDepth 100000 in
theorem ct_accept_15 (l : Launch) (G : xb_EV) (k0 : Nat) (r1 : Nat) (r2 : Nat) (r3 : Nat) : xb_CT l y_TypeFinder_Tokens_accept b_TypeFinder_Tokens_accept 2 (some .boolean) rm_accept_15 G [] [.ref k0, .int 15] [(k0, .inr (2, [.ref r1, .ref r2, .ref r3, .int 1, .int 0])), (r1, .inl (G.2.1 0, 81, .inl (upd (fun _ => 0) (Int32.toNatClampNeg 0) 0)))] (S := Unit) (fun _ => some (.int 0)) (fun _ => True) (fun _ => [(k0, .inr (2, [.ref r1, .ref r2, .ref r3, .int 1, .int 0])), (r1, .inl (G.2.1 0, 81, .inl (upd (fun _ => 0) (Int32.toNatClampNeg 0) 0)))]) := by
  refine xb_CT.of (by decide) "TypeFinder$Tokens" rfl ?_ (Nat.le_of_ble_eq_true rfl)
  intro p e s m args below meth c A ls Q F hr hlk hnm h hl hA hQ
  have hx := F.1.1
  have hb := F.1.2.1
  have hml := F.1.2.2.1
  have hown := F.1.2.2.2.1
  have hts := F.1.2.2.2.2
  have hK := F.2.1
  refine lv_aload_n (pc := 0) hx hb d_TypeFinder_Tokens_accept_0 rfl (lv_at hl 0 rfl) ?_
  refine xb_get (pc := 1) F h cf_2 0 rfl 0 (by decide) rfl k_297 (Or.inl rfl) rfl d_TypeFinder_Tokens_accept_1 ?_
  refine lv_aload_n (pc := 4) hx hb d_TypeFinder_Tokens_accept_4 rfl (lv_at hl 0 rfl) ?_
  refine xb_get (pc := 5) F h cf_2 0 rfl 4 (by decide) rfl k_299 (Or.inl rfl) rfl d_TypeFinder_Tokens_accept_5 ?_
  refine va_iald (pc := 8) hx hb hK h.1 1 0 rfl rfl (by unfold vp_in; decide) d_TypeFinder_Tokens_accept_8 ?_
  refine lv_topi (fun y ey => ?_)
  obtain rfl : y = 0 := ey.trans (by decide)
  refine lv_iload_n (pc := 9) hx hb d_TypeFinder_Tokens_accept_9 rfl (lv_at hl 1 rfl) ?_
  refine lv_icmp_eq (pc := 10) (tgt := 15) hx hb d_TypeFinder_Tokens_accept_10 (by decide) (fun h => absurd h (by decide)) (fun _ => ?_)
  refine lv_iconst (pc := 13) (v := 0) hx hb d_TypeFinder_Tokens_accept_13 (by decide) ?_
  exact xb_zret (pc := 14) (rm := rm_accept_15) F hr hlk (by decide) hA hQ h () trivial rfl [0, 1] (by decide) rfl (by decide) (by decide) d_TypeFinder_Tokens_accept_14
abbrev rm_accept_18 : Room := { frames := 0, cells := 0, slots := 0, locals := 30 }
set_option maxHeartbeats 4000000 in
set_option maxRecDepth 100000 in
theorem ct_accept_18 (l : Launch) (G : xb_EV) (k0 : Nat) (r1 : Nat) (r2 : Nat) (r3 : Nat) : xb_CT l y_TypeFinder_Tokens_accept b_TypeFinder_Tokens_accept 2 (some .boolean) rm_accept_18 G [] [.ref k0, .int 18] [(k0, .inr (2, [.ref r1, .ref r2, .ref r3, .int 1, .int 0])), (r1, .inl (G.2.1 0, 81, .inl (upd (fun _ => 0) (Int32.toNatClampNeg 0) 0)))] (S := Unit) (fun _ => some (.int 0)) (fun _ => True) (fun _ => [(k0, .inr (2, [.ref r1, .ref r2, .ref r3, .int 1, .int 0])), (r1, .inl (G.2.1 0, 81, .inl (upd (fun _ => 0) (Int32.toNatClampNeg 0) 0)))]) := by
  refine xb_CT.of (by decide) "TypeFinder$Tokens" rfl ?_ (Nat.le_of_ble_eq_true rfl)
  intro p e s m args below meth c A ls Q F hr hlk hnm h hl hA hQ
  have hx := F.1.1
  have hb := F.1.2.1
  have hml := F.1.2.2.1
  have hown := F.1.2.2.2.1
  have hts := F.1.2.2.2.2
  have hK := F.2.1
  refine lv_aload_n (pc := 0) hx hb d_TypeFinder_Tokens_accept_0 rfl (lv_at hl 0 rfl) ?_
  refine xb_get (pc := 1) F h cf_2 0 rfl 0 (by decide) rfl k_297 (Or.inl rfl) rfl d_TypeFinder_Tokens_accept_1 ?_
  refine lv_aload_n (pc := 4) hx hb d_TypeFinder_Tokens_accept_4 rfl (lv_at hl 0 rfl) ?_
  refine xb_get (pc := 5) F h cf_2 0 rfl 4 (by decide) rfl k_299 (Or.inl rfl) rfl d_TypeFinder_Tokens_accept_5 ?_
  refine va_iald (pc := 8) hx hb hK h.1 1 0 rfl rfl (by unfold vp_in; decide) d_TypeFinder_Tokens_accept_8 ?_
  refine lv_topi (fun y ey => ?_)
  obtain rfl : y = 0 := ey.trans (by decide)
  refine lv_iload_n (pc := 9) hx hb d_TypeFinder_Tokens_accept_9 rfl (lv_at hl 1 rfl) ?_
  refine lv_icmp_eq (pc := 10) (tgt := 15) hx hb d_TypeFinder_Tokens_accept_10 (by decide) (fun h => absurd h (by decide)) (fun _ => ?_)
  refine lv_iconst (pc := 13) (v := 0) hx hb d_TypeFinder_Tokens_accept_13 (by decide) ?_
  exact xb_zret (pc := 14) (rm := rm_accept_18) F hr hlk (by decide) hA hQ h () trivial rfl [0, 1] (by decide) rfl (by decide) (by decide) d_TypeFinder_Tokens_accept_14
abbrev rm_is_3 : Room := { frames := 0, cells := 0, slots := 0, locals := 30 }
set_option maxHeartbeats 4000000 in
set_option maxRecDepth 100000 in
theorem ct_is_3 (l : Launch) (G : xb_EV) (k0 : Nat) (r1 : Nat) (r2 : Nat) (r3 : Nat) : xb_CT l y_TypeFinder_Tokens_is b_TypeFinder_Tokens_is 2 (some .boolean) rm_is_3 G [] [.ref k0, .int 3] [(k0, .inr (2, [.ref r1, .ref r2, .ref r3, .int 1, .int 0])), (r1, .inl (G.2.1 0, 81, .inl (upd (fun _ => 0) (Int32.toNatClampNeg 0) 0)))] (S := Unit) (fun _ => some (.int 0)) (fun _ => True) (fun _ => [(k0, .inr (2, [.ref r1, .ref r2, .ref r3, .int 1, .int 0])), (r1, .inl (G.2.1 0, 81, .inl (upd (fun _ => 0) (Int32.toNatClampNeg 0) 0)))]) := by
  refine xb_CT.of (by decide) "TypeFinder$Tokens" rfl ?_ (Nat.le_of_ble_eq_true rfl)
  intro p e s m args below meth c A ls Q F hr hlk hnm h hl hA hQ
  have hx := F.1.1
  have hb := F.1.2.1
  have hml := F.1.2.2.1
  have hown := F.1.2.2.2.1
  have hts := F.1.2.2.2.2
  have hK := F.2.1
  refine lv_aload_n (pc := 0) hx hb d_TypeFinder_Tokens_is_0 rfl (lv_at hl 0 rfl) ?_
  refine xb_get (pc := 1) F h cf_2 0 rfl 0 (by decide) rfl k_297 (Or.inl rfl) rfl d_TypeFinder_Tokens_is_1 ?_
  refine lv_aload_n (pc := 4) hx hb d_TypeFinder_Tokens_is_4 rfl (lv_at hl 0 rfl) ?_
  refine xb_get (pc := 5) F h cf_2 0 rfl 4 (by decide) rfl k_299 (Or.inl rfl) rfl d_TypeFinder_Tokens_is_5 ?_
  refine va_iald (pc := 8) hx hb hK h.1 1 0 rfl rfl (by unfold vp_in; decide) d_TypeFinder_Tokens_is_8 ?_
  refine lv_topi (fun y ey => ?_)
  obtain rfl : y = 0 := ey.trans (by decide)
  refine lv_iload_n (pc := 9) hx hb d_TypeFinder_Tokens_is_9 rfl (lv_at hl 1 rfl) ?_
  refine lv_icmp_ne (pc := 10) (tgt := 17) hx hb d_TypeFinder_Tokens_is_10 (by decide) (fun _ => ?_) (fun h => absurd h (by decide))
  refine lv_iconst (pc := 17) (v := 0) hx hb d_TypeFinder_Tokens_is_17 (by decide) ?_
  exact xb_zret (pc := 18) (rm := rm_is_3) F hr hlk (by decide) hA hQ h () trivial rfl [0, 1] (by decide) rfl (by decide) (by decide) d_TypeFinder_Tokens_is_18
abbrev rm_is_1 : Room := { frames := 0, cells := 0, slots := 0, locals := 30 }
set_option maxHeartbeats 4000000 in
set_option maxRecDepth 100000 in
theorem ct_is_1 (l : Launch) (G : xb_EV) (k0 : Nat) (r1 : Nat) (r2 : Nat) (r3 : Nat) : xb_CT l y_TypeFinder_Tokens_is b_TypeFinder_Tokens_is 2 (some .boolean) rm_is_1 G [] [.ref k0, .int 1] [(k0, .inr (2, [.ref r1, .ref r2, .ref r3, .int 1, .int 0])), (r1, .inl (G.2.1 0, 81, .inl (upd (fun _ => 0) (Int32.toNatClampNeg 0) 0)))] (S := Unit) (fun _ => some (.int 0)) (fun _ => True) (fun _ => [(k0, .inr (2, [.ref r1, .ref r2, .ref r3, .int 1, .int 0])), (r1, .inl (G.2.1 0, 81, .inl (upd (fun _ => 0) (Int32.toNatClampNeg 0) 0)))]) := by
  refine xb_CT.of (by decide) "TypeFinder$Tokens" rfl ?_ (Nat.le_of_ble_eq_true rfl)
  intro p e s m args below meth c A ls Q F hr hlk hnm h hl hA hQ
  have hx := F.1.1
  have hb := F.1.2.1
  have hml := F.1.2.2.1
  have hown := F.1.2.2.2.1
  have hts := F.1.2.2.2.2
  have hK := F.2.1
  refine lv_aload_n (pc := 0) hx hb d_TypeFinder_Tokens_is_0 rfl (lv_at hl 0 rfl) ?_
  refine xb_get (pc := 1) F h cf_2 0 rfl 0 (by decide) rfl k_297 (Or.inl rfl) rfl d_TypeFinder_Tokens_is_1 ?_
  refine lv_aload_n (pc := 4) hx hb d_TypeFinder_Tokens_is_4 rfl (lv_at hl 0 rfl) ?_
  refine xb_get (pc := 5) F h cf_2 0 rfl 4 (by decide) rfl k_299 (Or.inl rfl) rfl d_TypeFinder_Tokens_is_5 ?_
  refine va_iald (pc := 8) hx hb hK h.1 1 0 rfl rfl (by unfold vp_in; decide) d_TypeFinder_Tokens_is_8 ?_
  refine lv_topi (fun y ey => ?_)
  obtain rfl : y = 0 := ey.trans (by decide)
  refine lv_iload_n (pc := 9) hx hb d_TypeFinder_Tokens_is_9 rfl (lv_at hl 1 rfl) ?_
  refine lv_icmp_ne (pc := 10) (tgt := 17) hx hb d_TypeFinder_Tokens_is_10 (by decide) (fun _ => ?_) (fun h => absurd h (by decide))
  refine lv_iconst (pc := 17) (v := 0) hx hb d_TypeFinder_Tokens_is_17 (by decide) ?_
  exact xb_zret (pc := 18) (rm := rm_is_1) F hr hlk (by decide) hA hQ h () trivial rfl [0, 1] (by decide) rfl (by decide) (by decide) d_TypeFinder_Tokens_is_18
abbrev rm_is_2 : Room := { frames := 0, cells := 0, slots := 0, locals := 30 }
set_option maxHeartbeats 4000000 in
set_option maxRecDepth 100000 in
theorem ct_is_2 (l : Launch) (G : xb_EV) (k0 : Nat) (r1 : Nat) (r2 : Nat) (r3 : Nat) : xb_CT l y_TypeFinder_Tokens_is b_TypeFinder_Tokens_is 2 (some .boolean) rm_is_2 G [] [.ref k0, .int 2] [(k0, .inr (2, [.ref r1, .ref r2, .ref r3, .int 1, .int 0])), (r1, .inl (G.2.1 0, 81, .inl (upd (fun _ => 0) (Int32.toNatClampNeg 0) 0)))] (S := Unit) (fun _ => some (.int 0)) (fun _ => True) (fun _ => [(k0, .inr (2, [.ref r1, .ref r2, .ref r3, .int 1, .int 0])), (r1, .inl (G.2.1 0, 81, .inl (upd (fun _ => 0) (Int32.toNatClampNeg 0) 0)))]) := by
  refine xb_CT.of (by decide) "TypeFinder$Tokens" rfl ?_ (Nat.le_of_ble_eq_true rfl)
  intro p e s m args below meth c A ls Q F hr hlk hnm h hl hA hQ
  have hx := F.1.1
  have hb := F.1.2.1
  have hml := F.1.2.2.1
  have hown := F.1.2.2.2.1
  have hts := F.1.2.2.2.2
  have hK := F.2.1
  refine lv_aload_n (pc := 0) hx hb d_TypeFinder_Tokens_is_0 rfl (lv_at hl 0 rfl) ?_
  refine xb_get (pc := 1) F h cf_2 0 rfl 0 (by decide) rfl k_297 (Or.inl rfl) rfl d_TypeFinder_Tokens_is_1 ?_
  refine lv_aload_n (pc := 4) hx hb d_TypeFinder_Tokens_is_4 rfl (lv_at hl 0 rfl) ?_
  refine xb_get (pc := 5) F h cf_2 0 rfl 4 (by decide) rfl k_299 (Or.inl rfl) rfl d_TypeFinder_Tokens_is_5 ?_
  refine va_iald (pc := 8) hx hb hK h.1 1 0 rfl rfl (by unfold vp_in; decide) d_TypeFinder_Tokens_is_8 ?_
  refine lv_topi (fun y ey => ?_)
  obtain rfl : y = 0 := ey.trans (by decide)
  refine lv_iload_n (pc := 9) hx hb d_TypeFinder_Tokens_is_9 rfl (lv_at hl 1 rfl) ?_
  refine lv_icmp_ne (pc := 10) (tgt := 17) hx hb d_TypeFinder_Tokens_is_10 (by decide) (fun _ => ?_) (fun h => absurd h (by decide))
  refine lv_iconst (pc := 17) (v := 0) hx hb d_TypeFinder_Tokens_is_17 (by decide) ?_
  exact xb_zret (pc := 18) (rm := rm_is_2) F hr hlk (by decide) hA hQ h () trivial rfl [0, 1] (by decide) rfl (by decide) (by decide) d_TypeFinder_Tokens_is_18
abbrev rm_kindBehind : Room := { frames := 0, cells := 0, slots := 0, locals := 30 }
set_option maxHeartbeats 4000000 in
set_option maxRecDepth 100000 in
theorem ct_kindBehind (l : Launch) (G : xb_EV) (k0 : Nat) (r1 : Nat) (r2 : Nat) (r3 : Nat) : xb_CT l y_TypeFinder_Tokens_kindBehind b_TypeFinder_Tokens_kindBehind 1 (some .int) rm_kindBehind G [] [.ref k0] [(k0, .inr (2, [.ref r1, .ref r2, .ref r3, .int 1, .int 0])), (r1, .inl (G.2.1 0, 81, .inl (upd (fun _ => 0) (Int32.toNatClampNeg 0) 0)))] (S := Unit) (fun _ => some (.int 0)) (fun _ => True) (fun _ => [(k0, .inr (2, [.ref r1, .ref r2, .ref r3, .int 1, .int 0])), (r1, .inl (G.2.1 0, 81, .inl (upd (fun _ => 0) (Int32.toNatClampNeg 0) 0)))]) := by
  refine xb_CT.of (by decide) "TypeFinder$Tokens" rfl ?_ (Nat.le_of_ble_eq_true rfl)
  intro p e s m args below meth c A ls Q F hr hlk hnm h hl hA hQ
  have hx := F.1.1
  have hb := F.1.2.1
  have hml := F.1.2.2.1
  have hown := F.1.2.2.2.1
  have hts := F.1.2.2.2.2
  have hK := F.2.1
  refine lv_aload_n (pc := 0) hx hb d_TypeFinder_Tokens_kindBehind_0 rfl (lv_at hl 0 rfl) ?_
  refine xb_get (pc := 1) F h cf_2 0 rfl 4 (by decide) rfl k_299 (Or.inl rfl) rfl d_TypeFinder_Tokens_kindBehind_1 ?_
  refine lv_iconst (pc := 4) (v := 1) hx hb d_TypeFinder_Tokens_kindBehind_4 (by decide) ?_
  refine lv_iadd (pc := 5) hx hb d_TypeFinder_Tokens_kindBehind_5 ?_
  refine lv_topi (fun y ey => ?_)
  obtain rfl : y = 1 := ey.trans (by decide)
  refine lv_aload_n (pc := 6) hx hb d_TypeFinder_Tokens_kindBehind_6 rfl (lv_at hl 0 rfl) ?_
  refine xb_get (pc := 7) F h cf_2 0 rfl 3 (by decide) rfl k_296 (Or.inl rfl) rfl d_TypeFinder_Tokens_kindBehind_7 ?_
  refine lv_icmp_ge (pc := 10) (tgt := 27) hx hb d_TypeFinder_Tokens_kindBehind_10 (by decide) (fun _ => ?_) (fun h => absurd (by decide) h)
  refine lv_iconst (pc := 27) (v := 0) hx hb d_TypeFinder_Tokens_kindBehind_27 (by decide) ?_
  exact xb_iret (pc := 28) (rm := rm_kindBehind) F hr hlk hA hQ h () trivial rfl [0, 1] (by decide) rfl (by decide) (by decide) d_TypeFinder_Tokens_kindBehind_28
abbrev rm_take_1 : Room := { frames := 8, cells := 1, slots := 6, locals := 140 }
set_option maxHeartbeats 4000000 in
set_option maxRecDepth 100000 in
theorem ct_take_1 (l : Launch) (hst : ∀ e : Env, l.admits e → e.platform.stackTraces = false) (G : xb_EV) (k0 : Nat) (r1 : Nat) (r2 : Nat) (r3 : Nat) : xb_CTT l y_TypeFinder_Tokens_take b_TypeFinder_Tokens_take 4 (some .long) rm_take_1 G [] [.ref k0, .int 1] [(k0, .inr (2, [.ref r1, .ref r2, .ref r3, .int 1, .int 0])), (r1, .inl (G.2.1 0, 81, .inl (upd (fun _ => 0) (Int32.toNatClampNeg 0) 0)))] := by
  refine xb_CTT.of (by decide) "TypeFinder$Tokens" rfl ?_ (Nat.le_of_ble_eq_true rfl)
  intro p e s m args below meth c A ls had F hno hlk h hl hA
  have hx := F.1.1
  have hb := F.1.2.1
  have hml := F.1.2.2.1
  have hown := F.1.2.2.2.1
  have hts := F.1.2.2.2.2
  have hK := F.2.1
  refine lv_aload_n (pc := 0) hx hb d_TypeFinder_Tokens_take_0 rfl (lv_at hl 0 rfl) ?_
  refine xb_get (pc := 1) F h cf_2 0 rfl 0 (by decide) rfl k_297 (Or.inl rfl) rfl d_TypeFinder_Tokens_take_1 ?_
  refine lv_aload_n (pc := 4) hx hb d_TypeFinder_Tokens_take_4 rfl (lv_at hl 0 rfl) ?_
  refine xb_get (pc := 5) F h cf_2 0 rfl 4 (by decide) rfl k_299 (Or.inl rfl) rfl d_TypeFinder_Tokens_take_5 ?_
  refine va_iald (pc := 8) hx hb hK h.1 1 0 rfl rfl (by unfold vp_in; decide) d_TypeFinder_Tokens_take_8 ?_
  refine lv_topi (fun y ey => ?_)
  obtain rfl : y = 0 := ey.trans (by decide)
  refine lv_iload_n (pc := 9) hx hb d_TypeFinder_Tokens_take_9 rfl (lv_at hl 1 rfl) ?_
  refine lv_icmp_eq (pc := 10) (tgt := 21) hx hb d_TypeFinder_Tokens_take_10 (by decide) (fun h => absurd h (by decide)) (fun _ => ?_)
  exact xb_thrownew (pc := 13) (rm0 := rm_take_1) F (hst e had) hlk hno h (ic := 76) k_304 k_305 k_306 (xb_at_Tokens F) hl.1 (by decide) (by decide) (by decide) (by decide) d_TypeFinder_Tokens_take_13 d_TypeFinder_Tokens_take_16 d_TypeFinder_Tokens_take_17 d_TypeFinder_Tokens_take_20
abbrev rm_take_7 : Room := { frames := 8, cells := 1, slots := 6, locals := 140 }
set_option maxHeartbeats 4000000 in
set_option maxRecDepth 100000 in
theorem ct_take_7 (l : Launch) (hst : ∀ e : Env, l.admits e → e.platform.stackTraces = false) (G : xb_EV) (k0 : Nat) (r1 : Nat) (r2 : Nat) (r3 : Nat) : xb_CTT l y_TypeFinder_Tokens_take b_TypeFinder_Tokens_take 4 (some .long) rm_take_7 G [] [.ref k0, .int 7] [(k0, .inr (2, [.ref r1, .ref r2, .ref r3, .int 1, .int 0])), (r1, .inl (G.2.1 0, 81, .inl (upd (fun _ => 0) (Int32.toNatClampNeg 0) 0)))] := by
  refine xb_CTT.of (by decide) "TypeFinder$Tokens" rfl ?_ (Nat.le_of_ble_eq_true rfl)
  intro p e s m args below meth c A ls had F hno hlk h hl hA
  have hx := F.1.1
  have hb := F.1.2.1
  have hml := F.1.2.2.1
  have hown := F.1.2.2.2.1
  have hts := F.1.2.2.2.2
  have hK := F.2.1
  refine lv_aload_n (pc := 0) hx hb d_TypeFinder_Tokens_take_0 rfl (lv_at hl 0 rfl) ?_
  refine xb_get (pc := 1) F h cf_2 0 rfl 0 (by decide) rfl k_297 (Or.inl rfl) rfl d_TypeFinder_Tokens_take_1 ?_
  refine lv_aload_n (pc := 4) hx hb d_TypeFinder_Tokens_take_4 rfl (lv_at hl 0 rfl) ?_
  refine xb_get (pc := 5) F h cf_2 0 rfl 4 (by decide) rfl k_299 (Or.inl rfl) rfl d_TypeFinder_Tokens_take_5 ?_
  refine va_iald (pc := 8) hx hb hK h.1 1 0 rfl rfl (by unfold vp_in; decide) d_TypeFinder_Tokens_take_8 ?_
  refine lv_topi (fun y ey => ?_)
  obtain rfl : y = 0 := ey.trans (by decide)
  refine lv_iload_n (pc := 9) hx hb d_TypeFinder_Tokens_take_9 rfl (lv_at hl 1 rfl) ?_
  refine lv_icmp_eq (pc := 10) (tgt := 21) hx hb d_TypeFinder_Tokens_take_10 (by decide) (fun h => absurd h (by decide)) (fun _ => ?_)
  exact xb_thrownew (pc := 13) (rm0 := rm_take_7) F (hst e had) hlk hno h (ic := 76) k_304 k_305 k_306 (xb_at_Tokens F) hl.1 (by decide) (by decide) (by decide) (by decide) d_TypeFinder_Tokens_take_13 d_TypeFinder_Tokens_take_16 d_TypeFinder_Tokens_take_17 d_TypeFinder_Tokens_take_20
abbrev rm_definition : Room := { frames := 9, cells := 1, slots := 6, locals := 163 }
set_option maxHeartbeats 4000000 in
set_option maxRecDepth 100000 in
theorem ct_definition (l : Launch) (hst : ∀ e : Env, l.admits e → e.platform.stackTraces = false) (G : xb_EV) (p0 : Nat) (k0 : Nat) (r1 : Nat) (r2 : Nat) (r3 : Nat) (pd : Value) (pl : Value) (pr : Value) : xb_CTT l y_TypeFinder_Parser_definition b_TypeFinder_Parser_definition 8 (some (.object "TypeFinder$Node")) rm_definition G [] [.ref p0, .int 0] [(p0, .inr (1, [.ref k0, pd, pl, pr])), (k0, .inr (2, [.ref r1, .ref r2, .ref r3, .int 1, .int 0])), (r1, .inl (G.2.1 0, 81, .inl (upd (fun _ => 0) (Int32.toNatClampNeg 0) 0)))] := by
  refine xb_CTT.of (by decide) "TypeFinder$Parser" rfl ?_ (Nat.le_of_ble_eq_true rfl)
  intro p e s m args below meth c A ls had F hno hlk h hl hA
  have hx := F.1.1
  have hb := F.1.2.1
  have hml := F.1.2.2.1
  have hown := F.1.2.2.2.1
  have hts := F.1.2.2.2.2
  have hK := F.2.1
  refine lv_aload_n (pc := 0) hx hb d_TypeFinder_Parser_definition_0 rfl (lv_at hl 0 rfl) ?_
  refine xb_get (pc := 1) F h cf_1 0 rfl 0 (by decide) rfl k_185 (Or.inl rfl) rfl d_TypeFinder_Parser_definition_1 ?_
  refine lv_iconst (pc := 4) (v := 1) hx hb d_TypeFinder_Parser_definition_4 (by decide) ?_
  exact xb_throwV (pc := 5) (rm := rm_take_1) (rm0 := rm_definition) (rest := []) F hlk hno hA h (ct_take_1 l hst G k0 r1 r2 r3) 1 (va_recv hK h.1 (q0 := 1) (ci := 2) rfl rfl) k_307 k_143 k_308 k_309 k_310 hd_TypeFinder_Tokens_take (by decide) [1, 2] rfl (by decide) xb_ss0 hl.1 rfl rfl (Nat.le_of_ble_eq_true rfl) (by decide) (by decide) d_TypeFinder_Parser_definition_5
abbrev rm_declaration : Room := { frames := 10, cells := 1, slots := 6, locals := 190 }
set_option maxHeartbeats 4000000 in
set_option maxRecDepth 100000 in
theorem ct_declaration (l : Launch) (hst : ∀ e : Env, l.admits e → e.platform.stackTraces = false) (G : xb_EV) (p0 : Nat) (k0 : Nat) (r1 : Nat) (r2 : Nat) (r3 : Nat) (pd : Value) (pl : Value) (pr : Value) (c0 : Nat) : xb_CTT l y_TypeFinder_Parser_declaration b_TypeFinder_Parser_declaration 4 (some (.object "TypeFinder$Node")) rm_declaration G [] [.ref p0, .ref c0, .int 0] [(p0, .inr (1, [.ref k0, pd, pl, pr])), (k0, .inr (2, [.ref r1, .ref r2, .ref r3, .int 0, .int 0])), (r1, .inl (G.2.1 0, 81, .inl (fun _ => 0))), (r2, .inl (G.2.1 1, 81, .inr (.inl (fun _ => 0))))] := by
  refine xb_CTT.of (by decide) "TypeFinder$Parser" rfl ?_ (Nat.le_of_ble_eq_true rfl)
  intro p e s m args below meth c A ls had F hno hlk h hl hA
  have hx := F.1.1
  have hb := F.1.2.1
  have hml := F.1.2.2.1
  have hown := F.1.2.2.2.1
  have hts := F.1.2.2.2.2
  have hK := F.2.1
  refine lv_aload_n (pc := 0) hx hb d_TypeFinder_Parser_declaration_0 rfl (lv_at hl 0 rfl) ?_
  refine xb_get (pc := 1) F h cf_1 0 rfl 0 (by decide) rfl k_185 (Or.inl rfl) rfl d_TypeFinder_Parser_declaration_1 ?_
  refine lv_aload_n (pc := 4) hx hb d_TypeFinder_Parser_declaration_4 rfl (lv_at hl 1 rfl) ?_
  refine lv_iload_n (pc := 5) hx hb d_TypeFinder_Parser_declaration_5 rfl (lv_at hl 2 rfl) ?_
  refine xb_callV (pc := 6) (rm := rm_read) (wr := [(p0, .inr (1, [.ref k0, pd, pl, pr]))]) F h (ct_read l G k0 r1 r2 r3 c0) 2 (va_recv hK h.1 (q0 := 1) (ci := 2) rfl rfl) k_311 k_143 k_312 k_313 k_314 hd_TypeFinder_Tokens_read (by decide) [1, 2, 3] [0] rfl rfl (by decide) (by decide) (by decide) xb_ss0 hl.1 rfl rfl (Nat.le_of_ble_eq_true rfl) (by decide) d_TypeFinder_Parser_declaration_6 (fun u H locs hu h => ?_)
  have h : xb_W G A s [(p0, .inr (1, [.ref k0, pd, pl, pr])), (k0, .inr (2, [.ref r1, .ref r2, .ref r3, .int 1, .int 0])), (r1, .inl (G.2.1 0, 81, .inl (upd (fun _ => 0) (Int32.toNatClampNeg 0) 0))), (r2, .inl (G.2.1 1, 81, .inr (.inl (vp_updL (fun _ => 0) (Int32.toNatClampNeg 0) 0))))] _ _ := h
  refine W.widen (k := 0) (n := 0) (by decide) (by decide) ?_
  refine W.eq (g2 := F0 m 9 ls []) rfl ?_
  refine lv_aload_n (pc := 9) hx hb d_TypeFinder_Parser_declaration_9 rfl (lv_at hl 0 rfl) ?_
  refine xb_get (pc := 10) F h cf_1 0 rfl 0 (by decide) rfl k_185 (Or.inl rfl) rfl d_TypeFinder_Parser_declaration_10 ?_
  refine lv_bipush (pc := 13) (v := 20) hx hb d_TypeFinder_Parser_declaration_13 (by decide) ?_
  refine xb_callV (pc := 15) (rm := rm_accept_20) (wr := [(p0, .inr (1, [.ref k0, pd, pl, pr])), (r2, .inl (G.2.1 1, 81, .inr (.inl (vp_updL (fun _ => 0) (Int32.toNatClampNeg 0) 0))))]) F h (ct_accept_20 l G k0 r1 r2 r3) 1 (va_recv hK h.1 (q0 := 1) (ci := 2) rfl rfl) k_315 k_143 k_316 k_317 k_318 hd_TypeFinder_Tokens_accept (by decide) [1, 2] [0, 3] rfl rfl (by decide) (by decide) (by decide) xb_ss0 hl.1 rfl rfl (Nat.le_of_ble_eq_true rfl) (by decide) d_TypeFinder_Parser_declaration_15 (fun u H locs hu h => ?_)
  have h : xb_W G A s [(p0, .inr (1, [.ref k0, pd, pl, pr])), (r2, .inl (G.2.1 1, 81, .inr (.inl (vp_updL (fun _ => 0) (Int32.toNatClampNeg 0) 0)))), (k0, .inr (2, [.ref r1, .ref r2, .ref r3, .int 1, .int 0])), (r1, .inl (G.2.1 0, 81, .inl (upd (fun _ => 0) (Int32.toNatClampNeg 0) 0)))] _ _ := h
  refine W.widen (k := 0) (n := 0) (by decide) (by decide) ?_
  refine W.eq (g2 := F0 m 18 ls [.int 0]) rfl ?_
  refine lv_if_eq (pc := 18) (tgt := 32) hx hb d_TypeFinder_Parser_declaration_18 (by decide) (fun _ => ?_) (fun h => absurd (by decide) h)
  refine lv_aload_n (pc := 32) hx hb d_TypeFinder_Parser_declaration_32 rfl (lv_at hl 0 rfl) ?_
  refine xb_get (pc := 33) F h cf_1 0 rfl 0 (by decide) rfl k_185 (Or.inl rfl) rfl d_TypeFinder_Parser_declaration_33 ?_
  refine xb_callV (pc := 36) (rm := rm_kindBehind) (wr := [(p0, .inr (1, [.ref k0, pd, pl, pr])), (r2, .inl (G.2.1 1, 81, .inr (.inl (vp_updL (fun _ => 0) (Int32.toNatClampNeg 0) 0))))]) F h (ct_kindBehind l G k0 r1 r2 r3) 0 (va_recv hK h.1 (q0 := 2) (ci := 2) rfl rfl) k_319 k_143 k_320 k_321 k_322 hd_TypeFinder_Tokens_kindBehind (by decide) [2, 3] [0, 1] rfl rfl (by decide) (by decide) (by decide) xb_ss0 hl.1 rfl rfl (Nat.le_of_ble_eq_true rfl) (by decide) d_TypeFinder_Parser_declaration_36 (fun u H locs hu h => ?_)
  have h : xb_W G A s [(p0, .inr (1, [.ref k0, pd, pl, pr])), (r2, .inl (G.2.1 1, 81, .inr (.inl (vp_updL (fun _ => 0) (Int32.toNatClampNeg 0) 0)))), (k0, .inr (2, [.ref r1, .ref r2, .ref r3, .int 1, .int 0])), (r1, .inl (G.2.1 0, 81, .inl (upd (fun _ => 0) (Int32.toNatClampNeg 0) 0)))] _ _ := h
  refine W.widen (k := 0) (n := 0) (by decide) (by decide) ?_
  refine W.eq (g2 := F0 m 39 ls [.int 0]) rfl ?_
  refine lv_iconst (pc := 39) (v := 4) hx hb d_TypeFinder_Parser_declaration_39 (by decide) ?_
  refine lv_icmp_ne (pc := 40) (tgt := 51) hx hb d_TypeFinder_Parser_declaration_40 (by decide) (fun _ => ?_) (fun h => absurd h (by decide))
  refine lv_aload_n (pc := 51) hx hb d_TypeFinder_Parser_declaration_51 rfl (lv_at hl 0 rfl) ?_
  refine lv_iconst (pc := 52) (v := 0) hx hb d_TypeFinder_Parser_declaration_52 (by decide) ?_
  exact xb_throwV (pc := 53) (rm := rm_definition) (rm0 := rm_declaration) (rest := []) F hlk hno hA h (ct_definition l hst G p0 k0 r1 r2 r3 pd pl pr) 1 (va_recv hK h.1 (q0 := 0) (ci := 1) rfl rfl) k_323 k_202 k_324 k_325 k_326 hd_TypeFinder_Parser_definition (by decide) [0, 2, 3] rfl (by decide) xb_ss0 hl.1 rfl rfl (Nat.le_of_ble_eq_true rfl) (by decide) (by decide) d_TypeFinder_Parser_declaration_53
abbrev rm_atom : Room := { frames := 9, cells := 1, slots := 6, locals := 163 }
set_option maxHeartbeats 4000000 in
set_option maxRecDepth 100000 in
theorem ct_atom (l : Launch) (hst : ∀ e : Env, l.admits e → e.platform.stackTraces = false) (G : xb_EV) (p0 : Nat) (k0 : Nat) (r1 : Nat) (r2 : Nat) (r3 : Nat) (pd : Value) (pl : Value) (pr : Value) : xb_CTT l y_TypeFinder_Parser_atom b_TypeFinder_Parser_atom 4 (some (.object "TypeFinder$Node")) rm_atom G [] [.ref p0, .int 0] [(p0, .inr (1, [.ref k0, pd, pl, pr])), (k0, .inr (2, [.ref r1, .ref r2, .ref r3, .int 1, .int 0])), (r1, .inl (G.2.1 0, 81, .inl (upd (fun _ => 0) (Int32.toNatClampNeg 0) 0)))] := by
  refine xb_CTT.of (by decide) "TypeFinder$Parser" rfl ?_ (Nat.le_of_ble_eq_true rfl)
  intro p e s m args below meth c A ls had F hno hlk h hl hA
  have hx := F.1.1
  have hb := F.1.2.1
  have hml := F.1.2.2.1
  have hown := F.1.2.2.2.1
  have hts := F.1.2.2.2.2
  have hK := F.2.1
  refine lv_aload_n (pc := 0) hx hb d_TypeFinder_Parser_atom_0 rfl (lv_at hl 0 rfl) ?_
  refine xb_get (pc := 1) F h cf_1 0 rfl 0 (by decide) rfl k_185 (Or.inl rfl) rfl d_TypeFinder_Parser_atom_1 ?_
  refine lv_iconst (pc := 4) (v := 3) hx hb d_TypeFinder_Parser_atom_4 (by decide) ?_
  refine xb_callV (pc := 5) (rm := rm_is_3) (wr := [(p0, .inr (1, [.ref k0, pd, pl, pr]))]) F h (ct_is_3 l G k0 r1 r2 r3) 1 (va_recv hK h.1 (q0 := 1) (ci := 2) rfl rfl) k_327 k_143 k_328 k_329 k_330 hd_TypeFinder_Tokens_is (by decide) [1, 2] [0] rfl rfl (by decide) (by decide) (by decide) xb_ss0 hl.1 rfl rfl (Nat.le_of_ble_eq_true rfl) (by decide) d_TypeFinder_Parser_atom_5 (fun u H locs hu h => ?_)
  have h : xb_W G A s [(p0, .inr (1, [.ref k0, pd, pl, pr])), (k0, .inr (2, [.ref r1, .ref r2, .ref r3, .int 1, .int 0])), (r1, .inl (G.2.1 0, 81, .inl (upd (fun _ => 0) (Int32.toNatClampNeg 0) 0)))] _ _ := h
  refine W.widen (k := 0) (n := 0) (by decide) (by decide) ?_
  refine W.eq (g2 := F0 m 8 ls [.int 0]) rfl ?_
  refine lv_if_eq (pc := 8) (tgt := 28) hx hb d_TypeFinder_Parser_atom_8 (by decide) (fun _ => ?_) (fun h => absurd (by decide) h)
  refine lv_aload_n (pc := 28) hx hb d_TypeFinder_Parser_atom_28 rfl (lv_at hl 0 rfl) ?_
  refine xb_get (pc := 29) F h cf_1 0 rfl 0 (by decide) rfl k_185 (Or.inl rfl) rfl d_TypeFinder_Parser_atom_29 ?_
  refine lv_iconst (pc := 32) (v := 1) hx hb d_TypeFinder_Parser_atom_32 (by decide) ?_
  refine xb_callV (pc := 33) (rm := rm_is_1) (wr := [(p0, .inr (1, [.ref k0, pd, pl, pr]))]) F h (ct_is_1 l G k0 r1 r2 r3) 1 (va_recv hK h.1 (q0 := 1) (ci := 2) rfl rfl) k_327 k_143 k_328 k_329 k_330 hd_TypeFinder_Tokens_is (by decide) [1, 2] [0] rfl rfl (by decide) (by decide) (by decide) xb_ss0 hl.1 rfl rfl (Nat.le_of_ble_eq_true rfl) (by decide) d_TypeFinder_Parser_atom_33 (fun u H locs hu h => ?_)
  have h : xb_W G A s [(p0, .inr (1, [.ref k0, pd, pl, pr])), (k0, .inr (2, [.ref r1, .ref r2, .ref r3, .int 1, .int 0])), (r1, .inl (G.2.1 0, 81, .inl (upd (fun _ => 0) (Int32.toNatClampNeg 0) 0)))] _ _ := h
  refine W.widen (k := 0) (n := 0) (by decide) (by decide) ?_
  refine W.eq (g2 := F0 m 36 ls [.int 0]) rfl ?_
  refine lv_if_eq (pc := 36) (tgt := 56) hx hb d_TypeFinder_Parser_atom_36 (by decide) (fun _ => ?_) (fun h => absurd (by decide) h)
  refine lv_aload_n (pc := 56) hx hb d_TypeFinder_Parser_atom_56 rfl (lv_at hl 0 rfl) ?_
  refine xb_get (pc := 57) F h cf_1 0 rfl 0 (by decide) rfl k_185 (Or.inl rfl) rfl d_TypeFinder_Parser_atom_57 ?_
  refine lv_iconst (pc := 60) (v := 2) hx hb d_TypeFinder_Parser_atom_60 (by decide) ?_
  refine xb_callV (pc := 61) (rm := rm_is_2) (wr := [(p0, .inr (1, [.ref k0, pd, pl, pr]))]) F h (ct_is_2 l G k0 r1 r2 r3) 1 (va_recv hK h.1 (q0 := 1) (ci := 2) rfl rfl) k_327 k_143 k_328 k_329 k_330 hd_TypeFinder_Tokens_is (by decide) [1, 2] [0] rfl rfl (by decide) (by decide) (by decide) xb_ss0 hl.1 rfl rfl (Nat.le_of_ble_eq_true rfl) (by decide) d_TypeFinder_Parser_atom_61 (fun u H locs hu h => ?_)
  have h : xb_W G A s [(p0, .inr (1, [.ref k0, pd, pl, pr])), (k0, .inr (2, [.ref r1, .ref r2, .ref r3, .int 1, .int 0])), (r1, .inl (G.2.1 0, 81, .inl (upd (fun _ => 0) (Int32.toNatClampNeg 0) 0)))] _ _ := h
  refine W.widen (k := 0) (n := 0) (by decide) (by decide) ?_
  refine W.eq (g2 := F0 m 64 ls [.int 0]) rfl ?_
  refine lv_if_eq (pc := 64) (tgt := 84) hx hb d_TypeFinder_Parser_atom_64 (by decide) (fun _ => ?_) (fun h => absurd (by decide) h)
  refine lv_aload_n (pc := 84) hx hb d_TypeFinder_Parser_atom_84 rfl (lv_at hl 0 rfl) ?_
  refine xb_get (pc := 85) F h cf_1 0 rfl 0 (by decide) rfl k_185 (Or.inl rfl) rfl d_TypeFinder_Parser_atom_85 ?_
  refine lv_bipush (pc := 88) (v := 7) hx hb d_TypeFinder_Parser_atom_88 (by decide) ?_
  exact xb_throwV (pc := 90) (rm := rm_take_7) (rm0 := rm_atom) (rest := []) F hlk hno hA h (ct_take_7 l hst G k0 r1 r2 r3) 1 (va_recv hK h.1 (q0 := 1) (ci := 2) rfl rfl) k_307 k_143 k_308 k_309 k_310 hd_TypeFinder_Tokens_take (by decide) [1, 2] rfl (by decide) xb_ss0 hl.1 rfl rfl (Nat.le_of_ble_eq_true rfl) (by decide) (by decide) d_TypeFinder_Parser_atom_90
abbrev rm_application : Room := { frames := 10, cells := 1, slots := 6, locals := 186 }
set_option maxHeartbeats 4000000 in
set_option maxRecDepth 100000 in
theorem ct_application (l : Launch) (hst : ∀ e : Env, l.admits e → e.platform.stackTraces = false) (G : xb_EV) (p0 : Nat) (k0 : Nat) (r1 : Nat) (r2 : Nat) (r3 : Nat) (pd : Value) (pl : Value) (pr : Value) : xb_CTT l y_TypeFinder_Parser_application b_TypeFinder_Parser_application 5 (some (.object "TypeFinder$Node")) rm_application G [] [.ref p0, .int 0] [(p0, .inr (1, [.ref k0, pd, pl, pr])), (k0, .inr (2, [.ref r1, .ref r2, .ref r3, .int 1, .int 0])), (r1, .inl (G.2.1 0, 81, .inl (upd (fun _ => 0) (Int32.toNatClampNeg 0) 0)))] := by
  refine xb_CTT.of (by decide) "TypeFinder$Parser" rfl ?_ (Nat.le_of_ble_eq_true rfl)
  intro p e s m args below meth c A ls had F hno hlk h hl hA
  have hx := F.1.1
  have hb := F.1.2.1
  have hml := F.1.2.2.1
  have hown := F.1.2.2.2.1
  have hts := F.1.2.2.2.2
  have hK := F.2.1
  refine lv_aload_n (pc := 0) hx hb d_TypeFinder_Parser_application_0 rfl (lv_at hl 0 rfl) ?_
  refine lv_iload_n (pc := 1) hx hb d_TypeFinder_Parser_application_1 rfl (lv_at hl 1 rfl) ?_
  exact xb_throwV (pc := 2) (rm := rm_atom) (rm0 := rm_application) (rest := []) F hlk hno hA h (ct_atom l hst G p0 k0 r1 r2 r3 pd pl pr) 1 (va_recv hK h.1 (q0 := 0) (ci := 1) rfl rfl) k_331 k_202 k_332 k_333 k_334 hd_TypeFinder_Parser_atom (by decide) [0, 1, 2] rfl (by decide) xb_ss0 hl.1 rfl rfl (Nat.le_of_ble_eq_true rfl) (by decide) (by decide) d_TypeFinder_Parser_application_2
abbrev rm_chain : Room := { frames := 11, cells := 1, slots := 6, locals := 210 }
set_option maxHeartbeats 4000000 in
set_option maxRecDepth 100000 in
theorem ct_chain (l : Launch) (hst : ∀ e : Env, l.admits e → e.platform.stackTraces = false) (G : xb_EV) (p0 : Nat) (k0 : Nat) (r1 : Nat) (r2 : Nat) (r3 : Nat) (pd : Value) (pl : Value) (pr : Value) : xb_CTT l y_TypeFinder_Parser_chain b_TypeFinder_Parser_chain 7 (some (.object "TypeFinder$Node")) rm_chain G [] [.ref p0, .int 0] [(p0, .inr (1, [.ref k0, pd, pl, pr])), (k0, .inr (2, [.ref r1, .ref r2, .ref r3, .int 1, .int 0])), (r1, .inl (G.2.1 0, 81, .inl (upd (fun _ => 0) (Int32.toNatClampNeg 0) 0)))] := by
  refine xb_CTT.of (by decide) "TypeFinder$Parser" rfl ?_ (Nat.le_of_ble_eq_true rfl)
  intro p e s m args below meth c A ls had F hno hlk h hl hA
  have hx := F.1.1
  have hb := F.1.2.1
  have hml := F.1.2.2.1
  have hown := F.1.2.2.2.1
  have hts := F.1.2.2.2.2
  have hK := F.2.1
  refine lv_aload_n (pc := 0) hx hb d_TypeFinder_Parser_chain_0 rfl (lv_at hl 0 rfl) ?_
  refine lv_iload_n (pc := 1) hx hb d_TypeFinder_Parser_chain_1 rfl (lv_at hl 1 rfl) ?_
  exact xb_throwV (pc := 2) (rm := rm_application) (rm0 := rm_chain) (rest := []) F hlk hno hA h (ct_application l hst G p0 k0 r1 r2 r3 pd pl pr) 1 (va_recv hK h.1 (q0 := 0) (ci := 1) rfl rfl) k_335 k_202 k_336 k_337 k_338 hd_TypeFinder_Parser_application (by decide) [0, 1, 2] rfl (by decide) xb_ss0 hl.1 rfl rfl (Nat.le_of_ble_eq_true rfl) (by decide) (by decide) d_TypeFinder_Parser_chain_2
abbrev rm_expression : Room := { frames := 12, cells := 1, slots := 6, locals := 236 }
set_option maxHeartbeats 4000000 in
set_option maxRecDepth 100000 in
theorem ct_expression (l : Launch) (hst : ∀ e : Env, l.admits e → e.platform.stackTraces = false) (G : xb_EV) (p0 : Nat) (k0 : Nat) (r1 : Nat) (r2 : Nat) (r3 : Nat) (pd : Value) (pl : Value) (pr : Value) : xb_CTT l y_TypeFinder_Parser_expression b_TypeFinder_Parser_expression 2 (some (.object "TypeFinder$Node")) rm_expression G [] [.ref p0, .int 0] [(p0, .inr (1, [.ref k0, pd, pl, pr])), (k0, .inr (2, [.ref r1, .ref r2, .ref r3, .int 1, .int 0])), (r1, .inl (G.2.1 0, 81, .inl (upd (fun _ => 0) (Int32.toNatClampNeg 0) 0)))] := by
  refine xb_CTT.of (by decide) "TypeFinder$Parser" rfl ?_ (Nat.le_of_ble_eq_true rfl)
  intro p e s m args below meth c A ls had F hno hlk h hl hA
  have hx := F.1.1
  have hb := F.1.2.1
  have hml := F.1.2.2.1
  have hown := F.1.2.2.2.1
  have hts := F.1.2.2.2.2
  have hK := F.2.1
  refine lv_iload_n (pc := 0) hx hb d_TypeFinder_Parser_expression_0 rfl (lv_at hl 1 rfl) ?_
  refine lv_bipush (pc := 1) (v := 12) hx hb d_TypeFinder_Parser_expression_1 (by decide) ?_
  refine lv_icmp_le (pc := 3) (tgt := 14) hx hb d_TypeFinder_Parser_expression_3 (by decide) (fun _ => ?_) (fun h => absurd (by decide) h)
  refine lv_aload_n (pc := 14) hx hb d_TypeFinder_Parser_expression_14 rfl (lv_at hl 0 rfl) ?_
  refine xb_get (pc := 15) F h cf_1 0 rfl 0 (by decide) rfl k_185 (Or.inl rfl) rfl d_TypeFinder_Parser_expression_15 ?_
  refine lv_bipush (pc := 18) (v := 12) hx hb d_TypeFinder_Parser_expression_18 (by decide) ?_
  refine xb_callV (pc := 20) (rm := rm_accept_12) (wr := [(p0, .inr (1, [.ref k0, pd, pl, pr]))]) F h (ct_accept_12 l G k0 r1 r2 r3) 1 (va_recv hK h.1 (q0 := 1) (ci := 2) rfl rfl) k_315 k_143 k_316 k_317 k_318 hd_TypeFinder_Tokens_accept (by decide) [1, 2] [0] rfl rfl (by decide) (by decide) (by decide) xb_ss0 hl.1 rfl rfl (Nat.le_of_ble_eq_true rfl) (by decide) d_TypeFinder_Parser_expression_20 (fun u H locs hu h => ?_)
  have h : xb_W G A s [(p0, .inr (1, [.ref k0, pd, pl, pr])), (k0, .inr (2, [.ref r1, .ref r2, .ref r3, .int 1, .int 0])), (r1, .inl (G.2.1 0, 81, .inl (upd (fun _ => 0) (Int32.toNatClampNeg 0) 0)))] _ _ := h
  refine W.widen (k := 0) (n := 0) (by decide) (by decide) ?_
  refine W.eq (g2 := F0 m 23 ls [.int 0]) rfl ?_
  refine lv_if_eq (pc := 23) (tgt := 32) hx hb d_TypeFinder_Parser_expression_23 (by decide) (fun _ => ?_) (fun h => absurd (by decide) h)
  refine lv_aload_n (pc := 32) hx hb d_TypeFinder_Parser_expression_32 rfl (lv_at hl 0 rfl) ?_
  refine xb_get (pc := 33) F h cf_1 0 rfl 0 (by decide) rfl k_185 (Or.inl rfl) rfl d_TypeFinder_Parser_expression_33 ?_
  refine lv_bipush (pc := 36) (v := 13) hx hb d_TypeFinder_Parser_expression_36 (by decide) ?_
  refine xb_callV (pc := 38) (rm := rm_accept_13) (wr := [(p0, .inr (1, [.ref k0, pd, pl, pr]))]) F h (ct_accept_13 l G k0 r1 r2 r3) 1 (va_recv hK h.1 (q0 := 1) (ci := 2) rfl rfl) k_315 k_143 k_316 k_317 k_318 hd_TypeFinder_Tokens_accept (by decide) [1, 2] [0] rfl rfl (by decide) (by decide) (by decide) xb_ss0 hl.1 rfl rfl (Nat.le_of_ble_eq_true rfl) (by decide) d_TypeFinder_Parser_expression_38 (fun u H locs hu h => ?_)
  have h : xb_W G A s [(p0, .inr (1, [.ref k0, pd, pl, pr])), (k0, .inr (2, [.ref r1, .ref r2, .ref r3, .int 1, .int 0])), (r1, .inl (G.2.1 0, 81, .inl (upd (fun _ => 0) (Int32.toNatClampNeg 0) 0)))] _ _ := h
  refine W.widen (k := 0) (n := 0) (by decide) (by decide) ?_
  refine W.eq (g2 := F0 m 41 ls [.int 0]) rfl ?_
  refine lv_if_eq (pc := 41) (tgt := 50) hx hb d_TypeFinder_Parser_expression_41 (by decide) (fun _ => ?_) (fun h => absurd (by decide) h)
  refine lv_aload_n (pc := 50) hx hb d_TypeFinder_Parser_expression_50 rfl (lv_at hl 0 rfl) ?_
  refine xb_get (pc := 51) F h cf_1 0 rfl 0 (by decide) rfl k_185 (Or.inl rfl) rfl d_TypeFinder_Parser_expression_51 ?_
  refine lv_bipush (pc := 54) (v := 15) hx hb d_TypeFinder_Parser_expression_54 (by decide) ?_
  refine xb_callV (pc := 56) (rm := rm_accept_15) (wr := [(p0, .inr (1, [.ref k0, pd, pl, pr]))]) F h (ct_accept_15 l G k0 r1 r2 r3) 1 (va_recv hK h.1 (q0 := 1) (ci := 2) rfl rfl) k_315 k_143 k_316 k_317 k_318 hd_TypeFinder_Tokens_accept (by decide) [1, 2] [0] rfl rfl (by decide) (by decide) (by decide) xb_ss0 hl.1 rfl rfl (Nat.le_of_ble_eq_true rfl) (by decide) d_TypeFinder_Parser_expression_56 (fun u H locs hu h => ?_)
  have h : xb_W G A s [(p0, .inr (1, [.ref k0, pd, pl, pr])), (k0, .inr (2, [.ref r1, .ref r2, .ref r3, .int 1, .int 0])), (r1, .inl (G.2.1 0, 81, .inl (upd (fun _ => 0) (Int32.toNatClampNeg 0) 0)))] _ _ := h
  refine W.widen (k := 0) (n := 0) (by decide) (by decide) ?_
  refine W.eq (g2 := F0 m 59 ls [.int 0]) rfl ?_
  refine lv_if_eq (pc := 59) (tgt := 68) hx hb d_TypeFinder_Parser_expression_59 (by decide) (fun _ => ?_) (fun h => absurd (by decide) h)
  refine lv_aload_n (pc := 68) hx hb d_TypeFinder_Parser_expression_68 rfl (lv_at hl 0 rfl) ?_
  refine xb_get (pc := 69) F h cf_1 0 rfl 0 (by decide) rfl k_185 (Or.inl rfl) rfl d_TypeFinder_Parser_expression_69 ?_
  refine lv_bipush (pc := 72) (v := 18) hx hb d_TypeFinder_Parser_expression_72 (by decide) ?_
  refine xb_callV (pc := 74) (rm := rm_accept_18) (wr := [(p0, .inr (1, [.ref k0, pd, pl, pr]))]) F h (ct_accept_18 l G k0 r1 r2 r3) 1 (va_recv hK h.1 (q0 := 1) (ci := 2) rfl rfl) k_315 k_143 k_316 k_317 k_318 hd_TypeFinder_Tokens_accept (by decide) [1, 2] [0] rfl rfl (by decide) (by decide) (by decide) xb_ss0 hl.1 rfl rfl (Nat.le_of_ble_eq_true rfl) (by decide) d_TypeFinder_Parser_expression_74 (fun u H locs hu h => ?_)
  have h : xb_W G A s [(p0, .inr (1, [.ref k0, pd, pl, pr])), (k0, .inr (2, [.ref r1, .ref r2, .ref r3, .int 1, .int 0])), (r1, .inl (G.2.1 0, 81, .inl (upd (fun _ => 0) (Int32.toNatClampNeg 0) 0)))] _ _ := h
  refine W.widen (k := 0) (n := 0) (by decide) (by decide) ?_
  refine W.eq (g2 := F0 m 77 ls [.int 0]) rfl ?_
  refine lv_if_eq (pc := 77) (tgt := 86) hx hb d_TypeFinder_Parser_expression_77 (by decide) (fun _ => ?_) (fun h => absurd (by decide) h)
  refine lv_aload_n (pc := 86) hx hb d_TypeFinder_Parser_expression_86 rfl (lv_at hl 0 rfl) ?_
  refine lv_iload_n (pc := 87) hx hb d_TypeFinder_Parser_expression_87 rfl (lv_at hl 1 rfl) ?_
  exact xb_throwV (pc := 88) (rm := rm_chain) (rm0 := rm_expression) (rest := []) F hlk hno hA h (ct_chain l hst G p0 k0 r1 r2 r3 pd pl pr) 1 (va_recv hK h.1 (q0 := 0) (ci := 1) rfl rfl) k_339 k_202 k_340 k_341 k_342 hd_TypeFinder_Parser_chain (by decide) [0, 1, 2] rfl (by decide) xb_ss0 hl.1 rfl rfl (Nat.le_of_ble_eq_true rfl) (by decide) (by decide) d_TypeFinder_Parser_expression_88
abbrev rm_question : Room := { frames := 13, cells := 1, slots := 6, locals := 257 }
set_option maxHeartbeats 4000000 in
set_option maxRecDepth 100000 in
theorem ct_question (l : Launch) (hst : ∀ e : Env, l.admits e → e.platform.stackTraces = false) (G : xb_EV) (p0 : Nat) (k0 : Nat) (r1 : Nat) (r2 : Nat) (r3 : Nat) (pd : Value) (pl : Value) (pr : Value) (c0 : Nat) : xb_CTT l y_TypeFinder_Parser_question b_TypeFinder_Parser_question 4 (some (.object "TypeFinder$Node")) rm_question G [] [.ref p0, .ref c0, .int 0] [(p0, .inr (1, [.ref k0, pd, pl, pr])), (k0, .inr (2, [.ref r1, .ref r2, .ref r3, .int 0, .int 0])), (r1, .inl (G.2.1 0, 81, .inl (fun _ => 0))), (r2, .inl (G.2.1 1, 81, .inr (.inl (fun _ => 0))))] := by
  refine xb_CTT.of (by decide) "TypeFinder$Parser" rfl ?_ (Nat.le_of_ble_eq_true rfl)
  intro p e s m args below meth c A ls had F hno hlk h hl hA
  have hx := F.1.1
  have hb := F.1.2.1
  have hml := F.1.2.2.1
  have hown := F.1.2.2.2.1
  have hts := F.1.2.2.2.2
  have hK := F.2.1
  refine lv_aload_n (pc := 0) hx hb d_TypeFinder_Parser_question_0 rfl (lv_at hl 0 rfl) ?_
  refine xb_get (pc := 1) F h cf_1 0 rfl 0 (by decide) rfl k_185 (Or.inl rfl) rfl d_TypeFinder_Parser_question_1 ?_
  refine lv_aload_n (pc := 4) hx hb d_TypeFinder_Parser_question_4 rfl (lv_at hl 1 rfl) ?_
  refine lv_iload_n (pc := 5) hx hb d_TypeFinder_Parser_question_5 rfl (lv_at hl 2 rfl) ?_
  refine xb_callV (pc := 6) (rm := rm_read) (wr := [(p0, .inr (1, [.ref k0, pd, pl, pr]))]) F h (ct_read l G k0 r1 r2 r3 c0) 2 (va_recv hK h.1 (q0 := 1) (ci := 2) rfl rfl) k_311 k_143 k_312 k_313 k_314 hd_TypeFinder_Tokens_read (by decide) [1, 2, 3] [0] rfl rfl (by decide) (by decide) (by decide) xb_ss0 hl.1 rfl rfl (Nat.le_of_ble_eq_true rfl) (by decide) d_TypeFinder_Parser_question_6 (fun u H locs hu h => ?_)
  have h : xb_W G A s [(p0, .inr (1, [.ref k0, pd, pl, pr])), (k0, .inr (2, [.ref r1, .ref r2, .ref r3, .int 1, .int 0])), (r1, .inl (G.2.1 0, 81, .inl (upd (fun _ => 0) (Int32.toNatClampNeg 0) 0))), (r2, .inl (G.2.1 1, 81, .inr (.inl (vp_updL (fun _ => 0) (Int32.toNatClampNeg 0) 0))))] _ _ := h
  refine W.widen (k := 0) (n := 0) (by decide) (by decide) ?_
  refine W.eq (g2 := F0 m 9 ls []) rfl ?_
  refine lv_aload_n (pc := 9) hx hb d_TypeFinder_Parser_question_9 rfl (lv_at hl 0 rfl) ?_
  refine lv_iconst (pc := 10) (v := 0) hx hb d_TypeFinder_Parser_question_10 (by decide) ?_
  exact xb_throwV (pc := 11) (rm := rm_expression) (rm0 := rm_question) (rest := []) F hlk hno hA h (ct_expression l hst G p0 k0 r1 r2 r3 pd pl pr) 1 (va_recv hK h.1 (q0 := 0) (ci := 1) rfl rfl) k_343 k_202 k_344 k_345 k_346 hd_TypeFinder_Parser_expression (by decide) [0, 1, 2] rfl (by decide) xb_ss0 hl.1 rfl rfl (Nat.le_of_ble_eq_true rfl) (by decide) (by decide) d_TypeFinder_Parser_question_11
abbrev rm_declare : Room := { frames := 11, cells := 1, slots := 6, locals := 213 }
set_option maxHeartbeats 4000000 in
set_option maxRecDepth 100000 in
theorem ct_declare (l : Launch) (hst : ∀ e : Env, l.admits e → e.platform.stackTraces = false) (G : xb_EV) (h0 : Nat) (c0 : Nat) (p0 : Nat) (k0 : Nat) (r1 : Nat) (r2 : Nat) (r3 : Nat) (pd : Value) (pl : Value) (pr : Value) (t2 : Value) (t3 : Value) (t4 : Value) (t7 : Value) (t8 : Value) : xb_CTT l y_TypeFinder_declare b_TypeFinder_declare 3 (some .int) rm_declare G [] [.ref h0] [(h0, .inr (0, [.ref c0, .ref p0, t2, t3, t4, .int 0, .int 0, t7, t8])), (p0, .inr (1, [.ref k0, pd, pl, pr])), (k0, .inr (2, [.ref r1, .ref r2, .ref r3, .int 0, .int 0])), (r1, .inl (G.2.1 0, 81, .inl (fun _ => 0))), (r2, .inl (G.2.1 1, 81, .inr (.inl (fun _ => 0))))] := by
  refine xb_CTT.of (by decide) "TypeFinder" rfl ?_ (Nat.le_of_ble_eq_true rfl)
  intro p e s m args below meth c A ls had F hno hlk h hl hA
  have hx := F.1.1
  have hb := F.1.2.1
  have hml := F.1.2.2.1
  have hown := F.1.2.2.2.1
  have hts := F.1.2.2.2.2
  have hK := F.2.1
  refine lv_aload_n (pc := 0) hx hb d_TypeFinder_declare_0 rfl (lv_at hl 0 rfl) ?_
  refine xb_get (pc := 1) F h cf_0 0 rfl 6 (by decide) rfl k_295 (Or.inl rfl) rfl d_TypeFinder_declare_1 ?_
  refine lv_bipush (pc := 4) (v := 60) hx hb d_TypeFinder_declare_4 (by decide) ?_
  refine lv_icmp_lt (pc := 6) (tgt := 12) hx hb d_TypeFinder_declare_6 (by decide) (fun _ => ?_) (fun h => absurd (by decide) h)
  refine lv_aload_n (pc := 12) hx hb d_TypeFinder_declare_12 rfl (lv_at hl 0 rfl) ?_
  refine xb_get (pc := 13) F h cf_0 0 rfl 1 (by decide) rfl k_206 (Or.inl rfl) rfl d_TypeFinder_declare_13 ?_
  refine lv_aload_n (pc := 16) hx hb d_TypeFinder_declare_16 rfl (lv_at hl 0 rfl) ?_
  refine xb_get (pc := 17) F h cf_0 0 rfl 0 (by decide) rfl k_199 (Or.inl rfl) rfl d_TypeFinder_declare_17 ?_
  refine lv_aload_n (pc := 20) hx hb d_TypeFinder_declare_20 rfl (lv_at hl 0 rfl) ?_
  refine xb_callV (pc := 21) (rm := rm_takeDraft) (wr := [(p0, .inr (1, [.ref k0, pd, pl, pr])), (k0, .inr (2, [.ref r1, .ref r2, .ref r3, .int 0, .int 0])), (r1, .inl (G.2.1 0, 81, .inl (fun _ => 0))), (r2, .inl (G.2.1 1, 81, .inr (.inl (fun _ => 0))))]) F h (ct_takeDraft l G h0 (.ref c0) (.ref p0) t2 t3 t4 t7 t8) 0 (va_recv hK h.1 (q0 := 0) (ci := 0) rfl rfl) k_347 k_348 k_349 k_350 k_351 hd_TypeFinder_takeDraft (by decide) [0] [1, 2, 3, 4] rfl rfl (by decide) (by decide) (by decide) xb_ss0 hl.1 rfl rfl (Nat.le_of_ble_eq_true rfl) (by decide) d_TypeFinder_declare_21 (fun u H locs hu h => ?_)
  have h : xb_W G A s [(p0, .inr (1, [.ref k0, pd, pl, pr])), (k0, .inr (2, [.ref r1, .ref r2, .ref r3, .int 0, .int 0])), (r1, .inl (G.2.1 0, 81, .inl (fun _ => 0))), (r2, .inl (G.2.1 1, 81, .inr (.inl (fun _ => 0)))), (h0, .inr (0, [.ref c0, .ref p0, t2, t3, t4, .int 0, .int 1, t7, t8]))] _ _ := h
  refine W.widen (k := 0) (n := 0) (by decide) (by decide) ?_
  refine W.eq (g2 := F0 m 24 ls [.int 0, .ref c0, .ref p0]) rfl ?_
  exact xb_throwV (pc := 24) (rm := rm_declaration) (rm0 := rm_declare) (rest := []) F hlk hno hA h (ct_declaration l hst G p0 k0 r1 r2 r3 pd pl pr c0) 2 (va_recv hK h.1 (q0 := 0) (ci := 1) rfl rfl) k_352 k_202 k_353 k_354 k_355 hd_TypeFinder_Parser_declaration (by decide) [0, 1, 2, 3] rfl (by decide) xb_ss0 hl.1 rfl rfl (Nat.le_of_ble_eq_true rfl) (by decide) (by decide) d_TypeFinder_declare_24
abbrev rm_ask : Room := { frames := 14, cells := 1, slots := 6, locals := 280 }
set_option maxHeartbeats 4000000 in
set_option maxRecDepth 100000 in
theorem ct_ask (l : Launch) (hst : ∀ e : Env, l.admits e → e.platform.stackTraces = false) (G : xb_EV) (h0 : Nat) (c0 : Nat) (p0 : Nat) (k0 : Nat) (r1 : Nat) (r2 : Nat) (r3 : Nat) (pd : Value) (pl : Value) (pr : Value) (t2 : Value) (t3 : Value) (t4 : Value) (t7 : Value) (t8 : Value) : xb_CTT l y_TypeFinder_ask b_TypeFinder_ask 3 (some .int) rm_ask G [] [.ref h0] [(h0, .inr (0, [.ref c0, .ref p0, t2, t3, t4, .int 0, .int 0, t7, t8])), (p0, .inr (1, [.ref k0, pd, pl, pr])), (k0, .inr (2, [.ref r1, .ref r2, .ref r3, .int 0, .int 0])), (r1, .inl (G.2.1 0, 81, .inl (fun _ => 0))), (r2, .inl (G.2.1 1, 81, .inr (.inl (fun _ => 0))))] := by
  refine xb_CTT.of (by decide) "TypeFinder" rfl ?_ (Nat.le_of_ble_eq_true rfl)
  intro p e s m args below meth c A ls had F hno hlk h hl hA
  have hx := F.1.1
  have hb := F.1.2.1
  have hml := F.1.2.2.1
  have hown := F.1.2.2.2.1
  have hts := F.1.2.2.2.2
  have hK := F.2.1
  refine lv_aload_n (pc := 0) hx hb d_TypeFinder_ask_0 rfl (lv_at hl 0 rfl) ?_
  refine xb_get (pc := 1) F h cf_0 0 rfl 6 (by decide) rfl k_295 (Or.inl rfl) rfl d_TypeFinder_ask_1 ?_
  refine lv_bipush (pc := 4) (v := 60) hx hb d_TypeFinder_ask_4 (by decide) ?_
  refine lv_icmp_lt (pc := 6) (tgt := 12) hx hb d_TypeFinder_ask_6 (by decide) (fun _ => ?_) (fun h => absurd (by decide) h)
  refine lv_aload_n (pc := 12) hx hb d_TypeFinder_ask_12 rfl (lv_at hl 0 rfl) ?_
  refine xb_get (pc := 13) F h cf_0 0 rfl 1 (by decide) rfl k_206 (Or.inl rfl) rfl d_TypeFinder_ask_13 ?_
  refine lv_aload_n (pc := 16) hx hb d_TypeFinder_ask_16 rfl (lv_at hl 0 rfl) ?_
  refine xb_get (pc := 17) F h cf_0 0 rfl 0 (by decide) rfl k_199 (Or.inl rfl) rfl d_TypeFinder_ask_17 ?_
  refine lv_aload_n (pc := 20) hx hb d_TypeFinder_ask_20 rfl (lv_at hl 0 rfl) ?_
  refine xb_callV (pc := 21) (rm := rm_takeDraft) (wr := [(p0, .inr (1, [.ref k0, pd, pl, pr])), (k0, .inr (2, [.ref r1, .ref r2, .ref r3, .int 0, .int 0])), (r1, .inl (G.2.1 0, 81, .inl (fun _ => 0))), (r2, .inl (G.2.1 1, 81, .inr (.inl (fun _ => 0))))]) F h (ct_takeDraft l G h0 (.ref c0) (.ref p0) t2 t3 t4 t7 t8) 0 (va_recv hK h.1 (q0 := 0) (ci := 0) rfl rfl) k_347 k_348 k_349 k_350 k_351 hd_TypeFinder_takeDraft (by decide) [0] [1, 2, 3, 4] rfl rfl (by decide) (by decide) (by decide) xb_ss0 hl.1 rfl rfl (Nat.le_of_ble_eq_true rfl) (by decide) d_TypeFinder_ask_21 (fun u H locs hu h => ?_)
  have h : xb_W G A s [(p0, .inr (1, [.ref k0, pd, pl, pr])), (k0, .inr (2, [.ref r1, .ref r2, .ref r3, .int 0, .int 0])), (r1, .inl (G.2.1 0, 81, .inl (fun _ => 0))), (r2, .inl (G.2.1 1, 81, .inr (.inl (fun _ => 0)))), (h0, .inr (0, [.ref c0, .ref p0, t2, t3, t4, .int 0, .int 1, t7, t8]))] _ _ := h
  refine W.widen (k := 0) (n := 0) (by decide) (by decide) ?_
  refine W.eq (g2 := F0 m 24 ls [.int 0, .ref c0, .ref p0]) rfl ?_
  exact xb_throwV (pc := 24) (rm := rm_question) (rm0 := rm_ask) (rest := []) F hlk hno hA h (ct_question l hst G p0 k0 r1 r2 r3 pd pl pr c0) 2 (va_recv hK h.1 (q0 := 0) (ci := 1) rfl rfl) k_356 k_202 k_357 k_358 k_359 hd_TypeFinder_Parser_question (by decide) [0, 1, 2, 3] rfl (by decide) xb_ss0 hl.1 rfl rfl (Nat.le_of_ble_eq_true rfl) (by decide) (by decide) d_TypeFinder_ask_24
