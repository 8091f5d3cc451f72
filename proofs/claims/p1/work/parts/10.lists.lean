abbrev rm_AbstractCollection_init : Room := { frames := 1, cells := 0, slots := 0, locals := 30 }
set_option maxHeartbeats 4000000 in
set_option maxRecDepth 100000 in
theorem ct_AbstractCollection_init (l : Launch) (G : xb_EV) (h0 : Nat) : xb_CT l y_AbstractCollection_init b_AbstractCollection_init 1 none rm_AbstractCollection_init G [] [.ref h0] [(h0, .inr (11, [.int 0, .null, .int 0]))] (S := Unit) (fun _ => none) (fun _ => True) (fun _ => [(h0, .inr (11, [.int 0, .null, .int 0]))]) := by
  refine xb_CT.of (by decide) "java/util/AbstractCollection" rfl ?_ (Nat.le_of_ble_eq_true rfl)
  intro p e s m args below meth c A ls Q F hr hlk hnm h hl hA hQ
  have hx := F.1.1
  have hb := F.1.2.1
  have hml := F.1.2.2.1
  have hown := F.1.2.2.2.1
  have hts := F.1.2.2.2.2
  have hK := F.2.1
  refine lv_aload_n (pc := 0) hx hb d_AbstractCollection_init_0 rfl (lv_at hl 0 rfl) ?_
  refine W.objInit hx hb hown (hts _ k_24) (hts _ k_25) (hts _ k_26) rfl (by rw [hml]; exact hl.1) rfl d_AbstractCollection_init_1 (Nat.le_of_ble_eq_true rfl) (Nat.le_of_ble_eq_true rfl) ?_
  refine W.eq (g2 := F0 m 4 ls []) rfl ?_
  exact xb_vret (pc := 4) (rm := rm_AbstractCollection_init) F hr hlk hA hQ h () trivial rfl [0] (by decide) rfl (by decide) (by decide) d_AbstractCollection_init_4
abbrev rm_AbstractList_init : Room := { frames := 2, cells := 0, slots := 0, locals := 50 }
set_option maxHeartbeats 4000000 in
set_option maxRecDepth 100000 in
theorem ct_AbstractList_init (l : Launch) (G : xb_EV) (h0 : Nat) : xb_CT l y_AbstractList_init b_AbstractList_init 1 none rm_AbstractList_init G [] [.ref h0] [(h0, .inr (11, [.int 0, .null, .int 0]))] (S := Unit) (fun _ => none) (fun _ => True) (fun _ => [(h0, .inr (11, [.int 0, .null, .int 0]))]) := by
  refine xb_CT.of (by decide) "java/util/AbstractList" rfl ?_ (Nat.le_of_ble_eq_true rfl)
  intro p e s m args below meth c A ls Q F hr hlk hnm h hl hA hQ
  have hx := F.1.1
  have hb := F.1.2.1
  have hml := F.1.2.2.1
  have hown := F.1.2.2.2.1
  have hts := F.1.2.2.2.2
  have hK := F.2.1
  refine lv_aload_n (pc := 0) hx hb d_AbstractList_init_0 rfl (lv_at hl 0 rfl) ?_
  refine xb_callI (pc := 1) (rm := rm_AbstractCollection_init) (wr := []) F h (ct_AbstractCollection_init l G h0) 0 k_27 k_28 k_29 k_30 rfl hd_AbstractCollection_init (by decide) [0] [] rfl rfl (by decide) (by decide) (by decide) xb_ss0 hl.1 rfl rfl (Nat.le_of_ble_eq_true rfl) (by decide) d_AbstractList_init_1 (fun u H locs hu h => ?_)
  have h : xb_W G A s [(h0, .inr (11, [.int 0, .null, .int 0]))] _ _ := h
  refine W.widen (k := 0) (n := 0) (by decide) (by decide) ?_
  refine W.eq (g2 := F0 m 4 ls []) rfl ?_
  refine lv_aload_n (pc := 4) hx hb d_AbstractList_init_4 rfl (lv_at hl 0 rfl) ?_
  refine lv_iconst (pc := 5) (v := 0) hx hb d_AbstractList_init_5 (by decide) ?_
  refine xb_put (pc := 6) (t0 := .int) (ws' := [(h0, .inr (11, [.int 0, .null, .int 0]))]) F h cf_11 0 rfl 0 (by decide) rfl k_31 (Or.inl rfl) (by decide +kernel) rfl rfl (Nat.le_of_ble_eq_true rfl) rfl d_AbstractList_init_6 (fun H locs h => ?_)
  exact xb_vret (pc := 9) (rm := rm_AbstractList_init) F hr hlk hA hQ h () trivial rfl [0] (by decide) rfl (by decide) (by decide) d_AbstractList_init_9
abbrev rm_ArrayList_init : Room := { frames := 3, cells := 0, slots := 0, locals := 70 }
set_option maxHeartbeats 4000000 in
set_option maxRecDepth 100000 in
theorem ct_ArrayList_init (l : Launch) (G : xb_EV) (h0 : Nat) : xb_CT l y_ArrayList_init b_ArrayList_init 1 none rm_ArrayList_init G [] [.ref h0] [(h0, .inr (11, [.int 0, .null, .int 0]))] (S := Unit) (fun _ => none) (fun _ => True) (fun _ => [(h0, .inr (11, [.int 0, .ref (G.2.2.1), .int 0]))]) := by
  refine xb_CT.of (by decide) "java/util/ArrayList" rfl ?_ (Nat.le_of_ble_eq_true rfl)
  intro p e s m args below meth c A ls Q F hr hlk hnm h hl hA hQ
  have hx := F.1.1
  have hb := F.1.2.1
  have hml := F.1.2.2.1
  have hown := F.1.2.2.2.1
  have hts := F.1.2.2.2.2
  have hK := F.2.1
  refine lv_aload_n (pc := 0) hx hb d_ArrayList_init_0 rfl (lv_at hl 0 rfl) ?_
  refine xb_callI (pc := 1) (rm := rm_AbstractList_init) (wr := []) F h (ct_AbstractList_init l G h0) 0 k_32 k_33 k_34 k_35 rfl hd_AbstractList_init (by decide) [0] [] rfl rfl (by decide) (by decide) (by decide) xb_ss0 hl.1 rfl rfl (Nat.le_of_ble_eq_true rfl) (by decide) d_ArrayList_init_1 (fun u H locs hu h => ?_)
  have h : xb_W G A s [(h0, .inr (11, [.int 0, .null, .int 0]))] _ _ := h
  refine W.widen (k := 0) (n := 0) (by decide) (by decide) ?_
  refine W.eq (g2 := F0 m 4 ls []) rfl ?_
  refine lv_aload_n (pc := 4) hx hb d_ArrayList_init_4 rfl (lv_at hl 0 rfl) ?_
  refine va_gets (pc := 5) hx hb (F.2.2.2.1.1) h.2.2 hown (hts _ k_36) (fun _ h => h) d_ArrayList_init_5 ?_
  refine xb_put (pc := 8) (t0 := (.array (.object "java/lang/Object"))) (ws' := [(h0, .inr (11, [.int 0, .ref (G.2.2.1), .int 0]))]) F h cf_11 0 rfl 1 (by decide) rfl k_37 (Or.inl rfl) (by decide +kernel) rfl rfl (Nat.le_of_ble_eq_true rfl) rfl d_ArrayList_init_8 (fun H locs h => ?_)
  exact xb_vret (pc := 11) (rm := rm_ArrayList_init) F hr hlk hA hQ h () trivial rfl [0] (by decide) rfl (by decide) (by decide) d_ArrayList_init_11
abbrev rm_AL_grow1 : Room := { frames := 1, cells := 1, slots := 10, locals := 30 }
set_option maxHeartbeats 4000000 in
set_option maxRecDepth 100000 in
theorem ct_AL_grow1 (l : Launch) (G : xb_EV) (h0 : Nat) (mc : Int32) : xb_CT l y_ArrayList_grow b_ArrayList_grow 4 (some (.array (.object "java/lang/Object"))) rm_AL_grow1 G [] [.ref h0, .int 1] [(h0, .inr (11, [.int mc, .ref (G.2.2.1), .int 0]))] (S := Nat) (fun u => some (.ref u)) (fun _ => True) (fun u => [(h0, .inr (11, [.int mc, .ref u, .int 0])), (u, .inl (G.2.1 5, 10, .inr (.inr (.inr (.inr (fun _ => none))))))]) := by
  refine xb_CT.of (by decide) "java/util/ArrayList" rfl ?_ (Nat.le_of_ble_eq_true rfl)
  intro p e s m args below meth c A ls Q F hr hlk hnm h hl hA hQ
  have hx := F.1.1
  have hb := F.1.2.1
  have hml := F.1.2.2.1
  have hown := F.1.2.2.2.1
  have hts := F.1.2.2.2.2
  have hK := F.2.1
  refine lv_aload_n (pc := 0) hx hb d_ArrayList_grow_0 rfl (lv_at hl 0 rfl) ?_
  refine xb_get (pc := 1) F h cf_11 0 rfl 1 (by decide) rfl k_37 (Or.inl rfl) rfl d_ArrayList_grow_1 ?_
  refine va_tlen (pc := 4) (v := 0) hx hb F.2.2.2.1.2.1 h.2.2 (by first | rfl | decide) d_ArrayList_grow_4 ?_
  refine lv_istore_n (pc := 5) (lv' := [(2, .int 0), (0, .ref h0), (1, .int 1)]) hx hb d_ArrayList_grow_5 rfl hl (by decide) rfl (fun ls hl => ?_)
  refine lv_iload_n (pc := 6) hx hb d_ArrayList_grow_6 rfl (lv_at hl 0 rfl) ?_
  refine lv_if_gt (pc := 7) (tgt := 20) hx hb d_ArrayList_grow_7 (by decide) (fun h => absurd h (by decide)) (fun _ => ?_)
  refine lv_aload_n (pc := 10) hx hb d_ArrayList_grow_10 rfl (lv_at hl 1 rfl) ?_
  refine xb_get (pc := 11) F h cf_11 0 rfl 1 (by decide) rfl k_37 (Or.inl rfl) rfl d_ArrayList_grow_11 ?_
  refine va_gets (pc := 14) hx hb (F.2.2.2.1.1) h.2.2 hown (hts _ k_36) (fun _ h => h) d_ArrayList_grow_14 ?_
  refine lv_acmp_eq (pc := 17) (rx := (some (G.2.2.1))) (ry := (some (G.2.2.1))) (tgt := 45) hx hb d_ArrayList_grow_17 (by decide) (fun _ => ?_) (fun h => absurd (rfl) h)
  refine lv_aload_n (pc := 45) hx hb d_ArrayList_grow_45 rfl (lv_at hl 1 rfl) ?_
  refine lv_bipush (pc := 46) (v := 10) hx hb d_ArrayList_grow_46 (by decide) ?_
  refine lv_iload_n (pc := 48) hx hb d_ArrayList_grow_48 rfl (lv_at hl 2 rfl) ?_
  refine va_mmax (pc := 49) hx hb (by rw [hml]; exact hl.1.symm) hown (hts _ k_38) (hts _ k_39) (hts _ k_40) (hts _ k_41) (Nat.le_of_ble_eq_true rfl) (Nat.le_of_ble_eq_true rfl) (by decide) (by decide) d_ArrayList_grow_49 ?_
  refine lv_topi (fun y ey => ?_)
  obtain rfl : y = 10 := ey.trans (by decide)
  refine xb_newq (pc := 52) (N' := 10) (ws' := fun q52_1 => [(h0, .inr (11, [.int mc, .ref (G.2.2.1), .int 0])), (q52_1, .inl (G.2.1 5, 10, .inr (.inr (.inr (.inr (fun _ => none))))))]) F h k_42 (by decide) (by decide) (by decide) (fun _ => rfl) (by decide) (by decide) d_ArrayList_grow_52 (fun q52_1 H h => ?_)
  refine lv_dup_x1 (pc := 55) hx hb d_ArrayList_grow_55 rfl rfl ?_
  refine xb_put (pc := 56) (t0 := (.array (.object "java/lang/Object"))) (ws' := [(h0, .inr (11, [.int mc, .ref q52_1, .int 0])), (q52_1, .inl (G.2.1 5, 10, .inr (.inr (.inr (.inr (fun _ => none))))))]) F h cf_11 0 rfl 1 (by decide) rfl k_37 (Or.inl rfl) (by decide +kernel) rfl rfl (Nat.le_of_ble_eq_true rfl) rfl d_ArrayList_grow_56 (fun H locs h => ?_)
  exact xb_aret (pc := 59) (rm := rm_AL_grow1) F hr (by first | exact Or.inl ⟨_, rfl⟩ | exact Or.inr ⟨_, rfl⟩) (by first | exact Or.inl rfl | exact Or.inr ⟨_, rfl⟩) hlk hA hQ h q52_1 trivial rfl [0, 1] (by decide) rfl (by decide) (by decide) d_ArrayList_grow_59
abbrev rm_AL_grow0 : Room := { frames := 2, cells := 1, slots := 10, locals := 53 }
set_option maxHeartbeats 4000000 in
set_option maxRecDepth 100000 in
theorem ct_AL_grow0 (l : Launch) (G : xb_EV) (h0 : Nat) (mc : Int32) : xb_CT l y_ArrayList_grow2 b_ArrayList_grow2 1 (some (.array (.object "java/lang/Object"))) rm_AL_grow0 G [] [.ref h0] [(h0, .inr (11, [.int mc, .ref (G.2.2.1), .int 0]))] (S := Nat) (fun u => some (.ref u)) (fun _ => True) (fun u => [(h0, .inr (11, [.int mc, .ref u, .int 0])), (u, .inl (G.2.1 5, 10, .inr (.inr (.inr (.inr (fun _ => none))))))]) := by
  refine xb_CT.of (by decide) "java/util/ArrayList" rfl ?_ (Nat.le_of_ble_eq_true rfl)
  intro p e s m args below meth c A ls Q F hr hlk hnm h hl hA hQ
  have hx := F.1.1
  have hb := F.1.2.1
  have hml := F.1.2.2.1
  have hown := F.1.2.2.2.1
  have hts := F.1.2.2.2.2
  have hK := F.2.1
  refine lv_aload_n (pc := 0) hx hb d_ArrayList_grow2_0 rfl (lv_at hl 0 rfl) ?_
  refine lv_aload_n (pc := 1) hx hb d_ArrayList_grow2_1 rfl (lv_at hl 0 rfl) ?_
  refine xb_get (pc := 2) F h cf_11 0 rfl 2 (by decide) rfl k_43 (Or.inl rfl) rfl d_ArrayList_grow2_2 ?_
  refine lv_iconst (pc := 5) (v := 1) hx hb d_ArrayList_grow2_5 (by decide) ?_
  refine lv_iadd (pc := 6) hx hb d_ArrayList_grow2_6 ?_
  refine lv_topi (fun y ey => ?_)
  obtain rfl : y = 1 := ey.trans (by decide)
  refine xb_callV (pc := 7) (rm := rm_AL_grow1) (wr := []) F h (ct_AL_grow1 l G h0 mc) 1 (va_recv hK h.1 (q0 := 0) (ci := 11) rfl rfl) k_44 k_45 k_46 k_47 k_48 hd_ArrayList_grow (by decide) [0] [] rfl rfl (by decide) (by decide) (by decide) xb_ss0 hl.1 rfl rfl (Nat.le_of_ble_eq_true rfl) (by decide) d_ArrayList_grow2_7 (fun u H locs hu h => ?_)
  obtain ⟨q7_1, rfl⟩ : ∃ z, z = u := ⟨_, rfl⟩
  have h : xb_W G A s [(h0, .inr (11, [.int mc, .ref q7_1, .int 0])), (q7_1, .inl (G.2.1 5, 10, .inr (.inr (.inr (.inr (fun _ => none))))))] _ _ := h
  refine W.widen (k := 1) (n := 10) (by decide) (by decide) ?_
  refine W.eq (g2 := F0 m 10 ls [.ref q7_1]) rfl ?_
  exact xb_aret (pc := 10) (rm := rm_AL_grow0) F hr (by first | exact Or.inl ⟨_, rfl⟩ | exact Or.inr ⟨_, rfl⟩) (by first | exact Or.inl rfl | exact Or.inr ⟨_, rfl⟩) hlk hA hQ h q7_1 trivial rfl [0, 1] (by decide) rfl (by decide) (by decide) d_ArrayList_grow2_10
abbrev rm_AL_addp_Name_0 : Room := { frames := 3, cells := 1, slots := 10, locals := 73 }
set_option maxHeartbeats 4000000 in
set_option maxRecDepth 100000 in
theorem ct_AL_addp_Name_0 (l : Launch) (G : xb_EV) (h0 : Nat) (v0 : Nat) (mc : Int32) (f0 : Value) (f1 : Value) (f2 : Value) : xb_CT l y_ArrayList_add b_ArrayList_add 4 none rm_AL_addp_Name_0 G [] [.ref h0, .ref v0, .ref (G.2.2.1), .int 0] [(h0, .inr (11, [.int mc, .ref (G.2.2.1), .int 0])), (v0, .inr (7, [f0, f1, f2]))] (S := Nat) (fun _ => none) (fun _ => True) (fun u => [(v0, .inr (7, [f0, f1, f2])), (h0, .inr (11, [.int mc, .ref u, .int 1])), (u, .inl (G.2.1 5, 10, .inr (.inr (.inr (.inr (va_up (fun _ => none) (Int32.toNatClampNeg 0) (some v0)))))))]) := by
  refine xb_CT.of (by decide) "java/util/ArrayList" rfl ?_ (Nat.le_of_ble_eq_true rfl)
  intro p e s m args below meth c A ls Q F hr hlk hnm h hl hA hQ
  have hx := F.1.1
  have hb := F.1.2.1
  have hml := F.1.2.2.1
  have hown := F.1.2.2.2.1
  have hts := F.1.2.2.2.2
  have hK := F.2.1
  refine lv_iload_n (pc := 0) hx hb d_ArrayList_add_0 rfl (lv_at hl 3 rfl) ?_
  refine lv_aload_n (pc := 1) hx hb d_ArrayList_add_1 rfl (lv_at hl 2 rfl) ?_
  refine va_tlen (pc := 2) (v := 0) hx hb F.2.2.2.1.2.1 h.2.2 (by first | rfl | decide) d_ArrayList_add_2 ?_
  refine lv_icmp_ne (pc := 3) (tgt := 11) hx hb d_ArrayList_add_3 (by decide) (fun h => absurd (by decide) h) (fun _ => ?_)
  refine lv_aload_n (pc := 6) hx hb d_ArrayList_add_6 rfl (lv_at hl 0 rfl) ?_
  refine xb_callV (pc := 7) (rm := rm_AL_grow0) (wr := [(v0, .inr (7, [f0, f1, f2]))]) F h (ct_AL_grow0 l G h0 mc) 0 (va_recv hK h.1 (q0 := 0) (ci := 11) rfl rfl) k_49 k_45 k_50 k_51 k_52 hd_ArrayList_grow2 (by decide) [0] [1] rfl rfl (by decide) (by decide) (by decide) xb_ss0 hl.1 rfl rfl (Nat.le_of_ble_eq_true rfl) (by decide) d_ArrayList_add_7 (fun u H locs hu h => ?_)
  obtain ⟨q7_1, rfl⟩ : ∃ z, z = u := ⟨_, rfl⟩
  have h : xb_W G A s [(v0, .inr (7, [f0, f1, f2])), (h0, .inr (11, [.int mc, .ref q7_1, .int 0])), (q7_1, .inl (G.2.1 5, 10, .inr (.inr (.inr (.inr (fun _ => none))))))] _ _ := h
  refine W.widen (k := 1) (n := 10) (by decide) (by decide) ?_
  refine W.eq (g2 := F0 m 10 ls [.ref q7_1]) rfl ?_
  refine lv_astore_n (pc := 10) (lv' := [(2, .ref q7_1), (0, .ref h0), (1, .ref v0), (3, .int 0)]) hx hb d_ArrayList_add_10 rfl hl (by decide) rfl (fun ls hl => ?_)
  refine lv_aload_n (pc := 11) hx hb d_ArrayList_add_11 rfl (lv_at hl 0 rfl) ?_
  refine lv_iload_n (pc := 12) hx hb d_ArrayList_add_12 rfl (lv_at hl 3 rfl) ?_
  refine lv_aload_n (pc := 13) hx hb d_ArrayList_add_13 rfl (lv_at hl 2 rfl) ?_
  refine xb_aast (pc := 14) (ws' := [(v0, .inr (7, [f0, f1, f2])), (h0, .inr (11, [.int mc, .ref q7_1, .int 0])), (q7_1, .inl (G.2.1 5, 10, .inr (.inr (.inr (.inr (va_up (fun _ => none) (Int32.toNatClampNeg 0) (some v0)))))))]) F h 2 0 rfl (by decide) rfl rfl (by unfold vp_in; decide) rfl d_ArrayList_add_14 (fun H locs h => ?_)
  refine lv_aload_n (pc := 15) hx hb d_ArrayList_add_15 rfl (lv_at hl 1 rfl) ?_
  refine lv_iload_n (pc := 16) hx hb d_ArrayList_add_16 rfl (lv_at hl 3 rfl) ?_
  refine lv_iconst (pc := 17) (v := 1) hx hb d_ArrayList_add_17 (by decide) ?_
  refine lv_iadd (pc := 18) hx hb d_ArrayList_add_18 ?_
  refine lv_topi (fun y ey => ?_)
  obtain rfl : y = 1 := ey.trans (by decide)
  refine xb_put (pc := 19) (t0 := .int) (ws' := [(v0, .inr (7, [f0, f1, f2])), (h0, .inr (11, [.int mc, .ref q7_1, .int 1])), (q7_1, .inl (G.2.1 5, 10, .inr (.inr (.inr (.inr (va_up (fun _ => none) (Int32.toNatClampNeg 0) (some v0)))))))]) F h cf_11 1 rfl 2 (by decide) rfl k_43 (Or.inl rfl) (by decide +kernel) rfl rfl (Nat.le_of_ble_eq_true rfl) rfl d_ArrayList_add_19 (fun H locs h => ?_)
  exact xb_vret (pc := 22) (rm := rm_AL_addp_Name_0) F hr hlk hA hQ h q7_1 trivial rfl [0, 1, 2] (by decide) rfl (by decide) (by decide) d_ArrayList_add_22
abbrev rm_AL_add_Name_0 : Room := { frames := 4, cells := 1, slots := 10, locals := 96 }
set_option maxHeartbeats 4000000 in
set_option maxRecDepth 100000 in
theorem ct_AL_add_Name_0 (l : Launch) (G : xb_EV) (h0 : Nat) (v0 : Nat) (mc : Int32) (f0 : Value) (f1 : Value) (f2 : Value) : xb_CT l y_ArrayList_add2 b_ArrayList_add2 2 (some .boolean) rm_AL_add_Name_0 G [] [.ref h0, .ref v0] [(h0, .inr (11, [.int mc, .ref (G.2.2.1), .int 0])), (v0, .inr (7, [f0, f1, f2]))] (S := Nat) (fun _ => some (.int 1)) (fun _ => True) (fun u => [(v0, .inr (7, [f0, f1, f2])), (h0, .inr (11, [.int (mc + 1), .ref u, .int 1])), (u, .inl (G.2.1 5, 10, .inr (.inr (.inr (.inr (va_up (fun _ => none) (Int32.toNatClampNeg 0) (some v0)))))))]) := by
  refine xb_CT.of (by decide) "java/util/ArrayList" rfl ?_ (Nat.le_of_ble_eq_true rfl)
  intro p e s m args below meth c A ls Q F hr hlk hnm h hl hA hQ
  have hx := F.1.1
  have hb := F.1.2.1
  have hml := F.1.2.2.1
  have hown := F.1.2.2.2.1
  have hts := F.1.2.2.2.2
  have hK := F.2.1
  refine lv_aload_n (pc := 0) hx hb d_ArrayList_add2_0 rfl (lv_at hl 0 rfl) ?_
  refine lv_dup (pc := 1) hx hb d_ArrayList_add2_1 rfl ?_
  refine xb_get (pc := 2) F h cf_11 0 rfl 0 (by decide) rfl k_54 (Or.inr k_53) rfl d_ArrayList_add2_2 ?_
  refine lv_iconst (pc := 5) (v := 1) hx hb d_ArrayList_add2_5 (by decide) ?_
  refine lv_iadd (pc := 6) hx hb d_ArrayList_add2_6 ?_
  refine xb_put (pc := 7) (t0 := .int) (ws' := [(h0, .inr (11, [.int (mc + 1), .ref (G.2.2.1), .int 0])), (v0, .inr (7, [f0, f1, f2]))]) F h cf_11 0 rfl 0 (by decide) rfl k_54 (Or.inr k_53) (by decide +kernel) rfl rfl (Nat.le_of_ble_eq_true rfl) rfl d_ArrayList_add2_7 (fun H locs h => ?_)
  refine lv_aload_n (pc := 10) hx hb d_ArrayList_add2_10 rfl (lv_at hl 0 rfl) ?_
  refine lv_aload_n (pc := 11) hx hb d_ArrayList_add2_11 rfl (lv_at hl 1 rfl) ?_
  refine lv_aload_n (pc := 12) hx hb d_ArrayList_add2_12 rfl (lv_at hl 0 rfl) ?_
  refine xb_get (pc := 13) F h cf_11 0 rfl 1 (by decide) rfl k_37 (Or.inl rfl) rfl d_ArrayList_add2_13 ?_
  refine lv_aload_n (pc := 16) hx hb d_ArrayList_add2_16 rfl (lv_at hl 0 rfl) ?_
  refine xb_get (pc := 17) F h cf_11 0 rfl 2 (by decide) rfl k_43 (Or.inl rfl) rfl d_ArrayList_add2_17 ?_
  refine xb_callV (pc := 20) (rm := rm_AL_addp_Name_0) (wr := []) F h (ct_AL_addp_Name_0 l G h0 v0 (mc + 1) f0 f1 f2) 3 (va_recv hK h.1 (q0 := 0) (ci := 11) rfl rfl) k_55 k_45 k_56 k_57 k_58 hd_ArrayList_add (by decide) [0, 1] [] rfl rfl (by decide) (by decide) (by decide) xb_ss0 hl.1 rfl rfl (Nat.le_of_ble_eq_true rfl) (by decide) d_ArrayList_add2_20 (fun u H locs hu h => ?_)
  obtain ⟨q20_1, rfl⟩ : ∃ z, z = u := ⟨_, rfl⟩
  have h : xb_W G A s [(v0, .inr (7, [f0, f1, f2])), (h0, .inr (11, [.int (mc + 1), .ref q20_1, .int 1])), (q20_1, .inl (G.2.1 5, 10, .inr (.inr (.inr (.inr (va_up (fun _ => none) (Int32.toNatClampNeg 0) (some v0)))))))] _ _ := h
  refine W.widen (k := 1) (n := 10) (by decide) (by decide) ?_
  refine W.eq (g2 := F0 m 23 ls []) rfl ?_
  refine lv_iconst (pc := 23) (v := 1) hx hb d_ArrayList_add2_23 (by decide) ?_
  exact xb_zret (pc := 24) (rm := rm_AL_add_Name_0) F hr hlk (by decide) hA hQ h q20_1 trivial rfl [0, 1, 2] (by decide) rfl (by decide) (by decide) d_ArrayList_add2_24
abbrev rm_AL_addp_Name_1 : Room := { frames := 0, cells := 0, slots := 0, locals := 30 }
set_option maxHeartbeats 4000000 in
set_option maxRecDepth 100000 in
theorem ct_AL_addp_Name_1 (l : Launch) (G : xb_EV) (h0 : Nat) (r0 : Nat) (v0 : Nat) (mc : Int32) (fr : Nat → Option Nat) (f0 : Value) (f1 : Value) (f2 : Value) : xb_CT l y_ArrayList_add b_ArrayList_add 4 none rm_AL_addp_Name_1 G [] [.ref h0, .ref v0, .ref r0, .int 1] [(h0, .inr (11, [.int mc, .ref r0, .int 1])), (r0, .inl (G.2.1 5, 10, .inr (.inr (.inr (.inr (fr)))))), (v0, .inr (7, [f0, f1, f2]))] (S := Unit) (fun _ => none) (fun _ => True) (fun _ => [(h0, .inr (11, [.int mc, .ref r0, .int 2])), (r0, .inl (G.2.1 5, 10, .inr (.inr (.inr (.inr (va_up (fr) (Int32.toNatClampNeg 1) (some v0))))))), (v0, .inr (7, [f0, f1, f2]))]) := by
  refine xb_CT.of (by decide) "java/util/ArrayList" rfl ?_ (Nat.le_of_ble_eq_true rfl)
  intro p e s m args below meth c A ls Q F hr hlk hnm h hl hA hQ
  have hx := F.1.1
  have hb := F.1.2.1
  have hml := F.1.2.2.1
  have hown := F.1.2.2.2.1
  have hts := F.1.2.2.2.2
  have hK := F.2.1
  refine lv_iload_n (pc := 0) hx hb d_ArrayList_add_0 rfl (lv_at hl 3 rfl) ?_
  refine lv_aload_n (pc := 1) hx hb d_ArrayList_add_1 rfl (lv_at hl 2 rfl) ?_
  refine va_alen (pc := 2) (v := 10) hx hb hK h.1 1 5 rfl rfl (by first | rfl | decide) d_ArrayList_add_2 ?_
  refine lv_icmp_ne (pc := 3) (tgt := 11) hx hb d_ArrayList_add_3 (by decide) (fun _ => ?_) (fun h => absurd h (by decide))
  refine lv_aload_n (pc := 11) hx hb d_ArrayList_add_11 rfl (lv_at hl 2 rfl) ?_
  refine lv_iload_n (pc := 12) hx hb d_ArrayList_add_12 rfl (lv_at hl 3 rfl) ?_
  refine lv_aload_n (pc := 13) hx hb d_ArrayList_add_13 rfl (lv_at hl 1 rfl) ?_
  refine xb_aast (pc := 14) (ws' := [(h0, .inr (11, [.int mc, .ref r0, .int 1])), (r0, .inl (G.2.1 5, 10, .inr (.inr (.inr (.inr (va_up (fr) (Int32.toNatClampNeg 1) (some v0))))))), (v0, .inr (7, [f0, f1, f2]))]) F h 1 2 rfl (by decide) rfl rfl (by unfold vp_in; decide) rfl d_ArrayList_add_14 (fun H locs h => ?_)
  refine lv_aload_n (pc := 15) hx hb d_ArrayList_add_15 rfl (lv_at hl 0 rfl) ?_
  refine lv_iload_n (pc := 16) hx hb d_ArrayList_add_16 rfl (lv_at hl 3 rfl) ?_
  refine lv_iconst (pc := 17) (v := 1) hx hb d_ArrayList_add_17 (by decide) ?_
  refine lv_iadd (pc := 18) hx hb d_ArrayList_add_18 ?_
  refine lv_topi (fun y ey => ?_)
  obtain rfl : y = 2 := ey.trans (by decide)
  refine xb_put (pc := 19) (t0 := .int) (ws' := [(h0, .inr (11, [.int mc, .ref r0, .int 2])), (r0, .inl (G.2.1 5, 10, .inr (.inr (.inr (.inr (va_up (fr) (Int32.toNatClampNeg 1) (some v0))))))), (v0, .inr (7, [f0, f1, f2]))]) F h cf_11 0 rfl 2 (by decide) rfl k_43 (Or.inl rfl) (by decide +kernel) rfl rfl (Nat.le_of_ble_eq_true rfl) rfl d_ArrayList_add_19 (fun H locs h => ?_)
  exact xb_vret (pc := 22) (rm := rm_AL_addp_Name_1) F hr hlk hA hQ h () trivial rfl [0, 1, 2] (by decide) rfl (by decide) (by decide) d_ArrayList_add_22
abbrev rm_AL_add_Name_1 : Room := { frames := 1, cells := 0, slots := 0, locals := 53 }
set_option maxHeartbeats 4000000 in
set_option maxRecDepth 100000 in
theorem ct_AL_add_Name_1 (l : Launch) (G : xb_EV) (h0 : Nat) (r0 : Nat) (v0 : Nat) (mc : Int32) (fr : Nat → Option Nat) (f0 : Value) (f1 : Value) (f2 : Value) : xb_CT l y_ArrayList_add2 b_ArrayList_add2 2 (some .boolean) rm_AL_add_Name_1 G [] [.ref h0, .ref v0] [(h0, .inr (11, [.int mc, .ref r0, .int 1])), (r0, .inl (G.2.1 5, 10, .inr (.inr (.inr (.inr (fr)))))), (v0, .inr (7, [f0, f1, f2]))] (S := Unit) (fun _ => some (.int 1)) (fun _ => True) (fun _ => [(h0, .inr (11, [.int (mc + 1), .ref r0, .int 2])), (r0, .inl (G.2.1 5, 10, .inr (.inr (.inr (.inr (va_up (fr) (Int32.toNatClampNeg 1) (some v0))))))), (v0, .inr (7, [f0, f1, f2]))]) := by
  refine xb_CT.of (by decide) "java/util/ArrayList" rfl ?_ (Nat.le_of_ble_eq_true rfl)
  intro p e s m args below meth c A ls Q F hr hlk hnm h hl hA hQ
  have hx := F.1.1
  have hb := F.1.2.1
  have hml := F.1.2.2.1
  have hown := F.1.2.2.2.1
  have hts := F.1.2.2.2.2
  have hK := F.2.1
  refine lv_aload_n (pc := 0) hx hb d_ArrayList_add2_0 rfl (lv_at hl 0 rfl) ?_
  refine lv_dup (pc := 1) hx hb d_ArrayList_add2_1 rfl ?_
  refine xb_get (pc := 2) F h cf_11 0 rfl 0 (by decide) rfl k_54 (Or.inr k_53) rfl d_ArrayList_add2_2 ?_
  refine lv_iconst (pc := 5) (v := 1) hx hb d_ArrayList_add2_5 (by decide) ?_
  refine lv_iadd (pc := 6) hx hb d_ArrayList_add2_6 ?_
  refine xb_put (pc := 7) (t0 := .int) (ws' := [(h0, .inr (11, [.int (mc + 1), .ref r0, .int 1])), (r0, .inl (G.2.1 5, 10, .inr (.inr (.inr (.inr (fr)))))), (v0, .inr (7, [f0, f1, f2]))]) F h cf_11 0 rfl 0 (by decide) rfl k_54 (Or.inr k_53) (by decide +kernel) rfl rfl (Nat.le_of_ble_eq_true rfl) rfl d_ArrayList_add2_7 (fun H locs h => ?_)
  refine lv_aload_n (pc := 10) hx hb d_ArrayList_add2_10 rfl (lv_at hl 0 rfl) ?_
  refine lv_aload_n (pc := 11) hx hb d_ArrayList_add2_11 rfl (lv_at hl 1 rfl) ?_
  refine lv_aload_n (pc := 12) hx hb d_ArrayList_add2_12 rfl (lv_at hl 0 rfl) ?_
  refine xb_get (pc := 13) F h cf_11 0 rfl 1 (by decide) rfl k_37 (Or.inl rfl) rfl d_ArrayList_add2_13 ?_
  refine lv_aload_n (pc := 16) hx hb d_ArrayList_add2_16 rfl (lv_at hl 0 rfl) ?_
  refine xb_get (pc := 17) F h cf_11 0 rfl 2 (by decide) rfl k_43 (Or.inl rfl) rfl d_ArrayList_add2_17 ?_
  refine xb_callV (pc := 20) (rm := rm_AL_addp_Name_1) (wr := []) F h (ct_AL_addp_Name_1 l G h0 r0 v0 (mc + 1) fr f0 f1 f2) 3 (va_recv hK h.1 (q0 := 0) (ci := 11) rfl rfl) k_55 k_45 k_56 k_57 k_58 hd_ArrayList_add (by decide) [0, 1, 2] [] rfl rfl (by decide) (by decide) (by decide) xb_ss0 hl.1 rfl rfl (Nat.le_of_ble_eq_true rfl) (by decide) d_ArrayList_add2_20 (fun u H locs hu h => ?_)
  have h : xb_W G A s [(h0, .inr (11, [.int (mc + 1), .ref r0, .int 2])), (r0, .inl (G.2.1 5, 10, .inr (.inr (.inr (.inr (va_up (fr) (Int32.toNatClampNeg 1) (some v0))))))), (v0, .inr (7, [f0, f1, f2]))] _ _ := h
  refine W.widen (k := 0) (n := 0) (by decide) (by decide) ?_
  refine W.eq (g2 := F0 m 23 ls []) rfl ?_
  refine lv_iconst (pc := 23) (v := 1) hx hb d_ArrayList_add2_23 (by decide) ?_
  exact xb_zret (pc := 24) (rm := rm_AL_add_Name_1) F hr hlk (by decide) hA hQ h () trivial rfl [0, 1, 2] (by decide) rfl (by decide) (by decide) d_ArrayList_add2_24
abbrev rm_AL_addp_Name_2 : Room := { frames := 0, cells := 0, slots := 0, locals := 30 }
set_option maxHeartbeats 4000000 in
set_option maxRecDepth 100000 in
theorem ct_AL_addp_Name_2 (l : Launch) (G : xb_EV) (h0 : Nat) (r0 : Nat) (v0 : Nat) (mc : Int32) (fr : Nat → Option Nat) (f0 : Value) (f1 : Value) (f2 : Value) : xb_CT l y_ArrayList_add b_ArrayList_add 4 none rm_AL_addp_Name_2 G [] [.ref h0, .ref v0, .ref r0, .int 2] [(h0, .inr (11, [.int mc, .ref r0, .int 2])), (r0, .inl (G.2.1 5, 10, .inr (.inr (.inr (.inr (fr)))))), (v0, .inr (7, [f0, f1, f2]))] (S := Unit) (fun _ => none) (fun _ => True) (fun _ => [(h0, .inr (11, [.int mc, .ref r0, .int 3])), (r0, .inl (G.2.1 5, 10, .inr (.inr (.inr (.inr (va_up (fr) (Int32.toNatClampNeg 2) (some v0))))))), (v0, .inr (7, [f0, f1, f2]))]) := by
  refine xb_CT.of (by decide) "java/util/ArrayList" rfl ?_ (Nat.le_of_ble_eq_true rfl)
  intro p e s m args below meth c A ls Q F hr hlk hnm h hl hA hQ
  have hx := F.1.1
  have hb := F.1.2.1
  have hml := F.1.2.2.1
  have hown := F.1.2.2.2.1
  have hts := F.1.2.2.2.2
  have hK := F.2.1
  refine lv_iload_n (pc := 0) hx hb d_ArrayList_add_0 rfl (lv_at hl 3 rfl) ?_
  refine lv_aload_n (pc := 1) hx hb d_ArrayList_add_1 rfl (lv_at hl 2 rfl) ?_
  refine va_alen (pc := 2) (v := 10) hx hb hK h.1 1 5 rfl rfl (by first | rfl | decide) d_ArrayList_add_2 ?_
  refine lv_icmp_ne (pc := 3) (tgt := 11) hx hb d_ArrayList_add_3 (by decide) (fun _ => ?_) (fun h => absurd h (by decide))
  refine lv_aload_n (pc := 11) hx hb d_ArrayList_add_11 rfl (lv_at hl 2 rfl) ?_
  refine lv_iload_n (pc := 12) hx hb d_ArrayList_add_12 rfl (lv_at hl 3 rfl) ?_
  refine lv_aload_n (pc := 13) hx hb d_ArrayList_add_13 rfl (lv_at hl 1 rfl) ?_
  refine xb_aast (pc := 14) (ws' := [(h0, .inr (11, [.int mc, .ref r0, .int 2])), (r0, .inl (G.2.1 5, 10, .inr (.inr (.inr (.inr (va_up (fr) (Int32.toNatClampNeg 2) (some v0))))))), (v0, .inr (7, [f0, f1, f2]))]) F h 1 2 rfl (by decide) rfl rfl (by unfold vp_in; decide) rfl d_ArrayList_add_14 (fun H locs h => ?_)
  refine lv_aload_n (pc := 15) hx hb d_ArrayList_add_15 rfl (lv_at hl 0 rfl) ?_
  refine lv_iload_n (pc := 16) hx hb d_ArrayList_add_16 rfl (lv_at hl 3 rfl) ?_
  refine lv_iconst (pc := 17) (v := 1) hx hb d_ArrayList_add_17 (by decide) ?_
  refine lv_iadd (pc := 18) hx hb d_ArrayList_add_18 ?_
  refine lv_topi (fun y ey => ?_)
  obtain rfl : y = 3 := ey.trans (by decide)
  refine xb_put (pc := 19) (t0 := .int) (ws' := [(h0, .inr (11, [.int mc, .ref r0, .int 3])), (r0, .inl (G.2.1 5, 10, .inr (.inr (.inr (.inr (va_up (fr) (Int32.toNatClampNeg 2) (some v0))))))), (v0, .inr (7, [f0, f1, f2]))]) F h cf_11 0 rfl 2 (by decide) rfl k_43 (Or.inl rfl) (by decide +kernel) rfl rfl (Nat.le_of_ble_eq_true rfl) rfl d_ArrayList_add_19 (fun H locs h => ?_)
  exact xb_vret (pc := 22) (rm := rm_AL_addp_Name_2) F hr hlk hA hQ h () trivial rfl [0, 1, 2] (by decide) rfl (by decide) (by decide) d_ArrayList_add_22
abbrev rm_AL_add_Name_2 : Room := { frames := 1, cells := 0, slots := 0, locals := 53 }
set_option maxHeartbeats 4000000 in
set_option maxRecDepth 100000 in
theorem ct_AL_add_Name_2 (l : Launch) (G : xb_EV) (h0 : Nat) (r0 : Nat) (v0 : Nat) (mc : Int32) (fr : Nat → Option Nat) (f0 : Value) (f1 : Value) (f2 : Value) : xb_CT l y_ArrayList_add2 b_ArrayList_add2 2 (some .boolean) rm_AL_add_Name_2 G [] [.ref h0, .ref v0] [(h0, .inr (11, [.int mc, .ref r0, .int 2])), (r0, .inl (G.2.1 5, 10, .inr (.inr (.inr (.inr (fr)))))), (v0, .inr (7, [f0, f1, f2]))] (S := Unit) (fun _ => some (.int 1)) (fun _ => True) (fun _ => [(h0, .inr (11, [.int (mc + 1), .ref r0, .int 3])), (r0, .inl (G.2.1 5, 10, .inr (.inr (.inr (.inr (va_up (fr) (Int32.toNatClampNeg 2) (some v0))))))), (v0, .inr (7, [f0, f1, f2]))]) := by
  refine xb_CT.of (by decide) "java/util/ArrayList" rfl ?_ (Nat.le_of_ble_eq_true rfl)
  intro p e s m args below meth c A ls Q F hr hlk hnm h hl hA hQ
  have hx := F.1.1
  have hb := F.1.2.1
  have hml := F.1.2.2.1
  have hown := F.1.2.2.2.1
  have hts := F.1.2.2.2.2
  have hK := F.2.1
  refine lv_aload_n (pc := 0) hx hb d_ArrayList_add2_0 rfl (lv_at hl 0 rfl) ?_
  refine lv_dup (pc := 1) hx hb d_ArrayList_add2_1 rfl ?_
  refine xb_get (pc := 2) F h cf_11 0 rfl 0 (by decide) rfl k_54 (Or.inr k_53) rfl d_ArrayList_add2_2 ?_
  refine lv_iconst (pc := 5) (v := 1) hx hb d_ArrayList_add2_5 (by decide) ?_
  refine lv_iadd (pc := 6) hx hb d_ArrayList_add2_6 ?_
  refine xb_put (pc := 7) (t0 := .int) (ws' := [(h0, .inr (11, [.int (mc + 1), .ref r0, .int 2])), (r0, .inl (G.2.1 5, 10, .inr (.inr (.inr (.inr (fr)))))), (v0, .inr (7, [f0, f1, f2]))]) F h cf_11 0 rfl 0 (by decide) rfl k_54 (Or.inr k_53) (by decide +kernel) rfl rfl (Nat.le_of_ble_eq_true rfl) rfl d_ArrayList_add2_7 (fun H locs h => ?_)
  refine lv_aload_n (pc := 10) hx hb d_ArrayList_add2_10 rfl (lv_at hl 0 rfl) ?_
  refine lv_aload_n (pc := 11) hx hb d_ArrayList_add2_11 rfl (lv_at hl 1 rfl) ?_
  refine lv_aload_n (pc := 12) hx hb d_ArrayList_add2_12 rfl (lv_at hl 0 rfl) ?_
  refine xb_get (pc := 13) F h cf_11 0 rfl 1 (by decide) rfl k_37 (Or.inl rfl) rfl d_ArrayList_add2_13 ?_
  refine lv_aload_n (pc := 16) hx hb d_ArrayList_add2_16 rfl (lv_at hl 0 rfl) ?_
  refine xb_get (pc := 17) F h cf_11 0 rfl 2 (by decide) rfl k_43 (Or.inl rfl) rfl d_ArrayList_add2_17 ?_
  refine xb_callV (pc := 20) (rm := rm_AL_addp_Name_2) (wr := []) F h (ct_AL_addp_Name_2 l G h0 r0 v0 (mc + 1) fr f0 f1 f2) 3 (va_recv hK h.1 (q0 := 0) (ci := 11) rfl rfl) k_55 k_45 k_56 k_57 k_58 hd_ArrayList_add (by decide) [0, 1, 2] [] rfl rfl (by decide) (by decide) (by decide) xb_ss0 hl.1 rfl rfl (Nat.le_of_ble_eq_true rfl) (by decide) d_ArrayList_add2_20 (fun u H locs hu h => ?_)
  have h : xb_W G A s [(h0, .inr (11, [.int (mc + 1), .ref r0, .int 3])), (r0, .inl (G.2.1 5, 10, .inr (.inr (.inr (.inr (va_up (fr) (Int32.toNatClampNeg 2) (some v0))))))), (v0, .inr (7, [f0, f1, f2]))] _ _ := h
  refine W.widen (k := 0) (n := 0) (by decide) (by decide) ?_
  refine W.eq (g2 := F0 m 23 ls []) rfl ?_
  refine lv_iconst (pc := 23) (v := 1) hx hb d_ArrayList_add2_23 (by decide) ?_
  exact xb_zret (pc := 24) (rm := rm_AL_add_Name_2) F hr hlk (by decide) hA hQ h () trivial rfl [0, 1, 2] (by decide) rfl (by decide) (by decide) d_ArrayList_add2_24
abbrev rm_AL_addp_Name_3 : Room := { frames := 0, cells := 0, slots := 0, locals := 30 }
set_option maxHeartbeats 4000000 in
set_option maxRecDepth 100000 in
theorem ct_AL_addp_Name_3 (l : Launch) (G : xb_EV) (h0 : Nat) (r0 : Nat) (v0 : Nat) (mc : Int32) (fr : Nat → Option Nat) (f0 : Value) (f1 : Value) (f2 : Value) : xb_CT l y_ArrayList_add b_ArrayList_add 4 none rm_AL_addp_Name_3 G [] [.ref h0, .ref v0, .ref r0, .int 3] [(h0, .inr (11, [.int mc, .ref r0, .int 3])), (r0, .inl (G.2.1 5, 10, .inr (.inr (.inr (.inr (fr)))))), (v0, .inr (7, [f0, f1, f2]))] (S := Unit) (fun _ => none) (fun _ => True) (fun _ => [(h0, .inr (11, [.int mc, .ref r0, .int 4])), (r0, .inl (G.2.1 5, 10, .inr (.inr (.inr (.inr (va_up (fr) (Int32.toNatClampNeg 3) (some v0))))))), (v0, .inr (7, [f0, f1, f2]))]) := by
  refine xb_CT.of (by decide) "java/util/ArrayList" rfl ?_ (Nat.le_of_ble_eq_true rfl)
  intro p e s m args below meth c A ls Q F hr hlk hnm h hl hA hQ
  have hx := F.1.1
  have hb := F.1.2.1
  have hml := F.1.2.2.1
  have hown := F.1.2.2.2.1
  have hts := F.1.2.2.2.2
  have hK := F.2.1
  refine lv_iload_n (pc := 0) hx hb d_ArrayList_add_0 rfl (lv_at hl 3 rfl) ?_
  refine lv_aload_n (pc := 1) hx hb d_ArrayList_add_1 rfl (lv_at hl 2 rfl) ?_
  refine va_alen (pc := 2) (v := 10) hx hb hK h.1 1 5 rfl rfl (by first | rfl | decide) d_ArrayList_add_2 ?_
  refine lv_icmp_ne (pc := 3) (tgt := 11) hx hb d_ArrayList_add_3 (by decide) (fun _ => ?_) (fun h => absurd h (by decide))
  refine lv_aload_n (pc := 11) hx hb d_ArrayList_add_11 rfl (lv_at hl 2 rfl) ?_
  refine lv_iload_n (pc := 12) hx hb d_ArrayList_add_12 rfl (lv_at hl 3 rfl) ?_
  refine lv_aload_n (pc := 13) hx hb d_ArrayList_add_13 rfl (lv_at hl 1 rfl) ?_
  refine xb_aast (pc := 14) (ws' := [(h0, .inr (11, [.int mc, .ref r0, .int 3])), (r0, .inl (G.2.1 5, 10, .inr (.inr (.inr (.inr (va_up (fr) (Int32.toNatClampNeg 3) (some v0))))))), (v0, .inr (7, [f0, f1, f2]))]) F h 1 2 rfl (by decide) rfl rfl (by unfold vp_in; decide) rfl d_ArrayList_add_14 (fun H locs h => ?_)
  refine lv_aload_n (pc := 15) hx hb d_ArrayList_add_15 rfl (lv_at hl 0 rfl) ?_
  refine lv_iload_n (pc := 16) hx hb d_ArrayList_add_16 rfl (lv_at hl 3 rfl) ?_
  refine lv_iconst (pc := 17) (v := 1) hx hb d_ArrayList_add_17 (by decide) ?_
  refine lv_iadd (pc := 18) hx hb d_ArrayList_add_18 ?_
  refine lv_topi (fun y ey => ?_)
  obtain rfl : y = 4 := ey.trans (by decide)
  refine xb_put (pc := 19) (t0 := .int) (ws' := [(h0, .inr (11, [.int mc, .ref r0, .int 4])), (r0, .inl (G.2.1 5, 10, .inr (.inr (.inr (.inr (va_up (fr) (Int32.toNatClampNeg 3) (some v0))))))), (v0, .inr (7, [f0, f1, f2]))]) F h cf_11 0 rfl 2 (by decide) rfl k_43 (Or.inl rfl) (by decide +kernel) rfl rfl (Nat.le_of_ble_eq_true rfl) rfl d_ArrayList_add_19 (fun H locs h => ?_)
  exact xb_vret (pc := 22) (rm := rm_AL_addp_Name_3) F hr hlk hA hQ h () trivial rfl [0, 1, 2] (by decide) rfl (by decide) (by decide) d_ArrayList_add_22
abbrev rm_AL_add_Name_3 : Room := { frames := 1, cells := 0, slots := 0, locals := 53 }
set_option maxHeartbeats 4000000 in
set_option maxRecDepth 100000 in
theorem ct_AL_add_Name_3 (l : Launch) (G : xb_EV) (h0 : Nat) (r0 : Nat) (v0 : Nat) (mc : Int32) (fr : Nat → Option Nat) (f0 : Value) (f1 : Value) (f2 : Value) : xb_CT l y_ArrayList_add2 b_ArrayList_add2 2 (some .boolean) rm_AL_add_Name_3 G [] [.ref h0, .ref v0] [(h0, .inr (11, [.int mc, .ref r0, .int 3])), (r0, .inl (G.2.1 5, 10, .inr (.inr (.inr (.inr (fr)))))), (v0, .inr (7, [f0, f1, f2]))] (S := Unit) (fun _ => some (.int 1)) (fun _ => True) (fun _ => [(h0, .inr (11, [.int (mc + 1), .ref r0, .int 4])), (r0, .inl (G.2.1 5, 10, .inr (.inr (.inr (.inr (va_up (fr) (Int32.toNatClampNeg 3) (some v0))))))), (v0, .inr (7, [f0, f1, f2]))]) := by
  refine xb_CT.of (by decide) "java/util/ArrayList" rfl ?_ (Nat.le_of_ble_eq_true rfl)
  intro p e s m args below meth c A ls Q F hr hlk hnm h hl hA hQ
  have hx := F.1.1
  have hb := F.1.2.1
  have hml := F.1.2.2.1
  have hown := F.1.2.2.2.1
  have hts := F.1.2.2.2.2
  have hK := F.2.1
  refine lv_aload_n (pc := 0) hx hb d_ArrayList_add2_0 rfl (lv_at hl 0 rfl) ?_
  refine lv_dup (pc := 1) hx hb d_ArrayList_add2_1 rfl ?_
  refine xb_get (pc := 2) F h cf_11 0 rfl 0 (by decide) rfl k_54 (Or.inr k_53) rfl d_ArrayList_add2_2 ?_
  refine lv_iconst (pc := 5) (v := 1) hx hb d_ArrayList_add2_5 (by decide) ?_
  refine lv_iadd (pc := 6) hx hb d_ArrayList_add2_6 ?_
  refine xb_put (pc := 7) (t0 := .int) (ws' := [(h0, .inr (11, [.int (mc + 1), .ref r0, .int 3])), (r0, .inl (G.2.1 5, 10, .inr (.inr (.inr (.inr (fr)))))), (v0, .inr (7, [f0, f1, f2]))]) F h cf_11 0 rfl 0 (by decide) rfl k_54 (Or.inr k_53) (by decide +kernel) rfl rfl (Nat.le_of_ble_eq_true rfl) rfl d_ArrayList_add2_7 (fun H locs h => ?_)
  refine lv_aload_n (pc := 10) hx hb d_ArrayList_add2_10 rfl (lv_at hl 0 rfl) ?_
  refine lv_aload_n (pc := 11) hx hb d_ArrayList_add2_11 rfl (lv_at hl 1 rfl) ?_
  refine lv_aload_n (pc := 12) hx hb d_ArrayList_add2_12 rfl (lv_at hl 0 rfl) ?_
  refine xb_get (pc := 13) F h cf_11 0 rfl 1 (by decide) rfl k_37 (Or.inl rfl) rfl d_ArrayList_add2_13 ?_
  refine lv_aload_n (pc := 16) hx hb d_ArrayList_add2_16 rfl (lv_at hl 0 rfl) ?_
  refine xb_get (pc := 17) F h cf_11 0 rfl 2 (by decide) rfl k_43 (Or.inl rfl) rfl d_ArrayList_add2_17 ?_
  refine xb_callV (pc := 20) (rm := rm_AL_addp_Name_3) (wr := []) F h (ct_AL_addp_Name_3 l G h0 r0 v0 (mc + 1) fr f0 f1 f2) 3 (va_recv hK h.1 (q0 := 0) (ci := 11) rfl rfl) k_55 k_45 k_56 k_57 k_58 hd_ArrayList_add (by decide) [0, 1, 2] [] rfl rfl (by decide) (by decide) (by decide) xb_ss0 hl.1 rfl rfl (Nat.le_of_ble_eq_true rfl) (by decide) d_ArrayList_add2_20 (fun u H locs hu h => ?_)
  have h : xb_W G A s [(h0, .inr (11, [.int (mc + 1), .ref r0, .int 4])), (r0, .inl (G.2.1 5, 10, .inr (.inr (.inr (.inr (va_up (fr) (Int32.toNatClampNeg 3) (some v0))))))), (v0, .inr (7, [f0, f1, f2]))] _ _ := h
  refine W.widen (k := 0) (n := 0) (by decide) (by decide) ?_
  refine W.eq (g2 := F0 m 23 ls []) rfl ?_
  refine lv_iconst (pc := 23) (v := 1) hx hb d_ArrayList_add2_23 (by decide) ?_
  exact xb_zret (pc := 24) (rm := rm_AL_add_Name_3) F hr hlk (by decide) hA hQ h () trivial rfl [0, 1, 2] (by decide) rfl (by decide) (by decide) d_ArrayList_add2_24
abbrev rm_AL_addp_Name_4 : Room := { frames := 0, cells := 0, slots := 0, locals := 30 }
set_option maxHeartbeats 4000000 in
set_option maxRecDepth 100000 in
theorem ct_AL_addp_Name_4 (l : Launch) (G : xb_EV) (h0 : Nat) (r0 : Nat) (v0 : Nat) (mc : Int32) (fr : Nat → Option Nat) (f0 : Value) (f1 : Value) (f2 : Value) : xb_CT l y_ArrayList_add b_ArrayList_add 4 none rm_AL_addp_Name_4 G [] [.ref h0, .ref v0, .ref r0, .int 4] [(h0, .inr (11, [.int mc, .ref r0, .int 4])), (r0, .inl (G.2.1 5, 10, .inr (.inr (.inr (.inr (fr)))))), (v0, .inr (7, [f0, f1, f2]))] (S := Unit) (fun _ => none) (fun _ => True) (fun _ => [(h0, .inr (11, [.int mc, .ref r0, .int 5])), (r0, .inl (G.2.1 5, 10, .inr (.inr (.inr (.inr (va_up (fr) (Int32.toNatClampNeg 4) (some v0))))))), (v0, .inr (7, [f0, f1, f2]))]) := by
  refine xb_CT.of (by decide) "java/util/ArrayList" rfl ?_ (Nat.le_of_ble_eq_true rfl)
  intro p e s m args below meth c A ls Q F hr hlk hnm h hl hA hQ
  have hx := F.1.1
  have hb := F.1.2.1
  have hml := F.1.2.2.1
  have hown := F.1.2.2.2.1
  have hts := F.1.2.2.2.2
  have hK := F.2.1
  refine lv_iload_n (pc := 0) hx hb d_ArrayList_add_0 rfl (lv_at hl 3 rfl) ?_
  refine lv_aload_n (pc := 1) hx hb d_ArrayList_add_1 rfl (lv_at hl 2 rfl) ?_
  refine va_alen (pc := 2) (v := 10) hx hb hK h.1 1 5 rfl rfl (by first | rfl | decide) d_ArrayList_add_2 ?_
  refine lv_icmp_ne (pc := 3) (tgt := 11) hx hb d_ArrayList_add_3 (by decide) (fun _ => ?_) (fun h => absurd h (by decide))
  refine lv_aload_n (pc := 11) hx hb d_ArrayList_add_11 rfl (lv_at hl 2 rfl) ?_
  refine lv_iload_n (pc := 12) hx hb d_ArrayList_add_12 rfl (lv_at hl 3 rfl) ?_
  refine lv_aload_n (pc := 13) hx hb d_ArrayList_add_13 rfl (lv_at hl 1 rfl) ?_
  refine xb_aast (pc := 14) (ws' := [(h0, .inr (11, [.int mc, .ref r0, .int 4])), (r0, .inl (G.2.1 5, 10, .inr (.inr (.inr (.inr (va_up (fr) (Int32.toNatClampNeg 4) (some v0))))))), (v0, .inr (7, [f0, f1, f2]))]) F h 1 2 rfl (by decide) rfl rfl (by unfold vp_in; decide) rfl d_ArrayList_add_14 (fun H locs h => ?_)
  refine lv_aload_n (pc := 15) hx hb d_ArrayList_add_15 rfl (lv_at hl 0 rfl) ?_
  refine lv_iload_n (pc := 16) hx hb d_ArrayList_add_16 rfl (lv_at hl 3 rfl) ?_
  refine lv_iconst (pc := 17) (v := 1) hx hb d_ArrayList_add_17 (by decide) ?_
  refine lv_iadd (pc := 18) hx hb d_ArrayList_add_18 ?_
  refine lv_topi (fun y ey => ?_)
  obtain rfl : y = 5 := ey.trans (by decide)
  refine xb_put (pc := 19) (t0 := .int) (ws' := [(h0, .inr (11, [.int mc, .ref r0, .int 5])), (r0, .inl (G.2.1 5, 10, .inr (.inr (.inr (.inr (va_up (fr) (Int32.toNatClampNeg 4) (some v0))))))), (v0, .inr (7, [f0, f1, f2]))]) F h cf_11 0 rfl 2 (by decide) rfl k_43 (Or.inl rfl) (by decide +kernel) rfl rfl (Nat.le_of_ble_eq_true rfl) rfl d_ArrayList_add_19 (fun H locs h => ?_)
  exact xb_vret (pc := 22) (rm := rm_AL_addp_Name_4) F hr hlk hA hQ h () trivial rfl [0, 1, 2] (by decide) rfl (by decide) (by decide) d_ArrayList_add_22
abbrev rm_AL_add_Name_4 : Room := { frames := 1, cells := 0, slots := 0, locals := 53 }
set_option maxHeartbeats 4000000 in
set_option maxRecDepth 100000 in
theorem ct_AL_add_Name_4 (l : Launch) (G : xb_EV) (h0 : Nat) (r0 : Nat) (v0 : Nat) (mc : Int32) (fr : Nat → Option Nat) (f0 : Value) (f1 : Value) (f2 : Value) : xb_CT l y_ArrayList_add2 b_ArrayList_add2 2 (some .boolean) rm_AL_add_Name_4 G [] [.ref h0, .ref v0] [(h0, .inr (11, [.int mc, .ref r0, .int 4])), (r0, .inl (G.2.1 5, 10, .inr (.inr (.inr (.inr (fr)))))), (v0, .inr (7, [f0, f1, f2]))] (S := Unit) (fun _ => some (.int 1)) (fun _ => True) (fun _ => [(h0, .inr (11, [.int (mc + 1), .ref r0, .int 5])), (r0, .inl (G.2.1 5, 10, .inr (.inr (.inr (.inr (va_up (fr) (Int32.toNatClampNeg 4) (some v0))))))), (v0, .inr (7, [f0, f1, f2]))]) := by
  refine xb_CT.of (by decide) "java/util/ArrayList" rfl ?_ (Nat.le_of_ble_eq_true rfl)
  intro p e s m args below meth c A ls Q F hr hlk hnm h hl hA hQ
  have hx := F.1.1
  have hb := F.1.2.1
  have hml := F.1.2.2.1
  have hown := F.1.2.2.2.1
  have hts := F.1.2.2.2.2
  have hK := F.2.1
  refine lv_aload_n (pc := 0) hx hb d_ArrayList_add2_0 rfl (lv_at hl 0 rfl) ?_
  refine lv_dup (pc := 1) hx hb d_ArrayList_add2_1 rfl ?_
  refine xb_get (pc := 2) F h cf_11 0 rfl 0 (by decide) rfl k_54 (Or.inr k_53) rfl d_ArrayList_add2_2 ?_
  refine lv_iconst (pc := 5) (v := 1) hx hb d_ArrayList_add2_5 (by decide) ?_
  refine lv_iadd (pc := 6) hx hb d_ArrayList_add2_6 ?_
  refine xb_put (pc := 7) (t0 := .int) (ws' := [(h0, .inr (11, [.int (mc + 1), .ref r0, .int 4])), (r0, .inl (G.2.1 5, 10, .inr (.inr (.inr (.inr (fr)))))), (v0, .inr (7, [f0, f1, f2]))]) F h cf_11 0 rfl 0 (by decide) rfl k_54 (Or.inr k_53) (by decide +kernel) rfl rfl (Nat.le_of_ble_eq_true rfl) rfl d_ArrayList_add2_7 (fun H locs h => ?_)
  refine lv_aload_n (pc := 10) hx hb d_ArrayList_add2_10 rfl (lv_at hl 0 rfl) ?_
  refine lv_aload_n (pc := 11) hx hb d_ArrayList_add2_11 rfl (lv_at hl 1 rfl) ?_
  refine lv_aload_n (pc := 12) hx hb d_ArrayList_add2_12 rfl (lv_at hl 0 rfl) ?_
  refine xb_get (pc := 13) F h cf_11 0 rfl 1 (by decide) rfl k_37 (Or.inl rfl) rfl d_ArrayList_add2_13 ?_
  refine lv_aload_n (pc := 16) hx hb d_ArrayList_add2_16 rfl (lv_at hl 0 rfl) ?_
  refine xb_get (pc := 17) F h cf_11 0 rfl 2 (by decide) rfl k_43 (Or.inl rfl) rfl d_ArrayList_add2_17 ?_
  refine xb_callV (pc := 20) (rm := rm_AL_addp_Name_4) (wr := []) F h (ct_AL_addp_Name_4 l G h0 r0 v0 (mc + 1) fr f0 f1 f2) 3 (va_recv hK h.1 (q0 := 0) (ci := 11) rfl rfl) k_55 k_45 k_56 k_57 k_58 hd_ArrayList_add (by decide) [0, 1, 2] [] rfl rfl (by decide) (by decide) (by decide) xb_ss0 hl.1 rfl rfl (Nat.le_of_ble_eq_true rfl) (by decide) d_ArrayList_add2_20 (fun u H locs hu h => ?_)
  have h : xb_W G A s [(h0, .inr (11, [.int (mc + 1), .ref r0, .int 5])), (r0, .inl (G.2.1 5, 10, .inr (.inr (.inr (.inr (va_up (fr) (Int32.toNatClampNeg 4) (some v0))))))), (v0, .inr (7, [f0, f1, f2]))] _ _ := h
  refine W.widen (k := 0) (n := 0) (by decide) (by decide) ?_
  refine W.eq (g2 := F0 m 23 ls []) rfl ?_
  refine lv_iconst (pc := 23) (v := 1) hx hb d_ArrayList_add2_23 (by decide) ?_
  exact xb_zret (pc := 24) (rm := rm_AL_add_Name_4) F hr hlk (by decide) hA hQ h () trivial rfl [0, 1, 2] (by decide) rfl (by decide) (by decide) d_ArrayList_add2_24
abbrev rm_AL_addp_Name_5 : Room := { frames := 0, cells := 0, slots := 0, locals := 30 }
set_option maxHeartbeats 4000000 in
set_option maxRecDepth 100000 in
theorem ct_AL_addp_Name_5 (l : Launch) (G : xb_EV) (h0 : Nat) (r0 : Nat) (v0 : Nat) (mc : Int32) (fr : Nat → Option Nat) (f0 : Value) (f1 : Value) (f2 : Value) : xb_CT l y_ArrayList_add b_ArrayList_add 4 none rm_AL_addp_Name_5 G [] [.ref h0, .ref v0, .ref r0, .int 5] [(h0, .inr (11, [.int mc, .ref r0, .int 5])), (r0, .inl (G.2.1 5, 10, .inr (.inr (.inr (.inr (fr)))))), (v0, .inr (7, [f0, f1, f2]))] (S := Unit) (fun _ => none) (fun _ => True) (fun _ => [(h0, .inr (11, [.int mc, .ref r0, .int 6])), (r0, .inl (G.2.1 5, 10, .inr (.inr (.inr (.inr (va_up (fr) (Int32.toNatClampNeg 5) (some v0))))))), (v0, .inr (7, [f0, f1, f2]))]) := by
  refine xb_CT.of (by decide) "java/util/ArrayList" rfl ?_ (Nat.le_of_ble_eq_true rfl)
  intro p e s m args below meth c A ls Q F hr hlk hnm h hl hA hQ
  have hx := F.1.1
  have hb := F.1.2.1
  have hml := F.1.2.2.1
  have hown := F.1.2.2.2.1
  have hts := F.1.2.2.2.2
  have hK := F.2.1
  refine lv_iload_n (pc := 0) hx hb d_ArrayList_add_0 rfl (lv_at hl 3 rfl) ?_
  refine lv_aload_n (pc := 1) hx hb d_ArrayList_add_1 rfl (lv_at hl 2 rfl) ?_
  refine va_alen (pc := 2) (v := 10) hx hb hK h.1 1 5 rfl rfl (by first | rfl | decide) d_ArrayList_add_2 ?_
  refine lv_icmp_ne (pc := 3) (tgt := 11) hx hb d_ArrayList_add_3 (by decide) (fun _ => ?_) (fun h => absurd h (by decide))
  refine lv_aload_n (pc := 11) hx hb d_ArrayList_add_11 rfl (lv_at hl 2 rfl) ?_
  refine lv_iload_n (pc := 12) hx hb d_ArrayList_add_12 rfl (lv_at hl 3 rfl) ?_
  refine lv_aload_n (pc := 13) hx hb d_ArrayList_add_13 rfl (lv_at hl 1 rfl) ?_
  refine xb_aast (pc := 14) (ws' := [(h0, .inr (11, [.int mc, .ref r0, .int 5])), (r0, .inl (G.2.1 5, 10, .inr (.inr (.inr (.inr (va_up (fr) (Int32.toNatClampNeg 5) (some v0))))))), (v0, .inr (7, [f0, f1, f2]))]) F h 1 2 rfl (by decide) rfl rfl (by unfold vp_in; decide) rfl d_ArrayList_add_14 (fun H locs h => ?_)
  refine lv_aload_n (pc := 15) hx hb d_ArrayList_add_15 rfl (lv_at hl 0 rfl) ?_
  refine lv_iload_n (pc := 16) hx hb d_ArrayList_add_16 rfl (lv_at hl 3 rfl) ?_
  refine lv_iconst (pc := 17) (v := 1) hx hb d_ArrayList_add_17 (by decide) ?_
  refine lv_iadd (pc := 18) hx hb d_ArrayList_add_18 ?_
  refine lv_topi (fun y ey => ?_)
  obtain rfl : y = 6 := ey.trans (by decide)
  refine xb_put (pc := 19) (t0 := .int) (ws' := [(h0, .inr (11, [.int mc, .ref r0, .int 6])), (r0, .inl (G.2.1 5, 10, .inr (.inr (.inr (.inr (va_up (fr) (Int32.toNatClampNeg 5) (some v0))))))), (v0, .inr (7, [f0, f1, f2]))]) F h cf_11 0 rfl 2 (by decide) rfl k_43 (Or.inl rfl) (by decide +kernel) rfl rfl (Nat.le_of_ble_eq_true rfl) rfl d_ArrayList_add_19 (fun H locs h => ?_)
  exact xb_vret (pc := 22) (rm := rm_AL_addp_Name_5) F hr hlk hA hQ h () trivial rfl [0, 1, 2] (by decide) rfl (by decide) (by decide) d_ArrayList_add_22
abbrev rm_AL_add_Name_5 : Room := { frames := 1, cells := 0, slots := 0, locals := 53 }
set_option maxHeartbeats 4000000 in
set_option maxRecDepth 100000 in
theorem ct_AL_add_Name_5 (l : Launch) (G : xb_EV) (h0 : Nat) (r0 : Nat) (v0 : Nat) (mc : Int32) (fr : Nat → Option Nat) (f0 : Value) (f1 : Value) (f2 : Value) : xb_CT l y_ArrayList_add2 b_ArrayList_add2 2 (some .boolean) rm_AL_add_Name_5 G [] [.ref h0, .ref v0] [(h0, .inr (11, [.int mc, .ref r0, .int 5])), (r0, .inl (G.2.1 5, 10, .inr (.inr (.inr (.inr (fr)))))), (v0, .inr (7, [f0, f1, f2]))] (S := Unit) (fun _ => some (.int 1)) (fun _ => True) (fun _ => [(h0, .inr (11, [.int (mc + 1), .ref r0, .int 6])), (r0, .inl (G.2.1 5, 10, .inr (.inr (.inr (.inr (va_up (fr) (Int32.toNatClampNeg 5) (some v0))))))), (v0, .inr (7, [f0, f1, f2]))]) := by
  refine xb_CT.of (by decide) "java/util/ArrayList" rfl ?_ (Nat.le_of_ble_eq_true rfl)
  intro p e s m args below meth c A ls Q F hr hlk hnm h hl hA hQ
  have hx := F.1.1
  have hb := F.1.2.1
  have hml := F.1.2.2.1
  have hown := F.1.2.2.2.1
  have hts := F.1.2.2.2.2
  have hK := F.2.1
  refine lv_aload_n (pc := 0) hx hb d_ArrayList_add2_0 rfl (lv_at hl 0 rfl) ?_
  refine lv_dup (pc := 1) hx hb d_ArrayList_add2_1 rfl ?_
  refine xb_get (pc := 2) F h cf_11 0 rfl 0 (by decide) rfl k_54 (Or.inr k_53) rfl d_ArrayList_add2_2 ?_
  refine lv_iconst (pc := 5) (v := 1) hx hb d_ArrayList_add2_5 (by decide) ?_
  refine lv_iadd (pc := 6) hx hb d_ArrayList_add2_6 ?_
  refine xb_put (pc := 7) (t0 := .int) (ws' := [(h0, .inr (11, [.int (mc + 1), .ref r0, .int 5])), (r0, .inl (G.2.1 5, 10, .inr (.inr (.inr (.inr (fr)))))), (v0, .inr (7, [f0, f1, f2]))]) F h cf_11 0 rfl 0 (by decide) rfl k_54 (Or.inr k_53) (by decide +kernel) rfl rfl (Nat.le_of_ble_eq_true rfl) rfl d_ArrayList_add2_7 (fun H locs h => ?_)
  refine lv_aload_n (pc := 10) hx hb d_ArrayList_add2_10 rfl (lv_at hl 0 rfl) ?_
  refine lv_aload_n (pc := 11) hx hb d_ArrayList_add2_11 rfl (lv_at hl 1 rfl) ?_
  refine lv_aload_n (pc := 12) hx hb d_ArrayList_add2_12 rfl (lv_at hl 0 rfl) ?_
  refine xb_get (pc := 13) F h cf_11 0 rfl 1 (by decide) rfl k_37 (Or.inl rfl) rfl d_ArrayList_add2_13 ?_
  refine lv_aload_n (pc := 16) hx hb d_ArrayList_add2_16 rfl (lv_at hl 0 rfl) ?_
  refine xb_get (pc := 17) F h cf_11 0 rfl 2 (by decide) rfl k_43 (Or.inl rfl) rfl d_ArrayList_add2_17 ?_
  refine xb_callV (pc := 20) (rm := rm_AL_addp_Name_5) (wr := []) F h (ct_AL_addp_Name_5 l G h0 r0 v0 (mc + 1) fr f0 f1 f2) 3 (va_recv hK h.1 (q0 := 0) (ci := 11) rfl rfl) k_55 k_45 k_56 k_57 k_58 hd_ArrayList_add (by decide) [0, 1, 2] [] rfl rfl (by decide) (by decide) (by decide) xb_ss0 hl.1 rfl rfl (Nat.le_of_ble_eq_true rfl) (by decide) d_ArrayList_add2_20 (fun u H locs hu h => ?_)
  have h : xb_W G A s [(h0, .inr (11, [.int (mc + 1), .ref r0, .int 6])), (r0, .inl (G.2.1 5, 10, .inr (.inr (.inr (.inr (va_up (fr) (Int32.toNatClampNeg 5) (some v0))))))), (v0, .inr (7, [f0, f1, f2]))] _ _ := h
  refine W.widen (k := 0) (n := 0) (by decide) (by decide) ?_
  refine W.eq (g2 := F0 m 23 ls []) rfl ?_
  refine lv_iconst (pc := 23) (v := 1) hx hb d_ArrayList_add2_23 (by decide) ?_
  exact xb_zret (pc := 24) (rm := rm_AL_add_Name_5) F hr hlk (by decide) hA hQ h () trivial rfl [0, 1, 2] (by decide) rfl (by decide) (by decide) d_ArrayList_add2_24
abbrev rm_AL_addp_Data_0 : Room := { frames := 3, cells := 1, slots := 10, locals := 73 }
set_option maxHeartbeats 4000000 in
set_option maxRecDepth 100000 in
theorem ct_AL_addp_Data_0 (l : Launch) (G : xb_EV) (h0 : Nat) (v0 : Nat) (mc : Int32) (f0 : Value) (f1 : Value) (f2 : Value) (f3 : Value) (f4 : Value) : xb_CT l y_ArrayList_add b_ArrayList_add 4 none rm_AL_addp_Data_0 G [] [.ref h0, .ref v0, .ref (G.2.2.1), .int 0] [(h0, .inr (11, [.int mc, .ref (G.2.2.1), .int 0])), (v0, .inr (6, [f0, f1, f2, f3, f4]))] (S := Nat) (fun _ => none) (fun _ => True) (fun u => [(v0, .inr (6, [f0, f1, f2, f3, f4])), (h0, .inr (11, [.int mc, .ref u, .int 1])), (u, .inl (G.2.1 5, 10, .inr (.inr (.inr (.inr (va_up (fun _ => none) (Int32.toNatClampNeg 0) (some v0)))))))]) := by
  refine xb_CT.of (by decide) "java/util/ArrayList" rfl ?_ (Nat.le_of_ble_eq_true rfl)
  intro p e s m args below meth c A ls Q F hr hlk hnm h hl hA hQ
  have hx := F.1.1
  have hb := F.1.2.1
  have hml := F.1.2.2.1
  have hown := F.1.2.2.2.1
  have hts := F.1.2.2.2.2
  have hK := F.2.1
  refine lv_iload_n (pc := 0) hx hb d_ArrayList_add_0 rfl (lv_at hl 3 rfl) ?_
  refine lv_aload_n (pc := 1) hx hb d_ArrayList_add_1 rfl (lv_at hl 2 rfl) ?_
  refine va_tlen (pc := 2) (v := 0) hx hb F.2.2.2.1.2.1 h.2.2 (by first | rfl | decide) d_ArrayList_add_2 ?_
  refine lv_icmp_ne (pc := 3) (tgt := 11) hx hb d_ArrayList_add_3 (by decide) (fun h => absurd (by decide) h) (fun _ => ?_)
  refine lv_aload_n (pc := 6) hx hb d_ArrayList_add_6 rfl (lv_at hl 0 rfl) ?_
  refine xb_callV (pc := 7) (rm := rm_AL_grow0) (wr := [(v0, .inr (6, [f0, f1, f2, f3, f4]))]) F h (ct_AL_grow0 l G h0 mc) 0 (va_recv hK h.1 (q0 := 0) (ci := 11) rfl rfl) k_49 k_45 k_50 k_51 k_52 hd_ArrayList_grow2 (by decide) [0] [1] rfl rfl (by decide) (by decide) (by decide) xb_ss0 hl.1 rfl rfl (Nat.le_of_ble_eq_true rfl) (by decide) d_ArrayList_add_7 (fun u H locs hu h => ?_)
  obtain ⟨q7_1, rfl⟩ : ∃ z, z = u := ⟨_, rfl⟩
  have h : xb_W G A s [(v0, .inr (6, [f0, f1, f2, f3, f4])), (h0, .inr (11, [.int mc, .ref q7_1, .int 0])), (q7_1, .inl (G.2.1 5, 10, .inr (.inr (.inr (.inr (fun _ => none))))))] _ _ := h
  refine W.widen (k := 1) (n := 10) (by decide) (by decide) ?_
  refine W.eq (g2 := F0 m 10 ls [.ref q7_1]) rfl ?_
  refine lv_astore_n (pc := 10) (lv' := [(2, .ref q7_1), (0, .ref h0), (1, .ref v0), (3, .int 0)]) hx hb d_ArrayList_add_10 rfl hl (by decide) rfl (fun ls hl => ?_)
  refine lv_aload_n (pc := 11) hx hb d_ArrayList_add_11 rfl (lv_at hl 0 rfl) ?_
  refine lv_iload_n (pc := 12) hx hb d_ArrayList_add_12 rfl (lv_at hl 3 rfl) ?_
  refine lv_aload_n (pc := 13) hx hb d_ArrayList_add_13 rfl (lv_at hl 2 rfl) ?_
  refine xb_aast (pc := 14) (ws' := [(v0, .inr (6, [f0, f1, f2, f3, f4])), (h0, .inr (11, [.int mc, .ref q7_1, .int 0])), (q7_1, .inl (G.2.1 5, 10, .inr (.inr (.inr (.inr (va_up (fun _ => none) (Int32.toNatClampNeg 0) (some v0)))))))]) F h 2 0 rfl (by decide) rfl rfl (by unfold vp_in; decide) rfl d_ArrayList_add_14 (fun H locs h => ?_)
  refine lv_aload_n (pc := 15) hx hb d_ArrayList_add_15 rfl (lv_at hl 1 rfl) ?_
  refine lv_iload_n (pc := 16) hx hb d_ArrayList_add_16 rfl (lv_at hl 3 rfl) ?_
  refine lv_iconst (pc := 17) (v := 1) hx hb d_ArrayList_add_17 (by decide) ?_
  refine lv_iadd (pc := 18) hx hb d_ArrayList_add_18 ?_
  refine lv_topi (fun y ey => ?_)
  obtain rfl : y = 1 := ey.trans (by decide)
  refine xb_put (pc := 19) (t0 := .int) (ws' := [(v0, .inr (6, [f0, f1, f2, f3, f4])), (h0, .inr (11, [.int mc, .ref q7_1, .int 1])), (q7_1, .inl (G.2.1 5, 10, .inr (.inr (.inr (.inr (va_up (fun _ => none) (Int32.toNatClampNeg 0) (some v0)))))))]) F h cf_11 1 rfl 2 (by decide) rfl k_43 (Or.inl rfl) (by decide +kernel) rfl rfl (Nat.le_of_ble_eq_true rfl) rfl d_ArrayList_add_19 (fun H locs h => ?_)
  exact xb_vret (pc := 22) (rm := rm_AL_addp_Data_0) F hr hlk hA hQ h q7_1 trivial rfl [0, 1, 2] (by decide) rfl (by decide) (by decide) d_ArrayList_add_22
abbrev rm_AL_add_Data_0 : Room := { frames := 4, cells := 1, slots := 10, locals := 96 }
set_option maxHeartbeats 4000000 in
set_option maxRecDepth 100000 in
theorem ct_AL_add_Data_0 (l : Launch) (G : xb_EV) (h0 : Nat) (v0 : Nat) (mc : Int32) (f0 : Value) (f1 : Value) (f2 : Value) (f3 : Value) (f4 : Value) : xb_CT l y_ArrayList_add2 b_ArrayList_add2 2 (some .boolean) rm_AL_add_Data_0 G [] [.ref h0, .ref v0] [(h0, .inr (11, [.int mc, .ref (G.2.2.1), .int 0])), (v0, .inr (6, [f0, f1, f2, f3, f4]))] (S := Nat) (fun _ => some (.int 1)) (fun _ => True) (fun u => [(v0, .inr (6, [f0, f1, f2, f3, f4])), (h0, .inr (11, [.int (mc + 1), .ref u, .int 1])), (u, .inl (G.2.1 5, 10, .inr (.inr (.inr (.inr (va_up (fun _ => none) (Int32.toNatClampNeg 0) (some v0)))))))]) := by
  refine xb_CT.of (by decide) "java/util/ArrayList" rfl ?_ (Nat.le_of_ble_eq_true rfl)
  intro p e s m args below meth c A ls Q F hr hlk hnm h hl hA hQ
  have hx := F.1.1
  have hb := F.1.2.1
  have hml := F.1.2.2.1
  have hown := F.1.2.2.2.1
  have hts := F.1.2.2.2.2
  have hK := F.2.1
  refine lv_aload_n (pc := 0) hx hb d_ArrayList_add2_0 rfl (lv_at hl 0 rfl) ?_
  refine lv_dup (pc := 1) hx hb d_ArrayList_add2_1 rfl ?_
  refine xb_get (pc := 2) F h cf_11 0 rfl 0 (by decide) rfl k_54 (Or.inr k_53) rfl d_ArrayList_add2_2 ?_
  refine lv_iconst (pc := 5) (v := 1) hx hb d_ArrayList_add2_5 (by decide) ?_
  refine lv_iadd (pc := 6) hx hb d_ArrayList_add2_6 ?_
  refine xb_put (pc := 7) (t0 := .int) (ws' := [(h0, .inr (11, [.int (mc + 1), .ref (G.2.2.1), .int 0])), (v0, .inr (6, [f0, f1, f2, f3, f4]))]) F h cf_11 0 rfl 0 (by decide) rfl k_54 (Or.inr k_53) (by decide +kernel) rfl rfl (Nat.le_of_ble_eq_true rfl) rfl d_ArrayList_add2_7 (fun H locs h => ?_)
  refine lv_aload_n (pc := 10) hx hb d_ArrayList_add2_10 rfl (lv_at hl 0 rfl) ?_
  refine lv_aload_n (pc := 11) hx hb d_ArrayList_add2_11 rfl (lv_at hl 1 rfl) ?_
  refine lv_aload_n (pc := 12) hx hb d_ArrayList_add2_12 rfl (lv_at hl 0 rfl) ?_
  refine xb_get (pc := 13) F h cf_11 0 rfl 1 (by decide) rfl k_37 (Or.inl rfl) rfl d_ArrayList_add2_13 ?_
  refine lv_aload_n (pc := 16) hx hb d_ArrayList_add2_16 rfl (lv_at hl 0 rfl) ?_
  refine xb_get (pc := 17) F h cf_11 0 rfl 2 (by decide) rfl k_43 (Or.inl rfl) rfl d_ArrayList_add2_17 ?_
  refine xb_callV (pc := 20) (rm := rm_AL_addp_Data_0) (wr := []) F h (ct_AL_addp_Data_0 l G h0 v0 (mc + 1) f0 f1 f2 f3 f4) 3 (va_recv hK h.1 (q0 := 0) (ci := 11) rfl rfl) k_55 k_45 k_56 k_57 k_58 hd_ArrayList_add (by decide) [0, 1] [] rfl rfl (by decide) (by decide) (by decide) xb_ss0 hl.1 rfl rfl (Nat.le_of_ble_eq_true rfl) (by decide) d_ArrayList_add2_20 (fun u H locs hu h => ?_)
  obtain ⟨q20_1, rfl⟩ : ∃ z, z = u := ⟨_, rfl⟩
  have h : xb_W G A s [(v0, .inr (6, [f0, f1, f2, f3, f4])), (h0, .inr (11, [.int (mc + 1), .ref q20_1, .int 1])), (q20_1, .inl (G.2.1 5, 10, .inr (.inr (.inr (.inr (va_up (fun _ => none) (Int32.toNatClampNeg 0) (some v0)))))))] _ _ := h
  refine W.widen (k := 1) (n := 10) (by decide) (by decide) ?_
  refine W.eq (g2 := F0 m 23 ls []) rfl ?_
  refine lv_iconst (pc := 23) (v := 1) hx hb d_ArrayList_add2_23 (by decide) ?_
  exact xb_zret (pc := 24) (rm := rm_AL_add_Data_0) F hr hlk (by decide) hA hQ h q20_1 trivial rfl [0, 1, 2] (by decide) rfl (by decide) (by decide) d_ArrayList_add2_24
abbrev rm_AL_addp_Data_1 : Room := { frames := 0, cells := 0, slots := 0, locals := 30 }
set_option maxHeartbeats 4000000 in
set_option maxRecDepth 100000 in
theorem ct_AL_addp_Data_1 (l : Launch) (G : xb_EV) (h0 : Nat) (r0 : Nat) (v0 : Nat) (mc : Int32) (fr : Nat → Option Nat) (f0 : Value) (f1 : Value) (f2 : Value) (f3 : Value) (f4 : Value) : xb_CT l y_ArrayList_add b_ArrayList_add 4 none rm_AL_addp_Data_1 G [] [.ref h0, .ref v0, .ref r0, .int 1] [(h0, .inr (11, [.int mc, .ref r0, .int 1])), (r0, .inl (G.2.1 5, 10, .inr (.inr (.inr (.inr (fr)))))), (v0, .inr (6, [f0, f1, f2, f3, f4]))] (S := Unit) (fun _ => none) (fun _ => True) (fun _ => [(h0, .inr (11, [.int mc, .ref r0, .int 2])), (r0, .inl (G.2.1 5, 10, .inr (.inr (.inr (.inr (va_up (fr) (Int32.toNatClampNeg 1) (some v0))))))), (v0, .inr (6, [f0, f1, f2, f3, f4]))]) := by
  refine xb_CT.of (by decide) "java/util/ArrayList" rfl ?_ (Nat.le_of_ble_eq_true rfl)
  intro p e s m args below meth c A ls Q F hr hlk hnm h hl hA hQ
  have hx := F.1.1
  have hb := F.1.2.1
  have hml := F.1.2.2.1
  have hown := F.1.2.2.2.1
  have hts := F.1.2.2.2.2
  have hK := F.2.1
  refine lv_iload_n (pc := 0) hx hb d_ArrayList_add_0 rfl (lv_at hl 3 rfl) ?_
  refine lv_aload_n (pc := 1) hx hb d_ArrayList_add_1 rfl (lv_at hl 2 rfl) ?_
  refine va_alen (pc := 2) (v := 10) hx hb hK h.1 1 5 rfl rfl (by first | rfl | decide) d_ArrayList_add_2 ?_
  refine lv_icmp_ne (pc := 3) (tgt := 11) hx hb d_ArrayList_add_3 (by decide) (fun _ => ?_) (fun h => absurd h (by decide))
  refine lv_aload_n (pc := 11) hx hb d_ArrayList_add_11 rfl (lv_at hl 2 rfl) ?_
  refine lv_iload_n (pc := 12) hx hb d_ArrayList_add_12 rfl (lv_at hl 3 rfl) ?_
  refine lv_aload_n (pc := 13) hx hb d_ArrayList_add_13 rfl (lv_at hl 1 rfl) ?_
  refine xb_aast (pc := 14) (ws' := [(h0, .inr (11, [.int mc, .ref r0, .int 1])), (r0, .inl (G.2.1 5, 10, .inr (.inr (.inr (.inr (va_up (fr) (Int32.toNatClampNeg 1) (some v0))))))), (v0, .inr (6, [f0, f1, f2, f3, f4]))]) F h 1 2 rfl (by decide) rfl rfl (by unfold vp_in; decide) rfl d_ArrayList_add_14 (fun H locs h => ?_)
  refine lv_aload_n (pc := 15) hx hb d_ArrayList_add_15 rfl (lv_at hl 0 rfl) ?_
  refine lv_iload_n (pc := 16) hx hb d_ArrayList_add_16 rfl (lv_at hl 3 rfl) ?_
  refine lv_iconst (pc := 17) (v := 1) hx hb d_ArrayList_add_17 (by decide) ?_
  refine lv_iadd (pc := 18) hx hb d_ArrayList_add_18 ?_
  refine lv_topi (fun y ey => ?_)
  obtain rfl : y = 2 := ey.trans (by decide)
  refine xb_put (pc := 19) (t0 := .int) (ws' := [(h0, .inr (11, [.int mc, .ref r0, .int 2])), (r0, .inl (G.2.1 5, 10, .inr (.inr (.inr (.inr (va_up (fr) (Int32.toNatClampNeg 1) (some v0))))))), (v0, .inr (6, [f0, f1, f2, f3, f4]))]) F h cf_11 0 rfl 2 (by decide) rfl k_43 (Or.inl rfl) (by decide +kernel) rfl rfl (Nat.le_of_ble_eq_true rfl) rfl d_ArrayList_add_19 (fun H locs h => ?_)
  exact xb_vret (pc := 22) (rm := rm_AL_addp_Data_1) F hr hlk hA hQ h () trivial rfl [0, 1, 2] (by decide) rfl (by decide) (by decide) d_ArrayList_add_22
abbrev rm_AL_add_Data_1 : Room := { frames := 1, cells := 0, slots := 0, locals := 53 }
set_option maxHeartbeats 4000000 in
set_option maxRecDepth 100000 in
theorem ct_AL_add_Data_1 (l : Launch) (G : xb_EV) (h0 : Nat) (r0 : Nat) (v0 : Nat) (mc : Int32) (fr : Nat → Option Nat) (f0 : Value) (f1 : Value) (f2 : Value) (f3 : Value) (f4 : Value) : xb_CT l y_ArrayList_add2 b_ArrayList_add2 2 (some .boolean) rm_AL_add_Data_1 G [] [.ref h0, .ref v0] [(h0, .inr (11, [.int mc, .ref r0, .int 1])), (r0, .inl (G.2.1 5, 10, .inr (.inr (.inr (.inr (fr)))))), (v0, .inr (6, [f0, f1, f2, f3, f4]))] (S := Unit) (fun _ => some (.int 1)) (fun _ => True) (fun _ => [(h0, .inr (11, [.int (mc + 1), .ref r0, .int 2])), (r0, .inl (G.2.1 5, 10, .inr (.inr (.inr (.inr (va_up (fr) (Int32.toNatClampNeg 1) (some v0))))))), (v0, .inr (6, [f0, f1, f2, f3, f4]))]) := by
  refine xb_CT.of (by decide) "java/util/ArrayList" rfl ?_ (Nat.le_of_ble_eq_true rfl)
  intro p e s m args below meth c A ls Q F hr hlk hnm h hl hA hQ
  have hx := F.1.1
  have hb := F.1.2.1
  have hml := F.1.2.2.1
  have hown := F.1.2.2.2.1
  have hts := F.1.2.2.2.2
  have hK := F.2.1
  refine lv_aload_n (pc := 0) hx hb d_ArrayList_add2_0 rfl (lv_at hl 0 rfl) ?_
  refine lv_dup (pc := 1) hx hb d_ArrayList_add2_1 rfl ?_
  refine xb_get (pc := 2) F h cf_11 0 rfl 0 (by decide) rfl k_54 (Or.inr k_53) rfl d_ArrayList_add2_2 ?_
  refine lv_iconst (pc := 5) (v := 1) hx hb d_ArrayList_add2_5 (by decide) ?_
  refine lv_iadd (pc := 6) hx hb d_ArrayList_add2_6 ?_
  refine xb_put (pc := 7) (t0 := .int) (ws' := [(h0, .inr (11, [.int (mc + 1), .ref r0, .int 1])), (r0, .inl (G.2.1 5, 10, .inr (.inr (.inr (.inr (fr)))))), (v0, .inr (6, [f0, f1, f2, f3, f4]))]) F h cf_11 0 rfl 0 (by decide) rfl k_54 (Or.inr k_53) (by decide +kernel) rfl rfl (Nat.le_of_ble_eq_true rfl) rfl d_ArrayList_add2_7 (fun H locs h => ?_)
  refine lv_aload_n (pc := 10) hx hb d_ArrayList_add2_10 rfl (lv_at hl 0 rfl) ?_
  refine lv_aload_n (pc := 11) hx hb d_ArrayList_add2_11 rfl (lv_at hl 1 rfl) ?_
  refine lv_aload_n (pc := 12) hx hb d_ArrayList_add2_12 rfl (lv_at hl 0 rfl) ?_
  refine xb_get (pc := 13) F h cf_11 0 rfl 1 (by decide) rfl k_37 (Or.inl rfl) rfl d_ArrayList_add2_13 ?_
  refine lv_aload_n (pc := 16) hx hb d_ArrayList_add2_16 rfl (lv_at hl 0 rfl) ?_
  refine xb_get (pc := 17) F h cf_11 0 rfl 2 (by decide) rfl k_43 (Or.inl rfl) rfl d_ArrayList_add2_17 ?_
  refine xb_callV (pc := 20) (rm := rm_AL_addp_Data_1) (wr := []) F h (ct_AL_addp_Data_1 l G h0 r0 v0 (mc + 1) fr f0 f1 f2 f3 f4) 3 (va_recv hK h.1 (q0 := 0) (ci := 11) rfl rfl) k_55 k_45 k_56 k_57 k_58 hd_ArrayList_add (by decide) [0, 1, 2] [] rfl rfl (by decide) (by decide) (by decide) xb_ss0 hl.1 rfl rfl (Nat.le_of_ble_eq_true rfl) (by decide) d_ArrayList_add2_20 (fun u H locs hu h => ?_)
  have h : xb_W G A s [(h0, .inr (11, [.int (mc + 1), .ref r0, .int 2])), (r0, .inl (G.2.1 5, 10, .inr (.inr (.inr (.inr (va_up (fr) (Int32.toNatClampNeg 1) (some v0))))))), (v0, .inr (6, [f0, f1, f2, f3, f4]))] _ _ := h
  refine W.widen (k := 0) (n := 0) (by decide) (by decide) ?_
  refine W.eq (g2 := F0 m 23 ls []) rfl ?_
  refine lv_iconst (pc := 23) (v := 1) hx hb d_ArrayList_add2_23 (by decide) ?_
  exact xb_zret (pc := 24) (rm := rm_AL_add_Data_1) F hr hlk (by decide) hA hQ h () trivial rfl [0, 1, 2] (by decide) rfl (by decide) (by decide) d_ArrayList_add2_24
abbrev rm_ASB_init : Room := { frames := 1, cells := 1, slots := 16, locals := 30 }
set_option maxHeartbeats 4000000 in
set_option maxRecDepth 100000 in
theorem ct_ASB_init (l : Launch) (G : xb_EV) (h0 : Nat) : xb_CT l y_AbstractStringBuilder_init b_AbstractStringBuilder_init 2 none rm_ASB_init G [] [.ref h0, .int 16] [(h0, .inr (12, [.null, .int 0, .int 0, .int 0]))] (S := Nat) (fun _ => none) (fun _ => True) (fun u => [(h0, .inr (12, [.ref u, .int 0, .int 0, .int 0]))]) := by
  refine xb_CT.of (by decide) "java/lang/AbstractStringBuilder" rfl ?_ (Nat.le_of_ble_eq_true rfl)
  intro p e s m args below meth c A ls Q F hr hlk hnm h hl hA hQ
  have hx := F.1.1
  have hb := F.1.2.1
  have hml := F.1.2.2.1
  have hown := F.1.2.2.2.1
  have hts := F.1.2.2.2.2
  have hK := F.2.1
  refine lv_aload_n (pc := 0) hx hb d_AbstractStringBuilder_init_0 rfl (lv_at hl 0 rfl) ?_
  refine W.objInit hx hb hown (hts _ k_59) (hts _ k_25) (hts _ k_26) rfl (by rw [hml]; exact hl.1) rfl d_AbstractStringBuilder_init_1 (Nat.le_of_ble_eq_true rfl) (Nat.le_of_ble_eq_true rfl) ?_
  refine W.eq (g2 := F0 m 4 ls []) rfl ?_
  refine va_gets (pc := 4) hx hb (F.2.2.2.1.2.2.1) h.2.2 hown (hts _ k_60) (fun _ h => h) d_AbstractStringBuilder_init_4 ?_
  refine lv_if_eq (pc := 7) (tgt := 25) hx hb d_AbstractStringBuilder_init_7 (by decide) (fun h => absurd h (by decide)) (fun _ => ?_)
  refine lv_aload_n (pc := 10) hx hb d_AbstractStringBuilder_init_10 rfl (lv_at hl 0 rfl) ?_
  refine lv_iload_n (pc := 11) hx hb d_AbstractStringBuilder_init_11 rfl (lv_at hl 1 rfl) ?_
  refine xb_newa (pc := 12) (a0 := (16, .inl (fun _ => 0))) (ty := .byte) (N' := 16) (ws' := fun q12_1 => [(h0, .inr (12, [.null, .int 0, .int 0, .int 0])), (q12_1, .inl (G.2.1 4, 16, .inl (fun _ => 0)))]) F h rfl 4 rfl k_61 (fun _ => rfl) (by decide) (by decide) (by decide) (fun _ => rfl) (by decide) (by decide) d_AbstractStringBuilder_init_12 (fun q12_1 H h => ?_)
  refine xb_put (pc := 14) (t0 := (.array .byte)) (ws' := [(h0, .inr (12, [.ref q12_1, .int 0, .int 0, .int 0])), (q12_1, .inl (G.2.1 4, 16, .inl (fun _ => 0)))]) F h cf_12 0 rfl 0 (by decide) rfl k_62 (Or.inl rfl) (by decide +kernel) rfl rfl (Nat.le_of_ble_eq_true rfl) rfl d_AbstractStringBuilder_init_14 (fun H locs h => ?_)
  refine lv_aload_n (pc := 17) hx hb d_AbstractStringBuilder_init_17 rfl (lv_at hl 0 rfl) ?_
  refine lv_iconst (pc := 18) (v := 0) hx hb d_AbstractStringBuilder_init_18 (by decide) ?_
  refine xb_put (pc := 19) (t0 := .byte) (ws' := [(h0, .inr (12, [.ref q12_1, .int 0, .int 0, .int 0])), (q12_1, .inl (G.2.1 4, 16, .inl (fun _ => 0)))]) F h cf_12 0 rfl 1 (by decide) rfl k_63 (Or.inl rfl) (by decide +kernel) (by decide) (by decide) (Nat.le_of_ble_eq_true rfl) rfl d_AbstractStringBuilder_init_19 (fun H locs h => ?_)
  refine lv_goto (pc := 22) (tgt := 38) hx hb d_AbstractStringBuilder_init_22 (by decide) ?_
  exact xb_vret (pc := 38) (rm := rm_ASB_init) F hr hlk hA hQ h q12_1 trivial rfl [0] (by decide) rfl (by decide) (by decide) d_AbstractStringBuilder_init_38
abbrev rm_SB_init : Room := { frames := 2, cells := 1, slots := 16, locals := 51 }
set_option maxHeartbeats 4000000 in
set_option maxRecDepth 100000 in
theorem ct_SB_init (l : Launch) (G : xb_EV) (h0 : Nat) : xb_CT l y_StringBuilder_init b_StringBuilder_init 1 none rm_SB_init G [] [.ref h0] [(h0, .inr (12, [.null, .int 0, .int 0, .int 0]))] (S := Nat) (fun _ => none) (fun _ => True) (fun u => [(h0, .inr (12, [.ref u, .int 0, .int 0, .int 0]))]) := by
  refine xb_CT.of (by decide) "java/lang/StringBuilder" rfl ?_ (Nat.le_of_ble_eq_true rfl)
  intro p e s m args below meth c A ls Q F hr hlk hnm h hl hA hQ
  have hx := F.1.1
  have hb := F.1.2.1
  have hml := F.1.2.2.1
  have hown := F.1.2.2.2.1
  have hts := F.1.2.2.2.2
  have hK := F.2.1
  refine lv_aload_n (pc := 0) hx hb d_StringBuilder_init_0 rfl (lv_at hl 0 rfl) ?_
  refine lv_bipush (pc := 1) (v := 16) hx hb d_StringBuilder_init_1 (by decide) ?_
  refine xb_callI (pc := 3) (rm := rm_ASB_init) (wr := []) F h (ct_ASB_init l G h0) 1 k_64 k_65 k_66 k_67 rfl hd_AbstractStringBuilder_init (by decide) [0] [] rfl rfl (by decide) (by decide) (by decide) xb_ss0 hl.1 rfl rfl (Nat.le_of_ble_eq_true rfl) (by decide) d_StringBuilder_init_3 (fun u H locs hu h => ?_)
  obtain ⟨q3_1, rfl⟩ : ∃ z, z = u := ⟨_, rfl⟩
  have h : xb_W G A s [(h0, .inr (12, [.ref q3_1, .int 0, .int 0, .int 0]))] _ _ := h
  refine W.widen (k := 1) (n := 16) (by decide) (by decide) ?_
  refine W.eq (g2 := F0 m 6 ls []) rfl ?_
  exact xb_vret (pc := 6) (rm := rm_SB_init) F hr hlk hA hQ h q3_1 trivial rfl [0] (by decide) rfl (by decide) (by decide) d_StringBuilder_init_6
abbrev rm_Type_init_nnn : Room := { frames := 1, cells := 0, slots := 0, locals := 30 }
set_option maxHeartbeats 4000000 in
set_option maxRecDepth 100000 in
theorem ct_Type_init_nnn (l : Launch) (G : xb_EV) (h0 : Nat) (k : Int32) : xb_CT l y_TypeFinder_Type_init b_TypeFinder_Type_init 5 none rm_Type_init_nnn G [] [.ref h0, .int k, .null, .null, .null] [(h0, .inr (5, [.int 0, .int 0, .null, .null, .null, .null, .null, .int 0]))] (S := Unit) (fun _ => none) (fun _ => True) (fun _ => [(h0, .inr (5, [.int k, .int 0, .null, .null, .null, .null, .null, .int 0]))]) := by
  refine xb_CT.of (by decide) "TypeFinder$Type" rfl ?_ (Nat.le_of_ble_eq_true rfl)
  intro p e s m args below meth c A ls Q F hr hlk hnm h hl hA hQ
  have hx := F.1.1
  have hb := F.1.2.1
  have hml := F.1.2.2.1
  have hown := F.1.2.2.2.1
  have hts := F.1.2.2.2.2
  have hK := F.2.1
  refine lv_aload_n (pc := 0) hx hb d_TypeFinder_Type_init_0 rfl (lv_at hl 0 rfl) ?_
  refine W.objInit hx hb hown (hts _ k_68) (hts _ k_25) (hts _ k_26) rfl (by rw [hml]; exact hl.1) rfl d_TypeFinder_Type_init_1 (Nat.le_of_ble_eq_true rfl) (Nat.le_of_ble_eq_true rfl) ?_
  refine W.eq (g2 := F0 m 4 ls []) rfl ?_
  refine lv_aload_n (pc := 4) hx hb d_TypeFinder_Type_init_4 rfl (lv_at hl 0 rfl) ?_
  refine lv_iload_n (pc := 5) hx hb d_TypeFinder_Type_init_5 rfl (lv_at hl 1 rfl) ?_
  refine xb_put (pc := 6) (t0 := .int) (ws' := [(h0, .inr (5, [.int k, .int 0, .null, .null, .null, .null, .null, .int 0]))]) F h cf_5 0 rfl 0 (by decide) rfl k_69 (Or.inl rfl) (by decide +kernel) rfl rfl (Nat.le_of_ble_eq_true rfl) rfl d_TypeFinder_Type_init_6 (fun H locs h => ?_)
  refine lv_aload_n (pc := 9) hx hb d_TypeFinder_Type_init_9 rfl (lv_at hl 0 rfl) ?_
  refine lv_aload_nN (pc := 10) hx hb d_TypeFinder_Type_init_10 rfl (lv_at hl 2 rfl) ?_
  refine xb_putF (pc := 11) (t0 := (.object "TypeFinder$DataType")) (ws' := [(h0, .inr (5, [.int k, .int 0, .null, .null, .null, .null, .null, .int 0]))]) F h hnm cf_5 0 rfl 2 (by decide) rfl k_70 (by decide +kernel) rfl rfl (Nat.le_of_ble_eq_true rfl) rfl d_TypeFinder_Type_init_11 (fun H locs h => ?_)
  refine lv_aload_n (pc := 14) hx hb d_TypeFinder_Type_init_14 rfl (lv_at hl 0 rfl) ?_
  refine lv_aload_nN (pc := 15) hx hb d_TypeFinder_Type_init_15 rfl (lv_at hl 3 rfl) ?_
  refine xb_putF (pc := 16) (t0 := (.object "TypeFinder$Type")) (ws' := [(h0, .inr (5, [.int k, .int 0, .null, .null, .null, .null, .null, .int 0]))]) F h hnm cf_5 0 rfl 3 (by decide) rfl k_71 (by decide +kernel) rfl rfl (Nat.le_of_ble_eq_true rfl) rfl d_TypeFinder_Type_init_16 (fun H locs h => ?_)
  refine lv_aload_n (pc := 19) hx hb d_TypeFinder_Type_init_19 rfl (lv_at hl 0 rfl) ?_
  refine lv_aloadN (pc := 20) hx hb d_TypeFinder_Type_init_20 (lv_at hl 4 rfl) ?_
  refine xb_putF (pc := 22) (t0 := (.object "TypeFinder$Type")) (ws' := [(h0, .inr (5, [.int k, .int 0, .null, .null, .null, .null, .null, .int 0]))]) F h hnm cf_5 0 rfl 4 (by decide) rfl k_72 (by decide +kernel) rfl rfl (Nat.le_of_ble_eq_true rfl) rfl d_TypeFinder_Type_init_22 (fun H locs h => ?_)
  exact xb_vret (pc := 25) (rm := rm_Type_init_nnn) F hr hlk hA hQ h () trivial rfl [0] (by decide) rfl (by decide) (by decide) d_TypeFinder_Type_init_25
abbrev rm_Type_init_rnn : Room := { frames := 1, cells := 0, slots := 0, locals := 30 }
set_option maxHeartbeats 4000000 in
set_option maxRecDepth 100000 in
theorem ct_Type_init_rnn (l : Launch) (G : xb_EV) (h0 : Nat) (k : Int32) (d0 : Nat) : xb_CT l y_TypeFinder_Type_init b_TypeFinder_Type_init 5 none rm_Type_init_rnn G [] [.ref h0, .int k, .ref d0, .null, .null] [(h0, .inr (5, [.int 0, .int 0, .null, .null, .null, .null, .null, .int 0]))] (S := Unit) (fun _ => none) (fun _ => True) (fun _ => [(h0, .inr (5, [.int k, .int 0, .ref d0, .null, .null, .null, .null, .int 0]))]) := by
  refine xb_CT.of (by decide) "TypeFinder$Type" rfl ?_ (Nat.le_of_ble_eq_true rfl)
  intro p e s m args below meth c A ls Q F hr hlk hnm h hl hA hQ
  have hx := F.1.1
  have hb := F.1.2.1
  have hml := F.1.2.2.1
  have hown := F.1.2.2.2.1
  have hts := F.1.2.2.2.2
  have hK := F.2.1
  refine lv_aload_n (pc := 0) hx hb d_TypeFinder_Type_init_0 rfl (lv_at hl 0 rfl) ?_
  refine W.objInit hx hb hown (hts _ k_68) (hts _ k_25) (hts _ k_26) rfl (by rw [hml]; exact hl.1) rfl d_TypeFinder_Type_init_1 (Nat.le_of_ble_eq_true rfl) (Nat.le_of_ble_eq_true rfl) ?_
  refine W.eq (g2 := F0 m 4 ls []) rfl ?_
  refine lv_aload_n (pc := 4) hx hb d_TypeFinder_Type_init_4 rfl (lv_at hl 0 rfl) ?_
  refine lv_iload_n (pc := 5) hx hb d_TypeFinder_Type_init_5 rfl (lv_at hl 1 rfl) ?_
  refine xb_put (pc := 6) (t0 := .int) (ws' := [(h0, .inr (5, [.int k, .int 0, .null, .null, .null, .null, .null, .int 0]))]) F h cf_5 0 rfl 0 (by decide) rfl k_69 (Or.inl rfl) (by decide +kernel) rfl rfl (Nat.le_of_ble_eq_true rfl) rfl d_TypeFinder_Type_init_6 (fun H locs h => ?_)
  refine lv_aload_n (pc := 9) hx hb d_TypeFinder_Type_init_9 rfl (lv_at hl 0 rfl) ?_
  refine lv_aload_n (pc := 10) hx hb d_TypeFinder_Type_init_10 rfl (lv_at hl 2 rfl) ?_
  refine xb_putF (pc := 11) (t0 := (.object "TypeFinder$DataType")) (ws' := [(h0, .inr (5, [.int k, .int 0, .ref d0, .null, .null, .null, .null, .int 0]))]) F h hnm cf_5 0 rfl 2 (by decide) rfl k_70 (by decide +kernel) rfl rfl (Nat.le_of_ble_eq_true rfl) rfl d_TypeFinder_Type_init_11 (fun H locs h => ?_)
  refine lv_aload_n (pc := 14) hx hb d_TypeFinder_Type_init_14 rfl (lv_at hl 0 rfl) ?_
  refine lv_aload_nN (pc := 15) hx hb d_TypeFinder_Type_init_15 rfl (lv_at hl 3 rfl) ?_
  refine xb_putF (pc := 16) (t0 := (.object "TypeFinder$Type")) (ws' := [(h0, .inr (5, [.int k, .int 0, .ref d0, .null, .null, .null, .null, .int 0]))]) F h hnm cf_5 0 rfl 3 (by decide) rfl k_71 (by decide +kernel) rfl rfl (Nat.le_of_ble_eq_true rfl) rfl d_TypeFinder_Type_init_16 (fun H locs h => ?_)
  refine lv_aload_n (pc := 19) hx hb d_TypeFinder_Type_init_19 rfl (lv_at hl 0 rfl) ?_
  refine lv_aloadN (pc := 20) hx hb d_TypeFinder_Type_init_20 (lv_at hl 4 rfl) ?_
  refine xb_putF (pc := 22) (t0 := (.object "TypeFinder$Type")) (ws' := [(h0, .inr (5, [.int k, .int 0, .ref d0, .null, .null, .null, .null, .int 0]))]) F h hnm cf_5 0 rfl 4 (by decide) rfl k_72 (by decide +kernel) rfl rfl (Nat.le_of_ble_eq_true rfl) rfl d_TypeFinder_Type_init_22 (fun H locs h => ?_)
  exact xb_vret (pc := 25) (rm := rm_Type_init_rnn) F hr hlk hA hQ h () trivial rfl [0] (by decide) rfl (by decide) (by decide) d_TypeFinder_Type_init_25
abbrev rm_Type_init_rrn : Room := { frames := 1, cells := 0, slots := 0, locals := 30 }
set_option maxHeartbeats 4000000 in
set_option maxRecDepth 100000 in
theorem ct_Type_init_rrn (l : Launch) (G : xb_EV) (h0 : Nat) (k : Int32) (d0 : Nat) (l0 : Nat) : xb_CT l y_TypeFinder_Type_init b_TypeFinder_Type_init 5 none rm_Type_init_rrn G [] [.ref h0, .int k, .ref d0, .ref l0, .null] [(h0, .inr (5, [.int 0, .int 0, .null, .null, .null, .null, .null, .int 0]))] (S := Unit) (fun _ => none) (fun _ => True) (fun _ => [(h0, .inr (5, [.int k, .int 0, .ref d0, .ref l0, .null, .null, .null, .int 0]))]) := by
  refine xb_CT.of (by decide) "TypeFinder$Type" rfl ?_ (Nat.le_of_ble_eq_true rfl)
  intro p e s m args below meth c A ls Q F hr hlk hnm h hl hA hQ
  have hx := F.1.1
  have hb := F.1.2.1
  have hml := F.1.2.2.1
  have hown := F.1.2.2.2.1
  have hts := F.1.2.2.2.2
  have hK := F.2.1
  refine lv_aload_n (pc := 0) hx hb d_TypeFinder_Type_init_0 rfl (lv_at hl 0 rfl) ?_
  refine W.objInit hx hb hown (hts _ k_68) (hts _ k_25) (hts _ k_26) rfl (by rw [hml]; exact hl.1) rfl d_TypeFinder_Type_init_1 (Nat.le_of_ble_eq_true rfl) (Nat.le_of_ble_eq_true rfl) ?_
  refine W.eq (g2 := F0 m 4 ls []) rfl ?_
  refine lv_aload_n (pc := 4) hx hb d_TypeFinder_Type_init_4 rfl (lv_at hl 0 rfl) ?_
  refine lv_iload_n (pc := 5) hx hb d_TypeFinder_Type_init_5 rfl (lv_at hl 1 rfl) ?_
  refine xb_put (pc := 6) (t0 := .int) (ws' := [(h0, .inr (5, [.int k, .int 0, .null, .null, .null, .null, .null, .int 0]))]) F h cf_5 0 rfl 0 (by decide) rfl k_69 (Or.inl rfl) (by decide +kernel) rfl rfl (Nat.le_of_ble_eq_true rfl) rfl d_TypeFinder_Type_init_6 (fun H locs h => ?_)
  refine lv_aload_n (pc := 9) hx hb d_TypeFinder_Type_init_9 rfl (lv_at hl 0 rfl) ?_
  refine lv_aload_n (pc := 10) hx hb d_TypeFinder_Type_init_10 rfl (lv_at hl 2 rfl) ?_
  refine xb_putF (pc := 11) (t0 := (.object "TypeFinder$DataType")) (ws' := [(h0, .inr (5, [.int k, .int 0, .ref d0, .null, .null, .null, .null, .int 0]))]) F h hnm cf_5 0 rfl 2 (by decide) rfl k_70 (by decide +kernel) rfl rfl (Nat.le_of_ble_eq_true rfl) rfl d_TypeFinder_Type_init_11 (fun H locs h => ?_)
  refine lv_aload_n (pc := 14) hx hb d_TypeFinder_Type_init_14 rfl (lv_at hl 0 rfl) ?_
  refine lv_aload_n (pc := 15) hx hb d_TypeFinder_Type_init_15 rfl (lv_at hl 3 rfl) ?_
  refine xb_putF (pc := 16) (t0 := (.object "TypeFinder$Type")) (ws' := [(h0, .inr (5, [.int k, .int 0, .ref d0, .ref l0, .null, .null, .null, .int 0]))]) F h hnm cf_5 0 rfl 3 (by decide) rfl k_71 (by decide +kernel) rfl rfl (Nat.le_of_ble_eq_true rfl) rfl d_TypeFinder_Type_init_16 (fun H locs h => ?_)
  refine lv_aload_n (pc := 19) hx hb d_TypeFinder_Type_init_19 rfl (lv_at hl 0 rfl) ?_
  refine lv_aloadN (pc := 20) hx hb d_TypeFinder_Type_init_20 (lv_at hl 4 rfl) ?_
  refine xb_putF (pc := 22) (t0 := (.object "TypeFinder$Type")) (ws' := [(h0, .inr (5, [.int k, .int 0, .ref d0, .ref l0, .null, .null, .null, .int 0]))]) F h hnm cf_5 0 rfl 4 (by decide) rfl k_72 (by decide +kernel) rfl rfl (Nat.le_of_ble_eq_true rfl) rfl d_TypeFinder_Type_init_22 (fun H locs h => ?_)
  exact xb_vret (pc := 25) (rm := rm_Type_init_rrn) F hr hlk hA hQ h () trivial rfl [0] (by decide) rfl (by decide) (by decide) d_TypeFinder_Type_init_25
abbrev rm_Type_init_nrr : Room := { frames := 1, cells := 0, slots := 0, locals := 30 }
set_option maxHeartbeats 4000000 in
set_option maxRecDepth 100000 in
theorem ct_Type_init_nrr (l : Launch) (G : xb_EV) (h0 : Nat) (k : Int32) (l0 : Nat) (r0 : Nat) : xb_CT l y_TypeFinder_Type_init b_TypeFinder_Type_init 5 none rm_Type_init_nrr G [] [.ref h0, .int k, .null, .ref l0, .ref r0] [(h0, .inr (5, [.int 0, .int 0, .null, .null, .null, .null, .null, .int 0]))] (S := Unit) (fun _ => none) (fun _ => True) (fun _ => [(h0, .inr (5, [.int k, .int 0, .null, .ref l0, .ref r0, .null, .null, .int 0]))]) := by
  refine xb_CT.of (by decide) "TypeFinder$Type" rfl ?_ (Nat.le_of_ble_eq_true rfl)
  intro p e s m args below meth c A ls Q F hr hlk hnm h hl hA hQ
  have hx := F.1.1
  have hb := F.1.2.1
  have hml := F.1.2.2.1
  have hown := F.1.2.2.2.1
  have hts := F.1.2.2.2.2
  have hK := F.2.1
  refine lv_aload_n (pc := 0) hx hb d_TypeFinder_Type_init_0 rfl (lv_at hl 0 rfl) ?_
  refine W.objInit hx hb hown (hts _ k_68) (hts _ k_25) (hts _ k_26) rfl (by rw [hml]; exact hl.1) rfl d_TypeFinder_Type_init_1 (Nat.le_of_ble_eq_true rfl) (Nat.le_of_ble_eq_true rfl) ?_
  refine W.eq (g2 := F0 m 4 ls []) rfl ?_
  refine lv_aload_n (pc := 4) hx hb d_TypeFinder_Type_init_4 rfl (lv_at hl 0 rfl) ?_
  refine lv_iload_n (pc := 5) hx hb d_TypeFinder_Type_init_5 rfl (lv_at hl 1 rfl) ?_
  refine xb_put (pc := 6) (t0 := .int) (ws' := [(h0, .inr (5, [.int k, .int 0, .null, .null, .null, .null, .null, .int 0]))]) F h cf_5 0 rfl 0 (by decide) rfl k_69 (Or.inl rfl) (by decide +kernel) rfl rfl (Nat.le_of_ble_eq_true rfl) rfl d_TypeFinder_Type_init_6 (fun H locs h => ?_)
  refine lv_aload_n (pc := 9) hx hb d_TypeFinder_Type_init_9 rfl (lv_at hl 0 rfl) ?_
  refine lv_aload_nN (pc := 10) hx hb d_TypeFinder_Type_init_10 rfl (lv_at hl 2 rfl) ?_
  refine xb_putF (pc := 11) (t0 := (.object "TypeFinder$DataType")) (ws' := [(h0, .inr (5, [.int k, .int 0, .null, .null, .null, .null, .null, .int 0]))]) F h hnm cf_5 0 rfl 2 (by decide) rfl k_70 (by decide +kernel) rfl rfl (Nat.le_of_ble_eq_true rfl) rfl d_TypeFinder_Type_init_11 (fun H locs h => ?_)
  refine lv_aload_n (pc := 14) hx hb d_TypeFinder_Type_init_14 rfl (lv_at hl 0 rfl) ?_
  refine lv_aload_n (pc := 15) hx hb d_TypeFinder_Type_init_15 rfl (lv_at hl 3 rfl) ?_
  refine xb_putF (pc := 16) (t0 := (.object "TypeFinder$Type")) (ws' := [(h0, .inr (5, [.int k, .int 0, .null, .ref l0, .null, .null, .null, .int 0]))]) F h hnm cf_5 0 rfl 3 (by decide) rfl k_71 (by decide +kernel) rfl rfl (Nat.le_of_ble_eq_true rfl) rfl d_TypeFinder_Type_init_16 (fun H locs h => ?_)
  refine lv_aload_n (pc := 19) hx hb d_TypeFinder_Type_init_19 rfl (lv_at hl 0 rfl) ?_
  refine lv_aload (pc := 20) hx hb d_TypeFinder_Type_init_20 (lv_at hl 4 rfl) ?_
  refine xb_putF (pc := 22) (t0 := (.object "TypeFinder$Type")) (ws' := [(h0, .inr (5, [.int k, .int 0, .null, .ref l0, .ref r0, .null, .null, .int 0]))]) F h hnm cf_5 0 rfl 4 (by decide) rfl k_72 (by decide +kernel) rfl rfl (Nat.le_of_ble_eq_true rfl) rfl d_TypeFinder_Type_init_22 (fun H locs h => ?_)
  exact xb_vret (pc := 25) (rm := rm_Type_init_nrr) F hr hlk hA hQ h () trivial rfl [0] (by decide) rfl (by decide) (by decide) d_TypeFinder_Type_init_25
abbrev rm_Name_init : Room := { frames := 1, cells := 0, slots := 0, locals := 30 }
set_option maxHeartbeats 4000000 in
set_option maxRecDepth 100000 in
theorem ct_Name_init (l : Launch) (G : xb_EV) (h0 : Nat) (k : Int64) (t0 : Nat) : xb_CT l y_TypeFinder_Name_init b_TypeFinder_Name_init 5 none rm_Name_init G [] [.ref h0, .long k, .ref t0, .int 1] [(h0, .inr (7, [.long 0, .null, .int 0]))] (S := Unit) (fun _ => none) (fun _ => True) (fun _ => [(h0, .inr (7, [.long k, .ref t0, .int 1]))]) := by
  refine xb_CT.of (by decide) "TypeFinder$Name" rfl ?_ (Nat.le_of_ble_eq_true rfl)
  intro p e s m args below meth c A ls Q F hr hlk hnm h hl hA hQ
  have hx := F.1.1
  have hb := F.1.2.1
  have hml := F.1.2.2.1
  have hown := F.1.2.2.2.1
  have hts := F.1.2.2.2.2
  have hK := F.2.1
  refine lv_aload_n (pc := 0) hx hb d_TypeFinder_Name_init_0 rfl (lv_at hl 0 rfl) ?_
  refine W.objInit hx hb hown (hts _ k_73) (hts _ k_25) (hts _ k_26) rfl (by rw [hml]; exact hl.1) rfl d_TypeFinder_Name_init_1 (Nat.le_of_ble_eq_true rfl) (Nat.le_of_ble_eq_true rfl) ?_
  refine W.eq (g2 := F0 m 4 ls []) rfl ?_
  refine lv_aload_n (pc := 4) hx hb d_TypeFinder_Name_init_4 rfl (lv_at hl 0 rfl) ?_
  refine lv_lload_n (pc := 5) hx hb d_TypeFinder_Name_init_5 rfl (lv_at hl 1 rfl) ?_
  refine xb_putF (pc := 6) (t0 := .long) (ws' := [(h0, .inr (7, [.long k, .null, .int 0]))]) F h hnm cf_7 0 rfl 0 (by decide) rfl k_74 (by decide +kernel) rfl rfl (Nat.le_of_ble_eq_true rfl) rfl d_TypeFinder_Name_init_6 (fun H locs h => ?_)
  refine lv_aload_n (pc := 9) hx hb d_TypeFinder_Name_init_9 rfl (lv_at hl 0 rfl) ?_
  refine lv_aload_n (pc := 10) hx hb d_TypeFinder_Name_init_10 rfl (lv_at hl 2 rfl) ?_
  refine xb_putF (pc := 11) (t0 := (.object "TypeFinder$Type")) (ws' := [(h0, .inr (7, [.long k, .ref t0, .int 0]))]) F h hnm cf_7 0 rfl 1 (by decide) rfl k_75 (by decide +kernel) rfl rfl (Nat.le_of_ble_eq_true rfl) rfl d_TypeFinder_Name_init_11 (fun H locs h => ?_)
  refine lv_aload_n (pc := 14) hx hb d_TypeFinder_Name_init_14 rfl (lv_at hl 0 rfl) ?_
  refine lv_iload (pc := 15) hx hb d_TypeFinder_Name_init_15 (lv_at hl 3 rfl) ?_
  refine xb_putF (pc := 17) (t0 := .boolean) (ws' := [(h0, .inr (7, [.long k, .ref t0, .int 1]))]) F h hnm cf_7 0 rfl 2 (by decide) rfl k_76 (by decide +kernel) (by decide) (by decide) (Nat.le_of_ble_eq_true rfl) rfl d_TypeFinder_Name_init_17 (fun H locs h => ?_)
  exact xb_vret (pc := 20) (rm := rm_Name_init) F hr hlk hA hQ h () trivial rfl [0] (by decide) rfl (by decide) (by decide) d_TypeFinder_Name_init_20
abbrev rm_function : Room := { frames := 2, cells := 1, slots := 8, locals := 54 }
set_option maxHeartbeats 4000000 in
set_option maxRecDepth 100000 in
theorem ct_function (l : Launch) (G : xb_EV) (a0 : Nat) (b0 : Nat) : xb_CT l y_TypeFinder_Unifier_function b_TypeFinder_Unifier_function 2 (some (.object "TypeFinder$Type")) rm_function G [] [.ref a0, .ref b0] [] (S := Nat) (fun u => some (.ref u)) (fun _ => True) (fun _ => []) := by
  refine xb_CT.of (by decide) "TypeFinder$Unifier" rfl ?_ (Nat.le_of_ble_eq_true rfl)
  intro p e s m args below meth c A ls Q F hr hlk hnm h hl hA hQ
  have hx := F.1.1
  have hb := F.1.2.1
  have hml := F.1.2.2.1
  have hown := F.1.2.2.2.1
  have hts := F.1.2.2.2.2
  have hK := F.2.1
  refine xb_new (pc := 0) (ws' := fun q0_1 => [(q0_1, .inr (5, [.int 0, .int 0, .null, .null, .null, .null, .null, .int 0]))]) F h cf_5 k_77 k_78 k_79 df_5 (fun _ => rfl) (by decide) (by decide) d_TypeFinder_Unifier_function_0 (fun q0_1 H h => ?_)
  refine lv_dup (pc := 3) hx hb d_TypeFinder_Unifier_function_3 rfl ?_
  refine lv_iconst (pc := 4) (v := 1) hx hb d_TypeFinder_Unifier_function_4 (by decide) ?_
  refine lv_null (pc := 5) hx hb d_TypeFinder_Unifier_function_5 ?_
  refine lv_aload_n (pc := 6) hx hb d_TypeFinder_Unifier_function_6 rfl (lv_at hl 0 rfl) ?_
  refine lv_aload_n (pc := 7) hx hb d_TypeFinder_Unifier_function_7 rfl (lv_at hl 1 rfl) ?_
  refine xb_callI (pc := 8) (rm := rm_Type_init_nrr) (wr := []) F h (ct_Type_init_nrr l G q0_1 1 a0 b0) 4 k_80 k_79 k_81 k_82 rfl hd_TypeFinder_Type_init (by decide) [0] [] rfl rfl (by decide) (by decide) (by decide) xb_ss0 hl.1 rfl rfl (Nat.le_of_ble_eq_true rfl) (by decide) d_TypeFinder_Unifier_function_8 (fun u H locs hu h => ?_)
  have h : xb_W G A s [(q0_1, .inr (5, [.int 1, .int 0, .null, .ref a0, .ref b0, .null, .null, .int 0]))] _ _ := h
  refine W.widen (k := 1) (n := 8) (by decide) (by decide) ?_
  refine W.eq (g2 := F0 m 11 ls [.ref q0_1]) rfl ?_
  exact xb_aret (pc := 11) (rm := rm_function) F hr (by first | exact Or.inl ⟨_, rfl⟩ | exact Or.inr ⟨_, rfl⟩) (by first | exact Or.inl rfl | exact Or.inr ⟨_, rfl⟩) hlk hA hQ h q0_1 trivial rfl [] (by decide) rfl (by decide) (by decide) d_TypeFinder_Unifier_function_11
abbrev rm_DataType_init : Room := { frames := 4, cells := 1, slots := 3, locals := 90 }
set_option maxHeartbeats 4000000 in
set_option maxRecDepth 100000 in
theorem ct_DataType_init (l : Launch) (G : xb_EV) (h0 : Nat) (k : Int64) (n0 : Int32) : xb_CT l y_TypeFinder_DataType_init b_TypeFinder_DataType_init 4 none rm_DataType_init G [] [.ref h0, .long k, .int n0] [(h0, .inr (6, [.long 0, .int 0, .null, .null, .int 0]))] (S := Nat) (fun _ => none) (fun _ => True) (fun u => [(h0, .inr (6, [.long k, .int n0, .ref u, .null, .int 1])), (u, .inr (11, [.int 0, .ref (G.2.2.1), .int 0]))]) := by
  refine xb_CT.of (by decide) "TypeFinder$DataType" rfl ?_ (Nat.le_of_ble_eq_true rfl)
  intro p e s m args below meth c A ls Q F hr hlk hnm h hl hA hQ
  have hx := F.1.1
  have hb := F.1.2.1
  have hml := F.1.2.2.1
  have hown := F.1.2.2.2.1
  have hts := F.1.2.2.2.2
  have hK := F.2.1
  refine lv_aload_n (pc := 0) hx hb d_TypeFinder_DataType_init_0 rfl (lv_at hl 0 rfl) ?_
  refine W.objInit hx hb hown (hts _ k_83) (hts _ k_25) (hts _ k_26) rfl (by rw [hml]; exact hl.1) rfl d_TypeFinder_DataType_init_1 (Nat.le_of_ble_eq_true rfl) (Nat.le_of_ble_eq_true rfl) ?_
  refine W.eq (g2 := F0 m 4 ls []) rfl ?_
  refine lv_aload_n (pc := 4) hx hb d_TypeFinder_DataType_init_4 rfl (lv_at hl 0 rfl) ?_
  refine xb_new (pc := 5) (ws' := fun q5_1 => [(h0, .inr (6, [.long 0, .int 0, .null, .null, .int 0])), (q5_1, .inr (11, [.int 0, .null, .int 0]))]) F h cf_11 k_84 k_85 k_45 df_11 (fun _ => rfl) (by decide) (by decide) d_TypeFinder_DataType_init_5 (fun q5_1 H h => ?_)
  refine lv_dup (pc := 8) hx hb d_TypeFinder_DataType_init_8 rfl ?_
  refine xb_callI (pc := 9) (rm := rm_ArrayList_init) (wr := [(h0, .inr (6, [.long 0, .int 0, .null, .null, .int 0]))]) F h (ct_ArrayList_init l G q5_1) 0 k_86 k_45 k_87 k_88 rfl hd_ArrayList_init (by decide) [1] [0] rfl rfl (by decide) (by decide) (by decide) xb_ss0 hl.1 rfl rfl (Nat.le_of_ble_eq_true rfl) (by decide) d_TypeFinder_DataType_init_9 (fun u H locs hu h => ?_)
  have h : xb_W G A s [(h0, .inr (6, [.long 0, .int 0, .null, .null, .int 0])), (q5_1, .inr (11, [.int 0, .ref (G.2.2.1), .int 0]))] _ _ := h
  refine W.widen (k := 1) (n := 3) (by decide) (by decide) ?_
  refine W.eq (g2 := F0 m 12 ls [.ref q5_1, .ref h0]) rfl ?_
  refine xb_putF (pc := 12) (t0 := (.object "java/util/ArrayList")) (ws' := [(h0, .inr (6, [.long 0, .int 0, .ref q5_1, .null, .int 0])), (q5_1, .inr (11, [.int 0, .ref (G.2.2.1), .int 0]))]) F h hnm cf_6 0 rfl 2 (by decide) rfl k_89 (by decide +kernel) rfl rfl (Nat.le_of_ble_eq_true rfl) rfl d_TypeFinder_DataType_init_12 (fun H locs h => ?_)
  refine lv_aload_n (pc := 15) hx hb d_TypeFinder_DataType_init_15 rfl (lv_at hl 0 rfl) ?_
  refine lv_iconst (pc := 16) (v := 1) hx hb d_TypeFinder_DataType_init_16 (by decide) ?_
  refine xb_put (pc := 17) (t0 := .boolean) (ws' := [(h0, .inr (6, [.long 0, .int 0, .ref q5_1, .null, .int 1])), (q5_1, .inr (11, [.int 0, .ref (G.2.2.1), .int 0]))]) F h cf_6 0 rfl 4 (by decide) rfl k_90 (Or.inl rfl) (by decide +kernel) (by decide) (by decide) (Nat.le_of_ble_eq_true rfl) rfl d_TypeFinder_DataType_init_17 (fun H locs h => ?_)
  refine lv_aload_n (pc := 20) hx hb d_TypeFinder_DataType_init_20 rfl (lv_at hl 0 rfl) ?_
  refine lv_lload_n (pc := 21) hx hb d_TypeFinder_DataType_init_21 rfl (lv_at hl 1 rfl) ?_
  refine xb_putF (pc := 22) (t0 := .long) (ws' := [(h0, .inr (6, [.long k, .int 0, .ref q5_1, .null, .int 1])), (q5_1, .inr (11, [.int 0, .ref (G.2.2.1), .int 0]))]) F h hnm cf_6 0 rfl 0 (by decide) rfl k_91 (by decide +kernel) rfl rfl (Nat.le_of_ble_eq_true rfl) rfl d_TypeFinder_DataType_init_22 (fun H locs h => ?_)
  refine lv_aload_n (pc := 25) hx hb d_TypeFinder_DataType_init_25 rfl (lv_at hl 0 rfl) ?_
  refine lv_iload_n (pc := 26) hx hb d_TypeFinder_DataType_init_26 rfl (lv_at hl 2 rfl) ?_
  refine xb_putF (pc := 27) (t0 := .int) (ws' := [(h0, .inr (6, [.long k, .int n0, .ref q5_1, .null, .int 1])), (q5_1, .inr (11, [.int 0, .ref (G.2.2.1), .int 0]))]) F h hnm cf_6 0 rfl 1 (by decide) rfl k_92 (by decide +kernel) rfl rfl (Nat.le_of_ble_eq_true rfl) rfl d_TypeFinder_DataType_init_27 (fun H locs h => ?_)
  exact xb_vret (pc := 30) (rm := rm_DataType_init) F hr hlk hA hQ h q5_1 trivial rfl [0, 1] (by decide) rfl (by decide) (by decide) d_TypeFinder_DataType_init_30
abbrev rm_made_0 : Room := { frames := 5, cells := 3, slots := 16, locals := 113 }
set_option maxHeartbeats 4000000 in
set_option maxRecDepth 100000 in
theorem ct_made_0 (l : Launch) (G : xb_EV) (k : Int64) : xb_CT l y_TypeFinder_DataType_made b_TypeFinder_DataType_made 6 (some (.object "TypeFinder$DataType")) rm_made_0 G [] [.long k, .int 0] [] (S := Nat × Nat × Nat) (fun u => some (.ref u.1)) (fun _ => True) (fun u => [(u.1, .inr (6, [.long k, .int 0, .ref u.2.1, .ref u.2.2, .int 1])), (u.2.1, .inr (11, [.int 0, .ref (G.2.2.1), .int 0])), (u.2.2, .inr (5, [.int 3, .int 0, .ref u.1, .null, .null, .null, .null, .int 0]))]) := by
  refine xb_CT.of (by decide) "TypeFinder$DataType" rfl ?_ (Nat.le_of_ble_eq_true rfl)
  intro p e s m args below meth c A ls Q F hr hlk hnm h hl hA hQ
  have hx := F.1.1
  have hb := F.1.2.1
  have hml := F.1.2.2.1
  have hown := F.1.2.2.2.1
  have hts := F.1.2.2.2.2
  have hK := F.2.1
  refine xb_new (pc := 0) (ws' := fun q0_1 => [(q0_1, .inr (6, [.long 0, .int 0, .null, .null, .int 0]))]) F h cf_6 k_93 k_94 k_95 df_6 (fun _ => rfl) (by decide) (by decide) d_TypeFinder_DataType_made_0 (fun q0_1 H h => ?_)
  refine lv_dup (pc := 3) hx hb d_TypeFinder_DataType_made_3 rfl ?_
  refine lv_lload_n (pc := 4) hx hb d_TypeFinder_DataType_made_4 rfl (lv_at hl 0 rfl) ?_
  refine lv_iload_n (pc := 5) hx hb d_TypeFinder_DataType_made_5 rfl (lv_at hl 1 rfl) ?_
  refine xb_callI (pc := 6) (rm := rm_DataType_init) (wr := []) F h (ct_DataType_init l G q0_1 k 0) 2 k_96 k_95 k_97 k_98 rfl hd_TypeFinder_DataType_init (by decide) [0] [] rfl rfl (by decide) (by decide) (by decide) xb_ss0 hl.1 rfl rfl (Nat.le_of_ble_eq_true rfl) (by decide) d_TypeFinder_DataType_made_6 (fun u H locs hu h => ?_)
  obtain ⟨q6_2, rfl⟩ : ∃ z, z = u := ⟨_, rfl⟩
  have h : xb_W G A s [(q0_1, .inr (6, [.long k, .int 0, .ref q6_2, .null, .int 1])), (q6_2, .inr (11, [.int 0, .ref (G.2.2.1), .int 0]))] _ _ := h
  refine W.widen (k := 2) (n := 8) (by decide) (by decide) ?_
  refine W.eq (g2 := F0 m 9 ls [.ref q0_1]) rfl ?_
  refine lv_astore_n (pc := 9) (lv' := [(3, .ref q0_1), (0, .long k), (2, .int 0)]) hx hb d_TypeFinder_DataType_made_9 rfl hl (by decide) rfl (fun ls hl => ?_)
  refine lv_iload_n (pc := 10) hx hb d_TypeFinder_DataType_made_10 rfl (lv_at hl 2 rfl) ?_
  refine lv_if_le (pc := 11) (tgt := 28) hx hb d_TypeFinder_DataType_made_11 (by decide) (fun _ => ?_) (fun h => absurd (by decide) h)
  refine lv_null (pc := 28) hx hb d_TypeFinder_DataType_made_28 ?_
  refine lv_astoreN (pc := 29) (lv' := [(4, .null), (3, .ref q0_1), (0, .long k), (2, .int 0)]) hx hb d_TypeFinder_DataType_made_29 hl (by decide) rfl (fun ls hl => ?_)
  refine lv_iload_n (pc := 31) hx hb d_TypeFinder_DataType_made_31 rfl (lv_at hl 3 rfl) ?_
  refine lv_iconst (pc := 32) (v := 1) hx hb d_TypeFinder_DataType_made_32 (by decide) ?_
  refine lv_icmp_le (pc := 33) (tgt := 50) hx hb d_TypeFinder_DataType_made_33 (by decide) (fun _ => ?_) (fun h => absurd (by decide) h)
  refine lv_null (pc := 50) hx hb d_TypeFinder_DataType_made_50 ?_
  refine lv_astoreN (pc := 51) (lv' := [(5, .null), (4, .null), (3, .ref q0_1), (0, .long k), (2, .int 0)]) hx hb d_TypeFinder_DataType_made_51 hl (by decide) rfl (fun ls hl => ?_)
  refine lv_aload_n (pc := 53) hx hb d_TypeFinder_DataType_made_53 rfl (lv_at hl 2 rfl) ?_
  refine xb_new (pc := 54) (ws' := fun q54_3 => [(q0_1, .inr (6, [.long k, .int 0, .ref q6_2, .null, .int 1])), (q6_2, .inr (11, [.int 0, .ref (G.2.2.1), .int 0])), (q54_3, .inr (5, [.int 0, .int 0, .null, .null, .null, .null, .null, .int 0]))]) F h cf_5 k_99 k_78 k_79 df_5 (fun _ => rfl) (by decide) (by decide) d_TypeFinder_DataType_made_54 (fun q54_3 H h => ?_)
  refine lv_dup (pc := 57) hx hb d_TypeFinder_DataType_made_57 rfl ?_
  refine lv_iconst (pc := 58) (v := 3) hx hb d_TypeFinder_DataType_made_58 (by decide) ?_
  refine lv_aload_n (pc := 59) hx hb d_TypeFinder_DataType_made_59 rfl (lv_at hl 2 rfl) ?_
  refine lv_aloadN (pc := 60) hx hb d_TypeFinder_DataType_made_60 (lv_at hl 1 rfl) ?_
  refine lv_aloadN (pc := 62) hx hb d_TypeFinder_DataType_made_62 (lv_at hl 0 rfl) ?_
  refine xb_callI (pc := 64) (rm := rm_Type_init_rnn) (wr := [(q0_1, .inr (6, [.long k, .int 0, .ref q6_2, .null, .int 1])), (q6_2, .inr (11, [.int 0, .ref (G.2.2.1), .int 0]))]) F h (ct_Type_init_rnn l G q54_3 3 q0_1) 4 k_80 k_79 k_100 k_82 rfl hd_TypeFinder_Type_init (by decide) [2] [0, 1] rfl rfl (by decide) (by decide) (by decide) xb_ss0 hl.1 rfl rfl (Nat.le_of_ble_eq_true rfl) (by decide) d_TypeFinder_DataType_made_64 (fun u H locs hu h => ?_)
  have h : xb_W G A s [(q0_1, .inr (6, [.long k, .int 0, .ref q6_2, .null, .int 1])), (q6_2, .inr (11, [.int 0, .ref (G.2.2.1), .int 0])), (q54_3, .inr (5, [.int 3, .int 0, .ref q0_1, .null, .null, .null, .null, .int 0]))] _ _ := h
  refine W.widen (k := 3) (n := 16) (by decide) (by decide) ?_
  refine W.eq (g2 := F0 m 67 ls [.ref q54_3, .ref q0_1]) rfl ?_
  refine xb_put (pc := 67) (t0 := (.object "TypeFinder$Type")) (ws' := [(q0_1, .inr (6, [.long k, .int 0, .ref q6_2, .ref q54_3, .int 1])), (q6_2, .inr (11, [.int 0, .ref (G.2.2.1), .int 0])), (q54_3, .inr (5, [.int 3, .int 0, .ref q0_1, .null, .null, .null, .null, .int 0]))]) F h cf_6 0 rfl 3 (by decide) rfl k_101 (Or.inl rfl) (by decide +kernel) rfl rfl (Nat.le_of_ble_eq_true rfl) rfl d_TypeFinder_DataType_made_67 (fun H locs h => ?_)
  refine lv_aload_n (pc := 70) hx hb d_TypeFinder_DataType_made_70 rfl (lv_at hl 2 rfl) ?_
  exact xb_aret (pc := 71) (rm := rm_made_0) F hr (by first | exact Or.inl ⟨_, rfl⟩ | exact Or.inr ⟨_, rfl⟩) (by first | exact Or.inl rfl | exact Or.inr ⟨_, rfl⟩) hlk hA hQ h (q0_1, q6_2, q54_3) trivial rfl [0, 1, 2] (by decide) rfl (by decide) (by decide) d_TypeFinder_DataType_made_71
abbrev rm_made_1 : Room := { frames := 5, cells := 4, slots := 24, locals := 113 }
set_option maxHeartbeats 4000000 in
set_option maxRecDepth 100000 in
theorem ct_made_1 (l : Launch) (G : xb_EV) (k : Int64) : xb_CT l y_TypeFinder_DataType_made b_TypeFinder_DataType_made 6 (some (.object "TypeFinder$DataType")) rm_made_1 G [] [.long k, .int 1] [] (S := Nat × Nat × Nat × Nat) (fun u => some (.ref u.1)) (fun _ => True) (fun u => [(u.1, .inr (6, [.long k, .int 1, .ref u.2.1, .ref u.2.2.2, .int 1])), (u.2.1, .inr (11, [.int 0, .ref (G.2.2.1), .int 0])), (u.2.2.1, .inr (5, [.int 5, .int 0, .null, .null, .null, .null, .null, .int 0])), (u.2.2.2, .inr (5, [.int 3, .int 0, .ref u.1, .ref u.2.2.1, .null, .null, .null, .int 0]))]) := by
  refine xb_CT.of (by decide) "TypeFinder$DataType" rfl ?_ (Nat.le_of_ble_eq_true rfl)
  intro p e s m args below meth c A ls Q F hr hlk hnm h hl hA hQ
  have hx := F.1.1
  have hb := F.1.2.1
  have hml := F.1.2.2.1
  have hown := F.1.2.2.2.1
  have hts := F.1.2.2.2.2
  have hK := F.2.1
  refine xb_new (pc := 0) (ws' := fun q0_1 => [(q0_1, .inr (6, [.long 0, .int 0, .null, .null, .int 0]))]) F h cf_6 k_93 k_94 k_95 df_6 (fun _ => rfl) (by decide) (by decide) d_TypeFinder_DataType_made_0 (fun q0_1 H h => ?_)
  refine lv_dup (pc := 3) hx hb d_TypeFinder_DataType_made_3 rfl ?_
  refine lv_lload_n (pc := 4) hx hb d_TypeFinder_DataType_made_4 rfl (lv_at hl 0 rfl) ?_
  refine lv_iload_n (pc := 5) hx hb d_TypeFinder_DataType_made_5 rfl (lv_at hl 1 rfl) ?_
  refine xb_callI (pc := 6) (rm := rm_DataType_init) (wr := []) F h (ct_DataType_init l G q0_1 k 1) 2 k_96 k_95 k_97 k_98 rfl hd_TypeFinder_DataType_init (by decide) [0] [] rfl rfl (by decide) (by decide) (by decide) xb_ss0 hl.1 rfl rfl (Nat.le_of_ble_eq_true rfl) (by decide) d_TypeFinder_DataType_made_6 (fun u H locs hu h => ?_)
  obtain ⟨q6_2, rfl⟩ : ∃ z, z = u := ⟨_, rfl⟩
  have h : xb_W G A s [(q0_1, .inr (6, [.long k, .int 1, .ref q6_2, .null, .int 1])), (q6_2, .inr (11, [.int 0, .ref (G.2.2.1), .int 0]))] _ _ := h
  refine W.widen (k := 2) (n := 8) (by decide) (by decide) ?_
  refine W.eq (g2 := F0 m 9 ls [.ref q0_1]) rfl ?_
  refine lv_astore_n (pc := 9) (lv' := [(3, .ref q0_1), (0, .long k), (2, .int 1)]) hx hb d_TypeFinder_DataType_made_9 rfl hl (by decide) rfl (fun ls hl => ?_)
  refine lv_iload_n (pc := 10) hx hb d_TypeFinder_DataType_made_10 rfl (lv_at hl 2 rfl) ?_
  refine lv_if_le (pc := 11) (tgt := 28) hx hb d_TypeFinder_DataType_made_11 (by decide) (fun h => absurd h (by decide)) (fun _ => ?_)
  refine xb_new (pc := 14) (ws' := fun q14_3 => [(q0_1, .inr (6, [.long k, .int 1, .ref q6_2, .null, .int 1])), (q6_2, .inr (11, [.int 0, .ref (G.2.2.1), .int 0])), (q14_3, .inr (5, [.int 0, .int 0, .null, .null, .null, .null, .null, .int 0]))]) F h cf_5 k_99 k_78 k_79 df_5 (fun _ => rfl) (by decide) (by decide) d_TypeFinder_DataType_made_14 (fun q14_3 H h => ?_)
  refine lv_dup (pc := 17) hx hb d_TypeFinder_DataType_made_17 rfl ?_
  refine lv_iconst (pc := 18) (v := 5) hx hb d_TypeFinder_DataType_made_18 (by decide) ?_
  refine lv_null (pc := 19) hx hb d_TypeFinder_DataType_made_19 ?_
  refine lv_null (pc := 20) hx hb d_TypeFinder_DataType_made_20 ?_
  refine lv_null (pc := 21) hx hb d_TypeFinder_DataType_made_21 ?_
  refine xb_callI (pc := 22) (rm := rm_Type_init_nnn) (wr := [(q0_1, .inr (6, [.long k, .int 1, .ref q6_2, .null, .int 1])), (q6_2, .inr (11, [.int 0, .ref (G.2.2.1), .int 0]))]) F h (ct_Type_init_nnn l G q14_3 5) 4 k_80 k_79 k_100 k_82 rfl hd_TypeFinder_Type_init (by decide) [2] [0, 1] rfl rfl (by decide) (by decide) (by decide) xb_ss0 hl.1 rfl rfl (Nat.le_of_ble_eq_true rfl) (by decide) d_TypeFinder_DataType_made_22 (fun u H locs hu h => ?_)
  have h : xb_W G A s [(q0_1, .inr (6, [.long k, .int 1, .ref q6_2, .null, .int 1])), (q6_2, .inr (11, [.int 0, .ref (G.2.2.1), .int 0])), (q14_3, .inr (5, [.int 5, .int 0, .null, .null, .null, .null, .null, .int 0]))] _ _ := h
  refine W.widen (k := 3) (n := 16) (by decide) (by decide) ?_
  refine W.eq (g2 := F0 m 25 ls [.ref q14_3]) rfl ?_
  refine lv_goto (pc := 25) (tgt := 29) hx hb d_TypeFinder_DataType_made_25 (by decide) ?_
  refine lv_astore (pc := 29) (lv' := [(4, .ref q14_3), (3, .ref q0_1), (0, .long k), (2, .int 1)]) hx hb d_TypeFinder_DataType_made_29 hl (by decide) rfl (fun ls hl => ?_)
  refine lv_iload_n (pc := 31) hx hb d_TypeFinder_DataType_made_31 rfl (lv_at hl 3 rfl) ?_
  refine lv_iconst (pc := 32) (v := 1) hx hb d_TypeFinder_DataType_made_32 (by decide) ?_
  refine lv_icmp_le (pc := 33) (tgt := 50) hx hb d_TypeFinder_DataType_made_33 (by decide) (fun _ => ?_) (fun h => absurd (by decide) h)
  refine lv_null (pc := 50) hx hb d_TypeFinder_DataType_made_50 ?_
  refine lv_astoreN (pc := 51) (lv' := [(5, .null), (4, .ref q14_3), (3, .ref q0_1), (0, .long k), (2, .int 1)]) hx hb d_TypeFinder_DataType_made_51 hl (by decide) rfl (fun ls hl => ?_)
  refine lv_aload_n (pc := 53) hx hb d_TypeFinder_DataType_made_53 rfl (lv_at hl 2 rfl) ?_
  refine xb_new (pc := 54) (ws' := fun q54_4 => [(q0_1, .inr (6, [.long k, .int 1, .ref q6_2, .null, .int 1])), (q6_2, .inr (11, [.int 0, .ref (G.2.2.1), .int 0])), (q14_3, .inr (5, [.int 5, .int 0, .null, .null, .null, .null, .null, .int 0])), (q54_4, .inr (5, [.int 0, .int 0, .null, .null, .null, .null, .null, .int 0]))]) F h cf_5 k_99 k_78 k_79 df_5 (fun _ => rfl) (by decide) (by decide) d_TypeFinder_DataType_made_54 (fun q54_4 H h => ?_)
  refine lv_dup (pc := 57) hx hb d_TypeFinder_DataType_made_57 rfl ?_
  refine lv_iconst (pc := 58) (v := 3) hx hb d_TypeFinder_DataType_made_58 (by decide) ?_
  refine lv_aload_n (pc := 59) hx hb d_TypeFinder_DataType_made_59 rfl (lv_at hl 2 rfl) ?_
  refine lv_aload (pc := 60) hx hb d_TypeFinder_DataType_made_60 (lv_at hl 1 rfl) ?_
  refine lv_aloadN (pc := 62) hx hb d_TypeFinder_DataType_made_62 (lv_at hl 0 rfl) ?_
  refine xb_callI (pc := 64) (rm := rm_Type_init_rrn) (wr := [(q0_1, .inr (6, [.long k, .int 1, .ref q6_2, .null, .int 1])), (q6_2, .inr (11, [.int 0, .ref (G.2.2.1), .int 0])), (q14_3, .inr (5, [.int 5, .int 0, .null, .null, .null, .null, .null, .int 0]))]) F h (ct_Type_init_rrn l G q54_4 3 q0_1 q14_3) 4 k_80 k_79 k_100 k_82 rfl hd_TypeFinder_Type_init (by decide) [3] [0, 1, 2] rfl rfl (by decide) (by decide) (by decide) xb_ss0 hl.1 rfl rfl (Nat.le_of_ble_eq_true rfl) (by decide) d_TypeFinder_DataType_made_64 (fun u H locs hu h => ?_)
  have h : xb_W G A s [(q0_1, .inr (6, [.long k, .int 1, .ref q6_2, .null, .int 1])), (q6_2, .inr (11, [.int 0, .ref (G.2.2.1), .int 0])), (q14_3, .inr (5, [.int 5, .int 0, .null, .null, .null, .null, .null, .int 0])), (q54_4, .inr (5, [.int 3, .int 0, .ref q0_1, .ref q14_3, .null, .null, .null, .int 0]))] _ _ := h
  refine W.widen (k := 4) (n := 24) (by decide) (by decide) ?_
  refine W.eq (g2 := F0 m 67 ls [.ref q54_4, .ref q0_1]) rfl ?_
  refine xb_put (pc := 67) (t0 := (.object "TypeFinder$Type")) (ws' := [(q0_1, .inr (6, [.long k, .int 1, .ref q6_2, .ref q54_4, .int 1])), (q6_2, .inr (11, [.int 0, .ref (G.2.2.1), .int 0])), (q14_3, .inr (5, [.int 5, .int 0, .null, .null, .null, .null, .null, .int 0])), (q54_4, .inr (5, [.int 3, .int 0, .ref q0_1, .ref q14_3, .null, .null, .null, .int 0]))]) F h cf_6 0 rfl 3 (by decide) rfl k_101 (Or.inl rfl) (by decide +kernel) rfl rfl (Nat.le_of_ble_eq_true rfl) rfl d_TypeFinder_DataType_made_67 (fun H locs h => ?_)
  refine lv_aload_n (pc := 70) hx hb d_TypeFinder_DataType_made_70 rfl (lv_at hl 2 rfl) ?_
  exact xb_aret (pc := 71) (rm := rm_made_1) F hr (by first | exact Or.inl ⟨_, rfl⟩ | exact Or.inr ⟨_, rfl⟩) (by first | exact Or.inl rfl | exact Or.inr ⟨_, rfl⟩) hlk hA hQ h (q0_1, q6_2, q14_3, q54_4) trivial rfl [0, 1, 2, 3] (by decide) rfl (by decide) (by decide) d_TypeFinder_DataType_made_71
abbrev rm_Unifier_init : Room := { frames := 4, cells := 3, slots := 9, locals := 90 }
set_option maxHeartbeats 4000000 in
set_option maxRecDepth 100000 in
theorem ct_Unifier_init (l : Launch) (G : xb_EV) (h0 : Nat) : xb_CT l y_TypeFinder_Unifier_init b_TypeFinder_Unifier_init 1 none rm_Unifier_init G [] [.ref h0] [(h0, .inr (9, [.null, .null, .null, .int 0]))] (S := Unit) (fun _ => none) (fun _ => True) (fun _ => []) := by
  refine xb_CT.of (by decide) "TypeFinder$Unifier" rfl ?_ (Nat.le_of_ble_eq_true rfl)
  intro p e s m args below meth c A ls Q F hr hlk hnm h hl hA hQ
  have hx := F.1.1
  have hb := F.1.2.1
  have hml := F.1.2.2.1
  have hown := F.1.2.2.2.1
  have hts := F.1.2.2.2.2
  have hK := F.2.1
  refine lv_aload_n (pc := 0) hx hb d_TypeFinder_Unifier_init_0 rfl (lv_at hl 0 rfl) ?_
  refine W.objInit hx hb hown (hts _ k_102) (hts _ k_25) (hts _ k_26) rfl (by rw [hml]; exact hl.1) rfl d_TypeFinder_Unifier_init_1 (Nat.le_of_ble_eq_true rfl) (Nat.le_of_ble_eq_true rfl) ?_
  refine W.eq (g2 := F0 m 4 ls []) rfl ?_
  refine lv_aload_n (pc := 4) hx hb d_TypeFinder_Unifier_init_4 rfl (lv_at hl 0 rfl) ?_
  refine xb_new (pc := 5) (ws' := fun q5_1 => [(h0, .inr (9, [.null, .null, .null, .int 0])), (q5_1, .inr (11, [.int 0, .null, .int 0]))]) F h cf_11 k_103 k_85 k_45 df_11 (fun _ => rfl) (by decide) (by decide) d_TypeFinder_Unifier_init_5 (fun q5_1 H h => ?_)
  refine lv_dup (pc := 8) hx hb d_TypeFinder_Unifier_init_8 rfl ?_
  refine xb_callI (pc := 9) (rm := rm_ArrayList_init) (wr := [(h0, .inr (9, [.null, .null, .null, .int 0]))]) F h (ct_ArrayList_init l G q5_1) 0 k_86 k_45 k_104 k_88 rfl hd_ArrayList_init (by decide) [1] [0] rfl rfl (by decide) (by decide) (by decide) xb_ss0 hl.1 rfl rfl (Nat.le_of_ble_eq_true rfl) (by decide) d_TypeFinder_Unifier_init_9 (fun u H locs hu h => ?_)
  have h : xb_W G A s [(h0, .inr (9, [.null, .null, .null, .int 0])), (q5_1, .inr (11, [.int 0, .ref (G.2.2.1), .int 0]))] _ _ := h
  refine W.widen (k := 1) (n := 3) (by decide) (by decide) ?_
  refine W.eq (g2 := F0 m 12 ls [.ref q5_1, .ref h0]) rfl ?_
  refine xb_putF (pc := 12) (t0 := (.object "java/util/ArrayList")) (ws' := [(h0, .inr (9, [.ref q5_1, .null, .null, .int 0])), (q5_1, .inr (11, [.int 0, .ref (G.2.2.1), .int 0]))]) F h hnm cf_9 0 rfl 0 (by decide) rfl k_105 (by decide +kernel) rfl rfl (Nat.le_of_ble_eq_true rfl) rfl d_TypeFinder_Unifier_init_12 (fun H locs h => ?_)
  refine lv_aload_n (pc := 15) hx hb d_TypeFinder_Unifier_init_15 rfl (lv_at hl 0 rfl) ?_
  refine xb_new (pc := 16) (ws' := fun q16_2 => [(h0, .inr (9, [.ref q5_1, .null, .null, .int 0])), (q5_1, .inr (11, [.int 0, .ref (G.2.2.1), .int 0])), (q16_2, .inr (11, [.int 0, .null, .int 0]))]) F h cf_11 k_103 k_85 k_45 df_11 (fun _ => rfl) (by decide) (by decide) d_TypeFinder_Unifier_init_16 (fun q16_2 H h => ?_)
  refine lv_dup (pc := 19) hx hb d_TypeFinder_Unifier_init_19 rfl ?_
  refine xb_callI (pc := 20) (rm := rm_ArrayList_init) (wr := [(h0, .inr (9, [.ref q5_1, .null, .null, .int 0])), (q5_1, .inr (11, [.int 0, .ref (G.2.2.1), .int 0]))]) F h (ct_ArrayList_init l G q16_2) 0 k_86 k_45 k_104 k_88 rfl hd_ArrayList_init (by decide) [2] [0, 1] rfl rfl (by decide) (by decide) (by decide) xb_ss0 hl.1 rfl rfl (Nat.le_of_ble_eq_true rfl) (by decide) d_TypeFinder_Unifier_init_20 (fun u H locs hu h => ?_)
  have h : xb_W G A s [(h0, .inr (9, [.ref q5_1, .null, .null, .int 0])), (q5_1, .inr (11, [.int 0, .ref (G.2.2.1), .int 0])), (q16_2, .inr (11, [.int 0, .ref (G.2.2.1), .int 0]))] _ _ := h
  refine W.widen (k := 2) (n := 6) (by decide) (by decide) ?_
  refine W.eq (g2 := F0 m 23 ls [.ref q16_2, .ref h0]) rfl ?_
  refine xb_putF (pc := 23) (t0 := (.object "java/util/ArrayList")) (ws' := [(h0, .inr (9, [.ref q5_1, .ref q16_2, .null, .int 0])), (q5_1, .inr (11, [.int 0, .ref (G.2.2.1), .int 0])), (q16_2, .inr (11, [.int 0, .ref (G.2.2.1), .int 0]))]) F h hnm cf_9 0 rfl 1 (by decide) rfl k_106 (by decide +kernel) rfl rfl (Nat.le_of_ble_eq_true rfl) rfl d_TypeFinder_Unifier_init_23 (fun H locs h => ?_)
  refine lv_aload_n (pc := 26) hx hb d_TypeFinder_Unifier_init_26 rfl (lv_at hl 0 rfl) ?_
  refine xb_new (pc := 27) (ws' := fun q27_3 => [(h0, .inr (9, [.ref q5_1, .ref q16_2, .null, .int 0])), (q5_1, .inr (11, [.int 0, .ref (G.2.2.1), .int 0])), (q16_2, .inr (11, [.int 0, .ref (G.2.2.1), .int 0])), (q27_3, .inr (11, [.int 0, .null, .int 0]))]) F h cf_11 k_103 k_85 k_45 df_11 (fun _ => rfl) (by decide) (by decide) d_TypeFinder_Unifier_init_27 (fun q27_3 H h => ?_)
  refine lv_dup (pc := 30) hx hb d_TypeFinder_Unifier_init_30 rfl ?_
  refine xb_callI (pc := 31) (rm := rm_ArrayList_init) (wr := [(h0, .inr (9, [.ref q5_1, .ref q16_2, .null, .int 0])), (q5_1, .inr (11, [.int 0, .ref (G.2.2.1), .int 0])), (q16_2, .inr (11, [.int 0, .ref (G.2.2.1), .int 0]))]) F h (ct_ArrayList_init l G q27_3) 0 k_86 k_45 k_104 k_88 rfl hd_ArrayList_init (by decide) [3] [0, 1, 2] rfl rfl (by decide) (by decide) (by decide) xb_ss0 hl.1 rfl rfl (Nat.le_of_ble_eq_true rfl) (by decide) d_TypeFinder_Unifier_init_31 (fun u H locs hu h => ?_)
  have h : xb_W G A s [(h0, .inr (9, [.ref q5_1, .ref q16_2, .null, .int 0])), (q5_1, .inr (11, [.int 0, .ref (G.2.2.1), .int 0])), (q16_2, .inr (11, [.int 0, .ref (G.2.2.1), .int 0])), (q27_3, .inr (11, [.int 0, .ref (G.2.2.1), .int 0]))] _ _ := h
  refine W.widen (k := 3) (n := 9) (by decide) (by decide) ?_
  refine W.eq (g2 := F0 m 34 ls [.ref q27_3, .ref h0]) rfl ?_
  refine xb_putF (pc := 34) (t0 := (.object "java/util/ArrayList")) (ws' := [(h0, .inr (9, [.ref q5_1, .ref q16_2, .ref q27_3, .int 0])), (q5_1, .inr (11, [.int 0, .ref (G.2.2.1), .int 0])), (q16_2, .inr (11, [.int 0, .ref (G.2.2.1), .int 0])), (q27_3, .inr (11, [.int 0, .ref (G.2.2.1), .int 0]))]) F h hnm cf_9 0 rfl 2 (by decide) rfl k_107 (by decide +kernel) rfl rfl (Nat.le_of_ble_eq_true rfl) rfl d_TypeFinder_Unifier_init_34 (fun H locs h => ?_)
  exact xb_vret (pc := 37) (rm := rm_Unifier_init) F hr hlk hA hQ h () trivial rfl [] (by decide) rfl (by decide) (by decide) d_TypeFinder_Unifier_init_37
abbrev rm_Checker_init : Room := { frames := 5, cells := 6, slots := 19, locals := 110 }
set_option maxHeartbeats 4000000 in
set_option maxRecDepth 100000 in
theorem ct_Checker_init (l : Launch) (G : xb_EV) (h0 : Nat) (k0 : Nat) : xb_CT l y_TypeFinder_Checker_init b_TypeFinder_Checker_init 2 none rm_Checker_init G [] [.ref h0, .ref k0] [(h0, .inr (8, [.null, .null, .null, .null, .int 0, .int 0]))] (S := Unit) (fun _ => none) (fun _ => True) (fun _ => []) := by
  refine xb_CT.of (by decide) "TypeFinder$Checker" rfl ?_ (Nat.le_of_ble_eq_true rfl)
  intro p e s m args below meth c A ls Q F hr hlk hnm h hl hA hQ
  have hx := F.1.1
  have hb := F.1.2.1
  have hml := F.1.2.2.1
  have hown := F.1.2.2.2.1
  have hts := F.1.2.2.2.2
  have hK := F.2.1
  refine lv_aload_n (pc := 0) hx hb d_TypeFinder_Checker_init_0 rfl (lv_at hl 0 rfl) ?_
  refine W.objInit hx hb hown (hts _ k_108) (hts _ k_25) (hts _ k_26) rfl (by rw [hml]; exact hl.1) rfl d_TypeFinder_Checker_init_1 (Nat.le_of_ble_eq_true rfl) (Nat.le_of_ble_eq_true rfl) ?_
  refine W.eq (g2 := F0 m 4 ls []) rfl ?_
  refine lv_aload_n (pc := 4) hx hb d_TypeFinder_Checker_init_4 rfl (lv_at hl 0 rfl) ?_
  refine xb_new (pc := 5) (ws' := fun q5_1 => [(h0, .inr (8, [.null, .null, .null, .null, .int 0, .int 0])), (q5_1, .inr (9, [.null, .null, .null, .int 0]))]) F h cf_9 k_109 k_110 k_111 df_9 (fun _ => rfl) (by decide) (by decide) d_TypeFinder_Checker_init_5 (fun q5_1 H h => ?_)
  refine lv_dup (pc := 8) hx hb d_TypeFinder_Checker_init_8 rfl ?_
  refine xb_callI (pc := 9) (rm := rm_Unifier_init) (wr := [(h0, .inr (8, [.null, .null, .null, .null, .int 0, .int 0]))]) F h (ct_Unifier_init l G q5_1) 0 k_112 k_111 k_113 k_114 rfl hd_TypeFinder_Unifier_init (by decide) [1] [0] rfl rfl (by decide) (by decide) (by decide) xb_ss0 hl.1 rfl rfl (Nat.le_of_ble_eq_true rfl) (by decide) d_TypeFinder_Checker_init_9 (fun u H locs hu h => ?_)
  have h : xb_W G A s [(h0, .inr (8, [.null, .null, .null, .null, .int 0, .int 0]))] _ _ := h
  refine W.widen (k := 4) (n := 13) (by decide) (by decide) ?_
  refine W.eq (g2 := F0 m 12 ls [.ref q5_1, .ref h0]) rfl ?_
  refine xb_putF (pc := 12) (t0 := (.object "TypeFinder$Unifier")) (ws' := [(h0, .inr (8, [.null, .ref q5_1, .null, .null, .int 0, .int 0]))]) F h hnm cf_8 0 rfl 1 (by decide) rfl k_115 (by decide +kernel) rfl rfl (Nat.le_of_ble_eq_true rfl) rfl d_TypeFinder_Checker_init_12 (fun H locs h => ?_)
  refine lv_aload_n (pc := 15) hx hb d_TypeFinder_Checker_init_15 rfl (lv_at hl 0 rfl) ?_
  refine xb_new (pc := 16) (ws' := fun q16_2 => [(h0, .inr (8, [.null, .ref q5_1, .null, .null, .int 0, .int 0])), (q16_2, .inr (11, [.int 0, .null, .int 0]))]) F h cf_11 k_116 k_85 k_45 df_11 (fun _ => rfl) (by decide) (by decide) d_TypeFinder_Checker_init_16 (fun q16_2 H h => ?_)
  refine lv_dup (pc := 19) hx hb d_TypeFinder_Checker_init_19 rfl ?_
  refine xb_callI (pc := 20) (rm := rm_ArrayList_init) (wr := [(h0, .inr (8, [.null, .ref q5_1, .null, .null, .int 0, .int 0]))]) F h (ct_ArrayList_init l G q16_2) 0 k_86 k_45 k_117 k_88 rfl hd_ArrayList_init (by decide) [1] [0] rfl rfl (by decide) (by decide) (by decide) xb_ss0 hl.1 rfl rfl (Nat.le_of_ble_eq_true rfl) (by decide) d_TypeFinder_Checker_init_20 (fun u H locs hu h => ?_)
  have h : xb_W G A s [(h0, .inr (8, [.null, .ref q5_1, .null, .null, .int 0, .int 0])), (q16_2, .inr (11, [.int 0, .ref (G.2.2.1), .int 0]))] _ _ := h
  refine W.widen (k := 5) (n := 16) (by decide) (by decide) ?_
  refine W.eq (g2 := F0 m 23 ls [.ref q16_2, .ref h0]) rfl ?_
  refine xb_putF (pc := 23) (t0 := (.object "java/util/ArrayList")) (ws' := [(h0, .inr (8, [.null, .ref q5_1, .ref q16_2, .null, .int 0, .int 0])), (q16_2, .inr (11, [.int 0, .ref (G.2.2.1), .int 0]))]) F h hnm cf_8 0 rfl 2 (by decide) rfl k_118 (by decide +kernel) rfl rfl (Nat.le_of_ble_eq_true rfl) rfl d_TypeFinder_Checker_init_23 (fun H locs h => ?_)
  refine lv_aload_n (pc := 26) hx hb d_TypeFinder_Checker_init_26 rfl (lv_at hl 0 rfl) ?_
  refine xb_new (pc := 27) (ws' := fun q27_3 => [(h0, .inr (8, [.null, .ref q5_1, .ref q16_2, .null, .int 0, .int 0])), (q16_2, .inr (11, [.int 0, .ref (G.2.2.1), .int 0])), (q27_3, .inr (11, [.int 0, .null, .int 0]))]) F h cf_11 k_116 k_85 k_45 df_11 (fun _ => rfl) (by decide) (by decide) d_TypeFinder_Checker_init_27 (fun q27_3 H h => ?_)
  refine lv_dup (pc := 30) hx hb d_TypeFinder_Checker_init_30 rfl ?_
  refine xb_callI (pc := 31) (rm := rm_ArrayList_init) (wr := [(h0, .inr (8, [.null, .ref q5_1, .ref q16_2, .null, .int 0, .int 0])), (q16_2, .inr (11, [.int 0, .ref (G.2.2.1), .int 0]))]) F h (ct_ArrayList_init l G q27_3) 0 k_86 k_45 k_117 k_88 rfl hd_ArrayList_init (by decide) [2] [0, 1] rfl rfl (by decide) (by decide) (by decide) xb_ss0 hl.1 rfl rfl (Nat.le_of_ble_eq_true rfl) (by decide) d_TypeFinder_Checker_init_31 (fun u H locs hu h => ?_)
  have h : xb_W G A s [(h0, .inr (8, [.null, .ref q5_1, .ref q16_2, .null, .int 0, .int 0])), (q16_2, .inr (11, [.int 0, .ref (G.2.2.1), .int 0])), (q27_3, .inr (11, [.int 0, .ref (G.2.2.1), .int 0]))] _ _ := h
  refine W.widen (k := 6) (n := 19) (by decide) (by decide) ?_
  refine W.eq (g2 := F0 m 34 ls [.ref q27_3, .ref h0]) rfl ?_
  refine xb_putF (pc := 34) (t0 := (.object "java/util/ArrayList")) (ws' := [(h0, .inr (8, [.null, .ref q5_1, .ref q16_2, .ref q27_3, .int 0, .int 0])), (q16_2, .inr (11, [.int 0, .ref (G.2.2.1), .int 0])), (q27_3, .inr (11, [.int 0, .ref (G.2.2.1), .int 0]))]) F h hnm cf_8 0 rfl 3 (by decide) rfl k_119 (by decide +kernel) rfl rfl (Nat.le_of_ble_eq_true rfl) rfl d_TypeFinder_Checker_init_34 (fun H locs h => ?_)
  refine lv_aload_n (pc := 37) hx hb d_TypeFinder_Checker_init_37 rfl (lv_at hl 0 rfl) ?_
  refine lv_aload_n (pc := 38) hx hb d_TypeFinder_Checker_init_38 rfl (lv_at hl 1 rfl) ?_
  refine xb_putF (pc := 39) (t0 := (.object "TypeFinder$Known")) (ws' := [(h0, .inr (8, [.ref k0, .ref q5_1, .ref q16_2, .ref q27_3, .int 0, .int 0])), (q16_2, .inr (11, [.int 0, .ref (G.2.2.1), .int 0])), (q27_3, .inr (11, [.int 0, .ref (G.2.2.1), .int 0]))]) F h hnm cf_8 0 rfl 0 (by decide) rfl k_120 (by decide +kernel) rfl rfl (Nat.le_of_ble_eq_true rfl) rfl d_TypeFinder_Checker_init_39 (fun H locs h => ?_)
  exact xb_vret (pc := 42) (rm := rm_Checker_init) F hr hlk hA hQ h () trivial rfl [] (by decide) rfl (by decide) (by decide) d_TypeFinder_Checker_init_42
abbrev rm_Writer_init : Room := { frames := 4, cells := 3, slots := 23, locals := 90 }
set_option maxHeartbeats 4000000 in
set_option maxRecDepth 100000 in
theorem ct_Writer_init (l : Launch) (G : xb_EV) (h0 : Nat) : xb_CT l y_TypeFinder_Writer_init b_TypeFinder_Writer_init 1 none rm_Writer_init G [] [.ref h0] [(h0, .inr (10, [.null, .null]))] (S := Nat × Nat × Nat) (fun _ => none) (fun _ => True) (fun u => [(h0, .inr (10, [.ref u.1, .ref u.2.2])), (u.1, .inr (12, [.ref u.2.1, .int 0, .int 0, .int 0])), (u.2.2, .inr (11, [.int 0, .ref (G.2.2.1), .int 0]))]) := by
  refine xb_CT.of (by decide) "TypeFinder$Writer" rfl ?_ (Nat.le_of_ble_eq_true rfl)
  intro p e s m args below meth c A ls Q F hr hlk hnm h hl hA hQ
  have hx := F.1.1
  have hb := F.1.2.1
  have hml := F.1.2.2.1
  have hown := F.1.2.2.2.1
  have hts := F.1.2.2.2.2
  have hK := F.2.1
  refine lv_aload_n (pc := 0) hx hb d_TypeFinder_Writer_init_0 rfl (lv_at hl 0 rfl) ?_
  refine W.objInit hx hb hown (hts _ k_121) (hts _ k_25) (hts _ k_26) rfl (by rw [hml]; exact hl.1) rfl d_TypeFinder_Writer_init_1 (Nat.le_of_ble_eq_true rfl) (Nat.le_of_ble_eq_true rfl) ?_
  refine W.eq (g2 := F0 m 4 ls []) rfl ?_
  refine lv_aload_n (pc := 4) hx hb d_TypeFinder_Writer_init_4 rfl (lv_at hl 0 rfl) ?_
  refine xb_new (pc := 5) (ws' := fun q5_1 => [(h0, .inr (10, [.null, .null])), (q5_1, .inr (12, [.null, .int 0, .int 0, .int 0]))]) F h cf_12 k_122 k_123 k_124 df_12 (fun _ => rfl) (by decide) (by decide) d_TypeFinder_Writer_init_5 (fun q5_1 H h => ?_)
  refine lv_dup (pc := 8) hx hb d_TypeFinder_Writer_init_8 rfl ?_
  refine xb_callI (pc := 9) (rm := rm_SB_init) (wr := [(h0, .inr (10, [.null, .null]))]) F h (ct_SB_init l G q5_1) 0 k_125 k_124 k_126 k_127 rfl hd_StringBuilder_init (by decide) [1] [0] rfl rfl (by decide) (by decide) (by decide) xb_ss0 hl.1 rfl rfl (Nat.le_of_ble_eq_true rfl) (by decide) d_TypeFinder_Writer_init_9 (fun u H locs hu h => ?_)
  obtain ⟨q9_2, rfl⟩ : ∃ z, z = u := ⟨_, rfl⟩
  have h : xb_W G A s [(h0, .inr (10, [.null, .null])), (q5_1, .inr (12, [.ref q9_2, .int 0, .int 0, .int 0]))] _ _ := h
  refine W.widen (k := 2) (n := 20) (by decide) (by decide) ?_
  refine W.eq (g2 := F0 m 12 ls [.ref q5_1, .ref h0]) rfl ?_
  refine xb_putF (pc := 12) (t0 := (.object "java/lang/StringBuilder")) (ws' := [(h0, .inr (10, [.ref q5_1, .null])), (q5_1, .inr (12, [.ref q9_2, .int 0, .int 0, .int 0]))]) F h hnm cf_10 0 rfl 0 (by decide) rfl k_128 (by decide +kernel) rfl rfl (Nat.le_of_ble_eq_true rfl) rfl d_TypeFinder_Writer_init_12 (fun H locs h => ?_)
  refine lv_aload_n (pc := 15) hx hb d_TypeFinder_Writer_init_15 rfl (lv_at hl 0 rfl) ?_
  refine xb_new (pc := 16) (ws' := fun q16_3 => [(h0, .inr (10, [.ref q5_1, .null])), (q5_1, .inr (12, [.ref q9_2, .int 0, .int 0, .int 0])), (q16_3, .inr (11, [.int 0, .null, .int 0]))]) F h cf_11 k_129 k_85 k_45 df_11 (fun _ => rfl) (by decide) (by decide) d_TypeFinder_Writer_init_16 (fun q16_3 H h => ?_)
  refine lv_dup (pc := 19) hx hb d_TypeFinder_Writer_init_19 rfl ?_
  refine xb_callI (pc := 20) (rm := rm_ArrayList_init) (wr := [(h0, .inr (10, [.ref q5_1, .null])), (q5_1, .inr (12, [.ref q9_2, .int 0, .int 0, .int 0]))]) F h (ct_ArrayList_init l G q16_3) 0 k_86 k_45 k_130 k_88 rfl hd_ArrayList_init (by decide) [2] [0, 1] rfl rfl (by decide) (by decide) (by decide) xb_ss0 hl.1 rfl rfl (Nat.le_of_ble_eq_true rfl) (by decide) d_TypeFinder_Writer_init_20 (fun u H locs hu h => ?_)
  have h : xb_W G A s [(h0, .inr (10, [.ref q5_1, .null])), (q5_1, .inr (12, [.ref q9_2, .int 0, .int 0, .int 0])), (q16_3, .inr (11, [.int 0, .ref (G.2.2.1), .int 0]))] _ _ := h
  refine W.widen (k := 3) (n := 23) (by decide) (by decide) ?_
  refine W.eq (g2 := F0 m 23 ls [.ref q16_3, .ref h0]) rfl ?_
  refine xb_putF (pc := 23) (t0 := (.object "java/util/ArrayList")) (ws' := [(h0, .inr (10, [.ref q5_1, .ref q16_3])), (q5_1, .inr (12, [.ref q9_2, .int 0, .int 0, .int 0])), (q16_3, .inr (11, [.int 0, .ref (G.2.2.1), .int 0]))]) F h hnm cf_10 0 rfl 1 (by decide) rfl k_131 (by decide +kernel) rfl rfl (Nat.le_of_ble_eq_true rfl) rfl d_TypeFinder_Writer_init_23 (fun H locs h => ?_)
  exact xb_vret (pc := 26) (rm := rm_Writer_init) F hr hlk hA hQ h (q5_1, q9_2, q16_3) trivial rfl [0, 1, 2] (by decide) rfl (by decide) (by decide) d_TypeFinder_Writer_init_26
abbrev rm_DataParser_init : Room := { frames := 1, cells := 0, slots := 0, locals := 30 }
set_option maxHeartbeats 4000000 in
set_option maxRecDepth 100000 in
theorem ct_DataParser_init (l : Launch) (G : xb_EV) (h0 : Nat) (k0 : Nat) : xb_CT l y_TypeFinder_DataParser_init b_TypeFinder_DataParser_init 2 none rm_DataParser_init G [] [.ref h0, .ref k0] [(h0, .inr (3, [.null]))] (S := Unit) (fun _ => none) (fun _ => True) (fun _ => []) := by
  refine xb_CT.of (by decide) "TypeFinder$DataParser" rfl ?_ (Nat.le_of_ble_eq_true rfl)
  intro p e s m args below meth c A ls Q F hr hlk hnm h hl hA hQ
  have hx := F.1.1
  have hb := F.1.2.1
  have hml := F.1.2.2.1
  have hown := F.1.2.2.2.1
  have hts := F.1.2.2.2.2
  have hK := F.2.1
  refine lv_aload_n (pc := 0) hx hb d_TypeFinder_DataParser_init_0 rfl (lv_at hl 0 rfl) ?_
  refine W.objInit hx hb hown (hts _ k_132) (hts _ k_25) (hts _ k_26) rfl (by rw [hml]; exact hl.1) rfl d_TypeFinder_DataParser_init_1 (Nat.le_of_ble_eq_true rfl) (Nat.le_of_ble_eq_true rfl) ?_
  refine W.eq (g2 := F0 m 4 ls []) rfl ?_
  refine lv_aload_n (pc := 4) hx hb d_TypeFinder_DataParser_init_4 rfl (lv_at hl 0 rfl) ?_
  refine lv_aload_n (pc := 5) hx hb d_TypeFinder_DataParser_init_5 rfl (lv_at hl 1 rfl) ?_
  refine xb_putF (pc := 6) (t0 := (.object "TypeFinder$Tokens")) (ws' := [(h0, .inr (3, [.ref k0]))]) F h hnm cf_3 0 rfl 0 (by decide) rfl k_133 (by decide +kernel) rfl rfl (Nat.le_of_ble_eq_true rfl) rfl d_TypeFinder_DataParser_init_6 (fun H locs h => ?_)
  exact xb_vret (pc := 9) (rm := rm_DataParser_init) F hr hlk hA hQ h () trivial rfl [] (by decide) rfl (by decide) (by decide) d_TypeFinder_DataParser_init_9
