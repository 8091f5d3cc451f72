abbrev rm_TypeFinder_Known_declaredNames_a18 : Room := { frames := 1, cells := 0, slots := 0, locals := 50 }
set_option maxHeartbeats 4000000 in
set_option maxRecDepth 100000 in
theorem ct_TypeFinder_Known_declaredNames_a18 (l : Launch) (G : xb_EV) (a0 : Nat) (a1 : Nat) (a2 : Nat) (a3 : Nat) (a4 : Nat) (a5 : Nat) : xb_CT l y_TypeFinder_Known_declaredNames b_TypeFinder_Known_declaredNames 1 (some .int) rm_TypeFinder_Known_declaredNames_a18 G [] [.ref a0] [(a0, .inr (4, [.ref a2, .ref a3, .ref a4, .ref a1, .int 6])), (a1, .inr (11, [.int 6, .ref a5, .int 6]))] (S := Unit) (fun _ => some (.int 0)) (fun _ => True) (fun _ => [(a0, .inr (4, [.ref a2, .ref a3, .ref a4, .ref a1, .int 6])), (a1, .inr (11, [.int 6, .ref a5, .int 6]))]) := by
  refine xb_CT.of (by decide) "TypeFinder$Known" rfl ?_ (Nat.le_of_ble_eq_true rfl)
  intro p e s m args below meth c A ls Q F hr hlk hnm h hl hA hQ
  have hx := F.1.1
  have hb := F.1.2.1
  have hml := F.1.2.2.1
  have hown := F.1.2.2.2.1
  have hts := F.1.2.2.2.2
  have hK := F.2.1
  refine lv_aload_n (pc := 0) hx hb d_TypeFinder_Known_declaredNames_0 rfl (lv_at hl 0 rfl) ?_
  refine xb_get (pc := 1) F h cf_4 0 rfl 3 (by decide) rfl k_141 (Or.inl rfl) rfl d_TypeFinder_Known_declaredNames_1 ?_
  refine xb_callV (pc := 4) (rm := rm_AL_size) (wr := [(a0, .inr (4, [.ref a2, .ref a3, .ref a4, .ref a1, .int 6]))]) F h (ct_AL_size l G a1 6 a5 6) 0 (va_recv hK h.1 (q0 := 1) (ci := 11) rfl rfl) k_174 k_45 k_175 k_176 k_177 hd_ArrayList_size (by decide) [1] [0] rfl rfl (by decide) (by decide) (by decide) xb_ss0 hl.1 rfl rfl (Nat.le_of_ble_eq_true rfl) (by decide) d_TypeFinder_Known_declaredNames_4 (fun u H locs hu h => ?_)
  have h : xb_W G A s [(a0, .inr (4, [.ref a2, .ref a3, .ref a4, .ref a1, .int 6])), (a1, .inr (11, [.int 6, .ref a5, .int 6]))] _ _ := h
  refine W.widen (k := 0) (n := 0) (by decide) (by decide) ?_
  refine W.eq (g2 := F0 m 7 ls [.int 6]) rfl ?_
  refine lv_aload_n (pc := 7) hx hb d_TypeFinder_Known_declaredNames_7 rfl (lv_at hl 0 rfl) ?_
  refine xb_get (pc := 8) F h cf_4 0 rfl 4 (by decide) rfl k_178 (Or.inl rfl) rfl d_TypeFinder_Known_declaredNames_8 ?_
  refine lv_isub (pc := 11) hx hb d_TypeFinder_Known_declaredNames_11 ?_
  refine lv_topi (fun y ey => ?_)
  obtain rfl : y = 0 := ey.trans (by decide)
  exact xb_iret (pc := 12) (rm := rm_TypeFinder_Known_declaredNames_a18) F hr hlk hA hQ h () trivial rfl [0, 1] (by decide) rfl (by decide) (by decide) d_TypeFinder_Known_declaredNames_12
abbrev rm_M_scheme_neg : Room := { frames := 0, cells := 0, slots := 0, locals := 30 }
set_option maxHeartbeats 4000000 in
set_option maxRecDepth 100000 in
theorem ct_M_scheme_neg (l : Launch) (G : xb_EV) (b0 : Nat) (b1 : Nat) (b2 : Nat) (b3 : Nat) (b4 : Nat) (b5 : Nat) (b6 : Nat) (b7 : Nat) (b8 : Nat) (b9 : Nat) (b10 : Nat) (b11 : Nat) (b12 : Nat) (b13 : Nat) (b14 : Nat) (b15 : Nat) (b16 : Nat) (b17 : Nat) (b18 : Nat) (b19 : Nat) (b20 : Nat) (b21 : Nat) (b22 : Nat) (b23 : Nat) (b24 : Nat) (b25 : Nat) (b26 : Nat) (b27 : Nat) (b28 : Nat) (b29 : Nat) (b30 : Nat) (b31 : Nat) (b32 : Nat) (b33 : Nat) (b34 : Nat) (b35 : Nat) (b36 : Nat) (b37 : Nat) (b38 : Nat) (b39 : Nat) (b40 : Nat) (b41 : Nat) (b42 : Nat) (b43 : Nat) (b44 : Nat) (b45 : Nat) (b46 : Nat) (b47 : Nat) (b48 : Nat) (h0 : Nat) (k : Int32) (hk : k < 0) : xb_CT l y_TypeFinderModel_scheme b_TypeFinderModel_scheme 3 (some .int) rm_M_scheme_neg G [] [.ref h0, .int k] [(h0, .inr (14, [.int 0, .int 0, .int 0, .ref b0, .int 0, .ref b1, .ref b2, .ref b3, .ref b4, .int 6, .ref b5, .ref b6, .ref b7, .int 2, .ref b8, .ref b9, .ref b10, .ref b11, .int 4, .ref b12, .ref b13, .ref b14, .ref b15, .ref b16, .int 0, .int 0, .int 0, .ref b17, .ref b18, .ref b19, .int 0, .ref b20, .ref b21, .ref b22, .ref b23, .ref b24, .ref b25, .int 0, .int 0, .int 0, .int 0, .ref b26, .int 0, .ref b27, .ref b28, .ref b29, .ref b30, .ref b31, .int 0, .int 0, .ref b32, .ref b33, .int 0, .ref b34, .int 0, .ref b35, .ref b36, .int 0, .ref b37, .ref b38, .int 0, .ref b39, .ref b40, .int 0, .int 0, .int 0, .ref b41, .int 0, .ref b42, .int 0, .int 0, .int 0, .int 0, .ref b43, .ref b44, .ref b45, .ref b46, .int 0, .ref b47, .ref b48]))] (S := Unit) (fun _ => some (.int (-1))) (fun _ => True) (fun _ => [(h0, .inr (14, [.int 0, .int 0, .int 0, .ref b0, .int 0, .ref b1, .ref b2, .ref b3, .ref b4, .int 6, .ref b5, .ref b6, .ref b7, .int 2, .ref b8, .ref b9, .ref b10, .ref b11, .int 4, .ref b12, .ref b13, .ref b14, .ref b15, .ref b16, .int 0, .int 0, .int 0, .ref b17, .ref b18, .ref b19, .int 0, .ref b20, .ref b21, .ref b22, .ref b23, .ref b24, .ref b25, .int 0, .int 0, .int 0, .int 0, .ref b26, .int 0, .ref b27, .ref b28, .ref b29, .ref b30, .ref b31, .int 0, .int 0, .ref b32, .ref b33, .int 0, .ref b34, .int 0, .ref b35, .ref b36, .int 0, .ref b37, .ref b38, .int 0, .ref b39, .ref b40, .int 0, .int 0, .int 0, .ref b41, .int 0, .ref b42, .int 0, .int 0, .int 0, .int 0, .ref b43, .ref b44, .ref b45, .ref b46, .int 0, .ref b47, .ref b48]))]) := by
  refine xb_CT.of (by decide) "TypeFinderModel" rfl ?_ (Nat.le_of_ble_eq_true rfl)
  intro p e s m args below meth c A ls Q F hr hlk hnm h hl hA hQ
  have hx := F.1.1
  have hb := F.1.2.1
  have hml := F.1.2.2.1
  have hown := F.1.2.2.2.1
  have hts := F.1.2.2.2.2
  have hK := F.2.1
  refine lv_aload_n (pc := 0) hx hb d_TypeFinderModel_scheme_0 rfl (lv_at hl 0 rfl) ?_
  refine lv_iconst (pc := 1) (v := 0) hx hb d_TypeFinderModel_scheme_1 (by decide) ?_
  refine xb_put (pc := 2) (t0 := .int) (ws' := [(h0, .inr (14, [.int 0, .int 0, .int 0, .ref b0, .int 0, .ref b1, .ref b2, .ref b3, .ref b4, .int 6, .ref b5, .ref b6, .ref b7, .int 2, .ref b8, .ref b9, .ref b10, .ref b11, .int 4, .ref b12, .ref b13, .ref b14, .ref b15, .ref b16, .int 0, .int 0, .int 0, .ref b17, .ref b18, .ref b19, .int 0, .ref b20, .ref b21, .ref b22, .ref b23, .ref b24, .ref b25, .int 0, .int 0, .int 0, .int 0, .ref b26, .int 0, .ref b27, .ref b28, .ref b29, .ref b30, .ref b31, .int 0, .int 0, .ref b32, .ref b33, .int 0, .ref b34, .int 0, .ref b35, .ref b36, .int 0, .ref b37, .ref b38, .int 0, .ref b39, .ref b40, .int 0, .int 0, .int 0, .ref b41, .int 0, .ref b42, .int 0, .int 0, .int 0, .int 0, .ref b43, .ref b44, .ref b45, .ref b46, .int 0, .ref b47, .ref b48]))]) F h cf_14 0 rfl 0 (by decide) rfl k_411 (Or.inl rfl) (by decide +kernel) rfl rfl (Nat.le_of_ble_eq_true rfl) rfl d_TypeFinderModel_scheme_2 (fun H locs h => ?_)
  refine lv_iload_n (pc := 5) hx hb d_TypeFinderModel_scheme_5 rfl (lv_at hl 1 rfl) ?_
  refine lv_if_lt (pc := 6) (tgt := 20) hx hb d_TypeFinderModel_scheme_6 (by decide) (fun _ => ?_) (fun h => absurd (hk) h)
  refine lv_iconst (pc := 20) (v := (-1)) hx hb d_TypeFinderModel_scheme_20 (by decide) ?_
  exact xb_iret (pc := 21) (rm := rm_M_scheme_neg) F hr hlk hA hQ h () trivial rfl [0] (by decide) rfl (by decide) (by decide) d_TypeFinderModel_scheme_21
abbrev rm_M_scheme_nn : Room := { frames := 0, cells := 0, slots := 0, locals := 30 }
set_option maxHeartbeats 4000000 in
set_option maxRecDepth 100000 in
theorem ct_M_scheme_nn (l : Launch) (G : xb_EV) (b0 : Nat) (b1 : Nat) (b2 : Nat) (b3 : Nat) (b4 : Nat) (b5 : Nat) (b6 : Nat) (b7 : Nat) (b8 : Nat) (b9 : Nat) (b10 : Nat) (b11 : Nat) (b12 : Nat) (b13 : Nat) (b14 : Nat) (b15 : Nat) (b16 : Nat) (b17 : Nat) (b18 : Nat) (b19 : Nat) (b20 : Nat) (b21 : Nat) (b22 : Nat) (b23 : Nat) (b24 : Nat) (b25 : Nat) (b26 : Nat) (b27 : Nat) (b28 : Nat) (b29 : Nat) (b30 : Nat) (b31 : Nat) (b32 : Nat) (b33 : Nat) (b34 : Nat) (b35 : Nat) (b36 : Nat) (b37 : Nat) (b38 : Nat) (b39 : Nat) (b40 : Nat) (b41 : Nat) (b42 : Nat) (b43 : Nat) (b44 : Nat) (b45 : Nat) (b46 : Nat) (b47 : Nat) (b48 : Nat) (h0 : Nat) (k : Int32) (hk : ¬ k < 0) : xb_CT l y_TypeFinderModel_scheme b_TypeFinderModel_scheme 3 (some .int) rm_M_scheme_nn G [] [.ref h0, .int k] [(h0, .inr (14, [.int 0, .int 0, .int 0, .ref b0, .int 0, .ref b1, .ref b2, .ref b3, .ref b4, .int 6, .ref b5, .ref b6, .ref b7, .int 2, .ref b8, .ref b9, .ref b10, .ref b11, .int 4, .ref b12, .ref b13, .ref b14, .ref b15, .ref b16, .int 0, .int 0, .int 0, .ref b17, .ref b18, .ref b19, .int 0, .ref b20, .ref b21, .ref b22, .ref b23, .ref b24, .ref b25, .int 0, .int 0, .int 0, .int 0, .ref b26, .int 0, .ref b27, .ref b28, .ref b29, .ref b30, .ref b31, .int 0, .int 0, .ref b32, .ref b33, .int 0, .ref b34, .int 0, .ref b35, .ref b36, .int 0, .ref b37, .ref b38, .int 0, .ref b39, .ref b40, .int 0, .int 0, .int 0, .ref b41, .int 0, .ref b42, .int 0, .int 0, .int 0, .int 0, .ref b43, .ref b44, .ref b45, .ref b46, .int 0, .ref b47, .ref b48]))] (S := Unit) (fun _ => some (.int (-1))) (fun _ => True) (fun _ => [(h0, .inr (14, [.int 0, .int 0, .int 0, .ref b0, .int 0, .ref b1, .ref b2, .ref b3, .ref b4, .int 6, .ref b5, .ref b6, .ref b7, .int 2, .ref b8, .ref b9, .ref b10, .ref b11, .int 4, .ref b12, .ref b13, .ref b14, .ref b15, .ref b16, .int 0, .int 0, .int 0, .ref b17, .ref b18, .ref b19, .int 0, .ref b20, .ref b21, .ref b22, .ref b23, .ref b24, .ref b25, .int 0, .int 0, .int 0, .int 0, .ref b26, .int 0, .ref b27, .ref b28, .ref b29, .ref b30, .ref b31, .int 0, .int 0, .ref b32, .ref b33, .int 0, .ref b34, .int 0, .ref b35, .ref b36, .int 0, .ref b37, .ref b38, .int 0, .ref b39, .ref b40, .int 0, .int 0, .int 0, .ref b41, .int 0, .ref b42, .int 0, .int 0, .int 0, .int 0, .ref b43, .ref b44, .ref b45, .ref b46, .int 0, .ref b47, .ref b48]))]) := by
  refine xb_CT.of (by decide) "TypeFinderModel" rfl ?_ (Nat.le_of_ble_eq_true rfl)
  intro p e s m args below meth c A ls Q F hr hlk hnm h hl hA hQ
  have hx := F.1.1
  have hb := F.1.2.1
  have hml := F.1.2.2.1
  have hown := F.1.2.2.2.1
  have hts := F.1.2.2.2.2
  have hK := F.2.1
  refine lv_aload_n (pc := 0) hx hb d_TypeFinderModel_scheme_0 rfl (lv_at hl 0 rfl) ?_
  refine lv_iconst (pc := 1) (v := 0) hx hb d_TypeFinderModel_scheme_1 (by decide) ?_
  refine xb_put (pc := 2) (t0 := .int) (ws' := [(h0, .inr (14, [.int 0, .int 0, .int 0, .ref b0, .int 0, .ref b1, .ref b2, .ref b3, .ref b4, .int 6, .ref b5, .ref b6, .ref b7, .int 2, .ref b8, .ref b9, .ref b10, .ref b11, .int 4, .ref b12, .ref b13, .ref b14, .ref b15, .ref b16, .int 0, .int 0, .int 0, .ref b17, .ref b18, .ref b19, .int 0, .ref b20, .ref b21, .ref b22, .ref b23, .ref b24, .ref b25, .int 0, .int 0, .int 0, .int 0, .ref b26, .int 0, .ref b27, .ref b28, .ref b29, .ref b30, .ref b31, .int 0, .int 0, .ref b32, .ref b33, .int 0, .ref b34, .int 0, .ref b35, .ref b36, .int 0, .ref b37, .ref b38, .int 0, .ref b39, .ref b40, .int 0, .int 0, .int 0, .ref b41, .int 0, .ref b42, .int 0, .int 0, .int 0, .int 0, .ref b43, .ref b44, .ref b45, .ref b46, .int 0, .ref b47, .ref b48]))]) F h cf_14 0 rfl 0 (by decide) rfl k_411 (Or.inl rfl) (by decide +kernel) rfl rfl (Nat.le_of_ble_eq_true rfl) rfl d_TypeFinderModel_scheme_2 (fun H locs h => ?_)
  refine lv_iload_n (pc := 5) hx hb d_TypeFinderModel_scheme_5 rfl (lv_at hl 1 rfl) ?_
  refine lv_if_lt (pc := 6) (tgt := 20) hx hb d_TypeFinderModel_scheme_6 (by decide) (fun h => absurd h (hk)) (fun _ => ?_)
  refine lv_iload_n (pc := 9) hx hb d_TypeFinderModel_scheme_9 rfl (lv_at hl 1 rfl) ?_
  refine lv_aload_n (pc := 10) hx hb d_TypeFinderModel_scheme_10 rfl (lv_at hl 0 rfl) ?_
  refine xb_get (pc := 11) F h cf_14 0 rfl 9 (by decide) rfl k_237 (Or.inl rfl) rfl d_TypeFinderModel_scheme_11 ?_
  refine lv_bipush (pc := 14) (v := 6) hx hb d_TypeFinderModel_scheme_14 (by decide) ?_
  refine lv_isub (pc := 16) hx hb d_TypeFinderModel_scheme_16 ?_
  refine lv_topi (fun y ey => ?_)
  obtain rfl : y = 0 := ey.trans (by decide)
  refine lv_icmp_lt (pc := 17) (tgt := 22) hx hb d_TypeFinderModel_scheme_17 (by decide) (fun h => absurd h (hk)) (fun _ => ?_)
  refine lv_iconst (pc := 20) (v := (-1)) hx hb d_TypeFinderModel_scheme_20 (by decide) ?_
  exact xb_iret (pc := 21) (rm := rm_M_scheme_nn) F hr hlk hA hQ h () trivial rfl [0] (by decide) rfl (by decide) (by decide) d_TypeFinderModel_scheme_21
abbrev rm_M_written_neg : Room := { frames := 0, cells := 0, slots := 0, locals := 30 }
set_option maxHeartbeats 4000000 in
set_option maxRecDepth 100000 in
theorem ct_M_written_neg (l : Launch) (G : xb_EV) (b0 : Nat) (b1 : Nat) (b2 : Nat) (b3 : Nat) (b4 : Nat) (b5 : Nat) (b6 : Nat) (b7 : Nat) (b8 : Nat) (b9 : Nat) (b10 : Nat) (b11 : Nat) (b12 : Nat) (b13 : Nat) (b14 : Nat) (b15 : Nat) (b16 : Nat) (b17 : Nat) (b18 : Nat) (b19 : Nat) (b20 : Nat) (b21 : Nat) (b22 : Nat) (b23 : Nat) (b24 : Nat) (b25 : Nat) (b26 : Nat) (b27 : Nat) (b28 : Nat) (b29 : Nat) (b30 : Nat) (b31 : Nat) (b32 : Nat) (b33 : Nat) (b34 : Nat) (b35 : Nat) (b36 : Nat) (b37 : Nat) (b38 : Nat) (b39 : Nat) (b40 : Nat) (b41 : Nat) (b42 : Nat) (b43 : Nat) (b44 : Nat) (b45 : Nat) (b46 : Nat) (b47 : Nat) (b48 : Nat) (h0 : Nat) (k : Int32) (hk : k < 0) : xb_CT l y_TypeFinderModel_written b_TypeFinderModel_written 2 (some .int) rm_M_written_neg G [] [.ref h0, .int k] [(h0, .inr (14, [.int 0, .int 0, .int 0, .ref b0, .int 0, .ref b1, .ref b2, .ref b3, .ref b4, .int 6, .ref b5, .ref b6, .ref b7, .int 2, .ref b8, .ref b9, .ref b10, .ref b11, .int 4, .ref b12, .ref b13, .ref b14, .ref b15, .ref b16, .int 0, .int 0, .int 0, .ref b17, .ref b18, .ref b19, .int 0, .ref b20, .ref b21, .ref b22, .ref b23, .ref b24, .ref b25, .int 0, .int 0, .int 0, .int 0, .ref b26, .int 0, .ref b27, .ref b28, .ref b29, .ref b30, .ref b31, .int 0, .int 0, .ref b32, .ref b33, .int 0, .ref b34, .int 0, .ref b35, .ref b36, .int 0, .ref b37, .ref b38, .int 0, .ref b39, .ref b40, .int 0, .int 0, .int 0, .ref b41, .int 0, .ref b42, .int 0, .int 0, .int 0, .int 0, .ref b43, .ref b44, .ref b45, .ref b46, .int 0, .ref b47, .ref b48]))] (S := Unit) (fun _ => some (.int (-1))) (fun _ => True) (fun _ => [(h0, .inr (14, [.int 0, .int 0, .int 0, .ref b0, .int 0, .ref b1, .ref b2, .ref b3, .ref b4, .int 6, .ref b5, .ref b6, .ref b7, .int 2, .ref b8, .ref b9, .ref b10, .ref b11, .int 4, .ref b12, .ref b13, .ref b14, .ref b15, .ref b16, .int 0, .int 0, .int 0, .ref b17, .ref b18, .ref b19, .int 0, .ref b20, .ref b21, .ref b22, .ref b23, .ref b24, .ref b25, .int 0, .int 0, .int 0, .int 0, .ref b26, .int 0, .ref b27, .ref b28, .ref b29, .ref b30, .ref b31, .int 0, .int 0, .ref b32, .ref b33, .int 0, .ref b34, .int 0, .ref b35, .ref b36, .int 0, .ref b37, .ref b38, .int 0, .ref b39, .ref b40, .int 0, .int 0, .int 0, .ref b41, .int 0, .ref b42, .int 0, .int 0, .int 0, .int 0, .ref b43, .ref b44, .ref b45, .ref b46, .int 0, .ref b47, .ref b48]))]) := by
  refine xb_CT.of (by decide) "TypeFinderModel" rfl ?_ (Nat.le_of_ble_eq_true rfl)
  intro p e s m args below meth c A ls Q F hr hlk hnm h hl hA hQ
  have hx := F.1.1
  have hb := F.1.2.1
  have hml := F.1.2.2.1
  have hown := F.1.2.2.2.1
  have hts := F.1.2.2.2.2
  have hK := F.2.1
  refine lv_aload_n (pc := 0) hx hb d_TypeFinderModel_written_0 rfl (lv_at hl 0 rfl) ?_
  refine lv_iconst (pc := 1) (v := 0) hx hb d_TypeFinderModel_written_1 (by decide) ?_
  refine xb_put (pc := 2) (t0 := .int) (ws' := [(h0, .inr (14, [.int 0, .int 0, .int 0, .ref b0, .int 0, .ref b1, .ref b2, .ref b3, .ref b4, .int 6, .ref b5, .ref b6, .ref b7, .int 2, .ref b8, .ref b9, .ref b10, .ref b11, .int 4, .ref b12, .ref b13, .ref b14, .ref b15, .ref b16, .int 0, .int 0, .int 0, .ref b17, .ref b18, .ref b19, .int 0, .ref b20, .ref b21, .ref b22, .ref b23, .ref b24, .ref b25, .int 0, .int 0, .int 0, .int 0, .ref b26, .int 0, .ref b27, .ref b28, .ref b29, .ref b30, .ref b31, .int 0, .int 0, .ref b32, .ref b33, .int 0, .ref b34, .int 0, .ref b35, .ref b36, .int 0, .ref b37, .ref b38, .int 0, .ref b39, .ref b40, .int 0, .int 0, .int 0, .ref b41, .int 0, .ref b42, .int 0, .int 0, .int 0, .int 0, .ref b43, .ref b44, .ref b45, .ref b46, .int 0, .ref b47, .ref b48]))]) F h cf_14 0 rfl 0 (by decide) rfl k_411 (Or.inl rfl) (by decide +kernel) rfl rfl (Nat.le_of_ble_eq_true rfl) rfl d_TypeFinderModel_written_2 (fun H locs h => ?_)
  refine lv_iload_n (pc := 5) hx hb d_TypeFinderModel_written_5 rfl (lv_at hl 1 rfl) ?_
  refine lv_if_lt (pc := 6) (tgt := 26) hx hb d_TypeFinderModel_written_6 (by decide) (fun _ => ?_) (fun h => absurd (hk) h)
  refine lv_iconst (pc := 26) (v := (-1)) hx hb d_TypeFinderModel_written_26 (by decide) ?_
  exact xb_iret (pc := 27) (rm := rm_M_written_neg) F hr hlk hA hQ h () trivial rfl [0] (by decide) rfl (by decide) (by decide) d_TypeFinderModel_written_27
abbrev rm_M_written_nn : Room := { frames := 0, cells := 0, slots := 0, locals := 30 }
set_option maxHeartbeats 4000000 in
set_option maxRecDepth 100000 in
theorem ct_M_written_nn (l : Launch) (G : xb_EV) (b0 : Nat) (b1 : Nat) (b2 : Nat) (b3 : Nat) (b4 : Nat) (b5 : Nat) (b6 : Nat) (b7 : Nat) (b8 : Nat) (b9 : Nat) (b10 : Nat) (b11 : Nat) (b12 : Nat) (b13 : Nat) (b14 : Nat) (b15 : Nat) (b16 : Nat) (b17 : Nat) (b18 : Nat) (b19 : Nat) (b20 : Nat) (b21 : Nat) (b22 : Nat) (b23 : Nat) (b24 : Nat) (b25 : Nat) (b26 : Nat) (b27 : Nat) (b28 : Nat) (b29 : Nat) (b30 : Nat) (b31 : Nat) (b32 : Nat) (b33 : Nat) (b34 : Nat) (b35 : Nat) (b36 : Nat) (b37 : Nat) (b38 : Nat) (b39 : Nat) (b40 : Nat) (b41 : Nat) (b42 : Nat) (b43 : Nat) (b44 : Nat) (b45 : Nat) (b46 : Nat) (b47 : Nat) (b48 : Nat) (h0 : Nat) (k : Int32) (hk : ¬ k < 0) : xb_CT l y_TypeFinderModel_written b_TypeFinderModel_written 2 (some .int) rm_M_written_nn G [] [.ref h0, .int k] [(h0, .inr (14, [.int 0, .int 0, .int 0, .ref b0, .int 0, .ref b1, .ref b2, .ref b3, .ref b4, .int 6, .ref b5, .ref b6, .ref b7, .int 2, .ref b8, .ref b9, .ref b10, .ref b11, .int 4, .ref b12, .ref b13, .ref b14, .ref b15, .ref b16, .int 0, .int 0, .int 0, .ref b17, .ref b18, .ref b19, .int 0, .ref b20, .ref b21, .ref b22, .ref b23, .ref b24, .ref b25, .int 0, .int 0, .int 0, .int 0, .ref b26, .int 0, .ref b27, .ref b28, .ref b29, .ref b30, .ref b31, .int 0, .int 0, .ref b32, .ref b33, .int 0, .ref b34, .int 0, .ref b35, .ref b36, .int 0, .ref b37, .ref b38, .int 0, .ref b39, .ref b40, .int 0, .int 0, .int 0, .ref b41, .int 0, .ref b42, .int 0, .int 0, .int 0, .int 0, .ref b43, .ref b44, .ref b45, .ref b46, .int 0, .ref b47, .ref b48]))] (S := Unit) (fun _ => some (.int (-1))) (fun _ => True) (fun _ => [(h0, .inr (14, [.int 0, .int 0, .int 0, .ref b0, .int 0, .ref b1, .ref b2, .ref b3, .ref b4, .int 6, .ref b5, .ref b6, .ref b7, .int 2, .ref b8, .ref b9, .ref b10, .ref b11, .int 4, .ref b12, .ref b13, .ref b14, .ref b15, .ref b16, .int 0, .int 0, .int 0, .ref b17, .ref b18, .ref b19, .int 0, .ref b20, .ref b21, .ref b22, .ref b23, .ref b24, .ref b25, .int 0, .int 0, .int 0, .int 0, .ref b26, .int 0, .ref b27, .ref b28, .ref b29, .ref b30, .ref b31, .int 0, .int 0, .ref b32, .ref b33, .int 0, .ref b34, .int 0, .ref b35, .ref b36, .int 0, .ref b37, .ref b38, .int 0, .ref b39, .ref b40, .int 0, .int 0, .int 0, .ref b41, .int 0, .ref b42, .int 0, .int 0, .int 0, .int 0, .ref b43, .ref b44, .ref b45, .ref b46, .int 0, .ref b47, .ref b48]))]) := by
  refine xb_CT.of (by decide) "TypeFinderModel" rfl ?_ (Nat.le_of_ble_eq_true rfl)
  intro p e s m args below meth c A ls Q F hr hlk hnm h hl hA hQ
  have hx := F.1.1
  have hb := F.1.2.1
  have hml := F.1.2.2.1
  have hown := F.1.2.2.2.1
  have hts := F.1.2.2.2.2
  have hK := F.2.1
  refine lv_aload_n (pc := 0) hx hb d_TypeFinderModel_written_0 rfl (lv_at hl 0 rfl) ?_
  refine lv_iconst (pc := 1) (v := 0) hx hb d_TypeFinderModel_written_1 (by decide) ?_
  refine xb_put (pc := 2) (t0 := .int) (ws' := [(h0, .inr (14, [.int 0, .int 0, .int 0, .ref b0, .int 0, .ref b1, .ref b2, .ref b3, .ref b4, .int 6, .ref b5, .ref b6, .ref b7, .int 2, .ref b8, .ref b9, .ref b10, .ref b11, .int 4, .ref b12, .ref b13, .ref b14, .ref b15, .ref b16, .int 0, .int 0, .int 0, .ref b17, .ref b18, .ref b19, .int 0, .ref b20, .ref b21, .ref b22, .ref b23, .ref b24, .ref b25, .int 0, .int 0, .int 0, .int 0, .ref b26, .int 0, .ref b27, .ref b28, .ref b29, .ref b30, .ref b31, .int 0, .int 0, .ref b32, .ref b33, .int 0, .ref b34, .int 0, .ref b35, .ref b36, .int 0, .ref b37, .ref b38, .int 0, .ref b39, .ref b40, .int 0, .int 0, .int 0, .ref b41, .int 0, .ref b42, .int 0, .int 0, .int 0, .int 0, .ref b43, .ref b44, .ref b45, .ref b46, .int 0, .ref b47, .ref b48]))]) F h cf_14 0 rfl 0 (by decide) rfl k_411 (Or.inl rfl) (by decide +kernel) rfl rfl (Nat.le_of_ble_eq_true rfl) rfl d_TypeFinderModel_written_2 (fun H locs h => ?_)
  refine lv_iload_n (pc := 5) hx hb d_TypeFinderModel_written_5 rfl (lv_at hl 1 rfl) ?_
  refine lv_if_lt (pc := 6) (tgt := 26) hx hb d_TypeFinderModel_written_6 (by decide) (fun h => absurd h (hk)) (fun _ => ?_)
  refine lv_iload_n (pc := 9) hx hb d_TypeFinderModel_written_9 rfl (lv_at hl 1 rfl) ?_
  refine lv_aload_n (pc := 10) hx hb d_TypeFinderModel_written_10 rfl (lv_at hl 0 rfl) ?_
  refine xb_get (pc := 11) F h cf_14 0 rfl 67 (by decide) rfl k_618 (Or.inl rfl) rfl d_TypeFinderModel_written_11 ?_
  refine lv_icmp_ge (pc := 14) (tgt := 26) hx hb d_TypeFinderModel_written_14 (by decide) (fun _ => ?_) (fun h => absurd (xi_ge hk) h)
  refine lv_iconst (pc := 26) (v := (-1)) hx hb d_TypeFinderModel_written_26 (by decide) ?_
  exact xb_iret (pc := 27) (rm := rm_M_written_nn) F hr hlk hA hQ h () trivial rfl [0] (by decide) rfl (by decide) (by decide) d_TypeFinderModel_written_27
abbrev rm_M_matches_0 : Room := { frames := 0, cells := 0, slots := 0, locals := 30 }
set_option maxHeartbeats 4000000 in
set_option maxRecDepth 100000 in
theorem ct_M_matches_0 (l : Launch) (G : xb_EV) (b0 : Nat) (b1 : Nat) (b2 : Nat) (b3 : Nat) (b4 : Nat) (b5 : Nat) (b6 : Nat) (b7 : Nat) (b8 : Nat) (b9 : Nat) (b10 : Nat) (b11 : Nat) (b12 : Nat) (b13 : Nat) (b14 : Nat) (b15 : Nat) (b16 : Nat) (b17 : Nat) (b18 : Nat) (b19 : Nat) (b20 : Nat) (b21 : Nat) (b22 : Nat) (b23 : Nat) (b24 : Nat) (b25 : Nat) (b26 : Nat) (b27 : Nat) (b28 : Nat) (b29 : Nat) (b30 : Nat) (b31 : Nat) (b32 : Nat) (b33 : Nat) (b34 : Nat) (b35 : Nat) (b36 : Nat) (b37 : Nat) (b38 : Nat) (b39 : Nat) (b40 : Nat) (b41 : Nat) (b42 : Nat) (b43 : Nat) (b44 : Nat) (b45 : Nat) (b46 : Nat) (b47 : Nat) (b48 : Nat) (h0 : Nat) : xb_CT l y_TypeFinderModel_matches b_TypeFinderModel_matches 2 (some .int) rm_M_matches_0 G [] [.ref h0, .int 0] [(b41, .inl (G.2.1 0, 2, .inl (fun _ => 0))), (h0, .inr (14, [.int 0, .int 0, .int 0, .ref b0, .int 0, .ref b1, .ref b2, .ref b3, .ref b4, .int 6, .ref b5, .ref b6, .ref b7, .int 2, .ref b8, .ref b9, .ref b10, .ref b11, .int 4, .ref b12, .ref b13, .ref b14, .ref b15, .ref b16, .int 0, .int 0, .int 0, .ref b17, .ref b18, .ref b19, .int 0, .ref b20, .ref b21, .ref b22, .ref b23, .ref b24, .ref b25, .int 0, .int 0, .int 0, .int 0, .ref b26, .int 0, .ref b27, .ref b28, .ref b29, .ref b30, .ref b31, .int 0, .int 0, .ref b32, .ref b33, .int 0, .ref b34, .int 0, .ref b35, .ref b36, .int 0, .ref b37, .ref b38, .int 0, .ref b39, .ref b40, .int 0, .int 0, .int 0, .ref b41, .int 0, .ref b42, .int 0, .int 0, .int 0, .int 0, .ref b43, .ref b44, .ref b45, .ref b46, .int 0, .ref b47, .ref b48]))] (S := Unit) (fun _ => some (.int 0)) (fun _ => True) (fun _ => [(b41, .inl (G.2.1 0, 2, .inl (fun _ => 0))), (h0, .inr (14, [.int 0, .int 0, .int 0, .ref b0, .int 0, .ref b1, .ref b2, .ref b3, .ref b4, .int 6, .ref b5, .ref b6, .ref b7, .int 2, .ref b8, .ref b9, .ref b10, .ref b11, .int 4, .ref b12, .ref b13, .ref b14, .ref b15, .ref b16, .int 0, .int 0, .int 0, .ref b17, .ref b18, .ref b19, .int 0, .ref b20, .ref b21, .ref b22, .ref b23, .ref b24, .ref b25, .int 0, .int 0, .int 0, .int 0, .ref b26, .int 0, .ref b27, .ref b28, .ref b29, .ref b30, .ref b31, .int 0, .int 0, .ref b32, .ref b33, .int 0, .ref b34, .int 0, .ref b35, .ref b36, .int 0, .ref b37, .ref b38, .int 0, .ref b39, .ref b40, .int 0, .int 0, .int 0, .ref b41, .int 0, .ref b42, .int 0, .int 0, .int 0, .int 0, .ref b43, .ref b44, .ref b45, .ref b46, .int 0, .ref b47, .ref b48]))]) := by
  refine xb_CT.of (by decide) "TypeFinderModel" rfl ?_ (Nat.le_of_ble_eq_true rfl)
  intro p e s m args below meth c A ls Q F hr hlk hnm h hl hA hQ
  have hx := F.1.1
  have hb := F.1.2.1
  have hml := F.1.2.2.1
  have hown := F.1.2.2.2.1
  have hts := F.1.2.2.2.2
  have hK := F.2.1
  refine lv_aload_n (pc := 0) hx hb d_TypeFinderModel_matches_0 rfl (lv_at hl 0 rfl) ?_
  refine lv_iconst (pc := 1) (v := 0) hx hb d_TypeFinderModel_matches_1 (by decide) ?_
  refine xb_put (pc := 2) (t0 := .int) (ws' := [(b41, .inl (G.2.1 0, 2, .inl (fun _ => 0))), (h0, .inr (14, [.int 0, .int 0, .int 0, .ref b0, .int 0, .ref b1, .ref b2, .ref b3, .ref b4, .int 6, .ref b5, .ref b6, .ref b7, .int 2, .ref b8, .ref b9, .ref b10, .ref b11, .int 4, .ref b12, .ref b13, .ref b14, .ref b15, .ref b16, .int 0, .int 0, .int 0, .ref b17, .ref b18, .ref b19, .int 0, .ref b20, .ref b21, .ref b22, .ref b23, .ref b24, .ref b25, .int 0, .int 0, .int 0, .int 0, .ref b26, .int 0, .ref b27, .ref b28, .ref b29, .ref b30, .ref b31, .int 0, .int 0, .ref b32, .ref b33, .int 0, .ref b34, .int 0, .ref b35, .ref b36, .int 0, .ref b37, .ref b38, .int 0, .ref b39, .ref b40, .int 0, .int 0, .int 0, .ref b41, .int 0, .ref b42, .int 0, .int 0, .int 0, .int 0, .ref b43, .ref b44, .ref b45, .ref b46, .int 0, .ref b47, .ref b48]))]) F h cf_14 1 rfl 0 (by decide) rfl k_411 (Or.inl rfl) (by decide +kernel) rfl rfl (Nat.le_of_ble_eq_true rfl) rfl d_TypeFinderModel_matches_2 (fun H locs h => ?_)
  refine lv_iload_n (pc := 5) hx hb d_TypeFinderModel_matches_5 rfl (lv_at hl 1 rfl) ?_
  refine lv_if_eq (pc := 6) (tgt := 14) hx hb d_TypeFinderModel_matches_6 (by decide) (fun _ => ?_) (fun h => absurd (by decide) h)
  refine lv_aload_n (pc := 14) hx hb d_TypeFinderModel_matches_14 rfl (lv_at hl 0 rfl) ?_
  refine xb_get (pc := 15) F h cf_14 1 rfl 66 (by decide) rfl k_273 (Or.inl rfl) rfl d_TypeFinderModel_matches_15 ?_
  refine lv_iload_n (pc := 18) hx hb d_TypeFinderModel_matches_18 rfl (lv_at hl 1 rfl) ?_
  refine va_iald (pc := 19) hx hb hK h.1 0 0 rfl rfl (by unfold vp_in; decide) d_TypeFinderModel_matches_19 ?_
  refine lv_topi (fun y ey => ?_)
  obtain rfl : y = 0 := ey.trans (by decide)
  refine lv_goto (pc := 20) (tgt := 24) hx hb d_TypeFinderModel_matches_20 (by decide) ?_
  exact xb_iret (pc := 24) (rm := rm_M_matches_0) F hr hlk hA hQ h () trivial rfl [0, 1] (by decide) rfl (by decide) (by decide) d_TypeFinderModel_matches_24
abbrev rm_M_matches_1 : Room := { frames := 0, cells := 0, slots := 0, locals := 30 }
set_option maxHeartbeats 4000000 in
set_option maxRecDepth 100000 in
theorem ct_M_matches_1 (l : Launch) (G : xb_EV) (b0 : Nat) (b1 : Nat) (b2 : Nat) (b3 : Nat) (b4 : Nat) (b5 : Nat) (b6 : Nat) (b7 : Nat) (b8 : Nat) (b9 : Nat) (b10 : Nat) (b11 : Nat) (b12 : Nat) (b13 : Nat) (b14 : Nat) (b15 : Nat) (b16 : Nat) (b17 : Nat) (b18 : Nat) (b19 : Nat) (b20 : Nat) (b21 : Nat) (b22 : Nat) (b23 : Nat) (b24 : Nat) (b25 : Nat) (b26 : Nat) (b27 : Nat) (b28 : Nat) (b29 : Nat) (b30 : Nat) (b31 : Nat) (b32 : Nat) (b33 : Nat) (b34 : Nat) (b35 : Nat) (b36 : Nat) (b37 : Nat) (b38 : Nat) (b39 : Nat) (b40 : Nat) (b41 : Nat) (b42 : Nat) (b43 : Nat) (b44 : Nat) (b45 : Nat) (b46 : Nat) (b47 : Nat) (b48 : Nat) (h0 : Nat) : xb_CT l y_TypeFinderModel_matches b_TypeFinderModel_matches 2 (some .int) rm_M_matches_1 G [] [.ref h0, .int 1] [(b41, .inl (G.2.1 0, 2, .inl (fun _ => 0))), (h0, .inr (14, [.int 0, .int 0, .int 0, .ref b0, .int 0, .ref b1, .ref b2, .ref b3, .ref b4, .int 6, .ref b5, .ref b6, .ref b7, .int 2, .ref b8, .ref b9, .ref b10, .ref b11, .int 4, .ref b12, .ref b13, .ref b14, .ref b15, .ref b16, .int 0, .int 0, .int 0, .ref b17, .ref b18, .ref b19, .int 0, .ref b20, .ref b21, .ref b22, .ref b23, .ref b24, .ref b25, .int 0, .int 0, .int 0, .int 0, .ref b26, .int 0, .ref b27, .ref b28, .ref b29, .ref b30, .ref b31, .int 0, .int 0, .ref b32, .ref b33, .int 0, .ref b34, .int 0, .ref b35, .ref b36, .int 0, .ref b37, .ref b38, .int 0, .ref b39, .ref b40, .int 0, .int 0, .int 0, .ref b41, .int 0, .ref b42, .int 0, .int 0, .int 0, .int 0, .ref b43, .ref b44, .ref b45, .ref b46, .int 0, .ref b47, .ref b48]))] (S := Unit) (fun _ => some (.int 0)) (fun _ => True) (fun _ => [(b41, .inl (G.2.1 0, 2, .inl (fun _ => 0))), (h0, .inr (14, [.int 0, .int 0, .int 0, .ref b0, .int 0, .ref b1, .ref b2, .ref b3, .ref b4, .int 6, .ref b5, .ref b6, .ref b7, .int 2, .ref b8, .ref b9, .ref b10, .ref b11, .int 4, .ref b12, .ref b13, .ref b14, .ref b15, .ref b16, .int 0, .int 0, .int 0, .ref b17, .ref b18, .ref b19, .int 0, .ref b20, .ref b21, .ref b22, .ref b23, .ref b24, .ref b25, .int 0, .int 0, .int 0, .int 0, .ref b26, .int 0, .ref b27, .ref b28, .ref b29, .ref b30, .ref b31, .int 0, .int 0, .ref b32, .ref b33, .int 0, .ref b34, .int 0, .ref b35, .ref b36, .int 0, .ref b37, .ref b38, .int 0, .ref b39, .ref b40, .int 0, .int 0, .int 0, .ref b41, .int 0, .ref b42, .int 0, .int 0, .int 0, .int 0, .ref b43, .ref b44, .ref b45, .ref b46, .int 0, .ref b47, .ref b48]))]) := by
  refine xb_CT.of (by decide) "TypeFinderModel" rfl ?_ (Nat.le_of_ble_eq_true rfl)
  intro p e s m args below meth c A ls Q F hr hlk hnm h hl hA hQ
  have hx := F.1.1
  have hb := F.1.2.1
  have hml := F.1.2.2.1
  have hown := F.1.2.2.2.1
  have hts := F.1.2.2.2.2
  have hK := F.2.1
  refine lv_aload_n (pc := 0) hx hb d_TypeFinderModel_matches_0 rfl (lv_at hl 0 rfl) ?_
  refine lv_iconst (pc := 1) (v := 0) hx hb d_TypeFinderModel_matches_1 (by decide) ?_
  refine xb_put (pc := 2) (t0 := .int) (ws' := [(b41, .inl (G.2.1 0, 2, .inl (fun _ => 0))), (h0, .inr (14, [.int 0, .int 0, .int 0, .ref b0, .int 0, .ref b1, .ref b2, .ref b3, .ref b4, .int 6, .ref b5, .ref b6, .ref b7, .int 2, .ref b8, .ref b9, .ref b10, .ref b11, .int 4, .ref b12, .ref b13, .ref b14, .ref b15, .ref b16, .int 0, .int 0, .int 0, .ref b17, .ref b18, .ref b19, .int 0, .ref b20, .ref b21, .ref b22, .ref b23, .ref b24, .ref b25, .int 0, .int 0, .int 0, .int 0, .ref b26, .int 0, .ref b27, .ref b28, .ref b29, .ref b30, .ref b31, .int 0, .int 0, .ref b32, .ref b33, .int 0, .ref b34, .int 0, .ref b35, .ref b36, .int 0, .ref b37, .ref b38, .int 0, .ref b39, .ref b40, .int 0, .int 0, .int 0, .ref b41, .int 0, .ref b42, .int 0, .int 0, .int 0, .int 0, .ref b43, .ref b44, .ref b45, .ref b46, .int 0, .ref b47, .ref b48]))]) F h cf_14 1 rfl 0 (by decide) rfl k_411 (Or.inl rfl) (by decide +kernel) rfl rfl (Nat.le_of_ble_eq_true rfl) rfl d_TypeFinderModel_matches_2 (fun H locs h => ?_)
  refine lv_iload_n (pc := 5) hx hb d_TypeFinderModel_matches_5 rfl (lv_at hl 1 rfl) ?_
  refine lv_if_eq (pc := 6) (tgt := 14) hx hb d_TypeFinderModel_matches_6 (by decide) (fun h => absurd h (by decide)) (fun _ => ?_)
  refine lv_iload_n (pc := 9) hx hb d_TypeFinderModel_matches_9 rfl (lv_at hl 1 rfl) ?_
  refine lv_iconst (pc := 10) (v := 1) hx hb d_TypeFinderModel_matches_10 (by decide) ?_
  refine lv_icmp_ne (pc := 11) (tgt := 23) hx hb d_TypeFinderModel_matches_11 (by decide) (fun h => absurd (by decide) h) (fun _ => ?_)
  refine lv_aload_n (pc := 14) hx hb d_TypeFinderModel_matches_14 rfl (lv_at hl 0 rfl) ?_
  refine xb_get (pc := 15) F h cf_14 1 rfl 66 (by decide) rfl k_273 (Or.inl rfl) rfl d_TypeFinderModel_matches_15 ?_
  refine lv_iload_n (pc := 18) hx hb d_TypeFinderModel_matches_18 rfl (lv_at hl 1 rfl) ?_
  refine va_iald (pc := 19) hx hb hK h.1 0 0 rfl rfl (by unfold vp_in; decide) d_TypeFinderModel_matches_19 ?_
  refine lv_topi (fun y ey => ?_)
  obtain rfl : y = 0 := ey.trans (by decide)
  refine lv_goto (pc := 20) (tgt := 24) hx hb d_TypeFinderModel_matches_20 (by decide) ?_
  exact xb_iret (pc := 24) (rm := rm_M_matches_1) F hr hlk hA hQ h () trivial rfl [0, 1] (by decide) rfl (by decide) (by decide) d_TypeFinderModel_matches_24
abbrev rm_M_matches_n : Room := { frames := 0, cells := 0, slots := 0, locals := 30 }
set_option maxHeartbeats 4000000 in
set_option maxRecDepth 100000 in
theorem ct_M_matches_n (l : Launch) (G : xb_EV) (b0 : Nat) (b1 : Nat) (b2 : Nat) (b3 : Nat) (b4 : Nat) (b5 : Nat) (b6 : Nat) (b7 : Nat) (b8 : Nat) (b9 : Nat) (b10 : Nat) (b11 : Nat) (b12 : Nat) (b13 : Nat) (b14 : Nat) (b15 : Nat) (b16 : Nat) (b17 : Nat) (b18 : Nat) (b19 : Nat) (b20 : Nat) (b21 : Nat) (b22 : Nat) (b23 : Nat) (b24 : Nat) (b25 : Nat) (b26 : Nat) (b27 : Nat) (b28 : Nat) (b29 : Nat) (b30 : Nat) (b31 : Nat) (b32 : Nat) (b33 : Nat) (b34 : Nat) (b35 : Nat) (b36 : Nat) (b37 : Nat) (b38 : Nat) (b39 : Nat) (b40 : Nat) (b41 : Nat) (b42 : Nat) (b43 : Nat) (b44 : Nat) (b45 : Nat) (b46 : Nat) (b47 : Nat) (b48 : Nat) (h0 : Nat) (k : Int32) (h0k : ¬ k = 0) (h1k : ¬ k = 1) : xb_CT l y_TypeFinderModel_matches b_TypeFinderModel_matches 2 (some .int) rm_M_matches_n G [] [.ref h0, .int k] [(h0, .inr (14, [.int 0, .int 0, .int 0, .ref b0, .int 0, .ref b1, .ref b2, .ref b3, .ref b4, .int 6, .ref b5, .ref b6, .ref b7, .int 2, .ref b8, .ref b9, .ref b10, .ref b11, .int 4, .ref b12, .ref b13, .ref b14, .ref b15, .ref b16, .int 0, .int 0, .int 0, .ref b17, .ref b18, .ref b19, .int 0, .ref b20, .ref b21, .ref b22, .ref b23, .ref b24, .ref b25, .int 0, .int 0, .int 0, .int 0, .ref b26, .int 0, .ref b27, .ref b28, .ref b29, .ref b30, .ref b31, .int 0, .int 0, .ref b32, .ref b33, .int 0, .ref b34, .int 0, .ref b35, .ref b36, .int 0, .ref b37, .ref b38, .int 0, .ref b39, .ref b40, .int 0, .int 0, .int 0, .ref b41, .int 0, .ref b42, .int 0, .int 0, .int 0, .int 0, .ref b43, .ref b44, .ref b45, .ref b46, .int 0, .ref b47, .ref b48]))] (S := Unit) (fun _ => some (.int (-1))) (fun _ => True) (fun _ => [(h0, .inr (14, [.int 0, .int 0, .int 0, .ref b0, .int 0, .ref b1, .ref b2, .ref b3, .ref b4, .int 6, .ref b5, .ref b6, .ref b7, .int 2, .ref b8, .ref b9, .ref b10, .ref b11, .int 4, .ref b12, .ref b13, .ref b14, .ref b15, .ref b16, .int 0, .int 0, .int 0, .ref b17, .ref b18, .ref b19, .int 0, .ref b20, .ref b21, .ref b22, .ref b23, .ref b24, .ref b25, .int 0, .int 0, .int 0, .int 0, .ref b26, .int 0, .ref b27, .ref b28, .ref b29, .ref b30, .ref b31, .int 0, .int 0, .ref b32, .ref b33, .int 0, .ref b34, .int 0, .ref b35, .ref b36, .int 0, .ref b37, .ref b38, .int 0, .ref b39, .ref b40, .int 0, .int 0, .int 0, .ref b41, .int 0, .ref b42, .int 0, .int 0, .int 0, .int 0, .ref b43, .ref b44, .ref b45, .ref b46, .int 0, .ref b47, .ref b48]))]) := by
  refine xb_CT.of (by decide) "TypeFinderModel" rfl ?_ (Nat.le_of_ble_eq_true rfl)
  intro p e s m args below meth c A ls Q F hr hlk hnm h hl hA hQ
  have hx := F.1.1
  have hb := F.1.2.1
  have hml := F.1.2.2.1
  have hown := F.1.2.2.2.1
  have hts := F.1.2.2.2.2
  have hK := F.2.1
  refine lv_aload_n (pc := 0) hx hb d_TypeFinderModel_matches_0 rfl (lv_at hl 0 rfl) ?_
  refine lv_iconst (pc := 1) (v := 0) hx hb d_TypeFinderModel_matches_1 (by decide) ?_
  refine xb_put (pc := 2) (t0 := .int) (ws' := [(h0, .inr (14, [.int 0, .int 0, .int 0, .ref b0, .int 0, .ref b1, .ref b2, .ref b3, .ref b4, .int 6, .ref b5, .ref b6, .ref b7, .int 2, .ref b8, .ref b9, .ref b10, .ref b11, .int 4, .ref b12, .ref b13, .ref b14, .ref b15, .ref b16, .int 0, .int 0, .int 0, .ref b17, .ref b18, .ref b19, .int 0, .ref b20, .ref b21, .ref b22, .ref b23, .ref b24, .ref b25, .int 0, .int 0, .int 0, .int 0, .ref b26, .int 0, .ref b27, .ref b28, .ref b29, .ref b30, .ref b31, .int 0, .int 0, .ref b32, .ref b33, .int 0, .ref b34, .int 0, .ref b35, .ref b36, .int 0, .ref b37, .ref b38, .int 0, .ref b39, .ref b40, .int 0, .int 0, .int 0, .ref b41, .int 0, .ref b42, .int 0, .int 0, .int 0, .int 0, .ref b43, .ref b44, .ref b45, .ref b46, .int 0, .ref b47, .ref b48]))]) F h cf_14 0 rfl 0 (by decide) rfl k_411 (Or.inl rfl) (by decide +kernel) rfl rfl (Nat.le_of_ble_eq_true rfl) rfl d_TypeFinderModel_matches_2 (fun H locs h => ?_)
  refine lv_iload_n (pc := 5) hx hb d_TypeFinderModel_matches_5 rfl (lv_at hl 1 rfl) ?_
  refine lv_if_eq (pc := 6) (tgt := 14) hx hb d_TypeFinderModel_matches_6 (by decide) (fun h => absurd h (h0k)) (fun _ => ?_)
  refine lv_iload_n (pc := 9) hx hb d_TypeFinderModel_matches_9 rfl (lv_at hl 1 rfl) ?_
  refine lv_iconst (pc := 10) (v := 1) hx hb d_TypeFinderModel_matches_10 (by decide) ?_
  refine lv_icmp_ne (pc := 11) (tgt := 23) hx hb d_TypeFinderModel_matches_11 (by decide) (fun _ => ?_) (fun h => absurd h (h1k))
  refine lv_iconst (pc := 23) (v := (-1)) hx hb d_TypeFinderModel_matches_23 (by decide) ?_
  exact xb_iret (pc := 24) (rm := rm_M_matches_n) F hr hlk hA hQ h () trivial rfl [0] (by decide) rfl (by decide) (by decide) d_TypeFinderModel_matches_24
abbrev rm_M_count_0 : Room := { frames := 0, cells := 0, slots := 0, locals := 30 }
set_option maxHeartbeats 4000000 in
set_option maxRecDepth 100000 in
theorem ct_M_count_0 (l : Launch) (G : xb_EV) (b0 : Nat) (b1 : Nat) (b2 : Nat) (b3 : Nat) (b4 : Nat) (b5 : Nat) (b6 : Nat) (b7 : Nat) (b8 : Nat) (b9 : Nat) (b10 : Nat) (b11 : Nat) (b12 : Nat) (b13 : Nat) (b14 : Nat) (b15 : Nat) (b16 : Nat) (b17 : Nat) (b18 : Nat) (b19 : Nat) (b20 : Nat) (b21 : Nat) (b22 : Nat) (b23 : Nat) (b24 : Nat) (b25 : Nat) (b26 : Nat) (b27 : Nat) (b28 : Nat) (b29 : Nat) (b30 : Nat) (b31 : Nat) (b32 : Nat) (b33 : Nat) (b34 : Nat) (b35 : Nat) (b36 : Nat) (b37 : Nat) (b38 : Nat) (b39 : Nat) (b40 : Nat) (b41 : Nat) (b42 : Nat) (b43 : Nat) (b44 : Nat) (b45 : Nat) (b46 : Nat) (b47 : Nat) (b48 : Nat) (h0 : Nat) : xb_CT l y_TypeFinderModel_count b_TypeFinderModel_count 2 (some .int) rm_M_count_0 G [] [.ref h0, .int 0] [(h0, .inr (14, [.int 0, .int 0, .int 0, .ref b0, .int 0, .ref b1, .ref b2, .ref b3, .ref b4, .int 6, .ref b5, .ref b6, .ref b7, .int 2, .ref b8, .ref b9, .ref b10, .ref b11, .int 4, .ref b12, .ref b13, .ref b14, .ref b15, .ref b16, .int 0, .int 0, .int 0, .ref b17, .ref b18, .ref b19, .int 0, .ref b20, .ref b21, .ref b22, .ref b23, .ref b24, .ref b25, .int 0, .int 0, .int 0, .int 0, .ref b26, .int 0, .ref b27, .ref b28, .ref b29, .ref b30, .ref b31, .int 0, .int 0, .ref b32, .ref b33, .int 0, .ref b34, .int 0, .ref b35, .ref b36, .int 0, .ref b37, .ref b38, .int 0, .ref b39, .ref b40, .int 0, .int 0, .int 0, .ref b41, .int 0, .ref b42, .int 0, .int 0, .int 0, .int 0, .ref b43, .ref b44, .ref b45, .ref b46, .int 0, .ref b47, .ref b48]))] (S := Unit) (fun _ => some (.int 0)) (fun _ => True) (fun _ => [(h0, .inr (14, [.int 0, .int 0, .int 0, .ref b0, .int 0, .ref b1, .ref b2, .ref b3, .ref b4, .int 6, .ref b5, .ref b6, .ref b7, .int 2, .ref b8, .ref b9, .ref b10, .ref b11, .int 4, .ref b12, .ref b13, .ref b14, .ref b15, .ref b16, .int 0, .int 0, .int 0, .ref b17, .ref b18, .ref b19, .int 0, .ref b20, .ref b21, .ref b22, .ref b23, .ref b24, .ref b25, .int 0, .int 0, .int 0, .int 0, .ref b26, .int 0, .ref b27, .ref b28, .ref b29, .ref b30, .ref b31, .int 0, .int 0, .ref b32, .ref b33, .int 0, .ref b34, .int 0, .ref b35, .ref b36, .int 0, .ref b37, .ref b38, .int 0, .ref b39, .ref b40, .int 0, .int 0, .int 0, .ref b41, .int 0, .ref b42, .int 0, .int 0, .int 0, .int 0, .ref b43, .ref b44, .ref b45, .ref b46, .int 0, .ref b47, .ref b48]))]) := by
  refine xb_CT.of (by decide) "TypeFinderModel" rfl ?_ (Nat.le_of_ble_eq_true rfl)
  intro p e s m args below meth c A ls Q F hr hlk hnm h hl hA hQ
  have hx := F.1.1
  have hb := F.1.2.1
  have hml := F.1.2.2.1
  have hown := F.1.2.2.2.1
  have hts := F.1.2.2.2.2
  have hK := F.2.1
  refine lv_aload_n (pc := 0) hx hb d_TypeFinderModel_count_0 rfl (lv_at hl 0 rfl) ?_
  refine lv_iconst (pc := 1) (v := 0) hx hb d_TypeFinderModel_count_1 (by decide) ?_
  refine xb_put (pc := 2) (t0 := .int) (ws' := [(h0, .inr (14, [.int 0, .int 0, .int 0, .ref b0, .int 0, .ref b1, .ref b2, .ref b3, .ref b4, .int 6, .ref b5, .ref b6, .ref b7, .int 2, .ref b8, .ref b9, .ref b10, .ref b11, .int 4, .ref b12, .ref b13, .ref b14, .ref b15, .ref b16, .int 0, .int 0, .int 0, .ref b17, .ref b18, .ref b19, .int 0, .ref b20, .ref b21, .ref b22, .ref b23, .ref b24, .ref b25, .int 0, .int 0, .int 0, .int 0, .ref b26, .int 0, .ref b27, .ref b28, .ref b29, .ref b30, .ref b31, .int 0, .int 0, .ref b32, .ref b33, .int 0, .ref b34, .int 0, .ref b35, .ref b36, .int 0, .ref b37, .ref b38, .int 0, .ref b39, .ref b40, .int 0, .int 0, .int 0, .ref b41, .int 0, .ref b42, .int 0, .int 0, .int 0, .int 0, .ref b43, .ref b44, .ref b45, .ref b46, .int 0, .ref b47, .ref b48]))]) F h cf_14 0 rfl 0 (by decide) rfl k_411 (Or.inl rfl) (by decide +kernel) rfl rfl (Nat.le_of_ble_eq_true rfl) rfl d_TypeFinderModel_count_2 (fun H locs h => ?_)
  refine lv_iload_n (pc := 5) hx hb d_TypeFinderModel_count_5 rfl (lv_at hl 1 rfl) ?_
  refine lv_if_ne (pc := 6) (tgt := 17) hx hb d_TypeFinderModel_count_6 (by decide) (fun h => absurd (by decide) h) (fun _ => ?_)
  refine lv_aload_n (pc := 9) hx hb d_TypeFinderModel_count_9 rfl (lv_at hl 0 rfl) ?_
  refine xb_get (pc := 10) F h cf_14 0 rfl 9 (by decide) rfl k_237 (Or.inl rfl) rfl d_TypeFinderModel_count_10 ?_
  refine lv_bipush (pc := 13) (v := 6) hx hb d_TypeFinderModel_count_13 (by decide) ?_
  refine lv_isub (pc := 15) hx hb d_TypeFinderModel_count_15 ?_
  refine lv_topi (fun y ey => ?_)
  obtain rfl : y = 0 := ey.trans (by decide)
  exact xb_iret (pc := 16) (rm := rm_M_count_0) F hr hlk hA hQ h () trivial rfl [0] (by decide) rfl (by decide) (by decide) d_TypeFinderModel_count_16
abbrev rm_M_count_1 : Room := { frames := 0, cells := 0, slots := 0, locals := 30 }
set_option maxHeartbeats 4000000 in
set_option maxRecDepth 100000 in
theorem ct_M_count_1 (l : Launch) (G : xb_EV) (b0 : Nat) (b1 : Nat) (b2 : Nat) (b3 : Nat) (b4 : Nat) (b5 : Nat) (b6 : Nat) (b7 : Nat) (b8 : Nat) (b9 : Nat) (b10 : Nat) (b11 : Nat) (b12 : Nat) (b13 : Nat) (b14 : Nat) (b15 : Nat) (b16 : Nat) (b17 : Nat) (b18 : Nat) (b19 : Nat) (b20 : Nat) (b21 : Nat) (b22 : Nat) (b23 : Nat) (b24 : Nat) (b25 : Nat) (b26 : Nat) (b27 : Nat) (b28 : Nat) (b29 : Nat) (b30 : Nat) (b31 : Nat) (b32 : Nat) (b33 : Nat) (b34 : Nat) (b35 : Nat) (b36 : Nat) (b37 : Nat) (b38 : Nat) (b39 : Nat) (b40 : Nat) (b41 : Nat) (b42 : Nat) (b43 : Nat) (b44 : Nat) (b45 : Nat) (b46 : Nat) (b47 : Nat) (b48 : Nat) (h0 : Nat) : xb_CT l y_TypeFinderModel_count b_TypeFinderModel_count 2 (some .int) rm_M_count_1 G [] [.ref h0, .int 1] [(h0, .inr (14, [.int 0, .int 0, .int 0, .ref b0, .int 0, .ref b1, .ref b2, .ref b3, .ref b4, .int 6, .ref b5, .ref b6, .ref b7, .int 2, .ref b8, .ref b9, .ref b10, .ref b11, .int 4, .ref b12, .ref b13, .ref b14, .ref b15, .ref b16, .int 0, .int 0, .int 0, .ref b17, .ref b18, .ref b19, .int 0, .ref b20, .ref b21, .ref b22, .ref b23, .ref b24, .ref b25, .int 0, .int 0, .int 0, .int 0, .ref b26, .int 0, .ref b27, .ref b28, .ref b29, .ref b30, .ref b31, .int 0, .int 0, .ref b32, .ref b33, .int 0, .ref b34, .int 0, .ref b35, .ref b36, .int 0, .ref b37, .ref b38, .int 0, .ref b39, .ref b40, .int 0, .int 0, .int 0, .ref b41, .int 0, .ref b42, .int 0, .int 0, .int 0, .int 0, .ref b43, .ref b44, .ref b45, .ref b46, .int 0, .ref b47, .ref b48]))] (S := Unit) (fun _ => some (.int 2)) (fun _ => True) (fun _ => [(h0, .inr (14, [.int 0, .int 0, .int 0, .ref b0, .int 0, .ref b1, .ref b2, .ref b3, .ref b4, .int 6, .ref b5, .ref b6, .ref b7, .int 2, .ref b8, .ref b9, .ref b10, .ref b11, .int 4, .ref b12, .ref b13, .ref b14, .ref b15, .ref b16, .int 0, .int 0, .int 0, .ref b17, .ref b18, .ref b19, .int 0, .ref b20, .ref b21, .ref b22, .ref b23, .ref b24, .ref b25, .int 0, .int 0, .int 0, .int 0, .ref b26, .int 0, .ref b27, .ref b28, .ref b29, .ref b30, .ref b31, .int 0, .int 0, .ref b32, .ref b33, .int 0, .ref b34, .int 0, .ref b35, .ref b36, .int 0, .ref b37, .ref b38, .int 0, .ref b39, .ref b40, .int 0, .int 0, .int 0, .ref b41, .int 0, .ref b42, .int 0, .int 0, .int 0, .int 0, .ref b43, .ref b44, .ref b45, .ref b46, .int 0, .ref b47, .ref b48]))]) := by
  refine xb_CT.of (by decide) "TypeFinderModel" rfl ?_ (Nat.le_of_ble_eq_true rfl)
  intro p e s m args below meth c A ls Q F hr hlk hnm h hl hA hQ
  have hx := F.1.1
  have hb := F.1.2.1
  have hml := F.1.2.2.1
  have hown := F.1.2.2.2.1
  have hts := F.1.2.2.2.2
  have hK := F.2.1
  refine lv_aload_n (pc := 0) hx hb d_TypeFinderModel_count_0 rfl (lv_at hl 0 rfl) ?_
  refine lv_iconst (pc := 1) (v := 0) hx hb d_TypeFinderModel_count_1 (by decide) ?_
  refine xb_put (pc := 2) (t0 := .int) (ws' := [(h0, .inr (14, [.int 0, .int 0, .int 0, .ref b0, .int 0, .ref b1, .ref b2, .ref b3, .ref b4, .int 6, .ref b5, .ref b6, .ref b7, .int 2, .ref b8, .ref b9, .ref b10, .ref b11, .int 4, .ref b12, .ref b13, .ref b14, .ref b15, .ref b16, .int 0, .int 0, .int 0, .ref b17, .ref b18, .ref b19, .int 0, .ref b20, .ref b21, .ref b22, .ref b23, .ref b24, .ref b25, .int 0, .int 0, .int 0, .int 0, .ref b26, .int 0, .ref b27, .ref b28, .ref b29, .ref b30, .ref b31, .int 0, .int 0, .ref b32, .ref b33, .int 0, .ref b34, .int 0, .ref b35, .ref b36, .int 0, .ref b37, .ref b38, .int 0, .ref b39, .ref b40, .int 0, .int 0, .int 0, .ref b41, .int 0, .ref b42, .int 0, .int 0, .int 0, .int 0, .ref b43, .ref b44, .ref b45, .ref b46, .int 0, .ref b47, .ref b48]))]) F h cf_14 0 rfl 0 (by decide) rfl k_411 (Or.inl rfl) (by decide +kernel) rfl rfl (Nat.le_of_ble_eq_true rfl) rfl d_TypeFinderModel_count_2 (fun H locs h => ?_)
  refine lv_iload_n (pc := 5) hx hb d_TypeFinderModel_count_5 rfl (lv_at hl 1 rfl) ?_
  refine lv_if_ne (pc := 6) (tgt := 17) hx hb d_TypeFinderModel_count_6 (by decide) (fun _ => ?_) (fun h => absurd h (by decide))
  refine lv_iload_n (pc := 17) hx hb d_TypeFinderModel_count_17 rfl (lv_at hl 1 rfl) ?_
  refine lv_iconst (pc := 18) (v := 1) hx hb d_TypeFinderModel_count_18 (by decide) ?_
  refine lv_icmp_ne (pc := 19) (tgt := 27) hx hb d_TypeFinderModel_count_19 (by decide) (fun h => absurd (by decide) h) (fun _ => ?_)
  refine lv_aload_n (pc := 22) hx hb d_TypeFinderModel_count_22 rfl (lv_at hl 0 rfl) ?_
  refine xb_get (pc := 23) F h cf_14 0 rfl 13 (by decide) rfl k_238 (Or.inl rfl) rfl d_TypeFinderModel_count_23 ?_
  exact xb_iret (pc := 26) (rm := rm_M_count_1) F hr hlk hA hQ h () trivial rfl [0] (by decide) rfl (by decide) (by decide) d_TypeFinderModel_count_26
abbrev rm_M_count_2 : Room := { frames := 0, cells := 0, slots := 0, locals := 30 }
set_option maxHeartbeats 4000000 in
set_option maxRecDepth 100000 in
theorem ct_M_count_2 (l : Launch) (G : xb_EV) (b0 : Nat) (b1 : Nat) (b2 : Nat) (b3 : Nat) (b4 : Nat) (b5 : Nat) (b6 : Nat) (b7 : Nat) (b8 : Nat) (b9 : Nat) (b10 : Nat) (b11 : Nat) (b12 : Nat) (b13 : Nat) (b14 : Nat) (b15 : Nat) (b16 : Nat) (b17 : Nat) (b18 : Nat) (b19 : Nat) (b20 : Nat) (b21 : Nat) (b22 : Nat) (b23 : Nat) (b24 : Nat) (b25 : Nat) (b26 : Nat) (b27 : Nat) (b28 : Nat) (b29 : Nat) (b30 : Nat) (b31 : Nat) (b32 : Nat) (b33 : Nat) (b34 : Nat) (b35 : Nat) (b36 : Nat) (b37 : Nat) (b38 : Nat) (b39 : Nat) (b40 : Nat) (b41 : Nat) (b42 : Nat) (b43 : Nat) (b44 : Nat) (b45 : Nat) (b46 : Nat) (b47 : Nat) (b48 : Nat) (h0 : Nat) : xb_CT l y_TypeFinderModel_count b_TypeFinderModel_count 2 (some .int) rm_M_count_2 G [] [.ref h0, .int 2] [(b11, .inl (G.2.1 2, 7, .inl (upd (upd (fun _ => 0) (Int32.toNatClampNeg 0) (vp_nar .boolean 1)) (Int32.toNatClampNeg 1) (vp_nar .boolean 1)))), (h0, .inr (14, [.int 0, .int 0, .int 0, .ref b0, .int 0, .ref b1, .ref b2, .ref b3, .ref b4, .int 6, .ref b5, .ref b6, .ref b7, .int 2, .ref b8, .ref b9, .ref b10, .ref b11, .int 4, .ref b12, .ref b13, .ref b14, .ref b15, .ref b16, .int 0, .int 0, .int 0, .ref b17, .ref b18, .ref b19, .int 0, .ref b20, .ref b21, .ref b22, .ref b23, .ref b24, .ref b25, .int 0, .int 0, .int 0, .int 0, .ref b26, .int 0, .ref b27, .ref b28, .ref b29, .ref b30, .ref b31, .int 0, .int 0, .ref b32, .ref b33, .int 0, .ref b34, .int 0, .ref b35, .ref b36, .int 0, .ref b37, .ref b38, .int 0, .ref b39, .ref b40, .int 0, .int 0, .int 0, .ref b41, .int 0, .ref b42, .int 0, .int 0, .int 0, .int 0, .ref b43, .ref b44, .ref b45, .ref b46, .int 0, .ref b47, .ref b48]))] (S := Unit) (fun _ => some (.int 1)) (fun _ => True) (fun _ => [(b11, .inl (G.2.1 2, 7, .inl (upd (upd (fun _ => 0) (Int32.toNatClampNeg 0) (vp_nar .boolean 1)) (Int32.toNatClampNeg 1) (vp_nar .boolean 1)))), (h0, .inr (14, [.int 0, .int 0, .int 0, .ref b0, .int 0, .ref b1, .ref b2, .ref b3, .ref b4, .int 6, .ref b5, .ref b6, .ref b7, .int 2, .ref b8, .ref b9, .ref b10, .ref b11, .int 4, .ref b12, .ref b13, .ref b14, .ref b15, .ref b16, .int 0, .int 0, .int 0, .ref b17, .ref b18, .ref b19, .int 0, .ref b20, .ref b21, .ref b22, .ref b23, .ref b24, .ref b25, .int 0, .int 0, .int 0, .int 0, .ref b26, .int 0, .ref b27, .ref b28, .ref b29, .ref b30, .ref b31, .int 0, .int 0, .ref b32, .ref b33, .int 0, .ref b34, .int 0, .ref b35, .ref b36, .int 0, .ref b37, .ref b38, .int 0, .ref b39, .ref b40, .int 0, .int 0, .int 0, .ref b41, .int 0, .ref b42, .int 0, .int 0, .int 0, .int 0, .ref b43, .ref b44, .ref b45, .ref b46, .int 0, .ref b47, .ref b48]))]) := by
  refine xb_CT.of (by decide) "TypeFinderModel" rfl ?_ (Nat.le_of_ble_eq_true rfl)
  intro p e s m args below meth c A ls Q F hr hlk hnm h hl hA hQ
  have hx := F.1.1
  have hb := F.1.2.1
  have hml := F.1.2.2.1
  have hown := F.1.2.2.2.1
  have hts := F.1.2.2.2.2
  have hK := F.2.1
  refine lv_aload_n (pc := 0) hx hb d_TypeFinderModel_count_0 rfl (lv_at hl 0 rfl) ?_
  refine lv_iconst (pc := 1) (v := 0) hx hb d_TypeFinderModel_count_1 (by decide) ?_
  refine xb_put (pc := 2) (t0 := .int) (ws' := [(b11, .inl (G.2.1 2, 7, .inl (upd (upd (fun _ => 0) (Int32.toNatClampNeg 0) (vp_nar .boolean 1)) (Int32.toNatClampNeg 1) (vp_nar .boolean 1)))), (h0, .inr (14, [.int 0, .int 0, .int 0, .ref b0, .int 0, .ref b1, .ref b2, .ref b3, .ref b4, .int 6, .ref b5, .ref b6, .ref b7, .int 2, .ref b8, .ref b9, .ref b10, .ref b11, .int 4, .ref b12, .ref b13, .ref b14, .ref b15, .ref b16, .int 0, .int 0, .int 0, .ref b17, .ref b18, .ref b19, .int 0, .ref b20, .ref b21, .ref b22, .ref b23, .ref b24, .ref b25, .int 0, .int 0, .int 0, .int 0, .ref b26, .int 0, .ref b27, .ref b28, .ref b29, .ref b30, .ref b31, .int 0, .int 0, .ref b32, .ref b33, .int 0, .ref b34, .int 0, .ref b35, .ref b36, .int 0, .ref b37, .ref b38, .int 0, .ref b39, .ref b40, .int 0, .int 0, .int 0, .ref b41, .int 0, .ref b42, .int 0, .int 0, .int 0, .int 0, .ref b43, .ref b44, .ref b45, .ref b46, .int 0, .ref b47, .ref b48]))]) F h cf_14 1 rfl 0 (by decide) rfl k_411 (Or.inl rfl) (by decide +kernel) rfl rfl (Nat.le_of_ble_eq_true rfl) rfl d_TypeFinderModel_count_2 (fun H locs h => ?_)
  refine lv_iload_n (pc := 5) hx hb d_TypeFinderModel_count_5 rfl (lv_at hl 1 rfl) ?_
  refine lv_if_ne (pc := 6) (tgt := 17) hx hb d_TypeFinderModel_count_6 (by decide) (fun _ => ?_) (fun h => absurd h (by decide))
  refine lv_iload_n (pc := 17) hx hb d_TypeFinderModel_count_17 rfl (lv_at hl 1 rfl) ?_
  refine lv_iconst (pc := 18) (v := 1) hx hb d_TypeFinderModel_count_18 (by decide) ?_
  refine lv_icmp_ne (pc := 19) (tgt := 27) hx hb d_TypeFinderModel_count_19 (by decide) (fun _ => ?_) (fun h => absurd h (by decide))
  refine lv_iload_n (pc := 27) hx hb d_TypeFinderModel_count_27 rfl (lv_at hl 1 rfl) ?_
  refine lv_iconst (pc := 28) (v := 2) hx hb d_TypeFinderModel_count_28 (by decide) ?_
  refine lv_icmp_lt (pc := 29) (tgt := 42) hx hb d_TypeFinderModel_count_29 (by decide) (fun h => absurd h (by decide)) (fun _ => ?_)
  refine lv_iload_n (pc := 32) hx hb d_TypeFinderModel_count_32 rfl (lv_at hl 1 rfl) ?_
  refine lv_iconst (pc := 33) (v := 2) hx hb d_TypeFinderModel_count_33 (by decide) ?_
  refine lv_isub (pc := 34) hx hb d_TypeFinderModel_count_34 ?_
  refine lv_topi (fun y ey => ?_)
  obtain rfl : y = 0 := ey.trans (by decide)
  refine lv_aload_n (pc := 35) hx hb d_TypeFinderModel_count_35 rfl (lv_at hl 0 rfl) ?_
  refine xb_get (pc := 36) F h cf_14 1 rfl 13 (by decide) rfl k_238 (Or.inl rfl) rfl d_TypeFinderModel_count_36 ?_
  refine lv_icmp_lt (pc := 39) (tgt := 46) hx hb d_TypeFinderModel_count_39 (by decide) (fun _ => ?_) (fun h => absurd (by decide) h)
  refine lv_aload_n (pc := 46) hx hb d_TypeFinderModel_count_46 rfl (lv_at hl 0 rfl) ?_
  refine xb_get (pc := 47) F h cf_14 1 rfl 17 (by decide) rfl k_242 (Or.inl rfl) rfl d_TypeFinderModel_count_47 ?_
  refine lv_iload_n (pc := 50) hx hb d_TypeFinderModel_count_50 rfl (lv_at hl 1 rfl) ?_
  refine lv_iconst (pc := 51) (v := 2) hx hb d_TypeFinderModel_count_51 (by decide) ?_
  refine lv_isub (pc := 52) hx hb d_TypeFinderModel_count_52 ?_
  refine lv_topi (fun y ey => ?_)
  obtain rfl : y = 0 := ey.trans (by decide)
  refine va_zald (pc := 53) hx hb hK h.1 0 2 rfl rfl (by unfold vp_in; decide) d_TypeFinderModel_count_53 ?_
  refine lv_topi (fun y ey => ?_)
  obtain rfl : y = 1 := ey.trans (by decide)
  refine lv_if_eq (pc := 54) (tgt := 61) hx hb d_TypeFinderModel_count_54 (by decide) (fun h => absurd h (by decide)) (fun _ => ?_)
  refine lv_iconst (pc := 57) (v := 1) hx hb d_TypeFinderModel_count_57 (by decide) ?_
  refine lv_goto (pc := 58) (tgt := 62) hx hb d_TypeFinderModel_count_58 (by decide) ?_
  exact xb_iret (pc := 62) (rm := rm_M_count_2) F hr hlk hA hQ h () trivial rfl [0, 1] (by decide) rfl (by decide) (by decide) d_TypeFinderModel_count_62
abbrev rm_M_count_3 : Room := { frames := 0, cells := 0, slots := 0, locals := 30 }
set_option maxHeartbeats 4000000 in
set_option maxRecDepth 100000 in
theorem ct_M_count_3 (l : Launch) (G : xb_EV) (b0 : Nat) (b1 : Nat) (b2 : Nat) (b3 : Nat) (b4 : Nat) (b5 : Nat) (b6 : Nat) (b7 : Nat) (b8 : Nat) (b9 : Nat) (b10 : Nat) (b11 : Nat) (b12 : Nat) (b13 : Nat) (b14 : Nat) (b15 : Nat) (b16 : Nat) (b17 : Nat) (b18 : Nat) (b19 : Nat) (b20 : Nat) (b21 : Nat) (b22 : Nat) (b23 : Nat) (b24 : Nat) (b25 : Nat) (b26 : Nat) (b27 : Nat) (b28 : Nat) (b29 : Nat) (b30 : Nat) (b31 : Nat) (b32 : Nat) (b33 : Nat) (b34 : Nat) (b35 : Nat) (b36 : Nat) (b37 : Nat) (b38 : Nat) (b39 : Nat) (b40 : Nat) (b41 : Nat) (b42 : Nat) (b43 : Nat) (b44 : Nat) (b45 : Nat) (b46 : Nat) (b47 : Nat) (b48 : Nat) (h0 : Nat) : xb_CT l y_TypeFinderModel_count b_TypeFinderModel_count 2 (some .int) rm_M_count_3 G [] [.ref h0, .int 3] [(b11, .inl (G.2.1 2, 7, .inl (upd (upd (fun _ => 0) (Int32.toNatClampNeg 0) (vp_nar .boolean 1)) (Int32.toNatClampNeg 1) (vp_nar .boolean 1)))), (h0, .inr (14, [.int 0, .int 0, .int 0, .ref b0, .int 0, .ref b1, .ref b2, .ref b3, .ref b4, .int 6, .ref b5, .ref b6, .ref b7, .int 2, .ref b8, .ref b9, .ref b10, .ref b11, .int 4, .ref b12, .ref b13, .ref b14, .ref b15, .ref b16, .int 0, .int 0, .int 0, .ref b17, .ref b18, .ref b19, .int 0, .ref b20, .ref b21, .ref b22, .ref b23, .ref b24, .ref b25, .int 0, .int 0, .int 0, .int 0, .ref b26, .int 0, .ref b27, .ref b28, .ref b29, .ref b30, .ref b31, .int 0, .int 0, .ref b32, .ref b33, .int 0, .ref b34, .int 0, .ref b35, .ref b36, .int 0, .ref b37, .ref b38, .int 0, .ref b39, .ref b40, .int 0, .int 0, .int 0, .ref b41, .int 0, .ref b42, .int 0, .int 0, .int 0, .int 0, .ref b43, .ref b44, .ref b45, .ref b46, .int 0, .ref b47, .ref b48]))] (S := Unit) (fun _ => some (.int 1)) (fun _ => True) (fun _ => [(b11, .inl (G.2.1 2, 7, .inl (upd (upd (fun _ => 0) (Int32.toNatClampNeg 0) (vp_nar .boolean 1)) (Int32.toNatClampNeg 1) (vp_nar .boolean 1)))), (h0, .inr (14, [.int 0, .int 0, .int 0, .ref b0, .int 0, .ref b1, .ref b2, .ref b3, .ref b4, .int 6, .ref b5, .ref b6, .ref b7, .int 2, .ref b8, .ref b9, .ref b10, .ref b11, .int 4, .ref b12, .ref b13, .ref b14, .ref b15, .ref b16, .int 0, .int 0, .int 0, .ref b17, .ref b18, .ref b19, .int 0, .ref b20, .ref b21, .ref b22, .ref b23, .ref b24, .ref b25, .int 0, .int 0, .int 0, .int 0, .ref b26, .int 0, .ref b27, .ref b28, .ref b29, .ref b30, .ref b31, .int 0, .int 0, .ref b32, .ref b33, .int 0, .ref b34, .int 0, .ref b35, .ref b36, .int 0, .ref b37, .ref b38, .int 0, .ref b39, .ref b40, .int 0, .int 0, .int 0, .ref b41, .int 0, .ref b42, .int 0, .int 0, .int 0, .int 0, .ref b43, .ref b44, .ref b45, .ref b46, .int 0, .ref b47, .ref b48]))]) := by
  refine xb_CT.of (by decide) "TypeFinderModel" rfl ?_ (Nat.le_of_ble_eq_true rfl)
  intro p e s m args below meth c A ls Q F hr hlk hnm h hl hA hQ
  have hx := F.1.1
  have hb := F.1.2.1
  have hml := F.1.2.2.1
  have hown := F.1.2.2.2.1
  have hts := F.1.2.2.2.2
  have hK := F.2.1
  refine lv_aload_n (pc := 0) hx hb d_TypeFinderModel_count_0 rfl (lv_at hl 0 rfl) ?_
  refine lv_iconst (pc := 1) (v := 0) hx hb d_TypeFinderModel_count_1 (by decide) ?_
  refine xb_put (pc := 2) (t0 := .int) (ws' := [(b11, .inl (G.2.1 2, 7, .inl (upd (upd (fun _ => 0) (Int32.toNatClampNeg 0) (vp_nar .boolean 1)) (Int32.toNatClampNeg 1) (vp_nar .boolean 1)))), (h0, .inr (14, [.int 0, .int 0, .int 0, .ref b0, .int 0, .ref b1, .ref b2, .ref b3, .ref b4, .int 6, .ref b5, .ref b6, .ref b7, .int 2, .ref b8, .ref b9, .ref b10, .ref b11, .int 4, .ref b12, .ref b13, .ref b14, .ref b15, .ref b16, .int 0, .int 0, .int 0, .ref b17, .ref b18, .ref b19, .int 0, .ref b20, .ref b21, .ref b22, .ref b23, .ref b24, .ref b25, .int 0, .int 0, .int 0, .int 0, .ref b26, .int 0, .ref b27, .ref b28, .ref b29, .ref b30, .ref b31, .int 0, .int 0, .ref b32, .ref b33, .int 0, .ref b34, .int 0, .ref b35, .ref b36, .int 0, .ref b37, .ref b38, .int 0, .ref b39, .ref b40, .int 0, .int 0, .int 0, .ref b41, .int 0, .ref b42, .int 0, .int 0, .int 0, .int 0, .ref b43, .ref b44, .ref b45, .ref b46, .int 0, .ref b47, .ref b48]))]) F h cf_14 1 rfl 0 (by decide) rfl k_411 (Or.inl rfl) (by decide +kernel) rfl rfl (Nat.le_of_ble_eq_true rfl) rfl d_TypeFinderModel_count_2 (fun H locs h => ?_)
  refine lv_iload_n (pc := 5) hx hb d_TypeFinderModel_count_5 rfl (lv_at hl 1 rfl) ?_
  refine lv_if_ne (pc := 6) (tgt := 17) hx hb d_TypeFinderModel_count_6 (by decide) (fun _ => ?_) (fun h => absurd h (by decide))
  refine lv_iload_n (pc := 17) hx hb d_TypeFinderModel_count_17 rfl (lv_at hl 1 rfl) ?_
  refine lv_iconst (pc := 18) (v := 1) hx hb d_TypeFinderModel_count_18 (by decide) ?_
  refine lv_icmp_ne (pc := 19) (tgt := 27) hx hb d_TypeFinderModel_count_19 (by decide) (fun _ => ?_) (fun h => absurd h (by decide))
  refine lv_iload_n (pc := 27) hx hb d_TypeFinderModel_count_27 rfl (lv_at hl 1 rfl) ?_
  refine lv_iconst (pc := 28) (v := 2) hx hb d_TypeFinderModel_count_28 (by decide) ?_
  refine lv_icmp_lt (pc := 29) (tgt := 42) hx hb d_TypeFinderModel_count_29 (by decide) (fun h => absurd h (by decide)) (fun _ => ?_)
  refine lv_iload_n (pc := 32) hx hb d_TypeFinderModel_count_32 rfl (lv_at hl 1 rfl) ?_
  refine lv_iconst (pc := 33) (v := 2) hx hb d_TypeFinderModel_count_33 (by decide) ?_
  refine lv_isub (pc := 34) hx hb d_TypeFinderModel_count_34 ?_
  refine lv_topi (fun y ey => ?_)
  obtain rfl : y = 1 := ey.trans (by decide)
  refine lv_aload_n (pc := 35) hx hb d_TypeFinderModel_count_35 rfl (lv_at hl 0 rfl) ?_
  refine xb_get (pc := 36) F h cf_14 1 rfl 13 (by decide) rfl k_238 (Or.inl rfl) rfl d_TypeFinderModel_count_36 ?_
  refine lv_icmp_lt (pc := 39) (tgt := 46) hx hb d_TypeFinderModel_count_39 (by decide) (fun _ => ?_) (fun h => absurd (by decide) h)
  refine lv_aload_n (pc := 46) hx hb d_TypeFinderModel_count_46 rfl (lv_at hl 0 rfl) ?_
  refine xb_get (pc := 47) F h cf_14 1 rfl 17 (by decide) rfl k_242 (Or.inl rfl) rfl d_TypeFinderModel_count_47 ?_
  refine lv_iload_n (pc := 50) hx hb d_TypeFinderModel_count_50 rfl (lv_at hl 1 rfl) ?_
  refine lv_iconst (pc := 51) (v := 2) hx hb d_TypeFinderModel_count_51 (by decide) ?_
  refine lv_isub (pc := 52) hx hb d_TypeFinderModel_count_52 ?_
  refine lv_topi (fun y ey => ?_)
  obtain rfl : y = 1 := ey.trans (by decide)
  refine va_zald (pc := 53) hx hb hK h.1 0 2 rfl rfl (by unfold vp_in; decide) d_TypeFinderModel_count_53 ?_
  refine lv_topi (fun y ey => ?_)
  obtain rfl : y = 1 := ey.trans (by decide)
  refine lv_if_eq (pc := 54) (tgt := 61) hx hb d_TypeFinderModel_count_54 (by decide) (fun h => absurd h (by decide)) (fun _ => ?_)
  refine lv_iconst (pc := 57) (v := 1) hx hb d_TypeFinderModel_count_57 (by decide) ?_
  refine lv_goto (pc := 58) (tgt := 62) hx hb d_TypeFinderModel_count_58 (by decide) ?_
  exact xb_iret (pc := 62) (rm := rm_M_count_3) F hr hlk hA hQ h () trivial rfl [0, 1] (by decide) rfl (by decide) (by decide) d_TypeFinderModel_count_62
abbrev rm_M_count_neg : Room := { frames := 0, cells := 0, slots := 0, locals := 30 }
set_option maxHeartbeats 4000000 in
set_option maxRecDepth 100000 in
theorem ct_M_count_neg (l : Launch) (G : xb_EV) (b0 : Nat) (b1 : Nat) (b2 : Nat) (b3 : Nat) (b4 : Nat) (b5 : Nat) (b6 : Nat) (b7 : Nat) (b8 : Nat) (b9 : Nat) (b10 : Nat) (b11 : Nat) (b12 : Nat) (b13 : Nat) (b14 : Nat) (b15 : Nat) (b16 : Nat) (b17 : Nat) (b18 : Nat) (b19 : Nat) (b20 : Nat) (b21 : Nat) (b22 : Nat) (b23 : Nat) (b24 : Nat) (b25 : Nat) (b26 : Nat) (b27 : Nat) (b28 : Nat) (b29 : Nat) (b30 : Nat) (b31 : Nat) (b32 : Nat) (b33 : Nat) (b34 : Nat) (b35 : Nat) (b36 : Nat) (b37 : Nat) (b38 : Nat) (b39 : Nat) (b40 : Nat) (b41 : Nat) (b42 : Nat) (b43 : Nat) (b44 : Nat) (b45 : Nat) (b46 : Nat) (b47 : Nat) (b48 : Nat) (h0 : Nat) (k : Int32) (hk : k < 0) : xb_CT l y_TypeFinderModel_count b_TypeFinderModel_count 2 (some .int) rm_M_count_neg G [] [.ref h0, .int k] [(h0, .inr (14, [.int 0, .int 0, .int 0, .ref b0, .int 0, .ref b1, .ref b2, .ref b3, .ref b4, .int 6, .ref b5, .ref b6, .ref b7, .int 2, .ref b8, .ref b9, .ref b10, .ref b11, .int 4, .ref b12, .ref b13, .ref b14, .ref b15, .ref b16, .int 0, .int 0, .int 0, .ref b17, .ref b18, .ref b19, .int 0, .ref b20, .ref b21, .ref b22, .ref b23, .ref b24, .ref b25, .int 0, .int 0, .int 0, .int 0, .ref b26, .int 0, .ref b27, .ref b28, .ref b29, .ref b30, .ref b31, .int 0, .int 0, .ref b32, .ref b33, .int 0, .ref b34, .int 0, .ref b35, .ref b36, .int 0, .ref b37, .ref b38, .int 0, .ref b39, .ref b40, .int 0, .int 0, .int 0, .ref b41, .int 0, .ref b42, .int 0, .int 0, .int 0, .int 0, .ref b43, .ref b44, .ref b45, .ref b46, .int 0, .ref b47, .ref b48]))] (S := Unit) (fun _ => some (.int (-1))) (fun _ => True) (fun _ => [(h0, .inr (14, [.int 0, .int 0, .int 0, .ref b0, .int 0, .ref b1, .ref b2, .ref b3, .ref b4, .int 6, .ref b5, .ref b6, .ref b7, .int 2, .ref b8, .ref b9, .ref b10, .ref b11, .int 4, .ref b12, .ref b13, .ref b14, .ref b15, .ref b16, .int 0, .int 0, .int 0, .ref b17, .ref b18, .ref b19, .int 0, .ref b20, .ref b21, .ref b22, .ref b23, .ref b24, .ref b25, .int 0, .int 0, .int 0, .int 0, .ref b26, .int 0, .ref b27, .ref b28, .ref b29, .ref b30, .ref b31, .int 0, .int 0, .ref b32, .ref b33, .int 0, .ref b34, .int 0, .ref b35, .ref b36, .int 0, .ref b37, .ref b38, .int 0, .ref b39, .ref b40, .int 0, .int 0, .int 0, .ref b41, .int 0, .ref b42, .int 0, .int 0, .int 0, .int 0, .ref b43, .ref b44, .ref b45, .ref b46, .int 0, .ref b47, .ref b48]))]) := by
  refine xb_CT.of (by decide) "TypeFinderModel" rfl ?_ (Nat.le_of_ble_eq_true rfl)
  intro p e s m args below meth c A ls Q F hr hlk hnm h hl hA hQ
  have hx := F.1.1
  have hb := F.1.2.1
  have hml := F.1.2.2.1
  have hown := F.1.2.2.2.1
  have hts := F.1.2.2.2.2
  have hK := F.2.1
  refine lv_aload_n (pc := 0) hx hb d_TypeFinderModel_count_0 rfl (lv_at hl 0 rfl) ?_
  refine lv_iconst (pc := 1) (v := 0) hx hb d_TypeFinderModel_count_1 (by decide) ?_
  refine xb_put (pc := 2) (t0 := .int) (ws' := [(h0, .inr (14, [.int 0, .int 0, .int 0, .ref b0, .int 0, .ref b1, .ref b2, .ref b3, .ref b4, .int 6, .ref b5, .ref b6, .ref b7, .int 2, .ref b8, .ref b9, .ref b10, .ref b11, .int 4, .ref b12, .ref b13, .ref b14, .ref b15, .ref b16, .int 0, .int 0, .int 0, .ref b17, .ref b18, .ref b19, .int 0, .ref b20, .ref b21, .ref b22, .ref b23, .ref b24, .ref b25, .int 0, .int 0, .int 0, .int 0, .ref b26, .int 0, .ref b27, .ref b28, .ref b29, .ref b30, .ref b31, .int 0, .int 0, .ref b32, .ref b33, .int 0, .ref b34, .int 0, .ref b35, .ref b36, .int 0, .ref b37, .ref b38, .int 0, .ref b39, .ref b40, .int 0, .int 0, .int 0, .ref b41, .int 0, .ref b42, .int 0, .int 0, .int 0, .int 0, .ref b43, .ref b44, .ref b45, .ref b46, .int 0, .ref b47, .ref b48]))]) F h cf_14 0 rfl 0 (by decide) rfl k_411 (Or.inl rfl) (by decide +kernel) rfl rfl (Nat.le_of_ble_eq_true rfl) rfl d_TypeFinderModel_count_2 (fun H locs h => ?_)
  refine lv_iload_n (pc := 5) hx hb d_TypeFinderModel_count_5 rfl (lv_at hl 1 rfl) ?_
  refine lv_if_ne (pc := 6) (tgt := 17) hx hb d_TypeFinderModel_count_6 (by decide) (fun _ => ?_) (fun h => absurd h ((xi_neg hk).1))
  refine lv_iload_n (pc := 17) hx hb d_TypeFinderModel_count_17 rfl (lv_at hl 1 rfl) ?_
  refine lv_iconst (pc := 18) (v := 1) hx hb d_TypeFinderModel_count_18 (by decide) ?_
  refine lv_icmp_ne (pc := 19) (tgt := 27) hx hb d_TypeFinderModel_count_19 (by decide) (fun _ => ?_) (fun h => absurd h ((xi_neg hk).2.1))
  refine lv_iload_n (pc := 27) hx hb d_TypeFinderModel_count_27 rfl (lv_at hl 1 rfl) ?_
  refine lv_iconst (pc := 28) (v := 2) hx hb d_TypeFinderModel_count_28 (by decide) ?_
  refine lv_icmp_lt (pc := 29) (tgt := 42) hx hb d_TypeFinderModel_count_29 (by decide) (fun _ => ?_) (fun h => absurd ((xi_neg hk).2.2.1) h)
  refine lv_iconst (pc := 42) (v := (-1)) hx hb d_TypeFinderModel_count_42 (by decide) ?_
  refine lv_goto (pc := 43) (tgt := 62) hx hb d_TypeFinderModel_count_43 (by decide) ?_
  exact xb_iret (pc := 62) (rm := rm_M_count_neg) F hr hlk hA hQ h () trivial rfl [0] (by decide) rfl (by decide) (by decide) d_TypeFinderModel_count_62
abbrev rm_M_count_big : Room := { frames := 0, cells := 0, slots := 0, locals := 30 }
set_option maxHeartbeats 4000000 in
set_option maxRecDepth 100000 in
theorem ct_M_count_big (l : Launch) (G : xb_EV) (b0 : Nat) (b1 : Nat) (b2 : Nat) (b3 : Nat) (b4 : Nat) (b5 : Nat) (b6 : Nat) (b7 : Nat) (b8 : Nat) (b9 : Nat) (b10 : Nat) (b11 : Nat) (b12 : Nat) (b13 : Nat) (b14 : Nat) (b15 : Nat) (b16 : Nat) (b17 : Nat) (b18 : Nat) (b19 : Nat) (b20 : Nat) (b21 : Nat) (b22 : Nat) (b23 : Nat) (b24 : Nat) (b25 : Nat) (b26 : Nat) (b27 : Nat) (b28 : Nat) (b29 : Nat) (b30 : Nat) (b31 : Nat) (b32 : Nat) (b33 : Nat) (b34 : Nat) (b35 : Nat) (b36 : Nat) (b37 : Nat) (b38 : Nat) (b39 : Nat) (b40 : Nat) (b41 : Nat) (b42 : Nat) (b43 : Nat) (b44 : Nat) (b45 : Nat) (b46 : Nat) (b47 : Nat) (b48 : Nat) (h0 : Nat) (k : Int32) (hk : 4 ≤ k) : xb_CT l y_TypeFinderModel_count b_TypeFinderModel_count 2 (some .int) rm_M_count_big G [] [.ref h0, .int k] [(h0, .inr (14, [.int 0, .int 0, .int 0, .ref b0, .int 0, .ref b1, .ref b2, .ref b3, .ref b4, .int 6, .ref b5, .ref b6, .ref b7, .int 2, .ref b8, .ref b9, .ref b10, .ref b11, .int 4, .ref b12, .ref b13, .ref b14, .ref b15, .ref b16, .int 0, .int 0, .int 0, .ref b17, .ref b18, .ref b19, .int 0, .ref b20, .ref b21, .ref b22, .ref b23, .ref b24, .ref b25, .int 0, .int 0, .int 0, .int 0, .ref b26, .int 0, .ref b27, .ref b28, .ref b29, .ref b30, .ref b31, .int 0, .int 0, .ref b32, .ref b33, .int 0, .ref b34, .int 0, .ref b35, .ref b36, .int 0, .ref b37, .ref b38, .int 0, .ref b39, .ref b40, .int 0, .int 0, .int 0, .ref b41, .int 0, .ref b42, .int 0, .int 0, .int 0, .int 0, .ref b43, .ref b44, .ref b45, .ref b46, .int 0, .ref b47, .ref b48]))] (S := Unit) (fun _ => some (.int (-1))) (fun _ => True) (fun _ => [(h0, .inr (14, [.int 0, .int 0, .int 0, .ref b0, .int 0, .ref b1, .ref b2, .ref b3, .ref b4, .int 6, .ref b5, .ref b6, .ref b7, .int 2, .ref b8, .ref b9, .ref b10, .ref b11, .int 4, .ref b12, .ref b13, .ref b14, .ref b15, .ref b16, .int 0, .int 0, .int 0, .ref b17, .ref b18, .ref b19, .int 0, .ref b20, .ref b21, .ref b22, .ref b23, .ref b24, .ref b25, .int 0, .int 0, .int 0, .int 0, .ref b26, .int 0, .ref b27, .ref b28, .ref b29, .ref b30, .ref b31, .int 0, .int 0, .ref b32, .ref b33, .int 0, .ref b34, .int 0, .ref b35, .ref b36, .int 0, .ref b37, .ref b38, .int 0, .ref b39, .ref b40, .int 0, .int 0, .int 0, .ref b41, .int 0, .ref b42, .int 0, .int 0, .int 0, .int 0, .ref b43, .ref b44, .ref b45, .ref b46, .int 0, .ref b47, .ref b48]))]) := by
  refine xb_CT.of (by decide) "TypeFinderModel" rfl ?_ (Nat.le_of_ble_eq_true rfl)
  intro p e s m args below meth c A ls Q F hr hlk hnm h hl hA hQ
  have hx := F.1.1
  have hb := F.1.2.1
  have hml := F.1.2.2.1
  have hown := F.1.2.2.2.1
  have hts := F.1.2.2.2.2
  have hK := F.2.1
  refine lv_aload_n (pc := 0) hx hb d_TypeFinderModel_count_0 rfl (lv_at hl 0 rfl) ?_
  refine lv_iconst (pc := 1) (v := 0) hx hb d_TypeFinderModel_count_1 (by decide) ?_
  refine xb_put (pc := 2) (t0 := .int) (ws' := [(h0, .inr (14, [.int 0, .int 0, .int 0, .ref b0, .int 0, .ref b1, .ref b2, .ref b3, .ref b4, .int 6, .ref b5, .ref b6, .ref b7, .int 2, .ref b8, .ref b9, .ref b10, .ref b11, .int 4, .ref b12, .ref b13, .ref b14, .ref b15, .ref b16, .int 0, .int 0, .int 0, .ref b17, .ref b18, .ref b19, .int 0, .ref b20, .ref b21, .ref b22, .ref b23, .ref b24, .ref b25, .int 0, .int 0, .int 0, .int 0, .ref b26, .int 0, .ref b27, .ref b28, .ref b29, .ref b30, .ref b31, .int 0, .int 0, .ref b32, .ref b33, .int 0, .ref b34, .int 0, .ref b35, .ref b36, .int 0, .ref b37, .ref b38, .int 0, .ref b39, .ref b40, .int 0, .int 0, .int 0, .ref b41, .int 0, .ref b42, .int 0, .int 0, .int 0, .int 0, .ref b43, .ref b44, .ref b45, .ref b46, .int 0, .ref b47, .ref b48]))]) F h cf_14 0 rfl 0 (by decide) rfl k_411 (Or.inl rfl) (by decide +kernel) rfl rfl (Nat.le_of_ble_eq_true rfl) rfl d_TypeFinderModel_count_2 (fun H locs h => ?_)
  refine lv_iload_n (pc := 5) hx hb d_TypeFinderModel_count_5 rfl (lv_at hl 1 rfl) ?_
  refine lv_if_ne (pc := 6) (tgt := 17) hx hb d_TypeFinderModel_count_6 (by decide) (fun _ => ?_) (fun h => absurd h ((xi_big hk).1))
  refine lv_iload_n (pc := 17) hx hb d_TypeFinderModel_count_17 rfl (lv_at hl 1 rfl) ?_
  refine lv_iconst (pc := 18) (v := 1) hx hb d_TypeFinderModel_count_18 (by decide) ?_
  refine lv_icmp_ne (pc := 19) (tgt := 27) hx hb d_TypeFinderModel_count_19 (by decide) (fun _ => ?_) (fun h => absurd h ((xi_big hk).2.1))
  refine lv_iload_n (pc := 27) hx hb d_TypeFinderModel_count_27 rfl (lv_at hl 1 rfl) ?_
  refine lv_iconst (pc := 28) (v := 2) hx hb d_TypeFinderModel_count_28 (by decide) ?_
  refine lv_icmp_lt (pc := 29) (tgt := 42) hx hb d_TypeFinderModel_count_29 (by decide) (fun h => absurd h ((xi_big hk).2.2.1)) (fun _ => ?_)
  refine lv_iload_n (pc := 32) hx hb d_TypeFinderModel_count_32 rfl (lv_at hl 1 rfl) ?_
  refine lv_iconst (pc := 33) (v := 2) hx hb d_TypeFinderModel_count_33 (by decide) ?_
  refine lv_isub (pc := 34) hx hb d_TypeFinderModel_count_34 ?_
  refine lv_aload_n (pc := 35) hx hb d_TypeFinderModel_count_35 rfl (lv_at hl 0 rfl) ?_
  refine xb_get (pc := 36) F h cf_14 0 rfl 13 (by decide) rfl k_238 (Or.inl rfl) rfl d_TypeFinderModel_count_36 ?_
  refine lv_icmp_lt (pc := 39) (tgt := 46) hx hb d_TypeFinderModel_count_39 (by decide) (fun h => absurd h ((xi_big hk).2.2.2.1)) (fun _ => ?_)
  refine lv_iconst (pc := 42) (v := (-1)) hx hb d_TypeFinderModel_count_42 (by decide) ?_
  refine lv_goto (pc := 43) (tgt := 62) hx hb d_TypeFinderModel_count_43 (by decide) ?_
  exact xb_iret (pc := 62) (rm := rm_M_count_big) F hr hlk hA hQ h () trivial rfl [0] (by decide) rfl (by decide) (by decide) d_TypeFinderModel_count_62
abbrev rm_K_dn_neg : Room := { frames := 0, cells := 0, slots := 0, locals := 30 }
set_option maxHeartbeats 4000000 in
set_option maxRecDepth 100000 in
theorem ct_K_dn_neg (l : Launch) (G : xb_EV) (c9 : Nat) (k : Int32) (hk : k < 0) : xb_CT l y_TypeFinder_Known_declaredName b_TypeFinder_Known_declaredName 2 (some (.object "TypeFinder$Name")) rm_K_dn_neg G [] [.ref c9, .int k] [] (S := Unit) (fun _ => some (.null)) (fun _ => True) (fun _ => []) := by
  refine xb_CT.of (by decide) "TypeFinder$Known" rfl ?_ (Nat.le_of_ble_eq_true rfl)
  intro p e s m args below meth c A ls Q F hr hlk hnm h hl hA hQ
  have hx := F.1.1
  have hb := F.1.2.1
  have hml := F.1.2.2.1
  have hown := F.1.2.2.2.1
  have hts := F.1.2.2.2.2
  have hK := F.2.1
  refine lv_iload_n (pc := 0) hx hb d_TypeFinder_Known_declaredName_0 rfl (lv_at hl 1 rfl) ?_
  refine lv_if_lt (pc := 1) (tgt := 12) hx hb d_TypeFinder_Known_declaredName_1 (by decide) (fun _ => ?_) (fun h => absurd (hk) h)
  refine lv_null (pc := 12) hx hb d_TypeFinder_Known_declaredName_12 ?_
  refine lv_goto (pc := 13) (tgt := 32) hx hb d_TypeFinder_Known_declaredName_13 (by decide) ?_
  exact xb_aret (pc := 32) (rm := rm_K_dn_neg) F hr (by first | exact Or.inl ⟨_, rfl⟩ | exact Or.inr ⟨_, rfl⟩) (by first | exact Or.inl rfl | exact Or.inr ⟨_, rfl⟩) hlk hA hQ h () trivial rfl [] (by decide) rfl (by decide) (by decide) d_TypeFinder_Known_declaredName_32
abbrev rm_K_dn_nn : Room := { frames := 2, cells := 0, slots := 0, locals := 70 }
set_option maxHeartbeats 4000000 in
set_option maxRecDepth 100000 in
theorem ct_K_dn_nn (l : Launch) (G : xb_EV) (c9 : Nat) (c10 : Nat) (c11 : Nat) (c12 : Nat) (c15 : Nat) (c20 : Nat) (k : Int32) (hk : ¬ k < 0) : xb_CT l y_TypeFinder_Known_declaredName b_TypeFinder_Known_declaredName 2 (some (.object "TypeFinder$Name")) rm_K_dn_nn G [] [.ref c9, .int k] [(c9, .inr (4, [.ref c10, .ref c15, .ref c11, .ref c12, .int 6])), (c12, .inr (11, [.int 6, .ref c20, .int 6]))] (S := Unit) (fun _ => some (.null)) (fun _ => True) (fun _ => [(c9, .inr (4, [.ref c10, .ref c15, .ref c11, .ref c12, .int 6])), (c12, .inr (11, [.int 6, .ref c20, .int 6]))]) := by
  refine xb_CT.of (by decide) "TypeFinder$Known" rfl ?_ (Nat.le_of_ble_eq_true rfl)
  intro p e s m args below meth c A ls Q F hr hlk hnm h hl hA hQ
  have hx := F.1.1
  have hb := F.1.2.1
  have hml := F.1.2.2.1
  have hown := F.1.2.2.2.1
  have hts := F.1.2.2.2.2
  have hK := F.2.1
  refine lv_iload_n (pc := 0) hx hb d_TypeFinder_Known_declaredName_0 rfl (lv_at hl 1 rfl) ?_
  refine lv_if_lt (pc := 1) (tgt := 12) hx hb d_TypeFinder_Known_declaredName_1 (by decide) (fun h => absurd h (hk)) (fun _ => ?_)
  refine lv_iload_n (pc := 4) hx hb d_TypeFinder_Known_declaredName_4 rfl (lv_at hl 1 rfl) ?_
  refine lv_aload_n (pc := 5) hx hb d_TypeFinder_Known_declaredName_5 rfl (lv_at hl 0 rfl) ?_
  refine xb_callV (pc := 6) (rm := rm_TypeFinder_Known_declaredNames_a18) (wr := []) F h (ct_TypeFinder_Known_declaredNames_a18 l G c9 c12 c10 c15 c11 c20) 0 (va_recv hK h.1 (q0 := 0) (ci := 4) rfl rfl) k_619 k_209 k_620 k_621 k_622 hd_TypeFinder_Known_declaredNames (by decide) [0, 1] [] rfl rfl (by decide) (by decide) (by decide) xb_ss0 hl.1 rfl rfl (Nat.le_of_ble_eq_true rfl) (by decide) d_TypeFinder_Known_declaredName_6 (fun u H locs hu h => ?_)
  have h : xb_W G A s [(c9, .inr (4, [.ref c10, .ref c15, .ref c11, .ref c12, .int 6])), (c12, .inr (11, [.int 6, .ref c20, .int 6]))] _ _ := h
  refine W.widen (k := 0) (n := 0) (by decide) (by decide) ?_
  refine W.eq (g2 := F0 m 9 ls [.int 0, .int k]) rfl ?_
  refine lv_icmp_lt (pc := 9) (tgt := 16) hx hb d_TypeFinder_Known_declaredName_9 (by decide) (fun h => absurd h (hk)) (fun _ => ?_)
  refine lv_null (pc := 12) hx hb d_TypeFinder_Known_declaredName_12 ?_
  refine lv_goto (pc := 13) (tgt := 32) hx hb d_TypeFinder_Known_declaredName_13 (by decide) ?_
  exact xb_aret (pc := 32) (rm := rm_K_dn_nn) F hr (by first | exact Or.inl ⟨_, rfl⟩ | exact Or.inr ⟨_, rfl⟩) (by first | exact Or.inl rfl | exact Or.inr ⟨_, rfl⟩) hlk hA hQ h () trivial rfl [0, 1] (by decide) rfl (by decide) (by decide) d_TypeFinder_Known_declaredName_32
abbrev rm_C_scheme_neg : Room := { frames := 1, cells := 0, slots := 0, locals := 51 }
set_option maxHeartbeats 4000000 in
set_option maxRecDepth 100000 in
theorem ct_C_scheme_neg (l : Launch) (G : xb_EV) (c0 : Nat) (c1 : Nat) (c9 : Nat) (c10 : Nat) (c11 : Nat) (c12 : Nat) (c15 : Nat) (c21 : Nat) (c22 : Nat) (g0 : Nat) (k : Int32) (hk : k < 0) : xb_CT l y_TypeFinder_scheme b_TypeFinder_scheme 3 (some .int) rm_C_scheme_neg G [] [.ref g0, .int k] [(g0, .inr (0, [.ref c0, .ref c1, .ref c9, .ref c21, .ref c22, .int 0, .int 0, .int 0, .int 0])), (c9, .inr (4, [.ref c10, .ref c15, .ref c11, .ref c12, .int 6]))] (S := Unit) (fun _ => some (.int (-1))) (fun _ => True) (fun _ => [(g0, .inr (0, [.ref c0, .ref c1, .ref c9, .ref c21, .ref c22, .int 0, .int 0, .int 0, .int 0])), (c9, .inr (4, [.ref c10, .ref c15, .ref c11, .ref c12, .int 6]))]) := by
  refine xb_CT.of (by decide) "TypeFinder" rfl ?_ (Nat.le_of_ble_eq_true rfl)
  intro p e s m args below meth c A ls Q F hr hlk hnm h hl hA hQ
  have hx := F.1.1
  have hb := F.1.2.1
  have hml := F.1.2.2.1
  have hown := F.1.2.2.2.1
  have hts := F.1.2.2.2.2
  have hK := F.2.1
  refine lv_aload_n (pc := 0) hx hb d_TypeFinder_scheme_0 rfl (lv_at hl 0 rfl) ?_
  refine xb_get (pc := 1) F h cf_0 0 rfl 2 (by decide) rfl k_213 (Or.inl rfl) rfl d_TypeFinder_scheme_1 ?_
  refine lv_iload_n (pc := 4) hx hb d_TypeFinder_scheme_4 rfl (lv_at hl 1 rfl) ?_
  refine xb_callV (pc := 5) (rm := rm_K_dn_neg) (wr := [(g0, .inr (0, [.ref c0, .ref c1, .ref c9, .ref c21, .ref c22, .int 0, .int 0, .int 0, .int 0])), (c9, .inr (4, [.ref c10, .ref c15, .ref c11, .ref c12, .int 6]))]) F h (ct_K_dn_neg l G c9 k hk) 1 (va_recv hK h.1 (q0 := 1) (ci := 4) rfl rfl) k_623 k_209 k_624 k_625 k_626 hd_TypeFinder_Known_declaredName (by decide) [] [0, 1] rfl rfl (by decide) (by decide) (by decide) xb_ss0 hl.1 rfl rfl (Nat.le_of_ble_eq_true rfl) (by decide) d_TypeFinder_scheme_5 (fun u H locs hu h => ?_)
  have h : xb_W G A s [(g0, .inr (0, [.ref c0, .ref c1, .ref c9, .ref c21, .ref c22, .int 0, .int 0, .int 0, .int 0])), (c9, .inr (4, [.ref c10, .ref c15, .ref c11, .ref c12, .int 6]))] _ _ := h
  refine W.widen (k := 0) (n := 0) (by decide) (by decide) ?_
  refine W.eq (g2 := F0 m 8 ls [.null]) rfl ?_
  refine lv_astore_nN (pc := 8) (lv' := [(2, .null), (0, .ref g0), (1, .int k)]) hx hb d_TypeFinder_scheme_8 rfl hl (by decide) rfl (fun ls hl => ?_)
  refine lv_aload_nN (pc := 9) hx hb d_TypeFinder_scheme_9 rfl (lv_at hl 0 rfl) ?_
  refine lv_ifnonnullN (pc := 10) hx hb d_TypeFinder_scheme_10 ?_
  refine lv_iconst (pc := 13) (v := (-1)) hx hb d_TypeFinder_scheme_13 (by decide) ?_
  refine lv_goto (pc := 14) (tgt := 28) hx hb d_TypeFinder_scheme_14 (by decide) ?_
  exact xb_iret (pc := 28) (rm := rm_C_scheme_neg) F hr hlk hA hQ h () trivial rfl [0, 1] (by decide) rfl (by decide) (by decide) d_TypeFinder_scheme_28
abbrev rm_C_scheme_nn : Room := { frames := 3, cells := 0, slots := 0, locals := 91 }
set_option maxHeartbeats 4000000 in
set_option maxRecDepth 100000 in
theorem ct_C_scheme_nn (l : Launch) (G : xb_EV) (c0 : Nat) (c1 : Nat) (c9 : Nat) (c10 : Nat) (c11 : Nat) (c12 : Nat) (c15 : Nat) (c20 : Nat) (c21 : Nat) (c22 : Nat) (g0 : Nat) (k : Int32) (hk : ¬ k < 0) : xb_CT l y_TypeFinder_scheme b_TypeFinder_scheme 3 (some .int) rm_C_scheme_nn G [] [.ref g0, .int k] [(g0, .inr (0, [.ref c0, .ref c1, .ref c9, .ref c21, .ref c22, .int 0, .int 0, .int 0, .int 0])), (c9, .inr (4, [.ref c10, .ref c15, .ref c11, .ref c12, .int 6])), (c12, .inr (11, [.int 6, .ref c20, .int 6]))] (S := Unit) (fun _ => some (.int (-1))) (fun _ => True) (fun _ => [(g0, .inr (0, [.ref c0, .ref c1, .ref c9, .ref c21, .ref c22, .int 0, .int 0, .int 0, .int 0])), (c9, .inr (4, [.ref c10, .ref c15, .ref c11, .ref c12, .int 6])), (c12, .inr (11, [.int 6, .ref c20, .int 6]))]) := by
  refine xb_CT.of (by decide) "TypeFinder" rfl ?_ (Nat.le_of_ble_eq_true rfl)
  intro p e s m args below meth c A ls Q F hr hlk hnm h hl hA hQ
  have hx := F.1.1
  have hb := F.1.2.1
  have hml := F.1.2.2.1
  have hown := F.1.2.2.2.1
  have hts := F.1.2.2.2.2
  have hK := F.2.1
  refine lv_aload_n (pc := 0) hx hb d_TypeFinder_scheme_0 rfl (lv_at hl 0 rfl) ?_
  refine xb_get (pc := 1) F h cf_0 0 rfl 2 (by decide) rfl k_213 (Or.inl rfl) rfl d_TypeFinder_scheme_1 ?_
  refine lv_iload_n (pc := 4) hx hb d_TypeFinder_scheme_4 rfl (lv_at hl 1 rfl) ?_
  refine xb_callV (pc := 5) (rm := rm_K_dn_nn) (wr := [(g0, .inr (0, [.ref c0, .ref c1, .ref c9, .ref c21, .ref c22, .int 0, .int 0, .int 0, .int 0]))]) F h (ct_K_dn_nn l G c9 c10 c11 c12 c15 c20 k hk) 1 (va_recv hK h.1 (q0 := 1) (ci := 4) rfl rfl) k_623 k_209 k_624 k_625 k_626 hd_TypeFinder_Known_declaredName (by decide) [1, 2] [0] rfl rfl (by decide) (by decide) (by decide) xb_ss0 hl.1 rfl rfl (Nat.le_of_ble_eq_true rfl) (by decide) d_TypeFinder_scheme_5 (fun u H locs hu h => ?_)
  have h : xb_W G A s [(g0, .inr (0, [.ref c0, .ref c1, .ref c9, .ref c21, .ref c22, .int 0, .int 0, .int 0, .int 0])), (c9, .inr (4, [.ref c10, .ref c15, .ref c11, .ref c12, .int 6])), (c12, .inr (11, [.int 6, .ref c20, .int 6]))] _ _ := h
  refine W.widen (k := 0) (n := 0) (by decide) (by decide) ?_
  refine W.eq (g2 := F0 m 8 ls [.null]) rfl ?_
  refine lv_astore_nN (pc := 8) (lv' := [(2, .null), (0, .ref g0), (1, .int k)]) hx hb d_TypeFinder_scheme_8 rfl hl (by decide) rfl (fun ls hl => ?_)
  refine lv_aload_nN (pc := 9) hx hb d_TypeFinder_scheme_9 rfl (lv_at hl 0 rfl) ?_
  refine lv_ifnonnullN (pc := 10) hx hb d_TypeFinder_scheme_10 ?_
  refine lv_iconst (pc := 13) (v := (-1)) hx hb d_TypeFinder_scheme_13 (by decide) ?_
  refine lv_goto (pc := 14) (tgt := 28) hx hb d_TypeFinder_scheme_14 (by decide) ?_
  exact xb_iret (pc := 28) (rm := rm_C_scheme_nn) F hr hlk hA hQ h () trivial rfl [0, 1, 2] (by decide) rfl (by decide) (by decide) d_TypeFinder_scheme_28
abbrev rm_ASB_length : Room := { frames := 0, cells := 0, slots := 0, locals := 30 }
set_option maxHeartbeats 4000000 in
set_option maxRecDepth 100000 in
theorem ct_ASB_length (l : Launch) (G : xb_EV) (x0 : Nat) (f0 : Value) (f1 : Value) (f2 : Value) (n0 : Int32) : xb_CT l y_AbstractStringBuilder_length b_AbstractStringBuilder_length 1 (some .int) rm_ASB_length G [] [.ref x0] [(x0, .inr (12, [f0, f1, f2, .int n0]))] (S := Unit) (fun _ => some (.int n0)) (fun _ => True) (fun _ => [(x0, .inr (12, [f0, f1, f2, .int n0]))]) := by
  refine xb_CT.of (by decide) "java/lang/AbstractStringBuilder" rfl ?_ (Nat.le_of_ble_eq_true rfl)
  intro p e s m args below meth c A ls Q F hr hlk hnm h hl hA hQ
  have hx := F.1.1
  have hb := F.1.2.1
  have hml := F.1.2.2.1
  have hown := F.1.2.2.2.1
  have hts := F.1.2.2.2.2
  have hK := F.2.1
  refine lv_aload_n (pc := 0) hx hb d_AbstractStringBuilder_length_0 rfl (lv_at hl 0 rfl) ?_
  refine xb_get (pc := 1) F h cf_12 0 rfl 3 (by decide) rfl k_627 (Or.inl rfl) rfl d_AbstractStringBuilder_length_1 ?_
  exact xb_iret (pc := 4) (rm := rm_ASB_length) F hr hlk hA hQ h () trivial rfl [0] (by decide) rfl (by decide) (by decide) d_AbstractStringBuilder_length_4
abbrev rm_SB_length : Room := { frames := 1, cells := 0, slots := 0, locals := 60 }
set_option maxHeartbeats 4000000 in
set_option maxRecDepth 100000 in
theorem ct_SB_length (l : Launch) (G : xb_EV) (x0 : Nat) (f0 : Value) (f1 : Value) (f2 : Value) (n0 : Int32) : xb_CT l y_StringBuilder_length b_StringBuilder_length 1 (some .int) rm_SB_length G [] [.ref x0] [(x0, .inr (12, [f0, f1, f2, .int n0]))] (S := Unit) (fun _ => some (.int n0)) (fun _ => True) (fun _ => [(x0, .inr (12, [f0, f1, f2, .int n0]))]) := by
  refine xb_CT.of (by decide) "java/lang/StringBuilder" rfl ?_ (Nat.le_of_ble_eq_true rfl)
  intro p e s m args below meth c A ls Q F hr hlk hnm h hl hA hQ
  have hx := F.1.1
  have hb := F.1.2.1
  have hml := F.1.2.2.1
  have hown := F.1.2.2.2.1
  have hts := F.1.2.2.2.2
  have hK := F.2.1
  refine lv_aload_n (pc := 0) hx hb d_StringBuilder_length_0 rfl (lv_at hl 0 rfl) ?_
  refine xb_callSU (pc := 1) (rm := rm_ASB_length) (wr := []) F h cf_12 (ct_ASB_length l G x0 f0 f1 f2 n0) 0 (va_recv hK h.1 (q0 := 0) (ci := 12) rfl rfl) k_628 k_65 k_629 k_630 k_631 k_632 ⟨by decide, by decide +kernel⟩ (by decide) [0] [] rfl rfl (by decide) (by decide) (by decide) xb_ss0 hl.1 rfl rfl (Nat.le_of_ble_eq_true rfl) (by decide) d_StringBuilder_length_1 (fun u H locs hu h => ?_)
  have h : xb_W G A s [(x0, .inr (12, [f0, f1, f2, .int n0]))] _ _ := h
  refine W.widen (k := 0) (n := 0) (by decide) (by decide) ?_
  refine W.eq (g2 := F0 m 4 ls [.int n0]) rfl ?_
  exact xb_iret (pc := 4) (rm := rm_SB_length) F hr hlk hA hQ h () trivial rfl [0] (by decide) rfl (by decide) (by decide) d_StringBuilder_length_4
abbrev rm_W_ca_neg : Room := { frames := 0, cells := 0, slots := 0, locals := 30 }
set_option maxHeartbeats 4000000 in
set_option maxRecDepth 100000 in
theorem ct_W_ca_neg (l : Launch) (G : xb_EV) (c22 : Nat) (k : Int32) (hk : k < 0) : xb_CT l y_TypeFinder_Writer_characterAt b_TypeFinder_Writer_characterAt 2 (some .int) rm_W_ca_neg G [] [.ref c22, .int k] [] (S := Unit) (fun _ => some (.int (-1))) (fun _ => True) (fun _ => []) := by
  refine xb_CT.of (by decide) "TypeFinder$Writer" rfl ?_ (Nat.le_of_ble_eq_true rfl)
  intro p e s m args below meth c A ls Q F hr hlk hnm h hl hA hQ
  have hx := F.1.1
  have hb := F.1.2.1
  have hml := F.1.2.2.1
  have hown := F.1.2.2.2.1
  have hts := F.1.2.2.2.2
  have hK := F.2.1
  refine lv_iload_n (pc := 0) hx hb d_TypeFinder_Writer_characterAt_0 rfl (lv_at hl 1 rfl) ?_
  refine lv_if_lt (pc := 1) (tgt := 15) hx hb d_TypeFinder_Writer_characterAt_1 (by decide) (fun _ => ?_) (fun h => absurd (hk) h)
  refine lv_iconst (pc := 15) (v := (-1)) hx hb d_TypeFinder_Writer_characterAt_15 (by decide) ?_
  refine lv_goto (pc := 16) (tgt := 27) hx hb d_TypeFinder_Writer_characterAt_16 (by decide) ?_
  exact xb_iret (pc := 27) (rm := rm_W_ca_neg) F hr hlk hA hQ h () trivial rfl [] (by decide) rfl (by decide) (by decide) d_TypeFinder_Writer_characterAt_27
abbrev rm_W_ca_nn : Room := { frames := 2, cells := 0, slots := 0, locals := 80 }
set_option maxHeartbeats 4000000 in
set_option maxRecDepth 100000 in
theorem ct_W_ca_nn (l : Launch) (G : xb_EV) (c22 : Nat) (c23 : Nat) (c24 : Nat) (c25 : Nat) (k : Int32) (hk : ¬ k < 0) : xb_CT l y_TypeFinder_Writer_characterAt b_TypeFinder_Writer_characterAt 2 (some .int) rm_W_ca_nn G [] [.ref c22, .int k] [(c22, .inr (10, [.ref c23, .ref c25])), (c23, .inr (12, [.ref c24, .int 0, .int 0, .int 0]))] (S := Unit) (fun _ => some (.int (-1))) (fun _ => True) (fun _ => [(c22, .inr (10, [.ref c23, .ref c25])), (c23, .inr (12, [.ref c24, .int 0, .int 0, .int 0]))]) := by
  refine xb_CT.of (by decide) "TypeFinder$Writer" rfl ?_ (Nat.le_of_ble_eq_true rfl)
  intro p e s m args below meth c A ls Q F hr hlk hnm h hl hA hQ
  have hx := F.1.1
  have hb := F.1.2.1
  have hml := F.1.2.2.1
  have hown := F.1.2.2.2.1
  have hts := F.1.2.2.2.2
  have hK := F.2.1
  refine lv_iload_n (pc := 0) hx hb d_TypeFinder_Writer_characterAt_0 rfl (lv_at hl 1 rfl) ?_
  refine lv_if_lt (pc := 1) (tgt := 15) hx hb d_TypeFinder_Writer_characterAt_1 (by decide) (fun h => absurd h (hk)) (fun _ => ?_)
  refine lv_iload_n (pc := 4) hx hb d_TypeFinder_Writer_characterAt_4 rfl (lv_at hl 1 rfl) ?_
  refine lv_aload_n (pc := 5) hx hb d_TypeFinder_Writer_characterAt_5 rfl (lv_at hl 0 rfl) ?_
  refine xb_get (pc := 6) F h cf_10 0 rfl 0 (by decide) rfl k_128 (Or.inl rfl) rfl d_TypeFinder_Writer_characterAt_6 ?_
  refine xb_callV (pc := 9) (rm := rm_SB_length) (wr := [(c22, .inr (10, [.ref c23, .ref c25]))]) F h (ct_SB_length l G c23 (.ref c24) (.int 0) (.int 0) 0) 0 (va_recv hK h.1 (q0 := 1) (ci := 12) rfl rfl) k_633 k_124 k_634 k_635 k_636 hd_StringBuilder_length (by decide) [1] [0] rfl rfl (by decide) (by decide) (by decide) xb_ss0 hl.1 rfl rfl (Nat.le_of_ble_eq_true rfl) (by decide) d_TypeFinder_Writer_characterAt_9 (fun u H locs hu h => ?_)
  have h : xb_W G A s [(c22, .inr (10, [.ref c23, .ref c25])), (c23, .inr (12, [.ref c24, .int 0, .int 0, .int 0]))] _ _ := h
  refine W.widen (k := 0) (n := 0) (by decide) (by decide) ?_
  refine W.eq (g2 := F0 m 12 ls [.int 0, .int k]) rfl ?_
  refine lv_icmp_lt (pc := 12) (tgt := 19) hx hb d_TypeFinder_Writer_characterAt_12 (by decide) (fun h => absurd h (hk)) (fun _ => ?_)
  refine lv_iconst (pc := 15) (v := (-1)) hx hb d_TypeFinder_Writer_characterAt_15 (by decide) ?_
  refine lv_goto (pc := 16) (tgt := 27) hx hb d_TypeFinder_Writer_characterAt_16 (by decide) ?_
  exact xb_iret (pc := 27) (rm := rm_W_ca_nn) F hr hlk hA hQ h () trivial rfl [0, 1] (by decide) rfl (by decide) (by decide) d_TypeFinder_Writer_characterAt_27
abbrev rm_C_written_neg : Room := { frames := 1, cells := 0, slots := 0, locals := 51 }
set_option maxHeartbeats 4000000 in
set_option maxRecDepth 100000 in
theorem ct_C_written_neg (l : Launch) (G : xb_EV) (c0 : Nat) (c1 : Nat) (c9 : Nat) (c21 : Nat) (c22 : Nat) (c23 : Nat) (c25 : Nat) (g0 : Nat) (k : Int32) (hk : k < 0) : xb_CT l y_TypeFinder_written b_TypeFinder_written 2 (some .int) rm_C_written_neg G [] [.ref g0, .int k] [(g0, .inr (0, [.ref c0, .ref c1, .ref c9, .ref c21, .ref c22, .int 0, .int 0, .int 0, .int 0])), (c22, .inr (10, [.ref c23, .ref c25]))] (S := Unit) (fun _ => some (.int (-1))) (fun _ => True) (fun _ => [(g0, .inr (0, [.ref c0, .ref c1, .ref c9, .ref c21, .ref c22, .int 0, .int 0, .int 0, .int 0])), (c22, .inr (10, [.ref c23, .ref c25]))]) := by
  refine xb_CT.of (by decide) "TypeFinder" rfl ?_ (Nat.le_of_ble_eq_true rfl)
  intro p e s m args below meth c A ls Q F hr hlk hnm h hl hA hQ
  have hx := F.1.1
  have hb := F.1.2.1
  have hml := F.1.2.2.1
  have hown := F.1.2.2.2.1
  have hts := F.1.2.2.2.2
  have hK := F.2.1
  refine lv_aload_n (pc := 0) hx hb d_TypeFinder_written_0 rfl (lv_at hl 0 rfl) ?_
  refine xb_get (pc := 1) F h cf_0 0 rfl 4 (by decide) rfl k_227 (Or.inl rfl) rfl d_TypeFinder_written_1 ?_
  refine lv_iload_n (pc := 4) hx hb d_TypeFinder_written_4 rfl (lv_at hl 1 rfl) ?_
  refine xb_callV (pc := 5) (rm := rm_W_ca_neg) (wr := [(g0, .inr (0, [.ref c0, .ref c1, .ref c9, .ref c21, .ref c22, .int 0, .int 0, .int 0, .int 0])), (c22, .inr (10, [.ref c23, .ref c25]))]) F h (ct_W_ca_neg l G c22 k hk) 1 (va_recv hK h.1 (q0 := 1) (ci := 10) rfl rfl) k_637 k_223 k_638 k_639 k_640 hd_TypeFinder_Writer_characterAt (by decide) [] [0, 1] rfl rfl (by decide) (by decide) (by decide) xb_ss0 hl.1 rfl rfl (Nat.le_of_ble_eq_true rfl) (by decide) d_TypeFinder_written_5 (fun u H locs hu h => ?_)
  have h : xb_W G A s [(g0, .inr (0, [.ref c0, .ref c1, .ref c9, .ref c21, .ref c22, .int 0, .int 0, .int 0, .int 0])), (c22, .inr (10, [.ref c23, .ref c25]))] _ _ := h
  refine W.widen (k := 0) (n := 0) (by decide) (by decide) ?_
  refine W.eq (g2 := F0 m 8 ls [.int (-1)]) rfl ?_
  exact xb_iret (pc := 8) (rm := rm_C_written_neg) F hr hlk hA hQ h () trivial rfl [0, 1] (by decide) rfl (by decide) (by decide) d_TypeFinder_written_8
abbrev rm_C_written_nn : Room := { frames := 3, cells := 0, slots := 0, locals := 101 }
set_option maxHeartbeats 4000000 in
set_option maxRecDepth 100000 in
theorem ct_C_written_nn (l : Launch) (G : xb_EV) (c0 : Nat) (c1 : Nat) (c9 : Nat) (c21 : Nat) (c22 : Nat) (c23 : Nat) (c24 : Nat) (c25 : Nat) (g0 : Nat) (k : Int32) (hk : ¬ k < 0) : xb_CT l y_TypeFinder_written b_TypeFinder_written 2 (some .int) rm_C_written_nn G [] [.ref g0, .int k] [(g0, .inr (0, [.ref c0, .ref c1, .ref c9, .ref c21, .ref c22, .int 0, .int 0, .int 0, .int 0])), (c22, .inr (10, [.ref c23, .ref c25])), (c23, .inr (12, [.ref c24, .int 0, .int 0, .int 0]))] (S := Unit) (fun _ => some (.int (-1))) (fun _ => True) (fun _ => [(g0, .inr (0, [.ref c0, .ref c1, .ref c9, .ref c21, .ref c22, .int 0, .int 0, .int 0, .int 0])), (c22, .inr (10, [.ref c23, .ref c25])), (c23, .inr (12, [.ref c24, .int 0, .int 0, .int 0]))]) := by
  refine xb_CT.of (by decide) "TypeFinder" rfl ?_ (Nat.le_of_ble_eq_true rfl)
  intro p e s m args below meth c A ls Q F hr hlk hnm h hl hA hQ
  have hx := F.1.1
  have hb := F.1.2.1
  have hml := F.1.2.2.1
  have hown := F.1.2.2.2.1
  have hts := F.1.2.2.2.2
  have hK := F.2.1
  refine lv_aload_n (pc := 0) hx hb d_TypeFinder_written_0 rfl (lv_at hl 0 rfl) ?_
  refine xb_get (pc := 1) F h cf_0 0 rfl 4 (by decide) rfl k_227 (Or.inl rfl) rfl d_TypeFinder_written_1 ?_
  refine lv_iload_n (pc := 4) hx hb d_TypeFinder_written_4 rfl (lv_at hl 1 rfl) ?_
  refine xb_callV (pc := 5) (rm := rm_W_ca_nn) (wr := [(g0, .inr (0, [.ref c0, .ref c1, .ref c9, .ref c21, .ref c22, .int 0, .int 0, .int 0, .int 0]))]) F h (ct_W_ca_nn l G c22 c23 c24 c25 k hk) 1 (va_recv hK h.1 (q0 := 1) (ci := 10) rfl rfl) k_637 k_223 k_638 k_639 k_640 hd_TypeFinder_Writer_characterAt (by decide) [1, 2] [0] rfl rfl (by decide) (by decide) (by decide) xb_ss0 hl.1 rfl rfl (Nat.le_of_ble_eq_true rfl) (by decide) d_TypeFinder_written_5 (fun u H locs hu h => ?_)
  have h : xb_W G A s [(g0, .inr (0, [.ref c0, .ref c1, .ref c9, .ref c21, .ref c22, .int 0, .int 0, .int 0, .int 0])), (c22, .inr (10, [.ref c23, .ref c25])), (c23, .inr (12, [.ref c24, .int 0, .int 0, .int 0]))] _ _ := h
  refine W.widen (k := 0) (n := 0) (by decide) (by decide) ?_
  refine W.eq (g2 := F0 m 8 ls [.int (-1)]) rfl ?_
  exact xb_iret (pc := 8) (rm := rm_C_written_nn) F hr hlk hA hQ h () trivial rfl [0, 1, 2] (by decide) rfl (by decide) (by decide) d_TypeFinder_written_8
abbrev rm_C_matches_0 : Room := { frames := 0, cells := 0, slots := 0, locals := 30 }
set_option maxHeartbeats 4000000 in
set_option maxRecDepth 100000 in
theorem ct_C_matches_0 (l : Launch) (G : xb_EV) (c0 : Nat) (c1 : Nat) (c9 : Nat) (c21 : Nat) (c22 : Nat) (g0 : Nat) : xb_CT l y_TypeFinder_matches b_TypeFinder_matches 2 (some .int) rm_C_matches_0 G [] [.ref g0, .int 0] [(g0, .inr (0, [.ref c0, .ref c1, .ref c9, .ref c21, .ref c22, .int 0, .int 0, .int 0, .int 0]))] (S := Unit) (fun _ => some (.int 0)) (fun _ => True) (fun _ => [(g0, .inr (0, [.ref c0, .ref c1, .ref c9, .ref c21, .ref c22, .int 0, .int 0, .int 0, .int 0]))]) := by
  refine xb_CT.of (by decide) "TypeFinder" rfl ?_ (Nat.le_of_ble_eq_true rfl)
  intro p e s m args below meth c A ls Q F hr hlk hnm h hl hA hQ
  have hx := F.1.1
  have hb := F.1.2.1
  have hml := F.1.2.2.1
  have hown := F.1.2.2.2.1
  have hts := F.1.2.2.2.2
  have hK := F.2.1
  refine lv_iload_n (pc := 0) hx hb d_TypeFinder_matches_0 rfl (lv_at hl 1 rfl) ?_
  refine lv_if_ne (pc := 1) (tgt := 9) hx hb d_TypeFinder_matches_1 (by decide) (fun h => absurd (by decide) h) (fun _ => ?_)
  refine lv_aload_n (pc := 4) hx hb d_TypeFinder_matches_4 rfl (lv_at hl 0 rfl) ?_
  refine xb_get (pc := 5) F h cf_0 0 rfl 7 (by decide) rfl k_641 (Or.inl rfl) rfl d_TypeFinder_matches_5 ?_
  exact xb_iret (pc := 8) (rm := rm_C_matches_0) F hr hlk hA hQ h () trivial rfl [0] (by decide) rfl (by decide) (by decide) d_TypeFinder_matches_8
abbrev rm_C_matches_1 : Room := { frames := 0, cells := 0, slots := 0, locals := 30 }
set_option maxHeartbeats 4000000 in
set_option maxRecDepth 100000 in
theorem ct_C_matches_1 (l : Launch) (G : xb_EV) (c0 : Nat) (c1 : Nat) (c9 : Nat) (c21 : Nat) (c22 : Nat) (g0 : Nat) : xb_CT l y_TypeFinder_matches b_TypeFinder_matches 2 (some .int) rm_C_matches_1 G [] [.ref g0, .int 1] [(g0, .inr (0, [.ref c0, .ref c1, .ref c9, .ref c21, .ref c22, .int 0, .int 0, .int 0, .int 0]))] (S := Unit) (fun _ => some (.int 0)) (fun _ => True) (fun _ => [(g0, .inr (0, [.ref c0, .ref c1, .ref c9, .ref c21, .ref c22, .int 0, .int 0, .int 0, .int 0]))]) := by
  refine xb_CT.of (by decide) "TypeFinder" rfl ?_ (Nat.le_of_ble_eq_true rfl)
  intro p e s m args below meth c A ls Q F hr hlk hnm h hl hA hQ
  have hx := F.1.1
  have hb := F.1.2.1
  have hml := F.1.2.2.1
  have hown := F.1.2.2.2.1
  have hts := F.1.2.2.2.2
  have hK := F.2.1
  refine lv_iload_n (pc := 0) hx hb d_TypeFinder_matches_0 rfl (lv_at hl 1 rfl) ?_
  refine lv_if_ne (pc := 1) (tgt := 9) hx hb d_TypeFinder_matches_1 (by decide) (fun _ => ?_) (fun h => absurd h (by decide))
  refine lv_iload_n (pc := 9) hx hb d_TypeFinder_matches_9 rfl (lv_at hl 1 rfl) ?_
  refine lv_iconst (pc := 10) (v := 1) hx hb d_TypeFinder_matches_10 (by decide) ?_
  refine lv_icmp_ne (pc := 11) (tgt := 21) hx hb d_TypeFinder_matches_11 (by decide) (fun h => absurd (by decide) h) (fun _ => ?_)
  refine lv_aload_n (pc := 14) hx hb d_TypeFinder_matches_14 rfl (lv_at hl 0 rfl) ?_
  refine xb_get (pc := 15) F h cf_0 0 rfl 8 (by decide) rfl k_642 (Or.inl rfl) rfl d_TypeFinder_matches_15 ?_
  refine lv_goto (pc := 18) (tgt := 22) hx hb d_TypeFinder_matches_18 (by decide) ?_
  exact xb_iret (pc := 22) (rm := rm_C_matches_1) F hr hlk hA hQ h () trivial rfl [0] (by decide) rfl (by decide) (by decide) d_TypeFinder_matches_22
abbrev rm_C_matches_n : Room := { frames := 0, cells := 0, slots := 0, locals := 30 }
set_option maxHeartbeats 4000000 in
set_option maxRecDepth 100000 in
theorem ct_C_matches_n (l : Launch) (G : xb_EV) (g0 : Nat) (k : Int32) (h0k : ¬ k = 0) (h1k : ¬ k = 1) : xb_CT l y_TypeFinder_matches b_TypeFinder_matches 2 (some .int) rm_C_matches_n G [] [.ref g0, .int k] [] (S := Unit) (fun _ => some (.int (-1))) (fun _ => True) (fun _ => []) := by
  refine xb_CT.of (by decide) "TypeFinder" rfl ?_ (Nat.le_of_ble_eq_true rfl)
  intro p e s m args below meth c A ls Q F hr hlk hnm h hl hA hQ
  have hx := F.1.1
  have hb := F.1.2.1
  have hml := F.1.2.2.1
  have hown := F.1.2.2.2.1
  have hts := F.1.2.2.2.2
  have hK := F.2.1
  refine lv_iload_n (pc := 0) hx hb d_TypeFinder_matches_0 rfl (lv_at hl 1 rfl) ?_
  refine lv_if_ne (pc := 1) (tgt := 9) hx hb d_TypeFinder_matches_1 (by decide) (fun _ => ?_) (fun h => absurd h (h0k))
  refine lv_iload_n (pc := 9) hx hb d_TypeFinder_matches_9 rfl (lv_at hl 1 rfl) ?_
  refine lv_iconst (pc := 10) (v := 1) hx hb d_TypeFinder_matches_10 (by decide) ?_
  refine lv_icmp_ne (pc := 11) (tgt := 21) hx hb d_TypeFinder_matches_11 (by decide) (fun _ => ?_) (fun h => absurd h (h1k))
  refine lv_iconst (pc := 21) (v := (-1)) hx hb d_TypeFinder_matches_21 (by decide) ?_
  exact xb_iret (pc := 22) (rm := rm_C_matches_n) F hr hlk hA hQ h () trivial rfl [] (by decide) rfl (by decide) (by decide) d_TypeFinder_matches_22
abbrev rm_C_count_0 : Room := { frames := 2, cells := 0, slots := 0, locals := 70 }
set_option maxHeartbeats 4000000 in
set_option maxRecDepth 100000 in
theorem ct_C_count_0 (l : Launch) (G : xb_EV) (c0 : Nat) (c1 : Nat) (c9 : Nat) (c10 : Nat) (c11 : Nat) (c12 : Nat) (c15 : Nat) (c20 : Nat) (c21 : Nat) (c22 : Nat) (g0 : Nat) : xb_CT l y_TypeFinder_count b_TypeFinder_count 2 (some .int) rm_C_count_0 G [] [.ref g0, .int 0] [(g0, .inr (0, [.ref c0, .ref c1, .ref c9, .ref c21, .ref c22, .int 0, .int 0, .int 0, .int 0])), (c9, .inr (4, [.ref c10, .ref c15, .ref c11, .ref c12, .int 6])), (c12, .inr (11, [.int 6, .ref c20, .int 6]))] (S := Unit) (fun _ => some (.int 0)) (fun _ => True) (fun _ => [(g0, .inr (0, [.ref c0, .ref c1, .ref c9, .ref c21, .ref c22, .int 0, .int 0, .int 0, .int 0])), (c9, .inr (4, [.ref c10, .ref c15, .ref c11, .ref c12, .int 6])), (c12, .inr (11, [.int 6, .ref c20, .int 6]))]) := by
  refine xb_CT.of (by decide) "TypeFinder" rfl ?_ (Nat.le_of_ble_eq_true rfl)
  intro p e s m args below meth c A ls Q F hr hlk hnm h hl hA hQ
  have hx := F.1.1
  have hb := F.1.2.1
  have hml := F.1.2.2.1
  have hown := F.1.2.2.2.1
  have hts := F.1.2.2.2.2
  have hK := F.2.1
  refine lv_iload_n (pc := 0) hx hb d_TypeFinder_count_0 rfl (lv_at hl 1 rfl) ?_
  refine lv_if_ne (pc := 1) (tgt := 12) hx hb d_TypeFinder_count_1 (by decide) (fun h => absurd (by decide) h) (fun _ => ?_)
  refine lv_aload_n (pc := 4) hx hb d_TypeFinder_count_4 rfl (lv_at hl 0 rfl) ?_
  refine xb_get (pc := 5) F h cf_0 0 rfl 2 (by decide) rfl k_213 (Or.inl rfl) rfl d_TypeFinder_count_5 ?_
  refine xb_callV (pc := 8) (rm := rm_TypeFinder_Known_declaredNames_a18) (wr := [(g0, .inr (0, [.ref c0, .ref c1, .ref c9, .ref c21, .ref c22, .int 0, .int 0, .int 0, .int 0]))]) F h (ct_TypeFinder_Known_declaredNames_a18 l G c9 c12 c10 c15 c11 c20) 0 (va_recv hK h.1 (q0 := 1) (ci := 4) rfl rfl) k_619 k_209 k_643 k_621 k_622 hd_TypeFinder_Known_declaredNames (by decide) [1, 2] [0] rfl rfl (by decide) (by decide) (by decide) xb_ss0 hl.1 rfl rfl (Nat.le_of_ble_eq_true rfl) (by decide) d_TypeFinder_count_8 (fun u H locs hu h => ?_)
  have h : xb_W G A s [(g0, .inr (0, [.ref c0, .ref c1, .ref c9, .ref c21, .ref c22, .int 0, .int 0, .int 0, .int 0])), (c9, .inr (4, [.ref c10, .ref c15, .ref c11, .ref c12, .int 6])), (c12, .inr (11, [.int 6, .ref c20, .int 6]))] _ _ := h
  refine W.widen (k := 0) (n := 0) (by decide) (by decide) ?_
  refine W.eq (g2 := F0 m 11 ls [.int 0]) rfl ?_
  exact xb_iret (pc := 11) (rm := rm_C_count_0) F hr hlk hA hQ h () trivial rfl [0, 1, 2] (by decide) rfl (by decide) (by decide) d_TypeFinder_count_11
abbrev rm_C_count_1 : Room := { frames := 1, cells := 0, slots := 0, locals := 50 }
set_option maxHeartbeats 4000000 in
set_option maxRecDepth 100000 in
theorem ct_C_count_1 (l : Launch) (G : xb_EV) (c0 : Nat) (c1 : Nat) (c9 : Nat) (c10 : Nat) (c11 : Nat) (c12 : Nat) (c15 : Nat) (c16 : Nat) (c21 : Nat) (c22 : Nat) (g0 : Nat) : xb_CT l y_TypeFinder_count b_TypeFinder_count 2 (some .int) rm_C_count_1 G [] [.ref g0, .int 1] [(g0, .inr (0, [.ref c0, .ref c1, .ref c9, .ref c21, .ref c22, .int 0, .int 0, .int 0, .int 0])), (c9, .inr (4, [.ref c10, .ref c15, .ref c11, .ref c12, .int 6])), (c11, .inr (11, [.int 2, .ref c16, .int 2]))] (S := Unit) (fun _ => some (.int 2)) (fun _ => True) (fun _ => [(g0, .inr (0, [.ref c0, .ref c1, .ref c9, .ref c21, .ref c22, .int 0, .int 0, .int 0, .int 0])), (c9, .inr (4, [.ref c10, .ref c15, .ref c11, .ref c12, .int 6])), (c11, .inr (11, [.int 2, .ref c16, .int 2]))]) := by
  refine xb_CT.of (by decide) "TypeFinder" rfl ?_ (Nat.le_of_ble_eq_true rfl)
  intro p e s m args below meth c A ls Q F hr hlk hnm h hl hA hQ
  have hx := F.1.1
  have hb := F.1.2.1
  have hml := F.1.2.2.1
  have hown := F.1.2.2.2.1
  have hts := F.1.2.2.2.2
  have hK := F.2.1
  refine lv_iload_n (pc := 0) hx hb d_TypeFinder_count_0 rfl (lv_at hl 1 rfl) ?_
  refine lv_if_ne (pc := 1) (tgt := 12) hx hb d_TypeFinder_count_1 (by decide) (fun _ => ?_) (fun h => absurd h (by decide))
  refine lv_iload_n (pc := 12) hx hb d_TypeFinder_count_12 rfl (lv_at hl 1 rfl) ?_
  refine lv_iconst (pc := 13) (v := 1) hx hb d_TypeFinder_count_13 (by decide) ?_
  refine lv_icmp_ne (pc := 14) (tgt := 28) hx hb d_TypeFinder_count_14 (by decide) (fun h => absurd (by decide) h) (fun _ => ?_)
  refine lv_aload_n (pc := 17) hx hb d_TypeFinder_count_17 rfl (lv_at hl 0 rfl) ?_
  refine xb_get (pc := 18) F h cf_0 0 rfl 2 (by decide) rfl k_213 (Or.inl rfl) rfl d_TypeFinder_count_18 ?_
  refine xb_get (pc := 21) F h cf_4 1 rfl 2 (by decide) rfl k_644 (Or.inl rfl) rfl d_TypeFinder_count_21 ?_
  refine xb_callV (pc := 24) (rm := rm_AL_size) (wr := [(g0, .inr (0, [.ref c0, .ref c1, .ref c9, .ref c21, .ref c22, .int 0, .int 0, .int 0, .int 0])), (c9, .inr (4, [.ref c10, .ref c15, .ref c11, .ref c12, .int 6]))]) F h (ct_AL_size l G c11 2 c16 2) 0 (va_recv hK h.1 (q0 := 2) (ci := 11) rfl rfl) k_174 k_45 k_645 k_176 k_177 hd_ArrayList_size (by decide) [2] [0, 1] rfl rfl (by decide) (by decide) (by decide) xb_ss0 hl.1 rfl rfl (Nat.le_of_ble_eq_true rfl) (by decide) d_TypeFinder_count_24 (fun u H locs hu h => ?_)
  have h : xb_W G A s [(g0, .inr (0, [.ref c0, .ref c1, .ref c9, .ref c21, .ref c22, .int 0, .int 0, .int 0, .int 0])), (c9, .inr (4, [.ref c10, .ref c15, .ref c11, .ref c12, .int 6])), (c11, .inr (11, [.int 2, .ref c16, .int 2]))] _ _ := h
  refine W.widen (k := 0) (n := 0) (by decide) (by decide) ?_
  refine W.eq (g2 := F0 m 27 ls [.int 2]) rfl ?_
  exact xb_iret (pc := 27) (rm := rm_C_count_1) F hr hlk hA hQ h () trivial rfl [0, 1, 2] (by decide) rfl (by decide) (by decide) d_TypeFinder_count_27
abbrev rm_PC_0 : Room := { frames := 0, cells := 0, slots := 0, locals := 30 }
set_option maxHeartbeats 4000000 in
set_option maxRecDepth 100000 in
theorem ct_PC_0 (l : Launch) (G : xb_EV) : xb_CT l y_Preconditions_checkIndex b_Preconditions_checkIndex 3 (some .int) rm_PC_0 G [] [.int 0, .int 2, .null] [] (S := Unit) (fun _ => some (.int 0)) (fun _ => True) (fun _ => []) := by
  refine xb_CT.of (by decide) "jdk/internal/util/Preconditions" rfl ?_ (Nat.le_of_ble_eq_true rfl)
  intro p e s m args below meth c A ls Q F hr hlk hnm h hl hA hQ
  have hx := F.1.1
  have hb := F.1.2.1
  have hml := F.1.2.2.1
  have hown := F.1.2.2.2.1
  have hts := F.1.2.2.2.2
  have hK := F.2.1
  refine lv_iload_n (pc := 0) hx hb d_Preconditions_checkIndex_0 rfl (lv_at hl 0 rfl) ?_
  refine lv_if_lt (pc := 1) (tgt := 9) hx hb d_Preconditions_checkIndex_1 (by decide) (fun h => absurd h (by decide)) (fun _ => ?_)
  refine lv_iload_n (pc := 4) hx hb d_Preconditions_checkIndex_4 rfl (lv_at hl 0 rfl) ?_
  refine lv_iload_n (pc := 5) hx hb d_Preconditions_checkIndex_5 rfl (lv_at hl 1 rfl) ?_
  refine lv_icmp_lt (pc := 6) (tgt := 16) hx hb d_Preconditions_checkIndex_6 (by decide) (fun _ => ?_) (fun h => absurd (by decide) h)
  refine lv_iload_n (pc := 16) hx hb d_Preconditions_checkIndex_16 rfl (lv_at hl 0 rfl) ?_
  exact xb_iret (pc := 17) (rm := rm_PC_0) F hr hlk hA hQ h () trivial rfl [] (by decide) rfl (by decide) (by decide) d_Preconditions_checkIndex_17
abbrev rm_OC_0 : Room := { frames := 1, cells := 0, slots := 0, locals := 52 }
set_option maxHeartbeats 4000000 in
set_option maxRecDepth 100000 in
theorem ct_OC_0 (l : Launch) (G : xb_EV) : xb_CT l y_Objects_checkIndex b_Objects_checkIndex 2 (some .int) rm_OC_0 G [] [.int 0, .int 2] [] (S := Unit) (fun _ => some (.int 0)) (fun _ => True) (fun _ => []) := by
  refine xb_CT.of (by decide) "java/util/Objects" rfl ?_ (Nat.le_of_ble_eq_true rfl)
  intro p e s m args below meth c A ls Q F hr hlk hnm h hl hA hQ
  have hx := F.1.1
  have hb := F.1.2.1
  have hml := F.1.2.2.1
  have hown := F.1.2.2.2.1
  have hts := F.1.2.2.2.2
  have hK := F.2.1
  refine lv_iload_n (pc := 0) hx hb d_Objects_checkIndex_0 rfl (lv_at hl 0 rfl) ?_
  refine lv_iload_n (pc := 1) hx hb d_Objects_checkIndex_1 rfl (lv_at hl 1 rfl) ?_
  refine lv_null (pc := 2) hx hb d_Objects_checkIndex_2 ?_
  refine xb_callS (pc := 3) (rm := rm_PC_0) (wr := []) F h (ct_PC_0 l G) 3 k_9 k_10 k_646 k_12 hd_Preconditions_checkIndex (by decide) [] [] rfl rfl (by decide) (by decide) (by decide) xb_ss0 hl.1 rfl rfl (Nat.le_of_ble_eq_true rfl) (by decide) d_Objects_checkIndex_3 (fun u H locs hu h => ?_)
  have h : xb_W G A s [] _ _ := h
  refine W.widen (k := 0) (n := 0) (by decide) (by decide) ?_
  refine W.eq (g2 := F0 m 6 ls [.int 0]) rfl ?_
  exact xb_iret (pc := 6) (rm := rm_OC_0) F hr hlk hA hQ h () trivial rfl [] (by decide) rfl (by decide) (by decide) d_Objects_checkIndex_6
abbrev rm_AL_ed_0 : Room := { frames := 0, cells := 0, slots := 0, locals := 30 }
set_option maxHeartbeats 4000000 in
set_option maxRecDepth 100000 in
theorem ct_AL_ed_0 (l : Launch) (G : xb_EV) (c11 : Nat) (c13 : Nat) (c16 : Nat) (c17 : Nat) : xb_CT l y_ArrayList_elementData b_ArrayList_elementData 2 (some (.object "java/lang/Object")) rm_AL_ed_0 G [] [.ref c11, .int 0] [(c11, .inr (11, [.int 2, .ref c16, .int 2])), (c16, .inl (G.2.1 5, 10, .inr (.inr (.inr (.inr (va_up (va_up (fun _ => none) (Int32.toNatClampNeg 0) (some c13)) (Int32.toNatClampNeg 1) (some c17)))))))] (S := Unit) (fun _ => some (.ref c13)) (fun _ => True) (fun _ => [(c11, .inr (11, [.int 2, .ref c16, .int 2])), (c16, .inl (G.2.1 5, 10, .inr (.inr (.inr (.inr (va_up (va_up (fun _ => none) (Int32.toNatClampNeg 0) (some c13)) (Int32.toNatClampNeg 1) (some c17)))))))]) := by
  refine xb_CT.of (by decide) "java/util/ArrayList" rfl ?_ (Nat.le_of_ble_eq_true rfl)
  intro p e s m args below meth c A ls Q F hr hlk hnm h hl hA hQ
  have hx := F.1.1
  have hb := F.1.2.1
  have hml := F.1.2.2.1
  have hown := F.1.2.2.2.1
  have hts := F.1.2.2.2.2
  have hK := F.2.1
  refine lv_aload_n (pc := 0) hx hb d_ArrayList_elementData_0 rfl (lv_at hl 0 rfl) ?_
  refine xb_get (pc := 1) F h cf_11 0 rfl 1 (by decide) rfl k_37 (Or.inl rfl) rfl d_ArrayList_elementData_1 ?_
  refine lv_iload_n (pc := 4) hx hb d_ArrayList_elementData_4 rfl (lv_at hl 1 rfl) ?_
  refine va_aldq (pc := 5) hx hb hK h.1 1 5 rfl rfl (by unfold vp_in; decide) d_ArrayList_elementData_5 ?_
  refine W.eq (g2 := F0 m 6 ls [.ref c13]) (rfl) ?_
  exact xb_aret (pc := 6) (rm := rm_AL_ed_0) F hr (by first | exact Or.inl ⟨_, rfl⟩ | exact Or.inr ⟨_, rfl⟩) (by first | exact Or.inl rfl | exact Or.inr ⟨_, rfl⟩) hlk hA hQ h () trivial rfl [0, 1] (by decide) rfl (by decide) (by decide) d_ArrayList_elementData_6
abbrev rm_AL_get_0 : Room := { frames := 2, cells := 0, slots := 0, locals := 73 }
set_option maxHeartbeats 4000000 in
set_option maxRecDepth 100000 in
theorem ct_AL_get_0 (l : Launch) (G : xb_EV) (c11 : Nat) (c13 : Nat) (c16 : Nat) (c17 : Nat) : xb_CT l y_ArrayList_get b_ArrayList_get 2 (some (.object "java/lang/Object")) rm_AL_get_0 G [] [.ref c11, .int 0] [(c11, .inr (11, [.int 2, .ref c16, .int 2])), (c16, .inl (G.2.1 5, 10, .inr (.inr (.inr (.inr (va_up (va_up (fun _ => none) (Int32.toNatClampNeg 0) (some c13)) (Int32.toNatClampNeg 1) (some c17)))))))] (S := Unit) (fun _ => some (.ref c13)) (fun _ => True) (fun _ => [(c11, .inr (11, [.int 2, .ref c16, .int 2])), (c16, .inl (G.2.1 5, 10, .inr (.inr (.inr (.inr (va_up (va_up (fun _ => none) (Int32.toNatClampNeg 0) (some c13)) (Int32.toNatClampNeg 1) (some c17)))))))]) := by
  refine xb_CT.of (by decide) "java/util/ArrayList" rfl ?_ (Nat.le_of_ble_eq_true rfl)
  intro p e s m args below meth c A ls Q F hr hlk hnm h hl hA hQ
  have hx := F.1.1
  have hb := F.1.2.1
  have hml := F.1.2.2.1
  have hown := F.1.2.2.2.1
  have hts := F.1.2.2.2.2
  have hK := F.2.1
  refine lv_iload_n (pc := 0) hx hb d_ArrayList_get_0 rfl (lv_at hl 1 rfl) ?_
  refine lv_aload_n (pc := 1) hx hb d_ArrayList_get_1 rfl (lv_at hl 0 rfl) ?_
  refine xb_get (pc := 2) F h cf_11 0 rfl 2 (by decide) rfl k_43 (Or.inl rfl) rfl d_ArrayList_get_2 ?_
  refine xb_callS (pc := 5) (rm := rm_OC_0) (wr := [(c11, .inr (11, [.int 2, .ref c16, .int 2])), (c16, .inl (G.2.1 5, 10, .inr (.inr (.inr (.inr (va_up (va_up (fun _ => none) (Int32.toNatClampNeg 0) (some c13)) (Int32.toNatClampNeg 1) (some c17)))))))]) F h (ct_OC_0 l G) 2 k_647 k_648 k_649 k_650 hd_Objects_checkIndex (by decide) [] [0, 1] rfl rfl (by decide) (by decide) (by decide) xb_ss0 hl.1 rfl rfl (Nat.le_of_ble_eq_true rfl) (by decide) d_ArrayList_get_5 (fun u H locs hu h => ?_)
  have h : xb_W G A s [(c11, .inr (11, [.int 2, .ref c16, .int 2])), (c16, .inl (G.2.1 5, 10, .inr (.inr (.inr (.inr (va_up (va_up (fun _ => none) (Int32.toNatClampNeg 0) (some c13)) (Int32.toNatClampNeg 1) (some c17)))))))] _ _ := h
  refine W.widen (k := 0) (n := 0) (by decide) (by decide) ?_
  refine W.eq (g2 := F0 m 8 ls [.int 0]) rfl ?_
  refine lv_pop (pc := 8) hx hb d_ArrayList_get_8 rfl ?_
  refine lv_aload_n (pc := 9) hx hb d_ArrayList_get_9 rfl (lv_at hl 0 rfl) ?_
  refine lv_iload_n (pc := 10) hx hb d_ArrayList_get_10 rfl (lv_at hl 1 rfl) ?_
  refine xb_callV (pc := 11) (rm := rm_AL_ed_0) (wr := []) F h (ct_AL_ed_0 l G c11 c13 c16 c17) 1 (va_recv hK h.1 (q0 := 0) (ci := 11) rfl rfl) k_651 k_45 k_652 k_653 k_654 hd_ArrayList_elementData (by decide) [0, 1] [] rfl rfl (by decide) (by decide) (by decide) xb_ss0 hl.1 rfl rfl (Nat.le_of_ble_eq_true rfl) (by decide) d_ArrayList_get_11 (fun u H locs hu h => ?_)
  have h : xb_W G A s [(c11, .inr (11, [.int 2, .ref c16, .int 2])), (c16, .inl (G.2.1 5, 10, .inr (.inr (.inr (.inr (va_up (va_up (fun _ => none) (Int32.toNatClampNeg 0) (some c13)) (Int32.toNatClampNeg 1) (some c17)))))))] _ _ := h
  refine W.widen (k := 0) (n := 0) (by decide) (by decide) ?_
  refine W.eq (g2 := F0 m 14 ls [.ref c13]) rfl ?_
  exact xb_aret (pc := 14) (rm := rm_AL_get_0) F hr (by first | exact Or.inl ⟨_, rfl⟩ | exact Or.inr ⟨_, rfl⟩) (by first | exact Or.inl rfl | exact Or.inr ⟨_, rfl⟩) hlk hA hQ h () trivial rfl [0, 1] (by decide) rfl (by decide) (by decide) d_ArrayList_get_14
abbrev rm_K_al_0 : Room := { frames := 3, cells := 0, slots := 0, locals := 94 }
set_option maxHeartbeats 4000000 in
set_option maxRecDepth 100000 in
theorem ct_K_al_0 (l : Launch) (G : xb_EV) (c9 : Nat) (c10 : Nat) (c11 : Nat) (c12 : Nat) (c13 : Nat) (c14 : Nat) (c15 : Nat) (c16 : Nat) (c17 : Nat) (c28 : Int64) : xb_CT l y_TypeFinder_Known_allowance b_TypeFinder_Known_allowance 2 (some .int) rm_K_al_0 G [] [.ref c9, .int 0] [(c9, .inr (4, [.ref c10, .ref c15, .ref c11, .ref c12, .int 6])), (c13, .inr (6, [.long c28, .int 0, .ref c14, .ref c15, .int 1])), (c11, .inr (11, [.int 2, .ref c16, .int 2])), (c16, .inl (G.2.1 5, 10, .inr (.inr (.inr (.inr (va_up (va_up (fun _ => none) (Int32.toNatClampNeg 0) (some c13)) (Int32.toNatClampNeg 1) (some c17)))))))] (S := Unit) (fun _ => some (.int 1)) (fun _ => True) (fun _ => [(c9, .inr (4, [.ref c10, .ref c15, .ref c11, .ref c12, .int 6])), (c13, .inr (6, [.long c28, .int 0, .ref c14, .ref c15, .int 1])), (c11, .inr (11, [.int 2, .ref c16, .int 2])), (c16, .inl (G.2.1 5, 10, .inr (.inr (.inr (.inr (va_up (va_up (fun _ => none) (Int32.toNatClampNeg 0) (some c13)) (Int32.toNatClampNeg 1) (some c17)))))))]) := by
  refine xb_CT.of (by decide) "TypeFinder$Known" rfl ?_ (Nat.le_of_ble_eq_true rfl)
  intro p e s m args below meth c A ls Q F hr hlk hnm h hl hA hQ
  have hx := F.1.1
  have hb := F.1.2.1
  have hml := F.1.2.2.1
  have hown := F.1.2.2.2.1
  have hts := F.1.2.2.2.2
  have hK := F.2.1
  refine lv_iload_n (pc := 0) hx hb d_TypeFinder_Known_allowance_0 rfl (lv_at hl 1 rfl) ?_
  refine lv_if_lt (pc := 1) (tgt := 15) hx hb d_TypeFinder_Known_allowance_1 (by decide) (fun h => absurd h (by decide)) (fun _ => ?_)
  refine lv_iload_n (pc := 4) hx hb d_TypeFinder_Known_allowance_4 rfl (lv_at hl 1 rfl) ?_
  refine lv_aload_n (pc := 5) hx hb d_TypeFinder_Known_allowance_5 rfl (lv_at hl 0 rfl) ?_
  refine xb_get (pc := 6) F h cf_4 0 rfl 2 (by decide) rfl k_140 (Or.inl rfl) rfl d_TypeFinder_Known_allowance_6 ?_
  refine xb_callV (pc := 9) (rm := rm_AL_size) (wr := [(c9, .inr (4, [.ref c10, .ref c15, .ref c11, .ref c12, .int 6])), (c13, .inr (6, [.long c28, .int 0, .ref c14, .ref c15, .int 1])), (c16, .inl (G.2.1 5, 10, .inr (.inr (.inr (.inr (va_up (va_up (fun _ => none) (Int32.toNatClampNeg 0) (some c13)) (Int32.toNatClampNeg 1) (some c17)))))))]) F h (ct_AL_size l G c11 2 c16 2) 0 (va_recv hK h.1 (q0 := 2) (ci := 11) rfl rfl) k_174 k_45 k_175 k_176 k_177 hd_ArrayList_size (by decide) [2] [0, 1, 3] rfl rfl (by decide) (by decide) (by decide) xb_ss0 hl.1 rfl rfl (Nat.le_of_ble_eq_true rfl) (by decide) d_TypeFinder_Known_allowance_9 (fun u H locs hu h => ?_)
  have h : xb_W G A s [(c9, .inr (4, [.ref c10, .ref c15, .ref c11, .ref c12, .int 6])), (c13, .inr (6, [.long c28, .int 0, .ref c14, .ref c15, .int 1])), (c16, .inl (G.2.1 5, 10, .inr (.inr (.inr (.inr (va_up (va_up (fun _ => none) (Int32.toNatClampNeg 0) (some c13)) (Int32.toNatClampNeg 1) (some c17))))))), (c11, .inr (11, [.int 2, .ref c16, .int 2]))] _ _ := h
  refine W.widen (k := 0) (n := 0) (by decide) (by decide) ?_
  refine W.eq (g2 := F0 m 12 ls [.int 2, .int 0]) rfl ?_
  refine lv_icmp_lt (pc := 12) (tgt := 17) hx hb d_TypeFinder_Known_allowance_12 (by decide) (fun _ => ?_) (fun h => absurd (by decide) h)
  refine lv_aload_n (pc := 17) hx hb d_TypeFinder_Known_allowance_17 rfl (lv_at hl 0 rfl) ?_
  refine xb_get (pc := 18) F h cf_4 0 rfl 2 (by decide) rfl k_140 (Or.inl rfl) rfl d_TypeFinder_Known_allowance_18 ?_
  refine lv_iload_n (pc := 21) hx hb d_TypeFinder_Known_allowance_21 rfl (lv_at hl 1 rfl) ?_
  refine xb_callV (pc := 22) (rm := rm_AL_get_0) (wr := [(c9, .inr (4, [.ref c10, .ref c15, .ref c11, .ref c12, .int 6])), (c13, .inr (6, [.long c28, .int 0, .ref c14, .ref c15, .int 1]))]) F h (ct_AL_get_0 l G c11 c13 c16 c17) 1 (va_recv hK h.1 (q0 := 3) (ci := 11) rfl rfl) k_655 k_45 k_656 k_657 k_658 hd_ArrayList_get (by decide) [3, 2] [0, 1] rfl rfl (by decide) (by decide) (by decide) xb_ss0 hl.1 rfl rfl (Nat.le_of_ble_eq_true rfl) (by decide) d_TypeFinder_Known_allowance_22 (fun u H locs hu h => ?_)
  have h : xb_W G A s [(c9, .inr (4, [.ref c10, .ref c15, .ref c11, .ref c12, .int 6])), (c13, .inr (6, [.long c28, .int 0, .ref c14, .ref c15, .int 1])), (c11, .inr (11, [.int 2, .ref c16, .int 2])), (c16, .inl (G.2.1 5, 10, .inr (.inr (.inr (.inr (va_up (va_up (fun _ => none) (Int32.toNatClampNeg 0) (some c13)) (Int32.toNatClampNeg 1) (some c17)))))))] _ _ := h
  refine W.widen (k := 0) (n := 0) (by decide) (by decide) ?_
  refine W.eq (g2 := F0 m 25 ls [.ref c13]) rfl ?_
  refine va_castE (pc := 25) hx hb hown (hts _ k_659) (va_recv hK h.1 (q0 := 1) (ci := 6) rfl rfl) d_TypeFinder_Known_allowance_25 ?_
  refine xb_get (pc := 28) F h cf_6 1 rfl 4 (by decide) rfl k_660 (Or.inl rfl) rfl d_TypeFinder_Known_allowance_28 ?_
  refine lv_if_eq (pc := 31) (tgt := 38) hx hb d_TypeFinder_Known_allowance_31 (by decide) (fun h => absurd h (by decide)) (fun _ => ?_)
  refine lv_iconst (pc := 34) (v := 1) hx hb d_TypeFinder_Known_allowance_34 (by decide) ?_
  refine lv_goto (pc := 35) (tgt := 39) hx hb d_TypeFinder_Known_allowance_35 (by decide) ?_
  exact xb_iret (pc := 39) (rm := rm_K_al_0) F hr hlk hA hQ h () trivial rfl [0, 1, 2, 3] (by decide) rfl (by decide) (by decide) d_TypeFinder_Known_allowance_39
abbrev rm_C_count_2 : Room := { frames := 4, cells := 0, slots := 0, locals := 115 }
set_option maxHeartbeats 4000000 in
set_option maxRecDepth 100000 in
theorem ct_C_count_2 (l : Launch) (G : xb_EV) (c0 : Nat) (c1 : Nat) (c9 : Nat) (c10 : Nat) (c11 : Nat) (c12 : Nat) (c13 : Nat) (c14 : Nat) (c15 : Nat) (c16 : Nat) (c17 : Nat) (c21 : Nat) (c22 : Nat) (c28 : Int64) (g0 : Nat) : xb_CT l y_TypeFinder_count b_TypeFinder_count 2 (some .int) rm_C_count_2 G [] [.ref g0, .int 2] [(g0, .inr (0, [.ref c0, .ref c1, .ref c9, .ref c21, .ref c22, .int 0, .int 0, .int 0, .int 0])), (c9, .inr (4, [.ref c10, .ref c15, .ref c11, .ref c12, .int 6])), (c13, .inr (6, [.long c28, .int 0, .ref c14, .ref c15, .int 1])), (c11, .inr (11, [.int 2, .ref c16, .int 2])), (c16, .inl (G.2.1 5, 10, .inr (.inr (.inr (.inr (va_up (va_up (fun _ => none) (Int32.toNatClampNeg 0) (some c13)) (Int32.toNatClampNeg 1) (some c17)))))))] (S := Unit) (fun _ => some (.int 1)) (fun _ => True) (fun _ => [(g0, .inr (0, [.ref c0, .ref c1, .ref c9, .ref c21, .ref c22, .int 0, .int 0, .int 0, .int 0])), (c9, .inr (4, [.ref c10, .ref c15, .ref c11, .ref c12, .int 6])), (c13, .inr (6, [.long c28, .int 0, .ref c14, .ref c15, .int 1])), (c11, .inr (11, [.int 2, .ref c16, .int 2])), (c16, .inl (G.2.1 5, 10, .inr (.inr (.inr (.inr (va_up (va_up (fun _ => none) (Int32.toNatClampNeg 0) (some c13)) (Int32.toNatClampNeg 1) (some c17)))))))]) := by
  refine xb_CT.of (by decide) "TypeFinder" rfl ?_ (Nat.le_of_ble_eq_true rfl)
  intro p e s m args below meth c A ls Q F hr hlk hnm h hl hA hQ
  have hx := F.1.1
  have hb := F.1.2.1
  have hml := F.1.2.2.1
  have hown := F.1.2.2.2.1
  have hts := F.1.2.2.2.2
  have hK := F.2.1
  refine lv_iload_n (pc := 0) hx hb d_TypeFinder_count_0 rfl (lv_at hl 1 rfl) ?_
  refine lv_if_ne (pc := 1) (tgt := 12) hx hb d_TypeFinder_count_1 (by decide) (fun _ => ?_) (fun h => absurd h (by decide))
  refine lv_iload_n (pc := 12) hx hb d_TypeFinder_count_12 rfl (lv_at hl 1 rfl) ?_
  refine lv_iconst (pc := 13) (v := 1) hx hb d_TypeFinder_count_13 (by decide) ?_
  refine lv_icmp_ne (pc := 14) (tgt := 28) hx hb d_TypeFinder_count_14 (by decide) (fun _ => ?_) (fun h => absurd h (by decide))
  refine lv_iload_n (pc := 28) hx hb d_TypeFinder_count_28 rfl (lv_at hl 1 rfl) ?_
  refine lv_if_ge (pc := 29) (tgt := 36) hx hb d_TypeFinder_count_29 (by decide) (fun _ => ?_) (fun h => absurd (by decide) h)
  refine lv_aload_n (pc := 36) hx hb d_TypeFinder_count_36 rfl (lv_at hl 0 rfl) ?_
  refine xb_get (pc := 37) F h cf_0 0 rfl 2 (by decide) rfl k_213 (Or.inl rfl) rfl d_TypeFinder_count_37 ?_
  refine lv_iload_n (pc := 40) hx hb d_TypeFinder_count_40 rfl (lv_at hl 1 rfl) ?_
  refine lv_iconst (pc := 41) (v := 2) hx hb d_TypeFinder_count_41 (by decide) ?_
  refine lv_isub (pc := 42) hx hb d_TypeFinder_count_42 ?_
  refine lv_topi (fun y ey => ?_)
  obtain rfl : y = 0 := ey.trans (by decide)
  refine xb_callV (pc := 43) (rm := rm_K_al_0) (wr := [(g0, .inr (0, [.ref c0, .ref c1, .ref c9, .ref c21, .ref c22, .int 0, .int 0, .int 0, .int 0]))]) F h (ct_K_al_0 l G c9 c10 c11 c12 c13 c14 c15 c16 c17 c28) 1 (va_recv hK h.1 (q0 := 1) (ci := 4) rfl rfl) k_661 k_209 k_662 k_663 k_664 hd_TypeFinder_Known_allowance (by decide) [1, 2, 3, 4] [0] rfl rfl (by decide) (by decide) (by decide) xb_ss0 hl.1 rfl rfl (Nat.le_of_ble_eq_true rfl) (by decide) d_TypeFinder_count_43 (fun u H locs hu h => ?_)
  have h : xb_W G A s [(g0, .inr (0, [.ref c0, .ref c1, .ref c9, .ref c21, .ref c22, .int 0, .int 0, .int 0, .int 0])), (c9, .inr (4, [.ref c10, .ref c15, .ref c11, .ref c12, .int 6])), (c13, .inr (6, [.long c28, .int 0, .ref c14, .ref c15, .int 1])), (c11, .inr (11, [.int 2, .ref c16, .int 2])), (c16, .inl (G.2.1 5, 10, .inr (.inr (.inr (.inr (va_up (va_up (fun _ => none) (Int32.toNatClampNeg 0) (some c13)) (Int32.toNatClampNeg 1) (some c17)))))))] _ _ := h
  refine W.widen (k := 0) (n := 0) (by decide) (by decide) ?_
  refine W.eq (g2 := F0 m 46 ls [.int 1]) rfl ?_
  exact xb_iret (pc := 46) (rm := rm_C_count_2) F hr hlk hA hQ h () trivial rfl [0, 1, 2, 3, 4] (by decide) rfl (by decide) (by decide) d_TypeFinder_count_46
abbrev rm_PC_1 : Room := { frames := 0, cells := 0, slots := 0, locals := 30 }
set_option maxHeartbeats 4000000 in
set_option maxRecDepth 100000 in
theorem ct_PC_1 (l : Launch) (G : xb_EV) : xb_CT l y_Preconditions_checkIndex b_Preconditions_checkIndex 3 (some .int) rm_PC_1 G [] [.int 1, .int 2, .null] [] (S := Unit) (fun _ => some (.int 1)) (fun _ => True) (fun _ => []) := by
  refine xb_CT.of (by decide) "jdk/internal/util/Preconditions" rfl ?_ (Nat.le_of_ble_eq_true rfl)
  intro p e s m args below meth c A ls Q F hr hlk hnm h hl hA hQ
  have hx := F.1.1
  have hb := F.1.2.1
  have hml := F.1.2.2.1
  have hown := F.1.2.2.2.1
  have hts := F.1.2.2.2.2
  have hK := F.2.1
  refine lv_iload_n (pc := 0) hx hb d_Preconditions_checkIndex_0 rfl (lv_at hl 0 rfl) ?_
  refine lv_if_lt (pc := 1) (tgt := 9) hx hb d_Preconditions_checkIndex_1 (by decide) (fun h => absurd h (by decide)) (fun _ => ?_)
  refine lv_iload_n (pc := 4) hx hb d_Preconditions_checkIndex_4 rfl (lv_at hl 0 rfl) ?_
  refine lv_iload_n (pc := 5) hx hb d_Preconditions_checkIndex_5 rfl (lv_at hl 1 rfl) ?_
  refine lv_icmp_lt (pc := 6) (tgt := 16) hx hb d_Preconditions_checkIndex_6 (by decide) (fun _ => ?_) (fun h => absurd (by decide) h)
  refine lv_iload_n (pc := 16) hx hb d_Preconditions_checkIndex_16 rfl (lv_at hl 0 rfl) ?_
  exact xb_iret (pc := 17) (rm := rm_PC_1) F hr hlk hA hQ h () trivial rfl [] (by decide) rfl (by decide) (by decide) d_Preconditions_checkIndex_17
abbrev rm_OC_1 : Room := { frames := 1, cells := 0, slots := 0, locals := 52 }
set_option maxHeartbeats 4000000 in
set_option maxRecDepth 100000 in
theorem ct_OC_1 (l : Launch) (G : xb_EV) : xb_CT l y_Objects_checkIndex b_Objects_checkIndex 2 (some .int) rm_OC_1 G [] [.int 1, .int 2] [] (S := Unit) (fun _ => some (.int 1)) (fun _ => True) (fun _ => []) := by
  refine xb_CT.of (by decide) "java/util/Objects" rfl ?_ (Nat.le_of_ble_eq_true rfl)
  intro p e s m args below meth c A ls Q F hr hlk hnm h hl hA hQ
  have hx := F.1.1
  have hb := F.1.2.1
  have hml := F.1.2.2.1
  have hown := F.1.2.2.2.1
  have hts := F.1.2.2.2.2
  have hK := F.2.1
  refine lv_iload_n (pc := 0) hx hb d_Objects_checkIndex_0 rfl (lv_at hl 0 rfl) ?_
  refine lv_iload_n (pc := 1) hx hb d_Objects_checkIndex_1 rfl (lv_at hl 1 rfl) ?_
  refine lv_null (pc := 2) hx hb d_Objects_checkIndex_2 ?_
  refine xb_callS (pc := 3) (rm := rm_PC_1) (wr := []) F h (ct_PC_1 l G) 3 k_9 k_10 k_646 k_12 hd_Preconditions_checkIndex (by decide) [] [] rfl rfl (by decide) (by decide) (by decide) xb_ss0 hl.1 rfl rfl (Nat.le_of_ble_eq_true rfl) (by decide) d_Objects_checkIndex_3 (fun u H locs hu h => ?_)
  have h : xb_W G A s [] _ _ := h
  refine W.widen (k := 0) (n := 0) (by decide) (by decide) ?_
  refine W.eq (g2 := F0 m 6 ls [.int 1]) rfl ?_
  exact xb_iret (pc := 6) (rm := rm_OC_1) F hr hlk hA hQ h () trivial rfl [] (by decide) rfl (by decide) (by decide) d_Objects_checkIndex_6
abbrev rm_AL_ed_1 : Room := { frames := 0, cells := 0, slots := 0, locals := 30 }
set_option maxHeartbeats 4000000 in
set_option maxRecDepth 100000 in
theorem ct_AL_ed_1 (l : Launch) (G : xb_EV) (c11 : Nat) (c13 : Nat) (c16 : Nat) (c17 : Nat) : xb_CT l y_ArrayList_elementData b_ArrayList_elementData 2 (some (.object "java/lang/Object")) rm_AL_ed_1 G [] [.ref c11, .int 1] [(c11, .inr (11, [.int 2, .ref c16, .int 2])), (c16, .inl (G.2.1 5, 10, .inr (.inr (.inr (.inr (va_up (va_up (fun _ => none) (Int32.toNatClampNeg 0) (some c13)) (Int32.toNatClampNeg 1) (some c17)))))))] (S := Unit) (fun _ => some (.ref c17)) (fun _ => True) (fun _ => [(c11, .inr (11, [.int 2, .ref c16, .int 2])), (c16, .inl (G.2.1 5, 10, .inr (.inr (.inr (.inr (va_up (va_up (fun _ => none) (Int32.toNatClampNeg 0) (some c13)) (Int32.toNatClampNeg 1) (some c17)))))))]) := by
  refine xb_CT.of (by decide) "java/util/ArrayList" rfl ?_ (Nat.le_of_ble_eq_true rfl)
  intro p e s m args below meth c A ls Q F hr hlk hnm h hl hA hQ
  have hx := F.1.1
  have hb := F.1.2.1
  have hml := F.1.2.2.1
  have hown := F.1.2.2.2.1
  have hts := F.1.2.2.2.2
  have hK := F.2.1
  refine lv_aload_n (pc := 0) hx hb d_ArrayList_elementData_0 rfl (lv_at hl 0 rfl) ?_
  refine xb_get (pc := 1) F h cf_11 0 rfl 1 (by decide) rfl k_37 (Or.inl rfl) rfl d_ArrayList_elementData_1 ?_
  refine lv_iload_n (pc := 4) hx hb d_ArrayList_elementData_4 rfl (lv_at hl 1 rfl) ?_
  refine va_aldq (pc := 5) hx hb hK h.1 1 5 rfl rfl (by unfold vp_in; decide) d_ArrayList_elementData_5 ?_
  refine W.eq (g2 := F0 m 6 ls [.ref c17]) (rfl) ?_
  exact xb_aret (pc := 6) (rm := rm_AL_ed_1) F hr (by first | exact Or.inl ⟨_, rfl⟩ | exact Or.inr ⟨_, rfl⟩) (by first | exact Or.inl rfl | exact Or.inr ⟨_, rfl⟩) hlk hA hQ h () trivial rfl [0, 1] (by decide) rfl (by decide) (by decide) d_ArrayList_elementData_6
abbrev rm_AL_get_1 : Room := { frames := 2, cells := 0, slots := 0, locals := 73 }
set_option maxHeartbeats 4000000 in
set_option maxRecDepth 100000 in
theorem ct_AL_get_1 (l : Launch) (G : xb_EV) (c11 : Nat) (c13 : Nat) (c16 : Nat) (c17 : Nat) : xb_CT l y_ArrayList_get b_ArrayList_get 2 (some (.object "java/lang/Object")) rm_AL_get_1 G [] [.ref c11, .int 1] [(c11, .inr (11, [.int 2, .ref c16, .int 2])), (c16, .inl (G.2.1 5, 10, .inr (.inr (.inr (.inr (va_up (va_up (fun _ => none) (Int32.toNatClampNeg 0) (some c13)) (Int32.toNatClampNeg 1) (some c17)))))))] (S := Unit) (fun _ => some (.ref c17)) (fun _ => True) (fun _ => [(c11, .inr (11, [.int 2, .ref c16, .int 2])), (c16, .inl (G.2.1 5, 10, .inr (.inr (.inr (.inr (va_up (va_up (fun _ => none) (Int32.toNatClampNeg 0) (some c13)) (Int32.toNatClampNeg 1) (some c17)))))))]) := by
  refine xb_CT.of (by decide) "java/util/ArrayList" rfl ?_ (Nat.le_of_ble_eq_true rfl)
  intro p e s m args below meth c A ls Q F hr hlk hnm h hl hA hQ
  have hx := F.1.1
  have hb := F.1.2.1
  have hml := F.1.2.2.1
  have hown := F.1.2.2.2.1
  have hts := F.1.2.2.2.2
  have hK := F.2.1
  refine lv_iload_n (pc := 0) hx hb d_ArrayList_get_0 rfl (lv_at hl 1 rfl) ?_
  refine lv_aload_n (pc := 1) hx hb d_ArrayList_get_1 rfl (lv_at hl 0 rfl) ?_
  refine xb_get (pc := 2) F h cf_11 0 rfl 2 (by decide) rfl k_43 (Or.inl rfl) rfl d_ArrayList_get_2 ?_
  refine xb_callS (pc := 5) (rm := rm_OC_1) (wr := [(c11, .inr (11, [.int 2, .ref c16, .int 2])), (c16, .inl (G.2.1 5, 10, .inr (.inr (.inr (.inr (va_up (va_up (fun _ => none) (Int32.toNatClampNeg 0) (some c13)) (Int32.toNatClampNeg 1) (some c17)))))))]) F h (ct_OC_1 l G) 2 k_647 k_648 k_649 k_650 hd_Objects_checkIndex (by decide) [] [0, 1] rfl rfl (by decide) (by decide) (by decide) xb_ss0 hl.1 rfl rfl (Nat.le_of_ble_eq_true rfl) (by decide) d_ArrayList_get_5 (fun u H locs hu h => ?_)
  have h : xb_W G A s [(c11, .inr (11, [.int 2, .ref c16, .int 2])), (c16, .inl (G.2.1 5, 10, .inr (.inr (.inr (.inr (va_up (va_up (fun _ => none) (Int32.toNatClampNeg 0) (some c13)) (Int32.toNatClampNeg 1) (some c17)))))))] _ _ := h
  refine W.widen (k := 0) (n := 0) (by decide) (by decide) ?_
  refine W.eq (g2 := F0 m 8 ls [.int 1]) rfl ?_
  refine lv_pop (pc := 8) hx hb d_ArrayList_get_8 rfl ?_
  refine lv_aload_n (pc := 9) hx hb d_ArrayList_get_9 rfl (lv_at hl 0 rfl) ?_
  refine lv_iload_n (pc := 10) hx hb d_ArrayList_get_10 rfl (lv_at hl 1 rfl) ?_
  refine xb_callV (pc := 11) (rm := rm_AL_ed_1) (wr := []) F h (ct_AL_ed_1 l G c11 c13 c16 c17) 1 (va_recv hK h.1 (q0 := 0) (ci := 11) rfl rfl) k_651 k_45 k_652 k_653 k_654 hd_ArrayList_elementData (by decide) [0, 1] [] rfl rfl (by decide) (by decide) (by decide) xb_ss0 hl.1 rfl rfl (Nat.le_of_ble_eq_true rfl) (by decide) d_ArrayList_get_11 (fun u H locs hu h => ?_)
  have h : xb_W G A s [(c11, .inr (11, [.int 2, .ref c16, .int 2])), (c16, .inl (G.2.1 5, 10, .inr (.inr (.inr (.inr (va_up (va_up (fun _ => none) (Int32.toNatClampNeg 0) (some c13)) (Int32.toNatClampNeg 1) (some c17)))))))] _ _ := h
  refine W.widen (k := 0) (n := 0) (by decide) (by decide) ?_
  refine W.eq (g2 := F0 m 14 ls [.ref c17]) rfl ?_
  exact xb_aret (pc := 14) (rm := rm_AL_get_1) F hr (by first | exact Or.inl ⟨_, rfl⟩ | exact Or.inr ⟨_, rfl⟩) (by first | exact Or.inl rfl | exact Or.inr ⟨_, rfl⟩) hlk hA hQ h () trivial rfl [0, 1] (by decide) rfl (by decide) (by decide) d_ArrayList_get_14
abbrev rm_K_al_1 : Room := { frames := 3, cells := 0, slots := 0, locals := 94 }
set_option maxHeartbeats 4000000 in
set_option maxRecDepth 100000 in
theorem ct_K_al_1 (l : Launch) (G : xb_EV) (c9 : Nat) (c10 : Nat) (c11 : Nat) (c12 : Nat) (c13 : Nat) (c15 : Nat) (c16 : Nat) (c17 : Nat) (c18 : Nat) (c19 : Nat) (c29 : Int64) : xb_CT l y_TypeFinder_Known_allowance b_TypeFinder_Known_allowance 2 (some .int) rm_K_al_1 G [] [.ref c9, .int 1] [(c9, .inr (4, [.ref c10, .ref c15, .ref c11, .ref c12, .int 6])), (c11, .inr (11, [.int 2, .ref c16, .int 2])), (c16, .inl (G.2.1 5, 10, .inr (.inr (.inr (.inr (va_up (va_up (fun _ => none) (Int32.toNatClampNeg 0) (some c13)) (Int32.toNatClampNeg 1) (some c17))))))), (c17, .inr (6, [.long c29, .int 1, .ref c18, .ref c19, .int 1]))] (S := Unit) (fun _ => some (.int 1)) (fun _ => True) (fun _ => [(c9, .inr (4, [.ref c10, .ref c15, .ref c11, .ref c12, .int 6])), (c17, .inr (6, [.long c29, .int 1, .ref c18, .ref c19, .int 1])), (c11, .inr (11, [.int 2, .ref c16, .int 2])), (c16, .inl (G.2.1 5, 10, .inr (.inr (.inr (.inr (va_up (va_up (fun _ => none) (Int32.toNatClampNeg 0) (some c13)) (Int32.toNatClampNeg 1) (some c17)))))))]) := by
  refine xb_CT.of (by decide) "TypeFinder$Known" rfl ?_ (Nat.le_of_ble_eq_true rfl)
  intro p e s m args below meth c A ls Q F hr hlk hnm h hl hA hQ
  have hx := F.1.1
  have hb := F.1.2.1
  have hml := F.1.2.2.1
  have hown := F.1.2.2.2.1
  have hts := F.1.2.2.2.2
  have hK := F.2.1
  refine lv_iload_n (pc := 0) hx hb d_TypeFinder_Known_allowance_0 rfl (lv_at hl 1 rfl) ?_
  refine lv_if_lt (pc := 1) (tgt := 15) hx hb d_TypeFinder_Known_allowance_1 (by decide) (fun h => absurd h (by decide)) (fun _ => ?_)
  refine lv_iload_n (pc := 4) hx hb d_TypeFinder_Known_allowance_4 rfl (lv_at hl 1 rfl) ?_
  refine lv_aload_n (pc := 5) hx hb d_TypeFinder_Known_allowance_5 rfl (lv_at hl 0 rfl) ?_
  refine xb_get (pc := 6) F h cf_4 0 rfl 2 (by decide) rfl k_140 (Or.inl rfl) rfl d_TypeFinder_Known_allowance_6 ?_
  refine xb_callV (pc := 9) (rm := rm_AL_size) (wr := [(c9, .inr (4, [.ref c10, .ref c15, .ref c11, .ref c12, .int 6])), (c16, .inl (G.2.1 5, 10, .inr (.inr (.inr (.inr (va_up (va_up (fun _ => none) (Int32.toNatClampNeg 0) (some c13)) (Int32.toNatClampNeg 1) (some c17))))))), (c17, .inr (6, [.long c29, .int 1, .ref c18, .ref c19, .int 1]))]) F h (ct_AL_size l G c11 2 c16 2) 0 (va_recv hK h.1 (q0 := 1) (ci := 11) rfl rfl) k_174 k_45 k_175 k_176 k_177 hd_ArrayList_size (by decide) [1] [0, 2, 3] rfl rfl (by decide) (by decide) (by decide) xb_ss0 hl.1 rfl rfl (Nat.le_of_ble_eq_true rfl) (by decide) d_TypeFinder_Known_allowance_9 (fun u H locs hu h => ?_)
  have h : xb_W G A s [(c9, .inr (4, [.ref c10, .ref c15, .ref c11, .ref c12, .int 6])), (c16, .inl (G.2.1 5, 10, .inr (.inr (.inr (.inr (va_up (va_up (fun _ => none) (Int32.toNatClampNeg 0) (some c13)) (Int32.toNatClampNeg 1) (some c17))))))), (c17, .inr (6, [.long c29, .int 1, .ref c18, .ref c19, .int 1])), (c11, .inr (11, [.int 2, .ref c16, .int 2]))] _ _ := h
  refine W.widen (k := 0) (n := 0) (by decide) (by decide) ?_
  refine W.eq (g2 := F0 m 12 ls [.int 2, .int 1]) rfl ?_
  refine lv_icmp_lt (pc := 12) (tgt := 17) hx hb d_TypeFinder_Known_allowance_12 (by decide) (fun _ => ?_) (fun h => absurd (by decide) h)
  refine lv_aload_n (pc := 17) hx hb d_TypeFinder_Known_allowance_17 rfl (lv_at hl 0 rfl) ?_
  refine xb_get (pc := 18) F h cf_4 0 rfl 2 (by decide) rfl k_140 (Or.inl rfl) rfl d_TypeFinder_Known_allowance_18 ?_
  refine lv_iload_n (pc := 21) hx hb d_TypeFinder_Known_allowance_21 rfl (lv_at hl 1 rfl) ?_
  refine xb_callV (pc := 22) (rm := rm_AL_get_1) (wr := [(c9, .inr (4, [.ref c10, .ref c15, .ref c11, .ref c12, .int 6])), (c17, .inr (6, [.long c29, .int 1, .ref c18, .ref c19, .int 1]))]) F h (ct_AL_get_1 l G c11 c13 c16 c17) 1 (va_recv hK h.1 (q0 := 3) (ci := 11) rfl rfl) k_655 k_45 k_656 k_657 k_658 hd_ArrayList_get (by decide) [3, 1] [0, 2] rfl rfl (by decide) (by decide) (by decide) xb_ss0 hl.1 rfl rfl (Nat.le_of_ble_eq_true rfl) (by decide) d_TypeFinder_Known_allowance_22 (fun u H locs hu h => ?_)
  have h : xb_W G A s [(c9, .inr (4, [.ref c10, .ref c15, .ref c11, .ref c12, .int 6])), (c17, .inr (6, [.long c29, .int 1, .ref c18, .ref c19, .int 1])), (c11, .inr (11, [.int 2, .ref c16, .int 2])), (c16, .inl (G.2.1 5, 10, .inr (.inr (.inr (.inr (va_up (va_up (fun _ => none) (Int32.toNatClampNeg 0) (some c13)) (Int32.toNatClampNeg 1) (some c17)))))))] _ _ := h
  refine W.widen (k := 0) (n := 0) (by decide) (by decide) ?_
  refine W.eq (g2 := F0 m 25 ls [.ref c17]) rfl ?_
  refine va_castE (pc := 25) hx hb hown (hts _ k_659) (va_recv hK h.1 (q0 := 1) (ci := 6) rfl rfl) d_TypeFinder_Known_allowance_25 ?_
  refine xb_get (pc := 28) F h cf_6 1 rfl 4 (by decide) rfl k_660 (Or.inl rfl) rfl d_TypeFinder_Known_allowance_28 ?_
  refine lv_if_eq (pc := 31) (tgt := 38) hx hb d_TypeFinder_Known_allowance_31 (by decide) (fun h => absurd h (by decide)) (fun _ => ?_)
  refine lv_iconst (pc := 34) (v := 1) hx hb d_TypeFinder_Known_allowance_34 (by decide) ?_
  refine lv_goto (pc := 35) (tgt := 39) hx hb d_TypeFinder_Known_allowance_35 (by decide) ?_
  exact xb_iret (pc := 39) (rm := rm_K_al_1) F hr hlk hA hQ h () trivial rfl [0, 1, 2, 3] (by decide) rfl (by decide) (by decide) d_TypeFinder_Known_allowance_39
abbrev rm_C_count_3 : Room := { frames := 4, cells := 0, slots := 0, locals := 115 }
set_option maxHeartbeats 4000000 in
set_option maxRecDepth 100000 in
theorem ct_C_count_3 (l : Launch) (G : xb_EV) (c0 : Nat) (c1 : Nat) (c9 : Nat) (c10 : Nat) (c11 : Nat) (c12 : Nat) (c13 : Nat) (c15 : Nat) (c16 : Nat) (c17 : Nat) (c18 : Nat) (c19 : Nat) (c21 : Nat) (c22 : Nat) (c29 : Int64) (g0 : Nat) : xb_CT l y_TypeFinder_count b_TypeFinder_count 2 (some .int) rm_C_count_3 G [] [.ref g0, .int 3] [(g0, .inr (0, [.ref c0, .ref c1, .ref c9, .ref c21, .ref c22, .int 0, .int 0, .int 0, .int 0])), (c9, .inr (4, [.ref c10, .ref c15, .ref c11, .ref c12, .int 6])), (c11, .inr (11, [.int 2, .ref c16, .int 2])), (c16, .inl (G.2.1 5, 10, .inr (.inr (.inr (.inr (va_up (va_up (fun _ => none) (Int32.toNatClampNeg 0) (some c13)) (Int32.toNatClampNeg 1) (some c17))))))), (c17, .inr (6, [.long c29, .int 1, .ref c18, .ref c19, .int 1]))] (S := Unit) (fun _ => some (.int 1)) (fun _ => True) (fun _ => [(g0, .inr (0, [.ref c0, .ref c1, .ref c9, .ref c21, .ref c22, .int 0, .int 0, .int 0, .int 0])), (c9, .inr (4, [.ref c10, .ref c15, .ref c11, .ref c12, .int 6])), (c17, .inr (6, [.long c29, .int 1, .ref c18, .ref c19, .int 1])), (c11, .inr (11, [.int 2, .ref c16, .int 2])), (c16, .inl (G.2.1 5, 10, .inr (.inr (.inr (.inr (va_up (va_up (fun _ => none) (Int32.toNatClampNeg 0) (some c13)) (Int32.toNatClampNeg 1) (some c17)))))))]) := by
  refine xb_CT.of (by decide) "TypeFinder" rfl ?_ (Nat.le_of_ble_eq_true rfl)
  intro p e s m args below meth c A ls Q F hr hlk hnm h hl hA hQ
  have hx := F.1.1
  have hb := F.1.2.1
  have hml := F.1.2.2.1
  have hown := F.1.2.2.2.1
  have hts := F.1.2.2.2.2
  have hK := F.2.1
  refine lv_iload_n (pc := 0) hx hb d_TypeFinder_count_0 rfl (lv_at hl 1 rfl) ?_
  refine lv_if_ne (pc := 1) (tgt := 12) hx hb d_TypeFinder_count_1 (by decide) (fun _ => ?_) (fun h => absurd h (by decide))
  refine lv_iload_n (pc := 12) hx hb d_TypeFinder_count_12 rfl (lv_at hl 1 rfl) ?_
  refine lv_iconst (pc := 13) (v := 1) hx hb d_TypeFinder_count_13 (by decide) ?_
  refine lv_icmp_ne (pc := 14) (tgt := 28) hx hb d_TypeFinder_count_14 (by decide) (fun _ => ?_) (fun h => absurd h (by decide))
  refine lv_iload_n (pc := 28) hx hb d_TypeFinder_count_28 rfl (lv_at hl 1 rfl) ?_
  refine lv_if_ge (pc := 29) (tgt := 36) hx hb d_TypeFinder_count_29 (by decide) (fun _ => ?_) (fun h => absurd (by decide) h)
  refine lv_aload_n (pc := 36) hx hb d_TypeFinder_count_36 rfl (lv_at hl 0 rfl) ?_
  refine xb_get (pc := 37) F h cf_0 0 rfl 2 (by decide) rfl k_213 (Or.inl rfl) rfl d_TypeFinder_count_37 ?_
  refine lv_iload_n (pc := 40) hx hb d_TypeFinder_count_40 rfl (lv_at hl 1 rfl) ?_
  refine lv_iconst (pc := 41) (v := 2) hx hb d_TypeFinder_count_41 (by decide) ?_
  refine lv_isub (pc := 42) hx hb d_TypeFinder_count_42 ?_
  refine lv_topi (fun y ey => ?_)
  obtain rfl : y = 1 := ey.trans (by decide)
  refine xb_callV (pc := 43) (rm := rm_K_al_1) (wr := [(g0, .inr (0, [.ref c0, .ref c1, .ref c9, .ref c21, .ref c22, .int 0, .int 0, .int 0, .int 0]))]) F h (ct_K_al_1 l G c9 c10 c11 c12 c13 c15 c16 c17 c18 c19 c29) 1 (va_recv hK h.1 (q0 := 1) (ci := 4) rfl rfl) k_661 k_209 k_662 k_663 k_664 hd_TypeFinder_Known_allowance (by decide) [1, 2, 3, 4] [0] rfl rfl (by decide) (by decide) (by decide) xb_ss0 hl.1 rfl rfl (Nat.le_of_ble_eq_true rfl) (by decide) d_TypeFinder_count_43 (fun u H locs hu h => ?_)
  have h : xb_W G A s [(g0, .inr (0, [.ref c0, .ref c1, .ref c9, .ref c21, .ref c22, .int 0, .int 0, .int 0, .int 0])), (c9, .inr (4, [.ref c10, .ref c15, .ref c11, .ref c12, .int 6])), (c17, .inr (6, [.long c29, .int 1, .ref c18, .ref c19, .int 1])), (c11, .inr (11, [.int 2, .ref c16, .int 2])), (c16, .inl (G.2.1 5, 10, .inr (.inr (.inr (.inr (va_up (va_up (fun _ => none) (Int32.toNatClampNeg 0) (some c13)) (Int32.toNatClampNeg 1) (some c17)))))))] _ _ := h
  refine W.widen (k := 0) (n := 0) (by decide) (by decide) ?_
  refine W.eq (g2 := F0 m 46 ls [.int 1]) rfl ?_
  exact xb_iret (pc := 46) (rm := rm_C_count_3) F hr hlk hA hQ h () trivial rfl [0, 1, 2, 3, 4] (by decide) rfl (by decide) (by decide) d_TypeFinder_count_46
abbrev rm_C_count_neg : Room := { frames := 0, cells := 0, slots := 0, locals := 30 }
set_option maxHeartbeats 4000000 in
set_option maxRecDepth 100000 in
theorem ct_C_count_neg (l : Launch) (G : xb_EV) (g0 : Nat) (k : Int32) (hk : k < 0) : xb_CT l y_TypeFinder_count b_TypeFinder_count 2 (some .int) rm_C_count_neg G [] [.ref g0, .int k] [] (S := Unit) (fun _ => some (.int (-1))) (fun _ => True) (fun _ => []) := by
  refine xb_CT.of (by decide) "TypeFinder" rfl ?_ (Nat.le_of_ble_eq_true rfl)
  intro p e s m args below meth c A ls Q F hr hlk hnm h hl hA hQ
  have hx := F.1.1
  have hb := F.1.2.1
  have hml := F.1.2.2.1
  have hown := F.1.2.2.2.1
  have hts := F.1.2.2.2.2
  have hK := F.2.1
  refine lv_iload_n (pc := 0) hx hb d_TypeFinder_count_0 rfl (lv_at hl 1 rfl) ?_
  refine lv_if_ne (pc := 1) (tgt := 12) hx hb d_TypeFinder_count_1 (by decide) (fun _ => ?_) (fun h => absurd h ((xi_neg hk).1))
  refine lv_iload_n (pc := 12) hx hb d_TypeFinder_count_12 rfl (lv_at hl 1 rfl) ?_
  refine lv_iconst (pc := 13) (v := 1) hx hb d_TypeFinder_count_13 (by decide) ?_
  refine lv_icmp_ne (pc := 14) (tgt := 28) hx hb d_TypeFinder_count_14 (by decide) (fun _ => ?_) (fun h => absurd h ((xi_neg hk).2.1))
  refine lv_iload_n (pc := 28) hx hb d_TypeFinder_count_28 rfl (lv_at hl 1 rfl) ?_
  refine lv_if_ge (pc := 29) (tgt := 36) hx hb d_TypeFinder_count_29 (by decide) (fun h => absurd h ((xi_neg hk).2.2.2)) (fun _ => ?_)
  refine lv_iconst (pc := 32) (v := (-1)) hx hb d_TypeFinder_count_32 (by decide) ?_
  refine lv_goto (pc := 33) (tgt := 46) hx hb d_TypeFinder_count_33 (by decide) ?_
  exact xb_iret (pc := 46) (rm := rm_C_count_neg) F hr hlk hA hQ h () trivial rfl [] (by decide) rfl (by decide) (by decide) d_TypeFinder_count_46
abbrev rm_K_al_big : Room := { frames := 1, cells := 0, slots := 0, locals := 50 }
set_option maxHeartbeats 4000000 in
set_option maxRecDepth 100000 in
theorem ct_K_al_big (l : Launch) (G : xb_EV) (c9 : Nat) (c10 : Nat) (c11 : Nat) (c12 : Nat) (c15 : Nat) (c16 : Nat) (k : Int32) (hk : ¬ k < 0) (hk2 : ¬ k < 2) : xb_CT l y_TypeFinder_Known_allowance b_TypeFinder_Known_allowance 2 (some .int) rm_K_al_big G [] [.ref c9, .int k] [(c9, .inr (4, [.ref c10, .ref c15, .ref c11, .ref c12, .int 6])), (c11, .inr (11, [.int 2, .ref c16, .int 2]))] (S := Unit) (fun _ => some (.int (-1))) (fun _ => True) (fun _ => [(c9, .inr (4, [.ref c10, .ref c15, .ref c11, .ref c12, .int 6])), (c11, .inr (11, [.int 2, .ref c16, .int 2]))]) := by
  refine xb_CT.of (by decide) "TypeFinder$Known" rfl ?_ (Nat.le_of_ble_eq_true rfl)
  intro p e s m args below meth c A ls Q F hr hlk hnm h hl hA hQ
  have hx := F.1.1
  have hb := F.1.2.1
  have hml := F.1.2.2.1
  have hown := F.1.2.2.2.1
  have hts := F.1.2.2.2.2
  have hK := F.2.1
  refine lv_iload_n (pc := 0) hx hb d_TypeFinder_Known_allowance_0 rfl (lv_at hl 1 rfl) ?_
  refine lv_if_lt (pc := 1) (tgt := 15) hx hb d_TypeFinder_Known_allowance_1 (by decide) (fun h => absurd h (hk)) (fun _ => ?_)
  refine lv_iload_n (pc := 4) hx hb d_TypeFinder_Known_allowance_4 rfl (lv_at hl 1 rfl) ?_
  refine lv_aload_n (pc := 5) hx hb d_TypeFinder_Known_allowance_5 rfl (lv_at hl 0 rfl) ?_
  refine xb_get (pc := 6) F h cf_4 0 rfl 2 (by decide) rfl k_140 (Or.inl rfl) rfl d_TypeFinder_Known_allowance_6 ?_
  refine xb_callV (pc := 9) (rm := rm_AL_size) (wr := [(c9, .inr (4, [.ref c10, .ref c15, .ref c11, .ref c12, .int 6]))]) F h (ct_AL_size l G c11 2 c16 2) 0 (va_recv hK h.1 (q0 := 1) (ci := 11) rfl rfl) k_174 k_45 k_175 k_176 k_177 hd_ArrayList_size (by decide) [1] [0] rfl rfl (by decide) (by decide) (by decide) xb_ss0 hl.1 rfl rfl (Nat.le_of_ble_eq_true rfl) (by decide) d_TypeFinder_Known_allowance_9 (fun u H locs hu h => ?_)
  have h : xb_W G A s [(c9, .inr (4, [.ref c10, .ref c15, .ref c11, .ref c12, .int 6])), (c11, .inr (11, [.int 2, .ref c16, .int 2]))] _ _ := h
  refine W.widen (k := 0) (n := 0) (by decide) (by decide) ?_
  refine W.eq (g2 := F0 m 12 ls [.int 2, .int k]) rfl ?_
  refine lv_icmp_lt (pc := 12) (tgt := 17) hx hb d_TypeFinder_Known_allowance_12 (by decide) (fun h => absurd h (hk2)) (fun _ => ?_)
  refine lv_iconst (pc := 15) (v := (-1)) hx hb d_TypeFinder_Known_allowance_15 (by decide) ?_
  exact xb_iret (pc := 16) (rm := rm_K_al_big) F hr hlk hA hQ h () trivial rfl [0, 1] (by decide) rfl (by decide) (by decide) d_TypeFinder_Known_allowance_16
abbrev rm_C_count_big : Room := { frames := 2, cells := 0, slots := 0, locals := 71 }
set_option maxHeartbeats 4000000 in
set_option maxRecDepth 100000 in
theorem ct_C_count_big (l : Launch) (G : xb_EV) (c0 : Nat) (c1 : Nat) (c9 : Nat) (c10 : Nat) (c11 : Nat) (c12 : Nat) (c15 : Nat) (c16 : Nat) (c21 : Nat) (c22 : Nat) (g0 : Nat) (k : Int32) (hk : 4 ≤ k) : xb_CT l y_TypeFinder_count b_TypeFinder_count 2 (some .int) rm_C_count_big G [] [.ref g0, .int k] [(g0, .inr (0, [.ref c0, .ref c1, .ref c9, .ref c21, .ref c22, .int 0, .int 0, .int 0, .int 0])), (c9, .inr (4, [.ref c10, .ref c15, .ref c11, .ref c12, .int 6])), (c11, .inr (11, [.int 2, .ref c16, .int 2]))] (S := Unit) (fun _ => some (.int (-1))) (fun _ => True) (fun _ => [(g0, .inr (0, [.ref c0, .ref c1, .ref c9, .ref c21, .ref c22, .int 0, .int 0, .int 0, .int 0])), (c9, .inr (4, [.ref c10, .ref c15, .ref c11, .ref c12, .int 6])), (c11, .inr (11, [.int 2, .ref c16, .int 2]))]) := by
  refine xb_CT.of (by decide) "TypeFinder" rfl ?_ (Nat.le_of_ble_eq_true rfl)
  intro p e s m args below meth c A ls Q F hr hlk hnm h hl hA hQ
  have hx := F.1.1
  have hb := F.1.2.1
  have hml := F.1.2.2.1
  have hown := F.1.2.2.2.1
  have hts := F.1.2.2.2.2
  have hK := F.2.1
  refine lv_iload_n (pc := 0) hx hb d_TypeFinder_count_0 rfl (lv_at hl 1 rfl) ?_
  refine lv_if_ne (pc := 1) (tgt := 12) hx hb d_TypeFinder_count_1 (by decide) (fun _ => ?_) (fun h => absurd h ((xi_big hk).1))
  refine lv_iload_n (pc := 12) hx hb d_TypeFinder_count_12 rfl (lv_at hl 1 rfl) ?_
  refine lv_iconst (pc := 13) (v := 1) hx hb d_TypeFinder_count_13 (by decide) ?_
  refine lv_icmp_ne (pc := 14) (tgt := 28) hx hb d_TypeFinder_count_14 (by decide) (fun _ => ?_) (fun h => absurd h ((xi_big hk).2.1))
  refine lv_iload_n (pc := 28) hx hb d_TypeFinder_count_28 rfl (lv_at hl 1 rfl) ?_
  refine lv_if_ge (pc := 29) (tgt := 36) hx hb d_TypeFinder_count_29 (by decide) (fun _ => ?_) (fun h => absurd ((xi_big hk).2.2.2.2.1) h)
  refine lv_aload_n (pc := 36) hx hb d_TypeFinder_count_36 rfl (lv_at hl 0 rfl) ?_
  refine xb_get (pc := 37) F h cf_0 0 rfl 2 (by decide) rfl k_213 (Or.inl rfl) rfl d_TypeFinder_count_37 ?_
  refine lv_iload_n (pc := 40) hx hb d_TypeFinder_count_40 rfl (lv_at hl 1 rfl) ?_
  refine lv_iconst (pc := 41) (v := 2) hx hb d_TypeFinder_count_41 (by decide) ?_
  refine lv_isub (pc := 42) hx hb d_TypeFinder_count_42 ?_
  refine xb_callV (pc := 43) (rm := rm_K_al_big) (wr := [(g0, .inr (0, [.ref c0, .ref c1, .ref c9, .ref c21, .ref c22, .int 0, .int 0, .int 0, .int 0]))]) F h (ct_K_al_big l G c9 c10 c11 c12 c15 c16 (k - 2) ((xi_big hk).2.2.2.2.2) ((xi_big hk).2.2.2.1)) 1 (va_recv hK h.1 (q0 := 1) (ci := 4) rfl rfl) k_661 k_209 k_662 k_663 k_664 hd_TypeFinder_Known_allowance (by decide) [1, 2] [0] rfl rfl (by decide) (by decide) (by decide) xb_ss0 hl.1 rfl rfl (Nat.le_of_ble_eq_true rfl) (by decide) d_TypeFinder_count_43 (fun u H locs hu h => ?_)
  have h : xb_W G A s [(g0, .inr (0, [.ref c0, .ref c1, .ref c9, .ref c21, .ref c22, .int 0, .int 0, .int 0, .int 0])), (c9, .inr (4, [.ref c10, .ref c15, .ref c11, .ref c12, .int 6])), (c11, .inr (11, [.int 2, .ref c16, .int 2]))] _ _ := h
  refine W.widen (k := 0) (n := 0) (by decide) (by decide) ?_
  refine W.eq (g2 := F0 m 46 ls [.int (-1)]) rfl ?_
  exact xb_iret (pc := 46) (rm := rm_C_count_big) F hr hlk hA hQ h () trivial rfl [0, 1, 2] (by decide) rfl (by decide) (by decide) d_TypeFinder_count_46
