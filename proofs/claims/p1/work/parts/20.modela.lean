abbrev rm_wordOf : Room := { frames := 0, cells := 0, slots := 0, locals := 30 }
set_option maxHeartbeats 4000000 in
set_option maxRecDepth 100000 in
theorem ct_wordOf (l : Launch) (G : xb_EV) (s0 : Int64) : xb_CT l y_TypeFinderModel_wordOf b_TypeFinderModel_wordOf 4 (some .int) rm_wordOf G [] [.long s0] [] (S := Int32) (fun u => some (.int u)) (fun _ => True) (fun _ => []) := by
  refine xb_CT.of (by decide) "TypeFinderModel" rfl ?_ (Nat.le_of_ble_eq_true rfl)
  intro p e s m args below meth c A ls Q F hr hlk hnm h hl hA hQ
  have hx := F.1.1
  have hb := F.1.2.1
  have hml := F.1.2.2.1
  have hown := F.1.2.2.2.1
  have hts := F.1.2.2.2.2
  have hK := F.2.1
  have fin : ∀ (k w : Int32) (ls : Array Slot), lv_has ls 4 [(3, .int k), (2, .int w), (0, .long s0)] → W p l e rm_wordOf s m args below meth c s.heap [] 0 0 Q (F0 m 48 ls []) := by
    intro k w ls hl
    refine lv_iload_n (pc := 48) hx hb d_TypeFinderModel_wordOf_48 rfl (lv_at hl 1 rfl) ?_
    exact xb_iret (pc := 49) (rm := rm_wordOf) F hr hlk hA hQ h w trivial rfl [] (by decide) rfl (by decide) (by decide) d_TypeFinderModel_wordOf_49
  have loop : ∀ (n k : Nat) (w : Int32) (ls : Array Slot), k + n = 6 → lv_has ls 4 [(3, .int (nI k)), (2, .int w), (0, .long s0)] → W p l e rm_wordOf s m args below meth c s.heap [] 0 0 Q (F0 m 4 ls []) := by
    intro n
    induction n with
    | zero =>
      intro k w ls hk hl
      obtain rfl : k = 6 := by omega
      refine lv_iload_n (pc := 4) hx hb d_TypeFinderModel_wordOf_4 rfl (lv_at hl 0 rfl) ?_
      refine lv_bipush (pc := 5) (v := 6) hx hb d_TypeFinderModel_wordOf_5 (by decide) ?_
      refine lv_icmp_ge (pc := 7) (tgt := 48) hx hb d_TypeFinderModel_wordOf_7 (by decide) (fun _ => ?_) (fun h => absurd (nI_le (Nat.le_refl 6) (by decide)) h)
      exact fin _ _ _ hl
    | succ n ih =>
      intro k w ls hk hl
      refine lv_iload_n (pc := 4) hx hb d_TypeFinderModel_wordOf_4 rfl (lv_at hl 0 rfl) ?_
      refine lv_bipush (pc := 5) (v := 6) hx hb d_TypeFinderModel_wordOf_5 (by decide) ?_
      refine lv_icmp_ge (pc := 7) (tgt := 48) hx hb d_TypeFinderModel_wordOf_7 (by decide) (fun h => absurd h (nI_ge (a := k) (b := 6) (by omega) (by decide))) (fun _ => ?_)
      refine lv_lload_n (pc := 10) hx hb d_TypeFinderModel_wordOf_10 rfl (lv_at hl 2 rfl) ?_
      refine lv_bipush (pc := 11) (v := 8) hx hb d_TypeFinderModel_wordOf_11 (by decide) ?_
      refine lv_iload_n (pc := 13) hx hb d_TypeFinderModel_wordOf_13 rfl (lv_at hl 0 rfl) ?_
      refine lv_imul (pc := 14) hx hb d_TypeFinderModel_wordOf_14 ?_
      refine lv_lushr (pc := 15) hx hb d_TypeFinderModel_wordOf_15 rfl ?_
      refine lv_topl (fun x15_1 ex15_1 => ?_)
      refine lv_ldc2 (pc := 16) (v := 255) hx hb hown (hts _ k_401) d_TypeFinderModel_wordOf_16 ?_
      refine lv_land (pc := 19) hx hb d_TypeFinderModel_wordOf_19 ?_
      refine lv_topl (fun x19_2 ex19_2 => ?_)
      refine lv_lconst (pc := 20) (v := 0) hx hb d_TypeFinderModel_wordOf_20 (by decide) ?_
      refine W.lcmp (pc := 21) hx hb d_TypeFinderModel_wordOf_21 ?_
      refine lv_topi (fun x21_3 ex21_3 => ?_)
      refine lv_if_eq (pc := 22) (tgt := 48) hx hb d_TypeFinderModel_wordOf_22 (by decide) (fun _ => fin _ _ _ hl) (fun _ => ?_)
      refine lv_bipush (pc := 25) (v := 27) hx hb d_TypeFinderModel_wordOf_25 (by decide) ?_
      refine lv_iload_n (pc := 27) hx hb d_TypeFinderModel_wordOf_27 rfl (lv_at hl 1 rfl) ?_
      refine lv_imul (pc := 28) hx hb d_TypeFinderModel_wordOf_28 ?_
      refine lv_lload_n (pc := 29) hx hb d_TypeFinderModel_wordOf_29 rfl (lv_at hl 2 rfl) ?_
      refine lv_bipush (pc := 30) (v := 8) hx hb d_TypeFinderModel_wordOf_30 (by decide) ?_
      refine lv_iload_n (pc := 32) hx hb d_TypeFinderModel_wordOf_32 rfl (lv_at hl 0 rfl) ?_
      refine lv_imul (pc := 33) hx hb d_TypeFinderModel_wordOf_33 ?_
      refine lv_lushr (pc := 34) hx hb d_TypeFinderModel_wordOf_34 rfl ?_
      refine lv_topl (fun x34_1 ex34_1 => ?_)
      refine lv_ldc2 (pc := 35) (v := 31) hx hb hown (hts _ k_402) d_TypeFinderModel_wordOf_35 ?_
      refine lv_land (pc := 38) hx hb d_TypeFinderModel_wordOf_38 ?_
      refine lv_topl (fun x38_2 ex38_2 => ?_)
      refine lv_l2i (pc := 39) hx hb d_TypeFinderModel_wordOf_39 rfl ?_
      refine lv_topi (fun x39_3 ex39_3 => ?_)
      refine lv_iadd (pc := 40) hx hb d_TypeFinderModel_wordOf_40 ?_
      refine lv_istore_n (pc := 41) (lv' := [(2, .int ((27 * w) + x39_3)), (3, .int (nI k)), (0, .long s0)]) hx hb d_TypeFinderModel_wordOf_41 rfl hl (by decide) rfl (fun ls hl => ?_)
      refine lv_iinc (pc := 42) (k := 1) (v := ((nI k) + 1)) (lv' := [(3, .int ((nI k) + 1)), (2, .int ((27 * w) + x39_3)), (0, .long s0)]) hx hb d_TypeFinderModel_wordOf_42 hl rfl (rfl) (by decide) rfl (fun ls hl => ?_)
      refine lv_goto (pc := 45) (tgt := 4) hx hb d_TypeFinderModel_wordOf_45 (by decide) ?_
      exact ih (k + 1) _ _ (by omega) (by rw [← nI_succ] at hl; exact hl)
  refine lv_iconst (pc := 0) (v := 0) hx hb d_TypeFinderModel_wordOf_0 (by decide) ?_
  refine lv_istore_n (pc := 1) (lv' := [(2, .int 0), (0, .long s0)]) hx hb d_TypeFinderModel_wordOf_1 rfl hl (by decide) rfl (fun ls hl => ?_)
  refine lv_iconst (pc := 2) (v := 0) hx hb d_TypeFinderModel_wordOf_2 (by decide) ?_
  refine lv_istore_n (pc := 3) (lv' := [(3, .int 0), (2, .int 0), (0, .long s0)]) hx hb d_TypeFinderModel_wordOf_3 rfl hl (by decide) rfl (fun ls hl => ?_)
  exact loop 6 0 0 _ rfl hl
abbrev rm_setName_0 : Room := { frames := 0, cells := 0, slots := 0, locals := 30 }
set_option maxHeartbeats 4000000 in
set_option maxRecDepth 100000 in
theorem ct_setName_0 (l : Launch) (G : xb_EV) (h0 : Nat) (r1 : Nat) (r2 : Nat) (r3 : Nat) (g1 : Nat → Int32) (g2 : Nat → Int32) (g3 : Nat → Int32) (f0 : Value) (f1 : Value) (f2 : Value) (f3 : Value) (f4 : Value) (f5 : Value) (f6 : Value) (f7 : Value) (f8 : Value) (f9 : Value) (f13 : Value) (f14 : Value) (f15 : Value) (f16 : Value) (f17 : Value) (f18 : Value) (f19 : Value) (f20 : Value) (f21 : Value) (f22 : Value) (f23 : Value) (f24 : Value) (f25 : Value) (f26 : Value) (f27 : Value) (f28 : Value) (f29 : Value) (f30 : Value) (f31 : Value) (f32 : Value) (f33 : Value) (f34 : Value) (f35 : Value) (f36 : Value) (f37 : Value) (f38 : Value) (f39 : Value) (f40 : Value) (f41 : Value) (f42 : Value) (f43 : Value) (f44 : Value) (f45 : Value) (f46 : Value) (f47 : Value) (f48 : Value) (f49 : Value) (f50 : Value) (f51 : Value) (f52 : Value) (f53 : Value) (f54 : Value) (f55 : Value) (f56 : Value) (f57 : Value) (f58 : Value) (f59 : Value) (f60 : Value) (f61 : Value) (f62 : Value) (f63 : Value) (f64 : Value) (f65 : Value) (f66 : Value) (f67 : Value) (f68 : Value) (f69 : Value) (f70 : Value) (f71 : Value) (f72 : Value) (f73 : Value) (f74 : Value) (f75 : Value) (f76 : Value) (f77 : Value) (f78 : Value) (f79 : Value) : xb_CT l y_TypeFinderModel_setName b_TypeFinderModel_setName 7 none rm_setName_0 G [] [.ref h0, .int 0, .int 2, .int 1, .int 2, .int 1, .int 1] [(h0, .inr (14, [f0, f1, f2, f3, f4, f5, f6, f7, f8, f9, .ref r1, .ref r2, .ref r3, f13, f14, f15, f16, f17, f18, f19, f20, f21, f22, f23, f24, f25, f26, f27, f28, f29, f30, f31, f32, f33, f34, f35, f36, f37, f38, f39, f40, f41, f42, f43, f44, f45, f46, f47, f48, f49, f50, f51, f52, f53, f54, f55, f56, f57, f58, f59, f60, f61, f62, f63, f64, f65, f66, f67, f68, f69, f70, f71, f72, f73, f74, f75, f76, f77, f78, f79])), (r1, .inl (G.2.1 0, 30, .inl (g1))), (r2, .inl (G.2.1 0, 30, .inl (g2))), (r3, .inl (G.2.1 0, 720, .inl (g3)))] (S := (Nat → Int32) × (Nat → Int32) × (Nat → Int32)) (fun _ => none) (fun _ => True) (fun u => [(h0, .inr (14, [f0, f1, f2, f3, f4, f5, f6, f7, f8, f9, .ref r1, .ref r2, .ref r3, f13, f14, f15, f16, f17, f18, f19, f20, f21, f22, f23, f24, f25, f26, f27, f28, f29, f30, f31, f32, f33, f34, f35, f36, f37, f38, f39, f40, f41, f42, f43, f44, f45, f46, f47, f48, f49, f50, f51, f52, f53, f54, f55, f56, f57, f58, f59, f60, f61, f62, f63, f64, f65, f66, f67, f68, f69, f70, f71, f72, f73, f74, f75, f76, f77, f78, f79])), (r1, .inl (G.2.1 0, 30, .inl (u.1))), (r2, .inl (G.2.1 0, 30, .inl (u.2.1))), (r3, .inl (G.2.1 0, 720, .inl (u.2.2)))]) := by
  refine xb_CT.of (by decide) "TypeFinderModel" rfl ?_ (Nat.le_of_ble_eq_true rfl)
  intro p e s m args below meth c A ls Q F hr hlk hnm h hl hA hQ
  have hx := F.1.1
  have hb := F.1.2.1
  have hml := F.1.2.2.1
  have hown := F.1.2.2.2.1
  have hts := F.1.2.2.2.2
  have hK := F.2.1
  refine lv_aload_n (pc := 0) hx hb d_TypeFinderModel_setName_0 rfl (lv_at hl 0 rfl) ?_
  refine xb_get (pc := 1) F h cf_14 0 rfl 10 (by decide) rfl k_228 (Or.inl rfl) rfl d_TypeFinderModel_setName_1 ?_
  refine lv_iload_n (pc := 4) hx hb d_TypeFinderModel_setName_4 rfl (lv_at hl 1 rfl) ?_
  refine lv_iconst (pc := 5) (v := (-1)) hx hb d_TypeFinderModel_setName_5 (by decide) ?_
  refine lv_iload_n (pc := 6) hx hb d_TypeFinderModel_setName_6 rfl (lv_at hl 1 rfl) ?_
  refine lv_isub (pc := 7) hx hb d_TypeFinderModel_setName_7 ?_
  refine lv_topi (fun y ey => ?_)
  obtain rfl : y = (-1) := ey.trans (by decide)
  refine xb_iastF (pc := 8) (ws' := fun f8_1 => [(h0, .inr (14, [f0, f1, f2, f3, f4, f5, f6, f7, f8, f9, .ref r1, .ref r2, .ref r3, f13, f14, f15, f16, f17, f18, f19, f20, f21, f22, f23, f24, f25, f26, f27, f28, f29, f30, f31, f32, f33, f34, f35, f36, f37, f38, f39, f40, f41, f42, f43, f44, f45, f46, f47, f48, f49, f50, f51, f52, f53, f54, f55, f56, f57, f58, f59, f60, f61, f62, f63, f64, f65, f66, f67, f68, f69, f70, f71, f72, f73, f74, f75, f76, f77, f78, f79])), (r1, .inl (G.2.1 0, 30, .inl (f8_1))), (r2, .inl (G.2.1 0, 30, .inl (g2))), (r3, .inl (G.2.1 0, 720, .inl (g3)))]) F h 1 0 rfl rfl (by unfold vp_in; decide) (fun _ => rfl) d_TypeFinderModel_setName_8 (fun f8_1 H locs h => ?_)
  refine lv_aload_n (pc := 9) hx hb d_TypeFinderModel_setName_9 rfl (lv_at hl 0 rfl) ?_
  refine xb_get (pc := 10) F h cf_14 0 rfl 11 (by decide) rfl k_229 (Or.inl rfl) rfl d_TypeFinderModel_setName_10 ?_
  refine lv_iload_n (pc := 13) hx hb d_TypeFinderModel_setName_13 rfl (lv_at hl 1 rfl) ?_
  refine lv_iconst (pc := 14) (v := 5) hx hb d_TypeFinderModel_setName_14 (by decide) ?_
  refine xb_iastF (pc := 15) (ws' := fun f15_2 => [(h0, .inr (14, [f0, f1, f2, f3, f4, f5, f6, f7, f8, f9, .ref r1, .ref r2, .ref r3, f13, f14, f15, f16, f17, f18, f19, f20, f21, f22, f23, f24, f25, f26, f27, f28, f29, f30, f31, f32, f33, f34, f35, f36, f37, f38, f39, f40, f41, f42, f43, f44, f45, f46, f47, f48, f49, f50, f51, f52, f53, f54, f55, f56, f57, f58, f59, f60, f61, f62, f63, f64, f65, f66, f67, f68, f69, f70, f71, f72, f73, f74, f75, f76, f77, f78, f79])), (r1, .inl (G.2.1 0, 30, .inl (f8_1))), (r2, .inl (G.2.1 0, 30, .inl (f15_2))), (r3, .inl (G.2.1 0, 720, .inl (g3)))]) F h 2 0 rfl rfl (by unfold vp_in; decide) (fun _ => rfl) d_TypeFinderModel_setName_15 (fun f15_2 H locs h => ?_)
  refine lv_aload_n (pc := 16) hx hb d_TypeFinderModel_setName_16 rfl (lv_at hl 0 rfl) ?_
  refine xb_get (pc := 17) F h cf_14 0 rfl 12 (by decide) rfl k_230 (Or.inl rfl) rfl d_TypeFinderModel_setName_17 ?_
  refine lv_bipush (pc := 20) (v := 24) hx hb d_TypeFinderModel_setName_20 (by decide) ?_
  refine lv_iload_n (pc := 22) hx hb d_TypeFinderModel_setName_22 rfl (lv_at hl 1 rfl) ?_
  refine lv_imul (pc := 23) hx hb d_TypeFinderModel_setName_23 ?_
  refine lv_topi (fun y ey => ?_)
  obtain rfl : y = 0 := ey.trans (by decide)
  refine lv_iload_n (pc := 24) hx hb d_TypeFinderModel_setName_24 rfl (lv_at hl 2 rfl) ?_
  refine xb_iastF (pc := 25) (ws' := fun f25_3 => [(h0, .inr (14, [f0, f1, f2, f3, f4, f5, f6, f7, f8, f9, .ref r1, .ref r2, .ref r3, f13, f14, f15, f16, f17, f18, f19, f20, f21, f22, f23, f24, f25, f26, f27, f28, f29, f30, f31, f32, f33, f34, f35, f36, f37, f38, f39, f40, f41, f42, f43, f44, f45, f46, f47, f48, f49, f50, f51, f52, f53, f54, f55, f56, f57, f58, f59, f60, f61, f62, f63, f64, f65, f66, f67, f68, f69, f70, f71, f72, f73, f74, f75, f76, f77, f78, f79])), (r1, .inl (G.2.1 0, 30, .inl (f8_1))), (r2, .inl (G.2.1 0, 30, .inl (f15_2))), (r3, .inl (G.2.1 0, 720, .inl (f25_3)))]) F h 3 0 rfl rfl (by unfold vp_in; decide) (fun _ => rfl) d_TypeFinderModel_setName_25 (fun f25_3 H locs h => ?_)
  refine lv_aload_n (pc := 26) hx hb d_TypeFinderModel_setName_26 rfl (lv_at hl 0 rfl) ?_
  refine xb_get (pc := 27) F h cf_14 0 rfl 12 (by decide) rfl k_230 (Or.inl rfl) rfl d_TypeFinderModel_setName_27 ?_
  refine lv_bipush (pc := 30) (v := 24) hx hb d_TypeFinderModel_setName_30 (by decide) ?_
  refine lv_iload_n (pc := 32) hx hb d_TypeFinderModel_setName_32 rfl (lv_at hl 1 rfl) ?_
  refine lv_imul (pc := 33) hx hb d_TypeFinderModel_setName_33 ?_
  refine lv_topi (fun y ey => ?_)
  obtain rfl : y = 0 := ey.trans (by decide)
  refine lv_iconst (pc := 34) (v := 1) hx hb d_TypeFinderModel_setName_34 (by decide) ?_
  refine lv_iadd (pc := 35) hx hb d_TypeFinderModel_setName_35 ?_
  refine lv_topi (fun y ey => ?_)
  obtain rfl : y = 1 := ey.trans (by decide)
  refine lv_iload_n (pc := 36) hx hb d_TypeFinderModel_setName_36 rfl (lv_at hl 3 rfl) ?_
  refine xb_iastF (pc := 37) (ws' := fun f37_4 => [(h0, .inr (14, [f0, f1, f2, f3, f4, f5, f6, f7, f8, f9, .ref r1, .ref r2, .ref r3, f13, f14, f15, f16, f17, f18, f19, f20, f21, f22, f23, f24, f25, f26, f27, f28, f29, f30, f31, f32, f33, f34, f35, f36, f37, f38, f39, f40, f41, f42, f43, f44, f45, f46, f47, f48, f49, f50, f51, f52, f53, f54, f55, f56, f57, f58, f59, f60, f61, f62, f63, f64, f65, f66, f67, f68, f69, f70, f71, f72, f73, f74, f75, f76, f77, f78, f79])), (r1, .inl (G.2.1 0, 30, .inl (f8_1))), (r2, .inl (G.2.1 0, 30, .inl (f15_2))), (r3, .inl (G.2.1 0, 720, .inl (f37_4)))]) F h 3 0 rfl rfl (by unfold vp_in; decide) (fun _ => rfl) d_TypeFinderModel_setName_37 (fun f37_4 H locs h => ?_)
  refine lv_aload_n (pc := 38) hx hb d_TypeFinderModel_setName_38 rfl (lv_at hl 0 rfl) ?_
  refine xb_get (pc := 39) F h cf_14 0 rfl 12 (by decide) rfl k_230 (Or.inl rfl) rfl d_TypeFinderModel_setName_39 ?_
  refine lv_bipush (pc := 42) (v := 24) hx hb d_TypeFinderModel_setName_42 (by decide) ?_
  refine lv_iload_n (pc := 44) hx hb d_TypeFinderModel_setName_44 rfl (lv_at hl 1 rfl) ?_
  refine lv_imul (pc := 45) hx hb d_TypeFinderModel_setName_45 ?_
  refine lv_topi (fun y ey => ?_)
  obtain rfl : y = 0 := ey.trans (by decide)
  refine lv_iconst (pc := 46) (v := 2) hx hb d_TypeFinderModel_setName_46 (by decide) ?_
  refine lv_iadd (pc := 47) hx hb d_TypeFinderModel_setName_47 ?_
  refine lv_topi (fun y ey => ?_)
  obtain rfl : y = 2 := ey.trans (by decide)
  refine lv_iload (pc := 48) hx hb d_TypeFinderModel_setName_48 (lv_at hl 4 rfl) ?_
  refine xb_iastF (pc := 50) (ws' := fun f50_5 => [(h0, .inr (14, [f0, f1, f2, f3, f4, f5, f6, f7, f8, f9, .ref r1, .ref r2, .ref r3, f13, f14, f15, f16, f17, f18, f19, f20, f21, f22, f23, f24, f25, f26, f27, f28, f29, f30, f31, f32, f33, f34, f35, f36, f37, f38, f39, f40, f41, f42, f43, f44, f45, f46, f47, f48, f49, f50, f51, f52, f53, f54, f55, f56, f57, f58, f59, f60, f61, f62, f63, f64, f65, f66, f67, f68, f69, f70, f71, f72, f73, f74, f75, f76, f77, f78, f79])), (r1, .inl (G.2.1 0, 30, .inl (f8_1))), (r2, .inl (G.2.1 0, 30, .inl (f15_2))), (r3, .inl (G.2.1 0, 720, .inl (f50_5)))]) F h 3 0 rfl rfl (by unfold vp_in; decide) (fun _ => rfl) d_TypeFinderModel_setName_50 (fun f50_5 H locs h => ?_)
  refine lv_aload_n (pc := 51) hx hb d_TypeFinderModel_setName_51 rfl (lv_at hl 0 rfl) ?_
  refine xb_get (pc := 52) F h cf_14 0 rfl 12 (by decide) rfl k_230 (Or.inl rfl) rfl d_TypeFinderModel_setName_52 ?_
  refine lv_bipush (pc := 55) (v := 24) hx hb d_TypeFinderModel_setName_55 (by decide) ?_
  refine lv_iload_n (pc := 57) hx hb d_TypeFinderModel_setName_57 rfl (lv_at hl 1 rfl) ?_
  refine lv_imul (pc := 58) hx hb d_TypeFinderModel_setName_58 ?_
  refine lv_topi (fun y ey => ?_)
  obtain rfl : y = 0 := ey.trans (by decide)
  refine lv_iconst (pc := 59) (v := 3) hx hb d_TypeFinderModel_setName_59 (by decide) ?_
  refine lv_iadd (pc := 60) hx hb d_TypeFinderModel_setName_60 ?_
  refine lv_topi (fun y ey => ?_)
  obtain rfl : y = 3 := ey.trans (by decide)
  refine lv_iload (pc := 61) hx hb d_TypeFinderModel_setName_61 (lv_at hl 5 rfl) ?_
  refine xb_iastF (pc := 63) (ws' := fun f63_6 => [(h0, .inr (14, [f0, f1, f2, f3, f4, f5, f6, f7, f8, f9, .ref r1, .ref r2, .ref r3, f13, f14, f15, f16, f17, f18, f19, f20, f21, f22, f23, f24, f25, f26, f27, f28, f29, f30, f31, f32, f33, f34, f35, f36, f37, f38, f39, f40, f41, f42, f43, f44, f45, f46, f47, f48, f49, f50, f51, f52, f53, f54, f55, f56, f57, f58, f59, f60, f61, f62, f63, f64, f65, f66, f67, f68, f69, f70, f71, f72, f73, f74, f75, f76, f77, f78, f79])), (r1, .inl (G.2.1 0, 30, .inl (f8_1))), (r2, .inl (G.2.1 0, 30, .inl (f15_2))), (r3, .inl (G.2.1 0, 720, .inl (f63_6)))]) F h 3 0 rfl rfl (by unfold vp_in; decide) (fun _ => rfl) d_TypeFinderModel_setName_63 (fun f63_6 H locs h => ?_)
  refine lv_aload_n (pc := 64) hx hb d_TypeFinderModel_setName_64 rfl (lv_at hl 0 rfl) ?_
  refine xb_get (pc := 65) F h cf_14 0 rfl 12 (by decide) rfl k_230 (Or.inl rfl) rfl d_TypeFinderModel_setName_65 ?_
  refine lv_bipush (pc := 68) (v := 24) hx hb d_TypeFinderModel_setName_68 (by decide) ?_
  refine lv_iload_n (pc := 70) hx hb d_TypeFinderModel_setName_70 rfl (lv_at hl 1 rfl) ?_
  refine lv_imul (pc := 71) hx hb d_TypeFinderModel_setName_71 ?_
  refine lv_topi (fun y ey => ?_)
  obtain rfl : y = 0 := ey.trans (by decide)
  refine lv_iconst (pc := 72) (v := 4) hx hb d_TypeFinderModel_setName_72 (by decide) ?_
  refine lv_iadd (pc := 73) hx hb d_TypeFinderModel_setName_73 ?_
  refine lv_topi (fun y ey => ?_)
  obtain rfl : y = 4 := ey.trans (by decide)
  refine lv_iload (pc := 74) hx hb d_TypeFinderModel_setName_74 (lv_at hl 6 rfl) ?_
  refine xb_iastF (pc := 76) (ws' := fun f76_7 => [(h0, .inr (14, [f0, f1, f2, f3, f4, f5, f6, f7, f8, f9, .ref r1, .ref r2, .ref r3, f13, f14, f15, f16, f17, f18, f19, f20, f21, f22, f23, f24, f25, f26, f27, f28, f29, f30, f31, f32, f33, f34, f35, f36, f37, f38, f39, f40, f41, f42, f43, f44, f45, f46, f47, f48, f49, f50, f51, f52, f53, f54, f55, f56, f57, f58, f59, f60, f61, f62, f63, f64, f65, f66, f67, f68, f69, f70, f71, f72, f73, f74, f75, f76, f77, f78, f79])), (r1, .inl (G.2.1 0, 30, .inl (f8_1))), (r2, .inl (G.2.1 0, 30, .inl (f15_2))), (r3, .inl (G.2.1 0, 720, .inl (f76_7)))]) F h 3 0 rfl rfl (by unfold vp_in; decide) (fun _ => rfl) d_TypeFinderModel_setName_76 (fun f76_7 H locs h => ?_)
  exact xb_vret (pc := 77) (rm := rm_setName_0) F hr hlk hA hQ h (f8_1, f15_2, f76_7) trivial rfl [0, 1, 2, 3] (by decide) rfl (by decide) (by decide) d_TypeFinderModel_setName_77
abbrev rm_setName_1 : Room := { frames := 0, cells := 0, slots := 0, locals := 30 }
set_option maxHeartbeats 4000000 in
set_option maxRecDepth 100000 in
theorem ct_setName_1 (l : Launch) (G : xb_EV) (h0 : Nat) (r1 : Nat) (r2 : Nat) (r3 : Nat) (g1 : Nat → Int32) (g2 : Nat → Int32) (g3 : Nat → Int32) (f0 : Value) (f1 : Value) (f2 : Value) (f3 : Value) (f4 : Value) (f5 : Value) (f6 : Value) (f7 : Value) (f8 : Value) (f9 : Value) (f13 : Value) (f14 : Value) (f15 : Value) (f16 : Value) (f17 : Value) (f18 : Value) (f19 : Value) (f20 : Value) (f21 : Value) (f22 : Value) (f23 : Value) (f24 : Value) (f25 : Value) (f26 : Value) (f27 : Value) (f28 : Value) (f29 : Value) (f30 : Value) (f31 : Value) (f32 : Value) (f33 : Value) (f34 : Value) (f35 : Value) (f36 : Value) (f37 : Value) (f38 : Value) (f39 : Value) (f40 : Value) (f41 : Value) (f42 : Value) (f43 : Value) (f44 : Value) (f45 : Value) (f46 : Value) (f47 : Value) (f48 : Value) (f49 : Value) (f50 : Value) (f51 : Value) (f52 : Value) (f53 : Value) (f54 : Value) (f55 : Value) (f56 : Value) (f57 : Value) (f58 : Value) (f59 : Value) (f60 : Value) (f61 : Value) (f62 : Value) (f63 : Value) (f64 : Value) (f65 : Value) (f66 : Value) (f67 : Value) (f68 : Value) (f69 : Value) (f70 : Value) (f71 : Value) (f72 : Value) (f73 : Value) (f74 : Value) (f75 : Value) (f76 : Value) (f77 : Value) (f78 : Value) (f79 : Value) : xb_CT l y_TypeFinderModel_setName b_TypeFinderModel_setName 7 none rm_setName_1 G [] [.ref h0, .int 1, .int 2, .int 1, .int 2, .int 1, .int 1] [(h0, .inr (14, [f0, f1, f2, f3, f4, f5, f6, f7, f8, f9, .ref r1, .ref r2, .ref r3, f13, f14, f15, f16, f17, f18, f19, f20, f21, f22, f23, f24, f25, f26, f27, f28, f29, f30, f31, f32, f33, f34, f35, f36, f37, f38, f39, f40, f41, f42, f43, f44, f45, f46, f47, f48, f49, f50, f51, f52, f53, f54, f55, f56, f57, f58, f59, f60, f61, f62, f63, f64, f65, f66, f67, f68, f69, f70, f71, f72, f73, f74, f75, f76, f77, f78, f79])), (r1, .inl (G.2.1 0, 30, .inl (g1))), (r2, .inl (G.2.1 0, 30, .inl (g2))), (r3, .inl (G.2.1 0, 720, .inl (g3)))] (S := (Nat → Int32) × (Nat → Int32) × (Nat → Int32)) (fun _ => none) (fun _ => True) (fun u => [(h0, .inr (14, [f0, f1, f2, f3, f4, f5, f6, f7, f8, f9, .ref r1, .ref r2, .ref r3, f13, f14, f15, f16, f17, f18, f19, f20, f21, f22, f23, f24, f25, f26, f27, f28, f29, f30, f31, f32, f33, f34, f35, f36, f37, f38, f39, f40, f41, f42, f43, f44, f45, f46, f47, f48, f49, f50, f51, f52, f53, f54, f55, f56, f57, f58, f59, f60, f61, f62, f63, f64, f65, f66, f67, f68, f69, f70, f71, f72, f73, f74, f75, f76, f77, f78, f79])), (r1, .inl (G.2.1 0, 30, .inl (u.1))), (r2, .inl (G.2.1 0, 30, .inl (u.2.1))), (r3, .inl (G.2.1 0, 720, .inl (u.2.2)))]) := by
  refine xb_CT.of (by decide) "TypeFinderModel" rfl ?_ (Nat.le_of_ble_eq_true rfl)
  intro p e s m args below meth c A ls Q F hr hlk hnm h hl hA hQ
  have hx := F.1.1
  have hb := F.1.2.1
  have hml := F.1.2.2.1
  have hown := F.1.2.2.2.1
  have hts := F.1.2.2.2.2
  have hK := F.2.1
  refine lv_aload_n (pc := 0) hx hb d_TypeFinderModel_setName_0 rfl (lv_at hl 0 rfl) ?_
  refine xb_get (pc := 1) F h cf_14 0 rfl 10 (by decide) rfl k_228 (Or.inl rfl) rfl d_TypeFinderModel_setName_1 ?_
  refine lv_iload_n (pc := 4) hx hb d_TypeFinderModel_setName_4 rfl (lv_at hl 1 rfl) ?_
  refine lv_iconst (pc := 5) (v := (-1)) hx hb d_TypeFinderModel_setName_5 (by decide) ?_
  refine lv_iload_n (pc := 6) hx hb d_TypeFinderModel_setName_6 rfl (lv_at hl 1 rfl) ?_
  refine lv_isub (pc := 7) hx hb d_TypeFinderModel_setName_7 ?_
  refine lv_topi (fun y ey => ?_)
  obtain rfl : y = (-2) := ey.trans (by decide)
  refine xb_iastF (pc := 8) (ws' := fun f8_1 => [(h0, .inr (14, [f0, f1, f2, f3, f4, f5, f6, f7, f8, f9, .ref r1, .ref r2, .ref r3, f13, f14, f15, f16, f17, f18, f19, f20, f21, f22, f23, f24, f25, f26, f27, f28, f29, f30, f31, f32, f33, f34, f35, f36, f37, f38, f39, f40, f41, f42, f43, f44, f45, f46, f47, f48, f49, f50, f51, f52, f53, f54, f55, f56, f57, f58, f59, f60, f61, f62, f63, f64, f65, f66, f67, f68, f69, f70, f71, f72, f73, f74, f75, f76, f77, f78, f79])), (r1, .inl (G.2.1 0, 30, .inl (f8_1))), (r2, .inl (G.2.1 0, 30, .inl (g2))), (r3, .inl (G.2.1 0, 720, .inl (g3)))]) F h 1 0 rfl rfl (by unfold vp_in; decide) (fun _ => rfl) d_TypeFinderModel_setName_8 (fun f8_1 H locs h => ?_)
  refine lv_aload_n (pc := 9) hx hb d_TypeFinderModel_setName_9 rfl (lv_at hl 0 rfl) ?_
  refine xb_get (pc := 10) F h cf_14 0 rfl 11 (by decide) rfl k_229 (Or.inl rfl) rfl d_TypeFinderModel_setName_10 ?_
  refine lv_iload_n (pc := 13) hx hb d_TypeFinderModel_setName_13 rfl (lv_at hl 1 rfl) ?_
  refine lv_iconst (pc := 14) (v := 5) hx hb d_TypeFinderModel_setName_14 (by decide) ?_
  refine xb_iastF (pc := 15) (ws' := fun f15_2 => [(h0, .inr (14, [f0, f1, f2, f3, f4, f5, f6, f7, f8, f9, .ref r1, .ref r2, .ref r3, f13, f14, f15, f16, f17, f18, f19, f20, f21, f22, f23, f24, f25, f26, f27, f28, f29, f30, f31, f32, f33, f34, f35, f36, f37, f38, f39, f40, f41, f42, f43, f44, f45, f46, f47, f48, f49, f50, f51, f52, f53, f54, f55, f56, f57, f58, f59, f60, f61, f62, f63, f64, f65, f66, f67, f68, f69, f70, f71, f72, f73, f74, f75, f76, f77, f78, f79])), (r1, .inl (G.2.1 0, 30, .inl (f8_1))), (r2, .inl (G.2.1 0, 30, .inl (f15_2))), (r3, .inl (G.2.1 0, 720, .inl (g3)))]) F h 2 0 rfl rfl (by unfold vp_in; decide) (fun _ => rfl) d_TypeFinderModel_setName_15 (fun f15_2 H locs h => ?_)
  refine lv_aload_n (pc := 16) hx hb d_TypeFinderModel_setName_16 rfl (lv_at hl 0 rfl) ?_
  refine xb_get (pc := 17) F h cf_14 0 rfl 12 (by decide) rfl k_230 (Or.inl rfl) rfl d_TypeFinderModel_setName_17 ?_
  refine lv_bipush (pc := 20) (v := 24) hx hb d_TypeFinderModel_setName_20 (by decide) ?_
  refine lv_iload_n (pc := 22) hx hb d_TypeFinderModel_setName_22 rfl (lv_at hl 1 rfl) ?_
  refine lv_imul (pc := 23) hx hb d_TypeFinderModel_setName_23 ?_
  refine lv_topi (fun y ey => ?_)
  obtain rfl : y = 24 := ey.trans (by decide)
  refine lv_iload_n (pc := 24) hx hb d_TypeFinderModel_setName_24 rfl (lv_at hl 2 rfl) ?_
  refine xb_iastF (pc := 25) (ws' := fun f25_3 => [(h0, .inr (14, [f0, f1, f2, f3, f4, f5, f6, f7, f8, f9, .ref r1, .ref r2, .ref r3, f13, f14, f15, f16, f17, f18, f19, f20, f21, f22, f23, f24, f25, f26, f27, f28, f29, f30, f31, f32, f33, f34, f35, f36, f37, f38, f39, f40, f41, f42, f43, f44, f45, f46, f47, f48, f49, f50, f51, f52, f53, f54, f55, f56, f57, f58, f59, f60, f61, f62, f63, f64, f65, f66, f67, f68, f69, f70, f71, f72, f73, f74, f75, f76, f77, f78, f79])), (r1, .inl (G.2.1 0, 30, .inl (f8_1))), (r2, .inl (G.2.1 0, 30, .inl (f15_2))), (r3, .inl (G.2.1 0, 720, .inl (f25_3)))]) F h 3 0 rfl rfl (by unfold vp_in; decide) (fun _ => rfl) d_TypeFinderModel_setName_25 (fun f25_3 H locs h => ?_)
  refine lv_aload_n (pc := 26) hx hb d_TypeFinderModel_setName_26 rfl (lv_at hl 0 rfl) ?_
  refine xb_get (pc := 27) F h cf_14 0 rfl 12 (by decide) rfl k_230 (Or.inl rfl) rfl d_TypeFinderModel_setName_27 ?_
  refine lv_bipush (pc := 30) (v := 24) hx hb d_TypeFinderModel_setName_30 (by decide) ?_
  refine lv_iload_n (pc := 32) hx hb d_TypeFinderModel_setName_32 rfl (lv_at hl 1 rfl) ?_
  refine lv_imul (pc := 33) hx hb d_TypeFinderModel_setName_33 ?_
  refine lv_topi (fun y ey => ?_)
  obtain rfl : y = 24 := ey.trans (by decide)
  refine lv_iconst (pc := 34) (v := 1) hx hb d_TypeFinderModel_setName_34 (by decide) ?_
  refine lv_iadd (pc := 35) hx hb d_TypeFinderModel_setName_35 ?_
  refine lv_topi (fun y ey => ?_)
  obtain rfl : y = 25 := ey.trans (by decide)
  refine lv_iload_n (pc := 36) hx hb d_TypeFinderModel_setName_36 rfl (lv_at hl 3 rfl) ?_
  refine xb_iastF (pc := 37) (ws' := fun f37_4 => [(h0, .inr (14, [f0, f1, f2, f3, f4, f5, f6, f7, f8, f9, .ref r1, .ref r2, .ref r3, f13, f14, f15, f16, f17, f18, f19, f20, f21, f22, f23, f24, f25, f26, f27, f28, f29, f30, f31, f32, f33, f34, f35, f36, f37, f38, f39, f40, f41, f42, f43, f44, f45, f46, f47, f48, f49, f50, f51, f52, f53, f54, f55, f56, f57, f58, f59, f60, f61, f62, f63, f64, f65, f66, f67, f68, f69, f70, f71, f72, f73, f74, f75, f76, f77, f78, f79])), (r1, .inl (G.2.1 0, 30, .inl (f8_1))), (r2, .inl (G.2.1 0, 30, .inl (f15_2))), (r3, .inl (G.2.1 0, 720, .inl (f37_4)))]) F h 3 0 rfl rfl (by unfold vp_in; decide) (fun _ => rfl) d_TypeFinderModel_setName_37 (fun f37_4 H locs h => ?_)
  refine lv_aload_n (pc := 38) hx hb d_TypeFinderModel_setName_38 rfl (lv_at hl 0 rfl) ?_
  refine xb_get (pc := 39) F h cf_14 0 rfl 12 (by decide) rfl k_230 (Or.inl rfl) rfl d_TypeFinderModel_setName_39 ?_
  refine lv_bipush (pc := 42) (v := 24) hx hb d_TypeFinderModel_setName_42 (by decide) ?_
  refine lv_iload_n (pc := 44) hx hb d_TypeFinderModel_setName_44 rfl (lv_at hl 1 rfl) ?_
  refine lv_imul (pc := 45) hx hb d_TypeFinderModel_setName_45 ?_
  refine lv_topi (fun y ey => ?_)
  obtain rfl : y = 24 := ey.trans (by decide)
  refine lv_iconst (pc := 46) (v := 2) hx hb d_TypeFinderModel_setName_46 (by decide) ?_
  refine lv_iadd (pc := 47) hx hb d_TypeFinderModel_setName_47 ?_
  refine lv_topi (fun y ey => ?_)
  obtain rfl : y = 26 := ey.trans (by decide)
  refine lv_iload (pc := 48) hx hb d_TypeFinderModel_setName_48 (lv_at hl 4 rfl) ?_
  refine xb_iastF (pc := 50) (ws' := fun f50_5 => [(h0, .inr (14, [f0, f1, f2, f3, f4, f5, f6, f7, f8, f9, .ref r1, .ref r2, .ref r3, f13, f14, f15, f16, f17, f18, f19, f20, f21, f22, f23, f24, f25, f26, f27, f28, f29, f30, f31, f32, f33, f34, f35, f36, f37, f38, f39, f40, f41, f42, f43, f44, f45, f46, f47, f48, f49, f50, f51, f52, f53, f54, f55, f56, f57, f58, f59, f60, f61, f62, f63, f64, f65, f66, f67, f68, f69, f70, f71, f72, f73, f74, f75, f76, f77, f78, f79])), (r1, .inl (G.2.1 0, 30, .inl (f8_1))), (r2, .inl (G.2.1 0, 30, .inl (f15_2))), (r3, .inl (G.2.1 0, 720, .inl (f50_5)))]) F h 3 0 rfl rfl (by unfold vp_in; decide) (fun _ => rfl) d_TypeFinderModel_setName_50 (fun f50_5 H locs h => ?_)
  refine lv_aload_n (pc := 51) hx hb d_TypeFinderModel_setName_51 rfl (lv_at hl 0 rfl) ?_
  refine xb_get (pc := 52) F h cf_14 0 rfl 12 (by decide) rfl k_230 (Or.inl rfl) rfl d_TypeFinderModel_setName_52 ?_
  refine lv_bipush (pc := 55) (v := 24) hx hb d_TypeFinderModel_setName_55 (by decide) ?_
  refine lv_iload_n (pc := 57) hx hb d_TypeFinderModel_setName_57 rfl (lv_at hl 1 rfl) ?_
  refine lv_imul (pc := 58) hx hb d_TypeFinderModel_setName_58 ?_
  refine lv_topi (fun y ey => ?_)
  obtain rfl : y = 24 := ey.trans (by decide)
  refine lv_iconst (pc := 59) (v := 3) hx hb d_TypeFinderModel_setName_59 (by decide) ?_
  refine lv_iadd (pc := 60) hx hb d_TypeFinderModel_setName_60 ?_
  refine lv_topi (fun y ey => ?_)
  obtain rfl : y = 27 := ey.trans (by decide)
  refine lv_iload (pc := 61) hx hb d_TypeFinderModel_setName_61 (lv_at hl 5 rfl) ?_
  refine xb_iastF (pc := 63) (ws' := fun f63_6 => [(h0, .inr (14, [f0, f1, f2, f3, f4, f5, f6, f7, f8, f9, .ref r1, .ref r2, .ref r3, f13, f14, f15, f16, f17, f18, f19, f20, f21, f22, f23, f24, f25, f26, f27, f28, f29, f30, f31, f32, f33, f34, f35, f36, f37, f38, f39, f40, f41, f42, f43, f44, f45, f46, f47, f48, f49, f50, f51, f52, f53, f54, f55, f56, f57, f58, f59, f60, f61, f62, f63, f64, f65, f66, f67, f68, f69, f70, f71, f72, f73, f74, f75, f76, f77, f78, f79])), (r1, .inl (G.2.1 0, 30, .inl (f8_1))), (r2, .inl (G.2.1 0, 30, .inl (f15_2))), (r3, .inl (G.2.1 0, 720, .inl (f63_6)))]) F h 3 0 rfl rfl (by unfold vp_in; decide) (fun _ => rfl) d_TypeFinderModel_setName_63 (fun f63_6 H locs h => ?_)
  refine lv_aload_n (pc := 64) hx hb d_TypeFinderModel_setName_64 rfl (lv_at hl 0 rfl) ?_
  refine xb_get (pc := 65) F h cf_14 0 rfl 12 (by decide) rfl k_230 (Or.inl rfl) rfl d_TypeFinderModel_setName_65 ?_
  refine lv_bipush (pc := 68) (v := 24) hx hb d_TypeFinderModel_setName_68 (by decide) ?_
  refine lv_iload_n (pc := 70) hx hb d_TypeFinderModel_setName_70 rfl (lv_at hl 1 rfl) ?_
  refine lv_imul (pc := 71) hx hb d_TypeFinderModel_setName_71 ?_
  refine lv_topi (fun y ey => ?_)
  obtain rfl : y = 24 := ey.trans (by decide)
  refine lv_iconst (pc := 72) (v := 4) hx hb d_TypeFinderModel_setName_72 (by decide) ?_
  refine lv_iadd (pc := 73) hx hb d_TypeFinderModel_setName_73 ?_
  refine lv_topi (fun y ey => ?_)
  obtain rfl : y = 28 := ey.trans (by decide)
  refine lv_iload (pc := 74) hx hb d_TypeFinderModel_setName_74 (lv_at hl 6 rfl) ?_
  refine xb_iastF (pc := 76) (ws' := fun f76_7 => [(h0, .inr (14, [f0, f1, f2, f3, f4, f5, f6, f7, f8, f9, .ref r1, .ref r2, .ref r3, f13, f14, f15, f16, f17, f18, f19, f20, f21, f22, f23, f24, f25, f26, f27, f28, f29, f30, f31, f32, f33, f34, f35, f36, f37, f38, f39, f40, f41, f42, f43, f44, f45, f46, f47, f48, f49, f50, f51, f52, f53, f54, f55, f56, f57, f58, f59, f60, f61, f62, f63, f64, f65, f66, f67, f68, f69, f70, f71, f72, f73, f74, f75, f76, f77, f78, f79])), (r1, .inl (G.2.1 0, 30, .inl (f8_1))), (r2, .inl (G.2.1 0, 30, .inl (f15_2))), (r3, .inl (G.2.1 0, 720, .inl (f76_7)))]) F h 3 0 rfl rfl (by unfold vp_in; decide) (fun _ => rfl) d_TypeFinderModel_setName_76 (fun f76_7 H locs h => ?_)
  exact xb_vret (pc := 77) (rm := rm_setName_1) F hr hlk hA hQ h (f8_1, f15_2, f76_7) trivial rfl [0, 1, 2, 3] (by decide) rfl (by decide) (by decide) d_TypeFinderModel_setName_77
abbrev rm_setName_2 : Room := { frames := 0, cells := 0, slots := 0, locals := 30 }
set_option maxHeartbeats 4000000 in
set_option maxRecDepth 100000 in
theorem ct_setName_2 (l : Launch) (G : xb_EV) (h0 : Nat) (r1 : Nat) (r2 : Nat) (r3 : Nat) (g1 : Nat → Int32) (g2 : Nat → Int32) (g3 : Nat → Int32) (f0 : Value) (f1 : Value) (f2 : Value) (f3 : Value) (f4 : Value) (f5 : Value) (f6 : Value) (f7 : Value) (f8 : Value) (f9 : Value) (f13 : Value) (f14 : Value) (f15 : Value) (f16 : Value) (f17 : Value) (f18 : Value) (f19 : Value) (f20 : Value) (f21 : Value) (f22 : Value) (f23 : Value) (f24 : Value) (f25 : Value) (f26 : Value) (f27 : Value) (f28 : Value) (f29 : Value) (f30 : Value) (f31 : Value) (f32 : Value) (f33 : Value) (f34 : Value) (f35 : Value) (f36 : Value) (f37 : Value) (f38 : Value) (f39 : Value) (f40 : Value) (f41 : Value) (f42 : Value) (f43 : Value) (f44 : Value) (f45 : Value) (f46 : Value) (f47 : Value) (f48 : Value) (f49 : Value) (f50 : Value) (f51 : Value) (f52 : Value) (f53 : Value) (f54 : Value) (f55 : Value) (f56 : Value) (f57 : Value) (f58 : Value) (f59 : Value) (f60 : Value) (f61 : Value) (f62 : Value) (f63 : Value) (f64 : Value) (f65 : Value) (f66 : Value) (f67 : Value) (f68 : Value) (f69 : Value) (f70 : Value) (f71 : Value) (f72 : Value) (f73 : Value) (f74 : Value) (f75 : Value) (f76 : Value) (f77 : Value) (f78 : Value) (f79 : Value) : xb_CT l y_TypeFinderModel_setName b_TypeFinderModel_setName 7 none rm_setName_2 G [] [.ref h0, .int 2, .int 2, .int 1, .int 2, .int 1, .int 1] [(h0, .inr (14, [f0, f1, f2, f3, f4, f5, f6, f7, f8, f9, .ref r1, .ref r2, .ref r3, f13, f14, f15, f16, f17, f18, f19, f20, f21, f22, f23, f24, f25, f26, f27, f28, f29, f30, f31, f32, f33, f34, f35, f36, f37, f38, f39, f40, f41, f42, f43, f44, f45, f46, f47, f48, f49, f50, f51, f52, f53, f54, f55, f56, f57, f58, f59, f60, f61, f62, f63, f64, f65, f66, f67, f68, f69, f70, f71, f72, f73, f74, f75, f76, f77, f78, f79])), (r1, .inl (G.2.1 0, 30, .inl (g1))), (r2, .inl (G.2.1 0, 30, .inl (g2))), (r3, .inl (G.2.1 0, 720, .inl (g3)))] (S := (Nat → Int32) × (Nat → Int32) × (Nat → Int32)) (fun _ => none) (fun _ => True) (fun u => [(h0, .inr (14, [f0, f1, f2, f3, f4, f5, f6, f7, f8, f9, .ref r1, .ref r2, .ref r3, f13, f14, f15, f16, f17, f18, f19, f20, f21, f22, f23, f24, f25, f26, f27, f28, f29, f30, f31, f32, f33, f34, f35, f36, f37, f38, f39, f40, f41, f42, f43, f44, f45, f46, f47, f48, f49, f50, f51, f52, f53, f54, f55, f56, f57, f58, f59, f60, f61, f62, f63, f64, f65, f66, f67, f68, f69, f70, f71, f72, f73, f74, f75, f76, f77, f78, f79])), (r1, .inl (G.2.1 0, 30, .inl (u.1))), (r2, .inl (G.2.1 0, 30, .inl (u.2.1))), (r3, .inl (G.2.1 0, 720, .inl (u.2.2)))]) := by
  refine xb_CT.of (by decide) "TypeFinderModel" rfl ?_ (Nat.le_of_ble_eq_true rfl)
  intro p e s m args below meth c A ls Q F hr hlk hnm h hl hA hQ
  have hx := F.1.1
  have hb := F.1.2.1
  have hml := F.1.2.2.1
  have hown := F.1.2.2.2.1
  have hts := F.1.2.2.2.2
  have hK := F.2.1
  refine lv_aload_n (pc := 0) hx hb d_TypeFinderModel_setName_0 rfl (lv_at hl 0 rfl) ?_
  refine xb_get (pc := 1) F h cf_14 0 rfl 10 (by decide) rfl k_228 (Or.inl rfl) rfl d_TypeFinderModel_setName_1 ?_
  refine lv_iload_n (pc := 4) hx hb d_TypeFinderModel_setName_4 rfl (lv_at hl 1 rfl) ?_
  refine lv_iconst (pc := 5) (v := (-1)) hx hb d_TypeFinderModel_setName_5 (by decide) ?_
  refine lv_iload_n (pc := 6) hx hb d_TypeFinderModel_setName_6 rfl (lv_at hl 1 rfl) ?_
  refine lv_isub (pc := 7) hx hb d_TypeFinderModel_setName_7 ?_
  refine lv_topi (fun y ey => ?_)
  obtain rfl : y = (-3) := ey.trans (by decide)
  refine xb_iastF (pc := 8) (ws' := fun f8_1 => [(h0, .inr (14, [f0, f1, f2, f3, f4, f5, f6, f7, f8, f9, .ref r1, .ref r2, .ref r3, f13, f14, f15, f16, f17, f18, f19, f20, f21, f22, f23, f24, f25, f26, f27, f28, f29, f30, f31, f32, f33, f34, f35, f36, f37, f38, f39, f40, f41, f42, f43, f44, f45, f46, f47, f48, f49, f50, f51, f52, f53, f54, f55, f56, f57, f58, f59, f60, f61, f62, f63, f64, f65, f66, f67, f68, f69, f70, f71, f72, f73, f74, f75, f76, f77, f78, f79])), (r1, .inl (G.2.1 0, 30, .inl (f8_1))), (r2, .inl (G.2.1 0, 30, .inl (g2))), (r3, .inl (G.2.1 0, 720, .inl (g3)))]) F h 1 0 rfl rfl (by unfold vp_in; decide) (fun _ => rfl) d_TypeFinderModel_setName_8 (fun f8_1 H locs h => ?_)
  refine lv_aload_n (pc := 9) hx hb d_TypeFinderModel_setName_9 rfl (lv_at hl 0 rfl) ?_
  refine xb_get (pc := 10) F h cf_14 0 rfl 11 (by decide) rfl k_229 (Or.inl rfl) rfl d_TypeFinderModel_setName_10 ?_
  refine lv_iload_n (pc := 13) hx hb d_TypeFinderModel_setName_13 rfl (lv_at hl 1 rfl) ?_
  refine lv_iconst (pc := 14) (v := 5) hx hb d_TypeFinderModel_setName_14 (by decide) ?_
  refine xb_iastF (pc := 15) (ws' := fun f15_2 => [(h0, .inr (14, [f0, f1, f2, f3, f4, f5, f6, f7, f8, f9, .ref r1, .ref r2, .ref r3, f13, f14, f15, f16, f17, f18, f19, f20, f21, f22, f23, f24, f25, f26, f27, f28, f29, f30, f31, f32, f33, f34, f35, f36, f37, f38, f39, f40, f41, f42, f43, f44, f45, f46, f47, f48, f49, f50, f51, f52, f53, f54, f55, f56, f57, f58, f59, f60, f61, f62, f63, f64, f65, f66, f67, f68, f69, f70, f71, f72, f73, f74, f75, f76, f77, f78, f79])), (r1, .inl (G.2.1 0, 30, .inl (f8_1))), (r2, .inl (G.2.1 0, 30, .inl (f15_2))), (r3, .inl (G.2.1 0, 720, .inl (g3)))]) F h 2 0 rfl rfl (by unfold vp_in; decide) (fun _ => rfl) d_TypeFinderModel_setName_15 (fun f15_2 H locs h => ?_)
  refine lv_aload_n (pc := 16) hx hb d_TypeFinderModel_setName_16 rfl (lv_at hl 0 rfl) ?_
  refine xb_get (pc := 17) F h cf_14 0 rfl 12 (by decide) rfl k_230 (Or.inl rfl) rfl d_TypeFinderModel_setName_17 ?_
  refine lv_bipush (pc := 20) (v := 24) hx hb d_TypeFinderModel_setName_20 (by decide) ?_
  refine lv_iload_n (pc := 22) hx hb d_TypeFinderModel_setName_22 rfl (lv_at hl 1 rfl) ?_
  refine lv_imul (pc := 23) hx hb d_TypeFinderModel_setName_23 ?_
  refine lv_topi (fun y ey => ?_)
  obtain rfl : y = 48 := ey.trans (by decide)
  refine lv_iload_n (pc := 24) hx hb d_TypeFinderModel_setName_24 rfl (lv_at hl 2 rfl) ?_
  refine xb_iastF (pc := 25) (ws' := fun f25_3 => [(h0, .inr (14, [f0, f1, f2, f3, f4, f5, f6, f7, f8, f9, .ref r1, .ref r2, .ref r3, f13, f14, f15, f16, f17, f18, f19, f20, f21, f22, f23, f24, f25, f26, f27, f28, f29, f30, f31, f32, f33, f34, f35, f36, f37, f38, f39, f40, f41, f42, f43, f44, f45, f46, f47, f48, f49, f50, f51, f52, f53, f54, f55, f56, f57, f58, f59, f60, f61, f62, f63, f64, f65, f66, f67, f68, f69, f70, f71, f72, f73, f74, f75, f76, f77, f78, f79])), (r1, .inl (G.2.1 0, 30, .inl (f8_1))), (r2, .inl (G.2.1 0, 30, .inl (f15_2))), (r3, .inl (G.2.1 0, 720, .inl (f25_3)))]) F h 3 0 rfl rfl (by unfold vp_in; decide) (fun _ => rfl) d_TypeFinderModel_setName_25 (fun f25_3 H locs h => ?_)
  refine lv_aload_n (pc := 26) hx hb d_TypeFinderModel_setName_26 rfl (lv_at hl 0 rfl) ?_
  refine xb_get (pc := 27) F h cf_14 0 rfl 12 (by decide) rfl k_230 (Or.inl rfl) rfl d_TypeFinderModel_setName_27 ?_
  refine lv_bipush (pc := 30) (v := 24) hx hb d_TypeFinderModel_setName_30 (by decide) ?_
  refine lv_iload_n (pc := 32) hx hb d_TypeFinderModel_setName_32 rfl (lv_at hl 1 rfl) ?_
  refine lv_imul (pc := 33) hx hb d_TypeFinderModel_setName_33 ?_
  refine lv_topi (fun y ey => ?_)
  obtain rfl : y = 48 := ey.trans (by decide)
  refine lv_iconst (pc := 34) (v := 1) hx hb d_TypeFinderModel_setName_34 (by decide) ?_
  refine lv_iadd (pc := 35) hx hb d_TypeFinderModel_setName_35 ?_
  refine lv_topi (fun y ey => ?_)
  obtain rfl : y = 49 := ey.trans (by decide)
  refine lv_iload_n (pc := 36) hx hb d_TypeFinderModel_setName_36 rfl (lv_at hl 3 rfl) ?_
  refine xb_iastF (pc := 37) (ws' := fun f37_4 => [(h0, .inr (14, [f0, f1, f2, f3, f4, f5, f6, f7, f8, f9, .ref r1, .ref r2, .ref r3, f13, f14, f15, f16, f17, f18, f19, f20, f21, f22, f23, f24, f25, f26, f27, f28, f29, f30, f31, f32, f33, f34, f35, f36, f37, f38, f39, f40, f41, f42, f43, f44, f45, f46, f47, f48, f49, f50, f51, f52, f53, f54, f55, f56, f57, f58, f59, f60, f61, f62, f63, f64, f65, f66, f67, f68, f69, f70, f71, f72, f73, f74, f75, f76, f77, f78, f79])), (r1, .inl (G.2.1 0, 30, .inl (f8_1))), (r2, .inl (G.2.1 0, 30, .inl (f15_2))), (r3, .inl (G.2.1 0, 720, .inl (f37_4)))]) F h 3 0 rfl rfl (by unfold vp_in; decide) (fun _ => rfl) d_TypeFinderModel_setName_37 (fun f37_4 H locs h => ?_)
  refine lv_aload_n (pc := 38) hx hb d_TypeFinderModel_setName_38 rfl (lv_at hl 0 rfl) ?_
  refine xb_get (pc := 39) F h cf_14 0 rfl 12 (by decide) rfl k_230 (Or.inl rfl) rfl d_TypeFinderModel_setName_39 ?_
  refine lv_bipush (pc := 42) (v := 24) hx hb d_TypeFinderModel_setName_42 (by decide) ?_
  refine lv_iload_n (pc := 44) hx hb d_TypeFinderModel_setName_44 rfl (lv_at hl 1 rfl) ?_
  refine lv_imul (pc := 45) hx hb d_TypeFinderModel_setName_45 ?_
  refine lv_topi (fun y ey => ?_)
  obtain rfl : y = 48 := ey.trans (by decide)
  refine lv_iconst (pc := 46) (v := 2) hx hb d_TypeFinderModel_setName_46 (by decide) ?_
  refine lv_iadd (pc := 47) hx hb d_TypeFinderModel_setName_47 ?_
  refine lv_topi (fun y ey => ?_)
  obtain rfl : y = 50 := ey.trans (by decide)
  refine lv_iload (pc := 48) hx hb d_TypeFinderModel_setName_48 (lv_at hl 4 rfl) ?_
  refine xb_iastF (pc := 50) (ws' := fun f50_5 => [(h0, .inr (14, [f0, f1, f2, f3, f4, f5, f6, f7, f8, f9, .ref r1, .ref r2, .ref r3, f13, f14, f15, f16, f17, f18, f19, f20, f21, f22, f23, f24, f25, f26, f27, f28, f29, f30, f31, f32, f33, f34, f35, f36, f37, f38, f39, f40, f41, f42, f43, f44, f45, f46, f47, f48, f49, f50, f51, f52, f53, f54, f55, f56, f57, f58, f59, f60, f61, f62, f63, f64, f65, f66, f67, f68, f69, f70, f71, f72, f73, f74, f75, f76, f77, f78, f79])), (r1, .inl (G.2.1 0, 30, .inl (f8_1))), (r2, .inl (G.2.1 0, 30, .inl (f15_2))), (r3, .inl (G.2.1 0, 720, .inl (f50_5)))]) F h 3 0 rfl rfl (by unfold vp_in; decide) (fun _ => rfl) d_TypeFinderModel_setName_50 (fun f50_5 H locs h => ?_)
  refine lv_aload_n (pc := 51) hx hb d_TypeFinderModel_setName_51 rfl (lv_at hl 0 rfl) ?_
  refine xb_get (pc := 52) F h cf_14 0 rfl 12 (by decide) rfl k_230 (Or.inl rfl) rfl d_TypeFinderModel_setName_52 ?_
  refine lv_bipush (pc := 55) (v := 24) hx hb d_TypeFinderModel_setName_55 (by decide) ?_
  refine lv_iload_n (pc := 57) hx hb d_TypeFinderModel_setName_57 rfl (lv_at hl 1 rfl) ?_
  refine lv_imul (pc := 58) hx hb d_TypeFinderModel_setName_58 ?_
  refine lv_topi (fun y ey => ?_)
  obtain rfl : y = 48 := ey.trans (by decide)
  refine lv_iconst (pc := 59) (v := 3) hx hb d_TypeFinderModel_setName_59 (by decide) ?_
  refine lv_iadd (pc := 60) hx hb d_TypeFinderModel_setName_60 ?_
  refine lv_topi (fun y ey => ?_)
  obtain rfl : y = 51 := ey.trans (by decide)
  refine lv_iload (pc := 61) hx hb d_TypeFinderModel_setName_61 (lv_at hl 5 rfl) ?_
  refine xb_iastF (pc := 63) (ws' := fun f63_6 => [(h0, .inr (14, [f0, f1, f2, f3, f4, f5, f6, f7, f8, f9, .ref r1, .ref r2, .ref r3, f13, f14, f15, f16, f17, f18, f19, f20, f21, f22, f23, f24, f25, f26, f27, f28, f29, f30, f31, f32, f33, f34, f35, f36, f37, f38, f39, f40, f41, f42, f43, f44, f45, f46, f47, f48, f49, f50, f51, f52, f53, f54, f55, f56, f57, f58, f59, f60, f61, f62, f63, f64, f65, f66, f67, f68, f69, f70, f71, f72, f73, f74, f75, f76, f77, f78, f79])), (r1, .inl (G.2.1 0, 30, .inl (f8_1))), (r2, .inl (G.2.1 0, 30, .inl (f15_2))), (r3, .inl (G.2.1 0, 720, .inl (f63_6)))]) F h 3 0 rfl rfl (by unfold vp_in; decide) (fun _ => rfl) d_TypeFinderModel_setName_63 (fun f63_6 H locs h => ?_)
  refine lv_aload_n (pc := 64) hx hb d_TypeFinderModel_setName_64 rfl (lv_at hl 0 rfl) ?_
  refine xb_get (pc := 65) F h cf_14 0 rfl 12 (by decide) rfl k_230 (Or.inl rfl) rfl d_TypeFinderModel_setName_65 ?_
  refine lv_bipush (pc := 68) (v := 24) hx hb d_TypeFinderModel_setName_68 (by decide) ?_
  refine lv_iload_n (pc := 70) hx hb d_TypeFinderModel_setName_70 rfl (lv_at hl 1 rfl) ?_
  refine lv_imul (pc := 71) hx hb d_TypeFinderModel_setName_71 ?_
  refine lv_topi (fun y ey => ?_)
  obtain rfl : y = 48 := ey.trans (by decide)
  refine lv_iconst (pc := 72) (v := 4) hx hb d_TypeFinderModel_setName_72 (by decide) ?_
  refine lv_iadd (pc := 73) hx hb d_TypeFinderModel_setName_73 ?_
  refine lv_topi (fun y ey => ?_)
  obtain rfl : y = 52 := ey.trans (by decide)
  refine lv_iload (pc := 74) hx hb d_TypeFinderModel_setName_74 (lv_at hl 6 rfl) ?_
  refine xb_iastF (pc := 76) (ws' := fun f76_7 => [(h0, .inr (14, [f0, f1, f2, f3, f4, f5, f6, f7, f8, f9, .ref r1, .ref r2, .ref r3, f13, f14, f15, f16, f17, f18, f19, f20, f21, f22, f23, f24, f25, f26, f27, f28, f29, f30, f31, f32, f33, f34, f35, f36, f37, f38, f39, f40, f41, f42, f43, f44, f45, f46, f47, f48, f49, f50, f51, f52, f53, f54, f55, f56, f57, f58, f59, f60, f61, f62, f63, f64, f65, f66, f67, f68, f69, f70, f71, f72, f73, f74, f75, f76, f77, f78, f79])), (r1, .inl (G.2.1 0, 30, .inl (f8_1))), (r2, .inl (G.2.1 0, 30, .inl (f15_2))), (r3, .inl (G.2.1 0, 720, .inl (f76_7)))]) F h 3 0 rfl rfl (by unfold vp_in; decide) (fun _ => rfl) d_TypeFinderModel_setName_76 (fun f76_7 H locs h => ?_)
  exact xb_vret (pc := 77) (rm := rm_setName_2) F hr hlk hA hQ h (f8_1, f15_2, f76_7) trivial rfl [0, 1, 2, 3] (by decide) rfl (by decide) (by decide) d_TypeFinderModel_setName_77
abbrev rm_setName_3 : Room := { frames := 0, cells := 0, slots := 0, locals := 30 }
set_option maxHeartbeats 4000000 in
set_option maxRecDepth 100000 in
theorem ct_setName_3 (l : Launch) (G : xb_EV) (h0 : Nat) (r1 : Nat) (r2 : Nat) (r3 : Nat) (g1 : Nat → Int32) (g2 : Nat → Int32) (g3 : Nat → Int32) (f0 : Value) (f1 : Value) (f2 : Value) (f3 : Value) (f4 : Value) (f5 : Value) (f6 : Value) (f7 : Value) (f8 : Value) (f9 : Value) (f13 : Value) (f14 : Value) (f15 : Value) (f16 : Value) (f17 : Value) (f18 : Value) (f19 : Value) (f20 : Value) (f21 : Value) (f22 : Value) (f23 : Value) (f24 : Value) (f25 : Value) (f26 : Value) (f27 : Value) (f28 : Value) (f29 : Value) (f30 : Value) (f31 : Value) (f32 : Value) (f33 : Value) (f34 : Value) (f35 : Value) (f36 : Value) (f37 : Value) (f38 : Value) (f39 : Value) (f40 : Value) (f41 : Value) (f42 : Value) (f43 : Value) (f44 : Value) (f45 : Value) (f46 : Value) (f47 : Value) (f48 : Value) (f49 : Value) (f50 : Value) (f51 : Value) (f52 : Value) (f53 : Value) (f54 : Value) (f55 : Value) (f56 : Value) (f57 : Value) (f58 : Value) (f59 : Value) (f60 : Value) (f61 : Value) (f62 : Value) (f63 : Value) (f64 : Value) (f65 : Value) (f66 : Value) (f67 : Value) (f68 : Value) (f69 : Value) (f70 : Value) (f71 : Value) (f72 : Value) (f73 : Value) (f74 : Value) (f75 : Value) (f76 : Value) (f77 : Value) (f78 : Value) (f79 : Value) : xb_CT l y_TypeFinderModel_setName b_TypeFinderModel_setName 7 none rm_setName_3 G [] [.ref h0, .int 3, .int 2, .int 1, .int 2, .int 1, .int 1] [(h0, .inr (14, [f0, f1, f2, f3, f4, f5, f6, f7, f8, f9, .ref r1, .ref r2, .ref r3, f13, f14, f15, f16, f17, f18, f19, f20, f21, f22, f23, f24, f25, f26, f27, f28, f29, f30, f31, f32, f33, f34, f35, f36, f37, f38, f39, f40, f41, f42, f43, f44, f45, f46, f47, f48, f49, f50, f51, f52, f53, f54, f55, f56, f57, f58, f59, f60, f61, f62, f63, f64, f65, f66, f67, f68, f69, f70, f71, f72, f73, f74, f75, f76, f77, f78, f79])), (r1, .inl (G.2.1 0, 30, .inl (g1))), (r2, .inl (G.2.1 0, 30, .inl (g2))), (r3, .inl (G.2.1 0, 720, .inl (g3)))] (S := (Nat → Int32) × (Nat → Int32) × (Nat → Int32)) (fun _ => none) (fun _ => True) (fun u => [(h0, .inr (14, [f0, f1, f2, f3, f4, f5, f6, f7, f8, f9, .ref r1, .ref r2, .ref r3, f13, f14, f15, f16, f17, f18, f19, f20, f21, f22, f23, f24, f25, f26, f27, f28, f29, f30, f31, f32, f33, f34, f35, f36, f37, f38, f39, f40, f41, f42, f43, f44, f45, f46, f47, f48, f49, f50, f51, f52, f53, f54, f55, f56, f57, f58, f59, f60, f61, f62, f63, f64, f65, f66, f67, f68, f69, f70, f71, f72, f73, f74, f75, f76, f77, f78, f79])), (r1, .inl (G.2.1 0, 30, .inl (u.1))), (r2, .inl (G.2.1 0, 30, .inl (u.2.1))), (r3, .inl (G.2.1 0, 720, .inl (u.2.2)))]) := by
  refine xb_CT.of (by decide) "TypeFinderModel" rfl ?_ (Nat.le_of_ble_eq_true rfl)
  intro p e s m args below meth c A ls Q F hr hlk hnm h hl hA hQ
  have hx := F.1.1
  have hb := F.1.2.1
  have hml := F.1.2.2.1
  have hown := F.1.2.2.2.1
  have hts := F.1.2.2.2.2
  have hK := F.2.1
  refine lv_aload_n (pc := 0) hx hb d_TypeFinderModel_setName_0 rfl (lv_at hl 0 rfl) ?_
  refine xb_get (pc := 1) F h cf_14 0 rfl 10 (by decide) rfl k_228 (Or.inl rfl) rfl d_TypeFinderModel_setName_1 ?_
  refine lv_iload_n (pc := 4) hx hb d_TypeFinderModel_setName_4 rfl (lv_at hl 1 rfl) ?_
  refine lv_iconst (pc := 5) (v := (-1)) hx hb d_TypeFinderModel_setName_5 (by decide) ?_
  refine lv_iload_n (pc := 6) hx hb d_TypeFinderModel_setName_6 rfl (lv_at hl 1 rfl) ?_
  refine lv_isub (pc := 7) hx hb d_TypeFinderModel_setName_7 ?_
  refine lv_topi (fun y ey => ?_)
  obtain rfl : y = (-4) := ey.trans (by decide)
  refine xb_iastF (pc := 8) (ws' := fun f8_1 => [(h0, .inr (14, [f0, f1, f2, f3, f4, f5, f6, f7, f8, f9, .ref r1, .ref r2, .ref r3, f13, f14, f15, f16, f17, f18, f19, f20, f21, f22, f23, f24, f25, f26, f27, f28, f29, f30, f31, f32, f33, f34, f35, f36, f37, f38, f39, f40, f41, f42, f43, f44, f45, f46, f47, f48, f49, f50, f51, f52, f53, f54, f55, f56, f57, f58, f59, f60, f61, f62, f63, f64, f65, f66, f67, f68, f69, f70, f71, f72, f73, f74, f75, f76, f77, f78, f79])), (r1, .inl (G.2.1 0, 30, .inl (f8_1))), (r2, .inl (G.2.1 0, 30, .inl (g2))), (r3, .inl (G.2.1 0, 720, .inl (g3)))]) F h 1 0 rfl rfl (by unfold vp_in; decide) (fun _ => rfl) d_TypeFinderModel_setName_8 (fun f8_1 H locs h => ?_)
  refine lv_aload_n (pc := 9) hx hb d_TypeFinderModel_setName_9 rfl (lv_at hl 0 rfl) ?_
  refine xb_get (pc := 10) F h cf_14 0 rfl 11 (by decide) rfl k_229 (Or.inl rfl) rfl d_TypeFinderModel_setName_10 ?_
  refine lv_iload_n (pc := 13) hx hb d_TypeFinderModel_setName_13 rfl (lv_at hl 1 rfl) ?_
  refine lv_iconst (pc := 14) (v := 5) hx hb d_TypeFinderModel_setName_14 (by decide) ?_
  refine xb_iastF (pc := 15) (ws' := fun f15_2 => [(h0, .inr (14, [f0, f1, f2, f3, f4, f5, f6, f7, f8, f9, .ref r1, .ref r2, .ref r3, f13, f14, f15, f16, f17, f18, f19, f20, f21, f22, f23, f24, f25, f26, f27, f28, f29, f30, f31, f32, f33, f34, f35, f36, f37, f38, f39, f40, f41, f42, f43, f44, f45, f46, f47, f48, f49, f50, f51, f52, f53, f54, f55, f56, f57, f58, f59, f60, f61, f62, f63, f64, f65, f66, f67, f68, f69, f70, f71, f72, f73, f74, f75, f76, f77, f78, f79])), (r1, .inl (G.2.1 0, 30, .inl (f8_1))), (r2, .inl (G.2.1 0, 30, .inl (f15_2))), (r3, .inl (G.2.1 0, 720, .inl (g3)))]) F h 2 0 rfl rfl (by unfold vp_in; decide) (fun _ => rfl) d_TypeFinderModel_setName_15 (fun f15_2 H locs h => ?_)
  refine lv_aload_n (pc := 16) hx hb d_TypeFinderModel_setName_16 rfl (lv_at hl 0 rfl) ?_
  refine xb_get (pc := 17) F h cf_14 0 rfl 12 (by decide) rfl k_230 (Or.inl rfl) rfl d_TypeFinderModel_setName_17 ?_
  refine lv_bipush (pc := 20) (v := 24) hx hb d_TypeFinderModel_setName_20 (by decide) ?_
  refine lv_iload_n (pc := 22) hx hb d_TypeFinderModel_setName_22 rfl (lv_at hl 1 rfl) ?_
  refine lv_imul (pc := 23) hx hb d_TypeFinderModel_setName_23 ?_
  refine lv_topi (fun y ey => ?_)
  obtain rfl : y = 72 := ey.trans (by decide)
  refine lv_iload_n (pc := 24) hx hb d_TypeFinderModel_setName_24 rfl (lv_at hl 2 rfl) ?_
  refine xb_iastF (pc := 25) (ws' := fun f25_3 => [(h0, .inr (14, [f0, f1, f2, f3, f4, f5, f6, f7, f8, f9, .ref r1, .ref r2, .ref r3, f13, f14, f15, f16, f17, f18, f19, f20, f21, f22, f23, f24, f25, f26, f27, f28, f29, f30, f31, f32, f33, f34, f35, f36, f37, f38, f39, f40, f41, f42, f43, f44, f45, f46, f47, f48, f49, f50, f51, f52, f53, f54, f55, f56, f57, f58, f59, f60, f61, f62, f63, f64, f65, f66, f67, f68, f69, f70, f71, f72, f73, f74, f75, f76, f77, f78, f79])), (r1, .inl (G.2.1 0, 30, .inl (f8_1))), (r2, .inl (G.2.1 0, 30, .inl (f15_2))), (r3, .inl (G.2.1 0, 720, .inl (f25_3)))]) F h 3 0 rfl rfl (by unfold vp_in; decide) (fun _ => rfl) d_TypeFinderModel_setName_25 (fun f25_3 H locs h => ?_)
  refine lv_aload_n (pc := 26) hx hb d_TypeFinderModel_setName_26 rfl (lv_at hl 0 rfl) ?_
  refine xb_get (pc := 27) F h cf_14 0 rfl 12 (by decide) rfl k_230 (Or.inl rfl) rfl d_TypeFinderModel_setName_27 ?_
  refine lv_bipush (pc := 30) (v := 24) hx hb d_TypeFinderModel_setName_30 (by decide) ?_
  refine lv_iload_n (pc := 32) hx hb d_TypeFinderModel_setName_32 rfl (lv_at hl 1 rfl) ?_
  refine lv_imul (pc := 33) hx hb d_TypeFinderModel_setName_33 ?_
  refine lv_topi (fun y ey => ?_)
  obtain rfl : y = 72 := ey.trans (by decide)
  refine lv_iconst (pc := 34) (v := 1) hx hb d_TypeFinderModel_setName_34 (by decide) ?_
  refine lv_iadd (pc := 35) hx hb d_TypeFinderModel_setName_35 ?_
  refine lv_topi (fun y ey => ?_)
  obtain rfl : y = 73 := ey.trans (by decide)
  refine lv_iload_n (pc := 36) hx hb d_TypeFinderModel_setName_36 rfl (lv_at hl 3 rfl) ?_
  refine xb_iastF (pc := 37) (ws' := fun f37_4 => [(h0, .inr (14, [f0, f1, f2, f3, f4, f5, f6, f7, f8, f9, .ref r1, .ref r2, .ref r3, f13, f14, f15, f16, f17, f18, f19, f20, f21, f22, f23, f24, f25, f26, f27, f28, f29, f30, f31, f32, f33, f34, f35, f36, f37, f38, f39, f40, f41, f42, f43, f44, f45, f46, f47, f48, f49, f50, f51, f52, f53, f54, f55, f56, f57, f58, f59, f60, f61, f62, f63, f64, f65, f66, f67, f68, f69, f70, f71, f72, f73, f74, f75, f76, f77, f78, f79])), (r1, .inl (G.2.1 0, 30, .inl (f8_1))), (r2, .inl (G.2.1 0, 30, .inl (f15_2))), (r3, .inl (G.2.1 0, 720, .inl (f37_4)))]) F h 3 0 rfl rfl (by unfold vp_in; decide) (fun _ => rfl) d_TypeFinderModel_setName_37 (fun f37_4 H locs h => ?_)
  refine lv_aload_n (pc := 38) hx hb d_TypeFinderModel_setName_38 rfl (lv_at hl 0 rfl) ?_
  refine xb_get (pc := 39) F h cf_14 0 rfl 12 (by decide) rfl k_230 (Or.inl rfl) rfl d_TypeFinderModel_setName_39 ?_
  refine lv_bipush (pc := 42) (v := 24) hx hb d_TypeFinderModel_setName_42 (by decide) ?_
  refine lv_iload_n (pc := 44) hx hb d_TypeFinderModel_setName_44 rfl (lv_at hl 1 rfl) ?_
  refine lv_imul (pc := 45) hx hb d_TypeFinderModel_setName_45 ?_
  refine lv_topi (fun y ey => ?_)
  obtain rfl : y = 72 := ey.trans (by decide)
  refine lv_iconst (pc := 46) (v := 2) hx hb d_TypeFinderModel_setName_46 (by decide) ?_
  refine lv_iadd (pc := 47) hx hb d_TypeFinderModel_setName_47 ?_
  refine lv_topi (fun y ey => ?_)
  obtain rfl : y = 74 := ey.trans (by decide)
  refine lv_iload (pc := 48) hx hb d_TypeFinderModel_setName_48 (lv_at hl 4 rfl) ?_
  refine xb_iastF (pc := 50) (ws' := fun f50_5 => [(h0, .inr (14, [f0, f1, f2, f3, f4, f5, f6, f7, f8, f9, .ref r1, .ref r2, .ref r3, f13, f14, f15, f16, f17, f18, f19, f20, f21, f22, f23, f24, f25, f26, f27, f28, f29, f30, f31, f32, f33, f34, f35, f36, f37, f38, f39, f40, f41, f42, f43, f44, f45, f46, f47, f48, f49, f50, f51, f52, f53, f54, f55, f56, f57, f58, f59, f60, f61, f62, f63, f64, f65, f66, f67, f68, f69, f70, f71, f72, f73, f74, f75, f76, f77, f78, f79])), (r1, .inl (G.2.1 0, 30, .inl (f8_1))), (r2, .inl (G.2.1 0, 30, .inl (f15_2))), (r3, .inl (G.2.1 0, 720, .inl (f50_5)))]) F h 3 0 rfl rfl (by unfold vp_in; decide) (fun _ => rfl) d_TypeFinderModel_setName_50 (fun f50_5 H locs h => ?_)
  refine lv_aload_n (pc := 51) hx hb d_TypeFinderModel_setName_51 rfl (lv_at hl 0 rfl) ?_
  refine xb_get (pc := 52) F h cf_14 0 rfl 12 (by decide) rfl k_230 (Or.inl rfl) rfl d_TypeFinderModel_setName_52 ?_
  refine lv_bipush (pc := 55) (v := 24) hx hb d_TypeFinderModel_setName_55 (by decide) ?_
  refine lv_iload_n (pc := 57) hx hb d_TypeFinderModel_setName_57 rfl (lv_at hl 1 rfl) ?_
  refine lv_imul (pc := 58) hx hb d_TypeFinderModel_setName_58 ?_
  refine lv_topi (fun y ey => ?_)
  obtain rfl : y = 72 := ey.trans (by decide)
  refine lv_iconst (pc := 59) (v := 3) hx hb d_TypeFinderModel_setName_59 (by decide) ?_
  refine lv_iadd (pc := 60) hx hb d_TypeFinderModel_setName_60 ?_
  refine lv_topi (fun y ey => ?_)
  obtain rfl : y = 75 := ey.trans (by decide)
  refine lv_iload (pc := 61) hx hb d_TypeFinderModel_setName_61 (lv_at hl 5 rfl) ?_
  refine xb_iastF (pc := 63) (ws' := fun f63_6 => [(h0, .inr (14, [f0, f1, f2, f3, f4, f5, f6, f7, f8, f9, .ref r1, .ref r2, .ref r3, f13, f14, f15, f16, f17, f18, f19, f20, f21, f22, f23, f24, f25, f26, f27, f28, f29, f30, f31, f32, f33, f34, f35, f36, f37, f38, f39, f40, f41, f42, f43, f44, f45, f46, f47, f48, f49, f50, f51, f52, f53, f54, f55, f56, f57, f58, f59, f60, f61, f62, f63, f64, f65, f66, f67, f68, f69, f70, f71, f72, f73, f74, f75, f76, f77, f78, f79])), (r1, .inl (G.2.1 0, 30, .inl (f8_1))), (r2, .inl (G.2.1 0, 30, .inl (f15_2))), (r3, .inl (G.2.1 0, 720, .inl (f63_6)))]) F h 3 0 rfl rfl (by unfold vp_in; decide) (fun _ => rfl) d_TypeFinderModel_setName_63 (fun f63_6 H locs h => ?_)
  refine lv_aload_n (pc := 64) hx hb d_TypeFinderModel_setName_64 rfl (lv_at hl 0 rfl) ?_
  refine xb_get (pc := 65) F h cf_14 0 rfl 12 (by decide) rfl k_230 (Or.inl rfl) rfl d_TypeFinderModel_setName_65 ?_
  refine lv_bipush (pc := 68) (v := 24) hx hb d_TypeFinderModel_setName_68 (by decide) ?_
  refine lv_iload_n (pc := 70) hx hb d_TypeFinderModel_setName_70 rfl (lv_at hl 1 rfl) ?_
  refine lv_imul (pc := 71) hx hb d_TypeFinderModel_setName_71 ?_
  refine lv_topi (fun y ey => ?_)
  obtain rfl : y = 72 := ey.trans (by decide)
  refine lv_iconst (pc := 72) (v := 4) hx hb d_TypeFinderModel_setName_72 (by decide) ?_
  refine lv_iadd (pc := 73) hx hb d_TypeFinderModel_setName_73 ?_
  refine lv_topi (fun y ey => ?_)
  obtain rfl : y = 76 := ey.trans (by decide)
  refine lv_iload (pc := 74) hx hb d_TypeFinderModel_setName_74 (lv_at hl 6 rfl) ?_
  refine xb_iastF (pc := 76) (ws' := fun f76_7 => [(h0, .inr (14, [f0, f1, f2, f3, f4, f5, f6, f7, f8, f9, .ref r1, .ref r2, .ref r3, f13, f14, f15, f16, f17, f18, f19, f20, f21, f22, f23, f24, f25, f26, f27, f28, f29, f30, f31, f32, f33, f34, f35, f36, f37, f38, f39, f40, f41, f42, f43, f44, f45, f46, f47, f48, f49, f50, f51, f52, f53, f54, f55, f56, f57, f58, f59, f60, f61, f62, f63, f64, f65, f66, f67, f68, f69, f70, f71, f72, f73, f74, f75, f76, f77, f78, f79])), (r1, .inl (G.2.1 0, 30, .inl (f8_1))), (r2, .inl (G.2.1 0, 30, .inl (f15_2))), (r3, .inl (G.2.1 0, 720, .inl (f76_7)))]) F h 3 0 rfl rfl (by unfold vp_in; decide) (fun _ => rfl) d_TypeFinderModel_setName_76 (fun f76_7 H locs h => ?_)
  exact xb_vret (pc := 77) (rm := rm_setName_3) F hr hlk hA hQ h (f8_1, f15_2, f76_7) trivial rfl [0, 1, 2, 3] (by decide) rfl (by decide) (by decide) d_TypeFinderModel_setName_77
abbrev rm_setName_4 : Room := { frames := 0, cells := 0, slots := 0, locals := 30 }
set_option maxHeartbeats 4000000 in
set_option maxRecDepth 100000 in
theorem ct_setName_4 (l : Launch) (G : xb_EV) (h0 : Nat) (r1 : Nat) (r2 : Nat) (r3 : Nat) (g1 : Nat → Int32) (g2 : Nat → Int32) (g3 : Nat → Int32) (f0 : Value) (f1 : Value) (f2 : Value) (f3 : Value) (f4 : Value) (f5 : Value) (f6 : Value) (f7 : Value) (f8 : Value) (f9 : Value) (f13 : Value) (f14 : Value) (f15 : Value) (f16 : Value) (f17 : Value) (f18 : Value) (f19 : Value) (f20 : Value) (f21 : Value) (f22 : Value) (f23 : Value) (f24 : Value) (f25 : Value) (f26 : Value) (f27 : Value) (f28 : Value) (f29 : Value) (f30 : Value) (f31 : Value) (f32 : Value) (f33 : Value) (f34 : Value) (f35 : Value) (f36 : Value) (f37 : Value) (f38 : Value) (f39 : Value) (f40 : Value) (f41 : Value) (f42 : Value) (f43 : Value) (f44 : Value) (f45 : Value) (f46 : Value) (f47 : Value) (f48 : Value) (f49 : Value) (f50 : Value) (f51 : Value) (f52 : Value) (f53 : Value) (f54 : Value) (f55 : Value) (f56 : Value) (f57 : Value) (f58 : Value) (f59 : Value) (f60 : Value) (f61 : Value) (f62 : Value) (f63 : Value) (f64 : Value) (f65 : Value) (f66 : Value) (f67 : Value) (f68 : Value) (f69 : Value) (f70 : Value) (f71 : Value) (f72 : Value) (f73 : Value) (f74 : Value) (f75 : Value) (f76 : Value) (f77 : Value) (f78 : Value) (f79 : Value) : xb_CT l y_TypeFinderModel_setName b_TypeFinderModel_setName 7 none rm_setName_4 G [] [.ref h0, .int 4, .int 2, .int 1, .int 2, .int 1, .int 10] [(h0, .inr (14, [f0, f1, f2, f3, f4, f5, f6, f7, f8, f9, .ref r1, .ref r2, .ref r3, f13, f14, f15, f16, f17, f18, f19, f20, f21, f22, f23, f24, f25, f26, f27, f28, f29, f30, f31, f32, f33, f34, f35, f36, f37, f38, f39, f40, f41, f42, f43, f44, f45, f46, f47, f48, f49, f50, f51, f52, f53, f54, f55, f56, f57, f58, f59, f60, f61, f62, f63, f64, f65, f66, f67, f68, f69, f70, f71, f72, f73, f74, f75, f76, f77, f78, f79])), (r1, .inl (G.2.1 0, 30, .inl (g1))), (r2, .inl (G.2.1 0, 30, .inl (g2))), (r3, .inl (G.2.1 0, 720, .inl (g3)))] (S := (Nat → Int32) × (Nat → Int32) × (Nat → Int32)) (fun _ => none) (fun _ => True) (fun u => [(h0, .inr (14, [f0, f1, f2, f3, f4, f5, f6, f7, f8, f9, .ref r1, .ref r2, .ref r3, f13, f14, f15, f16, f17, f18, f19, f20, f21, f22, f23, f24, f25, f26, f27, f28, f29, f30, f31, f32, f33, f34, f35, f36, f37, f38, f39, f40, f41, f42, f43, f44, f45, f46, f47, f48, f49, f50, f51, f52, f53, f54, f55, f56, f57, f58, f59, f60, f61, f62, f63, f64, f65, f66, f67, f68, f69, f70, f71, f72, f73, f74, f75, f76, f77, f78, f79])), (r1, .inl (G.2.1 0, 30, .inl (u.1))), (r2, .inl (G.2.1 0, 30, .inl (u.2.1))), (r3, .inl (G.2.1 0, 720, .inl (u.2.2)))]) := by
  refine xb_CT.of (by decide) "TypeFinderModel" rfl ?_ (Nat.le_of_ble_eq_true rfl)
  intro p e s m args below meth c A ls Q F hr hlk hnm h hl hA hQ
  have hx := F.1.1
  have hb := F.1.2.1
  have hml := F.1.2.2.1
  have hown := F.1.2.2.2.1
  have hts := F.1.2.2.2.2
  have hK := F.2.1
  refine lv_aload_n (pc := 0) hx hb d_TypeFinderModel_setName_0 rfl (lv_at hl 0 rfl) ?_
  refine xb_get (pc := 1) F h cf_14 0 rfl 10 (by decide) rfl k_228 (Or.inl rfl) rfl d_TypeFinderModel_setName_1 ?_
  refine lv_iload_n (pc := 4) hx hb d_TypeFinderModel_setName_4 rfl (lv_at hl 1 rfl) ?_
  refine lv_iconst (pc := 5) (v := (-1)) hx hb d_TypeFinderModel_setName_5 (by decide) ?_
  refine lv_iload_n (pc := 6) hx hb d_TypeFinderModel_setName_6 rfl (lv_at hl 1 rfl) ?_
  refine lv_isub (pc := 7) hx hb d_TypeFinderModel_setName_7 ?_
  refine lv_topi (fun y ey => ?_)
  obtain rfl : y = (-5) := ey.trans (by decide)
  refine xb_iastF (pc := 8) (ws' := fun f8_1 => [(h0, .inr (14, [f0, f1, f2, f3, f4, f5, f6, f7, f8, f9, .ref r1, .ref r2, .ref r3, f13, f14, f15, f16, f17, f18, f19, f20, f21, f22, f23, f24, f25, f26, f27, f28, f29, f30, f31, f32, f33, f34, f35, f36, f37, f38, f39, f40, f41, f42, f43, f44, f45, f46, f47, f48, f49, f50, f51, f52, f53, f54, f55, f56, f57, f58, f59, f60, f61, f62, f63, f64, f65, f66, f67, f68, f69, f70, f71, f72, f73, f74, f75, f76, f77, f78, f79])), (r1, .inl (G.2.1 0, 30, .inl (f8_1))), (r2, .inl (G.2.1 0, 30, .inl (g2))), (r3, .inl (G.2.1 0, 720, .inl (g3)))]) F h 1 0 rfl rfl (by unfold vp_in; decide) (fun _ => rfl) d_TypeFinderModel_setName_8 (fun f8_1 H locs h => ?_)
  refine lv_aload_n (pc := 9) hx hb d_TypeFinderModel_setName_9 rfl (lv_at hl 0 rfl) ?_
  refine xb_get (pc := 10) F h cf_14 0 rfl 11 (by decide) rfl k_229 (Or.inl rfl) rfl d_TypeFinderModel_setName_10 ?_
  refine lv_iload_n (pc := 13) hx hb d_TypeFinderModel_setName_13 rfl (lv_at hl 1 rfl) ?_
  refine lv_iconst (pc := 14) (v := 5) hx hb d_TypeFinderModel_setName_14 (by decide) ?_
  refine xb_iastF (pc := 15) (ws' := fun f15_2 => [(h0, .inr (14, [f0, f1, f2, f3, f4, f5, f6, f7, f8, f9, .ref r1, .ref r2, .ref r3, f13, f14, f15, f16, f17, f18, f19, f20, f21, f22, f23, f24, f25, f26, f27, f28, f29, f30, f31, f32, f33, f34, f35, f36, f37, f38, f39, f40, f41, f42, f43, f44, f45, f46, f47, f48, f49, f50, f51, f52, f53, f54, f55, f56, f57, f58, f59, f60, f61, f62, f63, f64, f65, f66, f67, f68, f69, f70, f71, f72, f73, f74, f75, f76, f77, f78, f79])), (r1, .inl (G.2.1 0, 30, .inl (f8_1))), (r2, .inl (G.2.1 0, 30, .inl (f15_2))), (r3, .inl (G.2.1 0, 720, .inl (g3)))]) F h 2 0 rfl rfl (by unfold vp_in; decide) (fun _ => rfl) d_TypeFinderModel_setName_15 (fun f15_2 H locs h => ?_)
  refine lv_aload_n (pc := 16) hx hb d_TypeFinderModel_setName_16 rfl (lv_at hl 0 rfl) ?_
  refine xb_get (pc := 17) F h cf_14 0 rfl 12 (by decide) rfl k_230 (Or.inl rfl) rfl d_TypeFinderModel_setName_17 ?_
  refine lv_bipush (pc := 20) (v := 24) hx hb d_TypeFinderModel_setName_20 (by decide) ?_
  refine lv_iload_n (pc := 22) hx hb d_TypeFinderModel_setName_22 rfl (lv_at hl 1 rfl) ?_
  refine lv_imul (pc := 23) hx hb d_TypeFinderModel_setName_23 ?_
  refine lv_topi (fun y ey => ?_)
  obtain rfl : y = 96 := ey.trans (by decide)
  refine lv_iload_n (pc := 24) hx hb d_TypeFinderModel_setName_24 rfl (lv_at hl 2 rfl) ?_
  refine xb_iastF (pc := 25) (ws' := fun f25_3 => [(h0, .inr (14, [f0, f1, f2, f3, f4, f5, f6, f7, f8, f9, .ref r1, .ref r2, .ref r3, f13, f14, f15, f16, f17, f18, f19, f20, f21, f22, f23, f24, f25, f26, f27, f28, f29, f30, f31, f32, f33, f34, f35, f36, f37, f38, f39, f40, f41, f42, f43, f44, f45, f46, f47, f48, f49, f50, f51, f52, f53, f54, f55, f56, f57, f58, f59, f60, f61, f62, f63, f64, f65, f66, f67, f68, f69, f70, f71, f72, f73, f74, f75, f76, f77, f78, f79])), (r1, .inl (G.2.1 0, 30, .inl (f8_1))), (r2, .inl (G.2.1 0, 30, .inl (f15_2))), (r3, .inl (G.2.1 0, 720, .inl (f25_3)))]) F h 3 0 rfl rfl (by unfold vp_in; decide) (fun _ => rfl) d_TypeFinderModel_setName_25 (fun f25_3 H locs h => ?_)
  refine lv_aload_n (pc := 26) hx hb d_TypeFinderModel_setName_26 rfl (lv_at hl 0 rfl) ?_
  refine xb_get (pc := 27) F h cf_14 0 rfl 12 (by decide) rfl k_230 (Or.inl rfl) rfl d_TypeFinderModel_setName_27 ?_
  refine lv_bipush (pc := 30) (v := 24) hx hb d_TypeFinderModel_setName_30 (by decide) ?_
  refine lv_iload_n (pc := 32) hx hb d_TypeFinderModel_setName_32 rfl (lv_at hl 1 rfl) ?_
  refine lv_imul (pc := 33) hx hb d_TypeFinderModel_setName_33 ?_
  refine lv_topi (fun y ey => ?_)
  obtain rfl : y = 96 := ey.trans (by decide)
  refine lv_iconst (pc := 34) (v := 1) hx hb d_TypeFinderModel_setName_34 (by decide) ?_
  refine lv_iadd (pc := 35) hx hb d_TypeFinderModel_setName_35 ?_
  refine lv_topi (fun y ey => ?_)
  obtain rfl : y = 97 := ey.trans (by decide)
  refine lv_iload_n (pc := 36) hx hb d_TypeFinderModel_setName_36 rfl (lv_at hl 3 rfl) ?_
  refine xb_iastF (pc := 37) (ws' := fun f37_4 => [(h0, .inr (14, [f0, f1, f2, f3, f4, f5, f6, f7, f8, f9, .ref r1, .ref r2, .ref r3, f13, f14, f15, f16, f17, f18, f19, f20, f21, f22, f23, f24, f25, f26, f27, f28, f29, f30, f31, f32, f33, f34, f35, f36, f37, f38, f39, f40, f41, f42, f43, f44, f45, f46, f47, f48, f49, f50, f51, f52, f53, f54, f55, f56, f57, f58, f59, f60, f61, f62, f63, f64, f65, f66, f67, f68, f69, f70, f71, f72, f73, f74, f75, f76, f77, f78, f79])), (r1, .inl (G.2.1 0, 30, .inl (f8_1))), (r2, .inl (G.2.1 0, 30, .inl (f15_2))), (r3, .inl (G.2.1 0, 720, .inl (f37_4)))]) F h 3 0 rfl rfl (by unfold vp_in; decide) (fun _ => rfl) d_TypeFinderModel_setName_37 (fun f37_4 H locs h => ?_)
  refine lv_aload_n (pc := 38) hx hb d_TypeFinderModel_setName_38 rfl (lv_at hl 0 rfl) ?_
  refine xb_get (pc := 39) F h cf_14 0 rfl 12 (by decide) rfl k_230 (Or.inl rfl) rfl d_TypeFinderModel_setName_39 ?_
  refine lv_bipush (pc := 42) (v := 24) hx hb d_TypeFinderModel_setName_42 (by decide) ?_
  refine lv_iload_n (pc := 44) hx hb d_TypeFinderModel_setName_44 rfl (lv_at hl 1 rfl) ?_
  refine lv_imul (pc := 45) hx hb d_TypeFinderModel_setName_45 ?_
  refine lv_topi (fun y ey => ?_)
  obtain rfl : y = 96 := ey.trans (by decide)
  refine lv_iconst (pc := 46) (v := 2) hx hb d_TypeFinderModel_setName_46 (by decide) ?_
  refine lv_iadd (pc := 47) hx hb d_TypeFinderModel_setName_47 ?_
  refine lv_topi (fun y ey => ?_)
  obtain rfl : y = 98 := ey.trans (by decide)
  refine lv_iload (pc := 48) hx hb d_TypeFinderModel_setName_48 (lv_at hl 4 rfl) ?_
  refine xb_iastF (pc := 50) (ws' := fun f50_5 => [(h0, .inr (14, [f0, f1, f2, f3, f4, f5, f6, f7, f8, f9, .ref r1, .ref r2, .ref r3, f13, f14, f15, f16, f17, f18, f19, f20, f21, f22, f23, f24, f25, f26, f27, f28, f29, f30, f31, f32, f33, f34, f35, f36, f37, f38, f39, f40, f41, f42, f43, f44, f45, f46, f47, f48, f49, f50, f51, f52, f53, f54, f55, f56, f57, f58, f59, f60, f61, f62, f63, f64, f65, f66, f67, f68, f69, f70, f71, f72, f73, f74, f75, f76, f77, f78, f79])), (r1, .inl (G.2.1 0, 30, .inl (f8_1))), (r2, .inl (G.2.1 0, 30, .inl (f15_2))), (r3, .inl (G.2.1 0, 720, .inl (f50_5)))]) F h 3 0 rfl rfl (by unfold vp_in; decide) (fun _ => rfl) d_TypeFinderModel_setName_50 (fun f50_5 H locs h => ?_)
  refine lv_aload_n (pc := 51) hx hb d_TypeFinderModel_setName_51 rfl (lv_at hl 0 rfl) ?_
  refine xb_get (pc := 52) F h cf_14 0 rfl 12 (by decide) rfl k_230 (Or.inl rfl) rfl d_TypeFinderModel_setName_52 ?_
  refine lv_bipush (pc := 55) (v := 24) hx hb d_TypeFinderModel_setName_55 (by decide) ?_
  refine lv_iload_n (pc := 57) hx hb d_TypeFinderModel_setName_57 rfl (lv_at hl 1 rfl) ?_
  refine lv_imul (pc := 58) hx hb d_TypeFinderModel_setName_58 ?_
  refine lv_topi (fun y ey => ?_)
  obtain rfl : y = 96 := ey.trans (by decide)
  refine lv_iconst (pc := 59) (v := 3) hx hb d_TypeFinderModel_setName_59 (by decide) ?_
  refine lv_iadd (pc := 60) hx hb d_TypeFinderModel_setName_60 ?_
  refine lv_topi (fun y ey => ?_)
  obtain rfl : y = 99 := ey.trans (by decide)
  refine lv_iload (pc := 61) hx hb d_TypeFinderModel_setName_61 (lv_at hl 5 rfl) ?_
  refine xb_iastF (pc := 63) (ws' := fun f63_6 => [(h0, .inr (14, [f0, f1, f2, f3, f4, f5, f6, f7, f8, f9, .ref r1, .ref r2, .ref r3, f13, f14, f15, f16, f17, f18, f19, f20, f21, f22, f23, f24, f25, f26, f27, f28, f29, f30, f31, f32, f33, f34, f35, f36, f37, f38, f39, f40, f41, f42, f43, f44, f45, f46, f47, f48, f49, f50, f51, f52, f53, f54, f55, f56, f57, f58, f59, f60, f61, f62, f63, f64, f65, f66, f67, f68, f69, f70, f71, f72, f73, f74, f75, f76, f77, f78, f79])), (r1, .inl (G.2.1 0, 30, .inl (f8_1))), (r2, .inl (G.2.1 0, 30, .inl (f15_2))), (r3, .inl (G.2.1 0, 720, .inl (f63_6)))]) F h 3 0 rfl rfl (by unfold vp_in; decide) (fun _ => rfl) d_TypeFinderModel_setName_63 (fun f63_6 H locs h => ?_)
  refine lv_aload_n (pc := 64) hx hb d_TypeFinderModel_setName_64 rfl (lv_at hl 0 rfl) ?_
  refine xb_get (pc := 65) F h cf_14 0 rfl 12 (by decide) rfl k_230 (Or.inl rfl) rfl d_TypeFinderModel_setName_65 ?_
  refine lv_bipush (pc := 68) (v := 24) hx hb d_TypeFinderModel_setName_68 (by decide) ?_
  refine lv_iload_n (pc := 70) hx hb d_TypeFinderModel_setName_70 rfl (lv_at hl 1 rfl) ?_
  refine lv_imul (pc := 71) hx hb d_TypeFinderModel_setName_71 ?_
  refine lv_topi (fun y ey => ?_)
  obtain rfl : y = 96 := ey.trans (by decide)
  refine lv_iconst (pc := 72) (v := 4) hx hb d_TypeFinderModel_setName_72 (by decide) ?_
  refine lv_iadd (pc := 73) hx hb d_TypeFinderModel_setName_73 ?_
  refine lv_topi (fun y ey => ?_)
  obtain rfl : y = 100 := ey.trans (by decide)
  refine lv_iload (pc := 74) hx hb d_TypeFinderModel_setName_74 (lv_at hl 6 rfl) ?_
  refine xb_iastF (pc := 76) (ws' := fun f76_7 => [(h0, .inr (14, [f0, f1, f2, f3, f4, f5, f6, f7, f8, f9, .ref r1, .ref r2, .ref r3, f13, f14, f15, f16, f17, f18, f19, f20, f21, f22, f23, f24, f25, f26, f27, f28, f29, f30, f31, f32, f33, f34, f35, f36, f37, f38, f39, f40, f41, f42, f43, f44, f45, f46, f47, f48, f49, f50, f51, f52, f53, f54, f55, f56, f57, f58, f59, f60, f61, f62, f63, f64, f65, f66, f67, f68, f69, f70, f71, f72, f73, f74, f75, f76, f77, f78, f79])), (r1, .inl (G.2.1 0, 30, .inl (f8_1))), (r2, .inl (G.2.1 0, 30, .inl (f15_2))), (r3, .inl (G.2.1 0, 720, .inl (f76_7)))]) F h 3 0 rfl rfl (by unfold vp_in; decide) (fun _ => rfl) d_TypeFinderModel_setName_76 (fun f76_7 H locs h => ?_)
  exact xb_vret (pc := 77) (rm := rm_setName_4) F hr hlk hA hQ h (f8_1, f15_2, f76_7) trivial rfl [0, 1, 2, 3] (by decide) rfl (by decide) (by decide) d_TypeFinderModel_setName_77
abbrev rm_setName_5 : Room := { frames := 0, cells := 0, slots := 0, locals := 30 }
set_option maxHeartbeats 4000000 in
set_option maxRecDepth 100000 in
theorem ct_setName_5 (l : Launch) (G : xb_EV) (h0 : Nat) (r1 : Nat) (r2 : Nat) (r3 : Nat) (g1 : Nat → Int32) (g2 : Nat → Int32) (g3 : Nat → Int32) (f0 : Value) (f1 : Value) (f2 : Value) (f3 : Value) (f4 : Value) (f5 : Value) (f6 : Value) (f7 : Value) (f8 : Value) (f9 : Value) (f13 : Value) (f14 : Value) (f15 : Value) (f16 : Value) (f17 : Value) (f18 : Value) (f19 : Value) (f20 : Value) (f21 : Value) (f22 : Value) (f23 : Value) (f24 : Value) (f25 : Value) (f26 : Value) (f27 : Value) (f28 : Value) (f29 : Value) (f30 : Value) (f31 : Value) (f32 : Value) (f33 : Value) (f34 : Value) (f35 : Value) (f36 : Value) (f37 : Value) (f38 : Value) (f39 : Value) (f40 : Value) (f41 : Value) (f42 : Value) (f43 : Value) (f44 : Value) (f45 : Value) (f46 : Value) (f47 : Value) (f48 : Value) (f49 : Value) (f50 : Value) (f51 : Value) (f52 : Value) (f53 : Value) (f54 : Value) (f55 : Value) (f56 : Value) (f57 : Value) (f58 : Value) (f59 : Value) (f60 : Value) (f61 : Value) (f62 : Value) (f63 : Value) (f64 : Value) (f65 : Value) (f66 : Value) (f67 : Value) (f68 : Value) (f69 : Value) (f70 : Value) (f71 : Value) (f72 : Value) (f73 : Value) (f74 : Value) (f75 : Value) (f76 : Value) (f77 : Value) (f78 : Value) (f79 : Value) : xb_CT l y_TypeFinderModel_setName b_TypeFinderModel_setName 7 none rm_setName_5 G [] [.ref h0, .int 5, .int 2, .int 200, .int 2, .int 200, .int 10] [(h0, .inr (14, [f0, f1, f2, f3, f4, f5, f6, f7, f8, f9, .ref r1, .ref r2, .ref r3, f13, f14, f15, f16, f17, f18, f19, f20, f21, f22, f23, f24, f25, f26, f27, f28, f29, f30, f31, f32, f33, f34, f35, f36, f37, f38, f39, f40, f41, f42, f43, f44, f45, f46, f47, f48, f49, f50, f51, f52, f53, f54, f55, f56, f57, f58, f59, f60, f61, f62, f63, f64, f65, f66, f67, f68, f69, f70, f71, f72, f73, f74, f75, f76, f77, f78, f79])), (r1, .inl (G.2.1 0, 30, .inl (g1))), (r2, .inl (G.2.1 0, 30, .inl (g2))), (r3, .inl (G.2.1 0, 720, .inl (g3)))] (S := (Nat → Int32) × (Nat → Int32) × (Nat → Int32)) (fun _ => none) (fun _ => True) (fun u => [(h0, .inr (14, [f0, f1, f2, f3, f4, f5, f6, f7, f8, f9, .ref r1, .ref r2, .ref r3, f13, f14, f15, f16, f17, f18, f19, f20, f21, f22, f23, f24, f25, f26, f27, f28, f29, f30, f31, f32, f33, f34, f35, f36, f37, f38, f39, f40, f41, f42, f43, f44, f45, f46, f47, f48, f49, f50, f51, f52, f53, f54, f55, f56, f57, f58, f59, f60, f61, f62, f63, f64, f65, f66, f67, f68, f69, f70, f71, f72, f73, f74, f75, f76, f77, f78, f79])), (r1, .inl (G.2.1 0, 30, .inl (u.1))), (r2, .inl (G.2.1 0, 30, .inl (u.2.1))), (r3, .inl (G.2.1 0, 720, .inl (u.2.2)))]) := by
  refine xb_CT.of (by decide) "TypeFinderModel" rfl ?_ (Nat.le_of_ble_eq_true rfl)
  intro p e s m args below meth c A ls Q F hr hlk hnm h hl hA hQ
  have hx := F.1.1
  have hb := F.1.2.1
  have hml := F.1.2.2.1
  have hown := F.1.2.2.2.1
  have hts := F.1.2.2.2.2
  have hK := F.2.1
  refine lv_aload_n (pc := 0) hx hb d_TypeFinderModel_setName_0 rfl (lv_at hl 0 rfl) ?_
  refine xb_get (pc := 1) F h cf_14 0 rfl 10 (by decide) rfl k_228 (Or.inl rfl) rfl d_TypeFinderModel_setName_1 ?_
  refine lv_iload_n (pc := 4) hx hb d_TypeFinderModel_setName_4 rfl (lv_at hl 1 rfl) ?_
  refine lv_iconst (pc := 5) (v := (-1)) hx hb d_TypeFinderModel_setName_5 (by decide) ?_
  refine lv_iload_n (pc := 6) hx hb d_TypeFinderModel_setName_6 rfl (lv_at hl 1 rfl) ?_
  refine lv_isub (pc := 7) hx hb d_TypeFinderModel_setName_7 ?_
  refine lv_topi (fun y ey => ?_)
  obtain rfl : y = (-6) := ey.trans (by decide)
  refine xb_iastF (pc := 8) (ws' := fun f8_1 => [(h0, .inr (14, [f0, f1, f2, f3, f4, f5, f6, f7, f8, f9, .ref r1, .ref r2, .ref r3, f13, f14, f15, f16, f17, f18, f19, f20, f21, f22, f23, f24, f25, f26, f27, f28, f29, f30, f31, f32, f33, f34, f35, f36, f37, f38, f39, f40, f41, f42, f43, f44, f45, f46, f47, f48, f49, f50, f51, f52, f53, f54, f55, f56, f57, f58, f59, f60, f61, f62, f63, f64, f65, f66, f67, f68, f69, f70, f71, f72, f73, f74, f75, f76, f77, f78, f79])), (r1, .inl (G.2.1 0, 30, .inl (f8_1))), (r2, .inl (G.2.1 0, 30, .inl (g2))), (r3, .inl (G.2.1 0, 720, .inl (g3)))]) F h 1 0 rfl rfl (by unfold vp_in; decide) (fun _ => rfl) d_TypeFinderModel_setName_8 (fun f8_1 H locs h => ?_)
  refine lv_aload_n (pc := 9) hx hb d_TypeFinderModel_setName_9 rfl (lv_at hl 0 rfl) ?_
  refine xb_get (pc := 10) F h cf_14 0 rfl 11 (by decide) rfl k_229 (Or.inl rfl) rfl d_TypeFinderModel_setName_10 ?_
  refine lv_iload_n (pc := 13) hx hb d_TypeFinderModel_setName_13 rfl (lv_at hl 1 rfl) ?_
  refine lv_iconst (pc := 14) (v := 5) hx hb d_TypeFinderModel_setName_14 (by decide) ?_
  refine xb_iastF (pc := 15) (ws' := fun f15_2 => [(h0, .inr (14, [f0, f1, f2, f3, f4, f5, f6, f7, f8, f9, .ref r1, .ref r2, .ref r3, f13, f14, f15, f16, f17, f18, f19, f20, f21, f22, f23, f24, f25, f26, f27, f28, f29, f30, f31, f32, f33, f34, f35, f36, f37, f38, f39, f40, f41, f42, f43, f44, f45, f46, f47, f48, f49, f50, f51, f52, f53, f54, f55, f56, f57, f58, f59, f60, f61, f62, f63, f64, f65, f66, f67, f68, f69, f70, f71, f72, f73, f74, f75, f76, f77, f78, f79])), (r1, .inl (G.2.1 0, 30, .inl (f8_1))), (r2, .inl (G.2.1 0, 30, .inl (f15_2))), (r3, .inl (G.2.1 0, 720, .inl (g3)))]) F h 2 0 rfl rfl (by unfold vp_in; decide) (fun _ => rfl) d_TypeFinderModel_setName_15 (fun f15_2 H locs h => ?_)
  refine lv_aload_n (pc := 16) hx hb d_TypeFinderModel_setName_16 rfl (lv_at hl 0 rfl) ?_
  refine xb_get (pc := 17) F h cf_14 0 rfl 12 (by decide) rfl k_230 (Or.inl rfl) rfl d_TypeFinderModel_setName_17 ?_
  refine lv_bipush (pc := 20) (v := 24) hx hb d_TypeFinderModel_setName_20 (by decide) ?_
  refine lv_iload_n (pc := 22) hx hb d_TypeFinderModel_setName_22 rfl (lv_at hl 1 rfl) ?_
  refine lv_imul (pc := 23) hx hb d_TypeFinderModel_setName_23 ?_
  refine lv_topi (fun y ey => ?_)
  obtain rfl : y = 120 := ey.trans (by decide)
  refine lv_iload_n (pc := 24) hx hb d_TypeFinderModel_setName_24 rfl (lv_at hl 2 rfl) ?_
  refine xb_iastF (pc := 25) (ws' := fun f25_3 => [(h0, .inr (14, [f0, f1, f2, f3, f4, f5, f6, f7, f8, f9, .ref r1, .ref r2, .ref r3, f13, f14, f15, f16, f17, f18, f19, f20, f21, f22, f23, f24, f25, f26, f27, f28, f29, f30, f31, f32, f33, f34, f35, f36, f37, f38, f39, f40, f41, f42, f43, f44, f45, f46, f47, f48, f49, f50, f51, f52, f53, f54, f55, f56, f57, f58, f59, f60, f61, f62, f63, f64, f65, f66, f67, f68, f69, f70, f71, f72, f73, f74, f75, f76, f77, f78, f79])), (r1, .inl (G.2.1 0, 30, .inl (f8_1))), (r2, .inl (G.2.1 0, 30, .inl (f15_2))), (r3, .inl (G.2.1 0, 720, .inl (f25_3)))]) F h 3 0 rfl rfl (by unfold vp_in; decide) (fun _ => rfl) d_TypeFinderModel_setName_25 (fun f25_3 H locs h => ?_)
  refine lv_aload_n (pc := 26) hx hb d_TypeFinderModel_setName_26 rfl (lv_at hl 0 rfl) ?_
  refine xb_get (pc := 27) F h cf_14 0 rfl 12 (by decide) rfl k_230 (Or.inl rfl) rfl d_TypeFinderModel_setName_27 ?_
  refine lv_bipush (pc := 30) (v := 24) hx hb d_TypeFinderModel_setName_30 (by decide) ?_
  refine lv_iload_n (pc := 32) hx hb d_TypeFinderModel_setName_32 rfl (lv_at hl 1 rfl) ?_
  refine lv_imul (pc := 33) hx hb d_TypeFinderModel_setName_33 ?_
  refine lv_topi (fun y ey => ?_)
  obtain rfl : y = 120 := ey.trans (by decide)
  refine lv_iconst (pc := 34) (v := 1) hx hb d_TypeFinderModel_setName_34 (by decide) ?_
  refine lv_iadd (pc := 35) hx hb d_TypeFinderModel_setName_35 ?_
  refine lv_topi (fun y ey => ?_)
  obtain rfl : y = 121 := ey.trans (by decide)
  refine lv_iload_n (pc := 36) hx hb d_TypeFinderModel_setName_36 rfl (lv_at hl 3 rfl) ?_
  refine xb_iastF (pc := 37) (ws' := fun f37_4 => [(h0, .inr (14, [f0, f1, f2, f3, f4, f5, f6, f7, f8, f9, .ref r1, .ref r2, .ref r3, f13, f14, f15, f16, f17, f18, f19, f20, f21, f22, f23, f24, f25, f26, f27, f28, f29, f30, f31, f32, f33, f34, f35, f36, f37, f38, f39, f40, f41, f42, f43, f44, f45, f46, f47, f48, f49, f50, f51, f52, f53, f54, f55, f56, f57, f58, f59, f60, f61, f62, f63, f64, f65, f66, f67, f68, f69, f70, f71, f72, f73, f74, f75, f76, f77, f78, f79])), (r1, .inl (G.2.1 0, 30, .inl (f8_1))), (r2, .inl (G.2.1 0, 30, .inl (f15_2))), (r3, .inl (G.2.1 0, 720, .inl (f37_4)))]) F h 3 0 rfl rfl (by unfold vp_in; decide) (fun _ => rfl) d_TypeFinderModel_setName_37 (fun f37_4 H locs h => ?_)
  refine lv_aload_n (pc := 38) hx hb d_TypeFinderModel_setName_38 rfl (lv_at hl 0 rfl) ?_
  refine xb_get (pc := 39) F h cf_14 0 rfl 12 (by decide) rfl k_230 (Or.inl rfl) rfl d_TypeFinderModel_setName_39 ?_
  refine lv_bipush (pc := 42) (v := 24) hx hb d_TypeFinderModel_setName_42 (by decide) ?_
  refine lv_iload_n (pc := 44) hx hb d_TypeFinderModel_setName_44 rfl (lv_at hl 1 rfl) ?_
  refine lv_imul (pc := 45) hx hb d_TypeFinderModel_setName_45 ?_
  refine lv_topi (fun y ey => ?_)
  obtain rfl : y = 120 := ey.trans (by decide)
  refine lv_iconst (pc := 46) (v := 2) hx hb d_TypeFinderModel_setName_46 (by decide) ?_
  refine lv_iadd (pc := 47) hx hb d_TypeFinderModel_setName_47 ?_
  refine lv_topi (fun y ey => ?_)
  obtain rfl : y = 122 := ey.trans (by decide)
  refine lv_iload (pc := 48) hx hb d_TypeFinderModel_setName_48 (lv_at hl 4 rfl) ?_
  refine xb_iastF (pc := 50) (ws' := fun f50_5 => [(h0, .inr (14, [f0, f1, f2, f3, f4, f5, f6, f7, f8, f9, .ref r1, .ref r2, .ref r3, f13, f14, f15, f16, f17, f18, f19, f20, f21, f22, f23, f24, f25, f26, f27, f28, f29, f30, f31, f32, f33, f34, f35, f36, f37, f38, f39, f40, f41, f42, f43, f44, f45, f46, f47, f48, f49, f50, f51, f52, f53, f54, f55, f56, f57, f58, f59, f60, f61, f62, f63, f64, f65, f66, f67, f68, f69, f70, f71, f72, f73, f74, f75, f76, f77, f78, f79])), (r1, .inl (G.2.1 0, 30, .inl (f8_1))), (r2, .inl (G.2.1 0, 30, .inl (f15_2))), (r3, .inl (G.2.1 0, 720, .inl (f50_5)))]) F h 3 0 rfl rfl (by unfold vp_in; decide) (fun _ => rfl) d_TypeFinderModel_setName_50 (fun f50_5 H locs h => ?_)
  refine lv_aload_n (pc := 51) hx hb d_TypeFinderModel_setName_51 rfl (lv_at hl 0 rfl) ?_
  refine xb_get (pc := 52) F h cf_14 0 rfl 12 (by decide) rfl k_230 (Or.inl rfl) rfl d_TypeFinderModel_setName_52 ?_
  refine lv_bipush (pc := 55) (v := 24) hx hb d_TypeFinderModel_setName_55 (by decide) ?_
  refine lv_iload_n (pc := 57) hx hb d_TypeFinderModel_setName_57 rfl (lv_at hl 1 rfl) ?_
  refine lv_imul (pc := 58) hx hb d_TypeFinderModel_setName_58 ?_
  refine lv_topi (fun y ey => ?_)
  obtain rfl : y = 120 := ey.trans (by decide)
  refine lv_iconst (pc := 59) (v := 3) hx hb d_TypeFinderModel_setName_59 (by decide) ?_
  refine lv_iadd (pc := 60) hx hb d_TypeFinderModel_setName_60 ?_
  refine lv_topi (fun y ey => ?_)
  obtain rfl : y = 123 := ey.trans (by decide)
  refine lv_iload (pc := 61) hx hb d_TypeFinderModel_setName_61 (lv_at hl 5 rfl) ?_
  refine xb_iastF (pc := 63) (ws' := fun f63_6 => [(h0, .inr (14, [f0, f1, f2, f3, f4, f5, f6, f7, f8, f9, .ref r1, .ref r2, .ref r3, f13, f14, f15, f16, f17, f18, f19, f20, f21, f22, f23, f24, f25, f26, f27, f28, f29, f30, f31, f32, f33, f34, f35, f36, f37, f38, f39, f40, f41, f42, f43, f44, f45, f46, f47, f48, f49, f50, f51, f52, f53, f54, f55, f56, f57, f58, f59, f60, f61, f62, f63, f64, f65, f66, f67, f68, f69, f70, f71, f72, f73, f74, f75, f76, f77, f78, f79])), (r1, .inl (G.2.1 0, 30, .inl (f8_1))), (r2, .inl (G.2.1 0, 30, .inl (f15_2))), (r3, .inl (G.2.1 0, 720, .inl (f63_6)))]) F h 3 0 rfl rfl (by unfold vp_in; decide) (fun _ => rfl) d_TypeFinderModel_setName_63 (fun f63_6 H locs h => ?_)
  refine lv_aload_n (pc := 64) hx hb d_TypeFinderModel_setName_64 rfl (lv_at hl 0 rfl) ?_
  refine xb_get (pc := 65) F h cf_14 0 rfl 12 (by decide) rfl k_230 (Or.inl rfl) rfl d_TypeFinderModel_setName_65 ?_
  refine lv_bipush (pc := 68) (v := 24) hx hb d_TypeFinderModel_setName_68 (by decide) ?_
  refine lv_iload_n (pc := 70) hx hb d_TypeFinderModel_setName_70 rfl (lv_at hl 1 rfl) ?_
  refine lv_imul (pc := 71) hx hb d_TypeFinderModel_setName_71 ?_
  refine lv_topi (fun y ey => ?_)
  obtain rfl : y = 120 := ey.trans (by decide)
  refine lv_iconst (pc := 72) (v := 4) hx hb d_TypeFinderModel_setName_72 (by decide) ?_
  refine lv_iadd (pc := 73) hx hb d_TypeFinderModel_setName_73 ?_
  refine lv_topi (fun y ey => ?_)
  obtain rfl : y = 124 := ey.trans (by decide)
  refine lv_iload (pc := 74) hx hb d_TypeFinderModel_setName_74 (lv_at hl 6 rfl) ?_
  refine xb_iastF (pc := 76) (ws' := fun f76_7 => [(h0, .inr (14, [f0, f1, f2, f3, f4, f5, f6, f7, f8, f9, .ref r1, .ref r2, .ref r3, f13, f14, f15, f16, f17, f18, f19, f20, f21, f22, f23, f24, f25, f26, f27, f28, f29, f30, f31, f32, f33, f34, f35, f36, f37, f38, f39, f40, f41, f42, f43, f44, f45, f46, f47, f48, f49, f50, f51, f52, f53, f54, f55, f56, f57, f58, f59, f60, f61, f62, f63, f64, f65, f66, f67, f68, f69, f70, f71, f72, f73, f74, f75, f76, f77, f78, f79])), (r1, .inl (G.2.1 0, 30, .inl (f8_1))), (r2, .inl (G.2.1 0, 30, .inl (f15_2))), (r3, .inl (G.2.1 0, 720, .inl (f76_7)))]) F h 3 0 rfl rfl (by unfold vp_in; decide) (fun _ => rfl) d_TypeFinderModel_setName_76 (fun f76_7 H locs h => ?_)
  exact xb_vret (pc := 77) (rm := rm_setName_5) F hr hlk hA hQ h (f8_1, f15_2, f76_7) trivial rfl [0, 1, 2, 3] (by decide) rfl (by decide) (by decide) d_TypeFinderModel_setName_77
