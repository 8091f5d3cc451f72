abbrev rm_byteOf : Room := { frames := 0, cells := 0, slots := 0, locals := 30 }
set_option maxHeartbeats 4000000 in
set_option maxRecDepth 100000 in
theorem ct_byteOf (l : Launch) (G : xb_EV) (s0 : Int64) (k : Nat) : xb_CT l y_TypeFinder_byteOf b_TypeFinder_byteOf 3 (some .int) rm_byteOf G [] [.long s0, .int (nI k)] [] (S := Unit) (fun _ => some (.int (nI (xt_n s0 k)))) (fun _ => True) (fun _ => []) := by
  refine xb_CT.of (by decide) "TypeFinder" rfl ?_ (Nat.le_of_ble_eq_true rfl)
  intro p e s m args below meth c A ls Q F hr hlk hnm h hl hA hQ
  have hx := F.1.1
  have hb := F.1.2.1
  have hml := F.1.2.2.1
  have hown := F.1.2.2.2.1
  have hts := F.1.2.2.2.2
  have hK := F.2.1
  refine lv_lload_n (pc := 0) hx hb d_TypeFinder_byteOf_0 rfl (lv_at hl 0 rfl) ?_
  refine lv_bipush (pc := 1) (v := 8) hx hb d_TypeFinder_byteOf_1 (by decide) ?_
  refine lv_iload_n (pc := 3) hx hb d_TypeFinder_byteOf_3 rfl (lv_at hl 1 rfl) ?_
  refine lv_imul (pc := 4) hx hb d_TypeFinder_byteOf_4 ?_
  refine lv_lushr (pc := 5) hx hb d_TypeFinder_byteOf_5 rfl ?_
  refine lv_topl (fun x5_1 ex5_1 => ?_)
  refine lv_l2i (pc := 6) hx hb d_TypeFinder_byteOf_6 rfl ?_
  refine lv_topi (fun x6_2 ex6_2 => ?_)
  refine lv_sipush (pc := 7) (v := 255) hx hb d_TypeFinder_byteOf_7 (by decide) ?_
  refine lv_iand (pc := 10) hx hb d_TypeFinder_byteOf_10 ?_
  have ey : x6_2 &&& 255 = nI (xt_n s0 k) := by rw [ex6_2, ex5_1]; exact xt_i s0 k
  refine W.eq (g2 := F0 m 11 ls [.int (nI (xt_n s0 k))]) (by rw [ey]) ?_
  exact xb_iret (pc := 11) (rm := rm_byteOf) F hr hlk hA hQ h () trivial rfl [] (by decide) rfl (by decide) (by decide) d_TypeFinder_byteOf_11
abbrev rm_C_type : Room := { frames := 1, cells := 0, slots := 0, locals := 60 }
set_option maxHeartbeats 4000000 in
set_option maxRecDepth 100000 in
theorem ct_C_type (l : Launch) (G : xb_EV) (g0 : Nat) (r1 : Nat) (g1 : Nat → Int32) (s0 : Int64) (t1 : Value) (t2 : Value) (t3 : Value) (t4 : Value) (t6 : Value) (t7 : Value) (t8 : Value) : xb_CT l y_TypeFinder_type b_TypeFinder_type 5 (some .boolean) rm_C_type G [] [.ref g0, .long s0] [(g0, .inr (0, [.ref r1, t1, t2, t3, t4, .int 0, t6, t7, t8])), (r1, .inl (G.2.1 3, 80, .inl (g1)))] (S := Int32) (fun u => some (.int u)) (fun u => xt_ans s0 u) (fun u => []) := by
  refine xb_CT.of (by decide) "TypeFinder" rfl ?_ (Nat.le_of_ble_eq_true rfl)
  intro p e s m args below meth c A ls Q F hr hlk hnm h hl hA hQ
  have hx := F.1.1
  have hb := F.1.2.1
  have hml := F.1.2.2.1
  have hown := F.1.2.2.2.1
  have hts := F.1.2.2.2.2
  have hK := F.2.1
  have put : xt_ok s0 → ∀ (n j mm : Nat) (g : Nat → Int32) (ls : Array Slot) (H : Heap) (locs : List Loc), j + n = mm → mm ≤ 8 → xb_W G A s [(g0, .inr (0, [.ref r1, t1, t2, t3, t4, .int (nI j), t6, t7, t8])), (r1, .inl (G.2.1 3, 80, .inl (g)))] H locs → lv_has ls 5 [(4, .int (nI j)), (3, .int (nI mm)), (0, .ref g0), (1, .long s0)] → W p l e rm_C_type s m args below meth c H locs 0 0 Q (F0 m 65 ls []) := by
    intro hok n
    induction n with
    | zero =>
      intro j mm g ls H locs hj hm h hl
      obtain rfl : j = mm := by omega
      refine lv_iload (pc := 65) hx hb d_TypeFinder_type_65 (lv_at hl 0 rfl) ?_
      refine lv_iload_n (pc := 67) hx hb d_TypeFinder_type_67 rfl (lv_at hl 1 rfl) ?_
      refine lv_icmp_ge (pc := 68) (tgt := 103) hx hb d_TypeFinder_type_68 (by decide) (fun _ => ?_) (fun h => absurd (nI_le (Nat.le_refl j) (by omega)) h)
      refine lv_iconst (pc := 103) (v := 1) hx hb d_TypeFinder_type_103 (by decide) ?_
      exact xb_zret (pc := 104) (rm := rm_C_type) F hr hlk (by decide) hA hQ h 1 (Or.inl ⟨rfl, hok⟩) rfl [] (by decide) rfl (by decide) (by decide) d_TypeFinder_type_104
    | succ n ih =>
      intro j mm g ls H locs hj hm h hl
      refine lv_iload (pc := 65) hx hb d_TypeFinder_type_65 (lv_at hl 0 rfl) ?_
      refine lv_iload_n (pc := 67) hx hb d_TypeFinder_type_67 rfl (lv_at hl 1 rfl) ?_
      refine lv_icmp_ge (pc := 68) (tgt := 103) hx hb d_TypeFinder_type_68 (by decide) (fun h => absurd h (nI_ge (a := j) (b := mm) (by omega) (by omega))) (fun _ => ?_)
      refine lv_aload_n (pc := 71) hx hb d_TypeFinder_type_71 rfl (lv_at hl 2 rfl) ?_
      refine xb_get (pc := 72) F h cf_0 0 rfl 0 (by decide) rfl k_199 (Or.inl rfl) rfl d_TypeFinder_type_72 ?_
      refine lv_aload_n (pc := 75) hx hb d_TypeFinder_type_75 rfl (lv_at hl 2 rfl) ?_
      refine xb_get (pc := 76) F h cf_0 0 rfl 5 (by decide) rfl k_294 (Or.inl rfl) rfl d_TypeFinder_type_76 ?_
      refine lv_lload_n (pc := 79) hx hb d_TypeFinder_type_79 rfl (lv_at hl 3 rfl) ?_
      refine lv_iload (pc := 80) hx hb d_TypeFinder_type_80 (lv_at hl 0 rfl) ?_
      refine xb_callS (pc := 82) (rm := rm_byteOf) (wr := [(g0, .inr (0, [.ref r1, t1, t2, t3, t4, .int (nI j), t6, t7, t8])), (r1, .inl (G.2.1 3, 80, .inl (g)))]) F h (ct_byteOf l G s0 j) 2 k_691 k_348 k_692 k_693 hd_TypeFinder_byteOf (by decide) [] [0, 1] rfl rfl (by decide) (by decide) (by decide) xb_ss0 hl.1 rfl rfl (Nat.le_of_ble_eq_true rfl) (by decide) d_TypeFinder_type_82 (fun u H locs hu h => ?_)
      have h : xb_W G A s [(g0, .inr (0, [.ref r1, t1, t2, t3, t4, .int (nI j), t6, t7, t8])), (r1, .inl (G.2.1 3, 80, .inl (g)))] _ _ := h
      refine W.widen (k := 0) (n := 0) (by decide) (by decide) ?_
      refine W.eq (g2 := F0 m 85 ls [.int (nI (xt_n s0 j)), .int (nI j), .ref r1]) rfl ?_
      refine lv_i2c (pc := 85) hx hb d_TypeFinder_type_85 rfl ?_
      refine lv_topi (fun x85_1 ex85_1 => ?_)
      refine xb_castF (pc := 86) (ws' := fun f86_2 => [(g0, .inr (0, [.ref r1, t1, t2, t3, t4, .int (nI j), t6, t7, t8])), (r1, .inl (G.2.1 3, 80, .inl (f86_2)))]) F h 1 3 rfl rfl (vp_in_nI (by omega) (by decide)) (fun _ => rfl) d_TypeFinder_type_86 (fun f86_2 H locs h => ?_)
      refine lv_aload_n (pc := 87) hx hb d_TypeFinder_type_87 rfl (lv_at hl 2 rfl) ?_
      refine lv_dup (pc := 88) hx hb d_TypeFinder_type_88 rfl ?_
      refine xb_get (pc := 89) F h cf_0 0 rfl 5 (by decide) rfl k_294 (Or.inl rfl) rfl d_TypeFinder_type_89 ?_
      refine lv_iconst (pc := 92) (v := 1) hx hb d_TypeFinder_type_92 (by decide) ?_
      refine lv_iadd (pc := 93) hx hb d_TypeFinder_type_93 ?_
      refine xb_put (pc := 94) (t0 := .int) (ws' := [(g0, .inr (0, [.ref r1, t1, t2, t3, t4, .int ((nI j) + 1), t6, t7, t8])), (r1, .inl (G.2.1 3, 80, .inl (f86_2)))]) F h cf_0 0 rfl 5 (by decide) rfl k_294 (Or.inl rfl) (by decide +kernel) rfl rfl (Nat.le_of_ble_eq_true rfl) rfl d_TypeFinder_type_94 (fun H locs h => ?_)
      refine lv_iinc (pc := 97) (k := 0) (v := ((nI j) + 1)) (lv' := [(4, .int ((nI j) + 1)), (3, .int (nI mm)), (0, .ref g0), (1, .long s0)]) hx hb d_TypeFinder_type_97 hl rfl (rfl) (by decide) rfl (fun ls hl => ?_)
      refine lv_goto (pc := 100) (tgt := 65) hx hb d_TypeFinder_type_100 (by decide) ?_
      exact ih (j + 1) mm _ _ _ _ (by omega) hm (by rw [← nI_succ] at h; exact h) (by rw [← nI_succ] at hl; exact hl)
  have fin : ∀ (k : Nat) (ls : Array Slot) (H : Heap) (locs : List Loc), k ≤ 8 → (∀ j, j < k → xt_g s0 j) → (k = 8 ∨ xt_n s0 k = 0) → xb_W G A s [(g0, .inr (0, [.ref r1, t1, t2, t3, t4, .int 0, t6, t7, t8])), (r1, .inl (G.2.1 3, 80, .inl (g1)))] H locs → lv_has ls 5 [(3, .int (nI k)), (0, .ref g0), (1, .long s0)] → W p l e rm_C_type s m args below meth c H locs 0 0 Q (F0 m 45 ls []) := by
    intro k ls H locs hk hg he h hl
    refine lv_iload_n (pc := 45) hx hb d_TypeFinder_type_45 rfl (lv_at hl 0 rfl) ?_
    refine lv_if_eq (pc := 46) (tgt := 60) hx hb d_TypeFinder_type_46 (by decide) (fun hc => ?_) (fun hc => ?_)
    · have h0 : k = 0 := (xt_int k (by omega)).1.mp hc
      have hz : xt_n s0 0 = 0 := by
        subst h0
        rcases he with he | he
        · exact absurd he (by decide)
        · exact he
      refine lv_iconst (pc := 60) (v := 0) hx hb d_TypeFinder_type_60 (by decide) ?_
      exact xb_zret (pc := 61) (rm := rm_C_type) F hr hlk (by decide) hA hQ h 0 (Or.inr ⟨rfl, xt_no0 hz⟩) rfl [] (by decide) rfl (by decide) (by decide) d_TypeFinder_type_61
    · have h0 : ¬ k = 0 := fun z => hc ((xt_int k (by omega)).1.mpr z)
      refine lv_aload_n (pc := 49) hx hb d_TypeFinder_type_49 rfl (lv_at hl 1 rfl) ?_
      refine xb_get (pc := 50) F h cf_0 0 rfl 5 (by decide) rfl k_294 (Or.inl rfl) rfl d_TypeFinder_type_50 ?_
      refine lv_iload_n (pc := 53) hx hb d_TypeFinder_type_53 rfl (lv_at hl 0 rfl) ?_
      refine lv_iadd (pc := 54) hx hb d_TypeFinder_type_54 ?_
      refine lv_bipush (pc := 55) (v := 80) hx hb d_TypeFinder_type_55 (by decide) ?_
      refine lv_icmp_le (pc := 57) (tgt := 62) hx hb d_TypeFinder_type_57 (by decide) (fun _ => ?_) (fun h => absurd (by rw [Int32.zero_add]; exact nI_le (a := k) (b := 80) (by omega) (by decide)) h)
      refine lv_iconst (pc := 62) (v := 0) hx hb d_TypeFinder_type_62 (by decide) ?_
      refine lv_istore (pc := 63) (lv' := [(4, .int 0), (3, .int (nI k)), (0, .ref g0), (1, .long s0)]) hx hb d_TypeFinder_type_63 hl (by decide) rfl (fun ls hl => ?_)
      exact put ⟨k, by omega, hk, hg, he⟩ k 0 k g1 _ _ _ (by omega) hk h hl
  have loop : ∀ (n k : Nat) (ls : Array Slot) (H : Heap) (locs : List Loc), k + n = 8 → (∀ j, j < k → xt_g s0 j) → xb_W G A s [(g0, .inr (0, [.ref r1, t1, t2, t3, t4, .int 0, t6, t7, t8])), (r1, .inl (G.2.1 3, 80, .inl (g1)))] H locs → lv_has ls 5 [(3, .int (nI k)), (0, .ref g0), (1, .long s0)] → W p l e rm_C_type s m args below meth c H locs 0 0 Q (F0 m 2 ls []) := by
    intro n
    induction n with
    | zero =>
      intro k ls H locs hk hg h hl
      obtain rfl : k = 8 := by omega
      refine lv_iload_n (pc := 2) hx hb d_TypeFinder_type_2 rfl (lv_at hl 0 rfl) ?_
      refine lv_bipush (pc := 3) (v := 8) hx hb d_TypeFinder_type_3 (by decide) ?_
      refine lv_icmp_ge (pc := 5) (tgt := 45) hx hb d_TypeFinder_type_5 (by decide) (fun _ => ?_) (fun h => absurd (nI_le (Nat.le_refl 8) (by decide)) h)
      exact fin 8 _ _ _ (by decide) hg (Or.inl rfl) h hl
    | succ n ih =>
      intro k ls H locs hk hg h hl
      refine lv_iload_n (pc := 2) hx hb d_TypeFinder_type_2 rfl (lv_at hl 0 rfl) ?_
      refine lv_bipush (pc := 3) (v := 8) hx hb d_TypeFinder_type_3 (by decide) ?_
      refine lv_icmp_ge (pc := 5) (tgt := 45) hx hb d_TypeFinder_type_5 (by decide) (fun h => absurd h (nI_ge (a := k) (b := 8) (by omega) (by decide))) (fun _ => ?_)
      refine lv_lload_n (pc := 8) hx hb d_TypeFinder_type_8 rfl (lv_at hl 2 rfl) ?_
      refine lv_iload_n (pc := 9) hx hb d_TypeFinder_type_9 rfl (lv_at hl 0 rfl) ?_
      refine xb_callS (pc := 10) (rm := rm_byteOf) (wr := [(g0, .inr (0, [.ref r1, t1, t2, t3, t4, .int 0, t6, t7, t8])), (r1, .inl (G.2.1 3, 80, .inl (g1)))]) F h (ct_byteOf l G s0 k) 2 k_691 k_348 k_692 k_693 hd_TypeFinder_byteOf (by decide) [] [0, 1] rfl rfl (by decide) (by decide) (by decide) xb_ss0 hl.1 rfl rfl (Nat.le_of_ble_eq_true rfl) (by decide) d_TypeFinder_type_10 (fun u H locs hu h => ?_)
      have h : xb_W G A s [(g0, .inr (0, [.ref r1, t1, t2, t3, t4, .int 0, t6, t7, t8])), (r1, .inl (G.2.1 3, 80, .inl (g1)))] _ _ := h
      refine W.widen (k := 0) (n := 0) (by decide) (by decide) ?_
      refine W.eq (g2 := F0 m 13 ls [.int (nI (xt_n s0 k))]) rfl ?_
      have hlt := xt_lt s0 k
      refine lv_if_eq (pc := 13) (tgt := 45) hx hb d_TypeFinder_type_13 (by decide) (fun hz => fin k _ _ _ (by omega) hg (Or.inr ((xt_int _ hlt).1.mp hz)) h hl) (fun hz => ?_)
      refine lv_lload_n (pc := 16) hx hb d_TypeFinder_type_16 rfl (lv_at hl 2 rfl) ?_
      refine lv_iload_n (pc := 17) hx hb d_TypeFinder_type_17 rfl (lv_at hl 0 rfl) ?_
      refine xb_callS (pc := 18) (rm := rm_byteOf) (wr := [(g0, .inr (0, [.ref r1, t1, t2, t3, t4, .int 0, t6, t7, t8])), (r1, .inl (G.2.1 3, 80, .inl (g1)))]) F h (ct_byteOf l G s0 k) 2 k_691 k_348 k_692 k_693 hd_TypeFinder_byteOf (by decide) [] [0, 1] rfl rfl (by decide) (by decide) (by decide) xb_ss0 hl.1 rfl rfl (Nat.le_of_ble_eq_true rfl) (by decide) d_TypeFinder_type_18 (fun u H locs hu h => ?_)
      have h : xb_W G A s [(g0, .inr (0, [.ref r1, t1, t2, t3, t4, .int 0, t6, t7, t8])), (r1, .inl (G.2.1 3, 80, .inl (g1)))] _ _ := h
      refine W.widen (k := 0) (n := 0) (by decide) (by decide) ?_
      refine W.eq (g2 := F0 m 21 ls [.int (nI (xt_n s0 k))]) rfl ?_
      refine lv_istore (pc := 21) (lv' := [(4, .int (nI (xt_n s0 k))), (3, .int (nI k)), (0, .ref g0), (1, .long s0)]) hx hb d_TypeFinder_type_21 hl (by decide) rfl (fun ls hl => ?_)
      refine lv_iload (pc := 23) hx hb d_TypeFinder_type_23 (lv_at hl 0 rfl) ?_
      refine lv_bipush (pc := 25) (v := 32) hx hb d_TypeFinder_type_25 (by decide) ?_
      have no : ¬ xt_g s0 k → ∀ (ls : Array Slot), lv_has ls 5 [(4, .int (nI (xt_n s0 k))), (3, .int (nI k)), (0, .ref g0), (1, .long s0)] → W p l e rm_C_type s m args below meth c H locs 0 0 Q (F0 m 37 ls []) := by
        intro hb0 ls hl
        refine lv_iconst (pc := 37) (v := 0) hx hb d_TypeFinder_type_37 (by decide) ?_
        exact xb_zret (pc := 38) (rm := rm_C_type) F hr hlk (by decide) hA hQ h 0 (Or.inr ⟨rfl, xt_no1 (by omega) hg (fun z => hz ((xt_int _ hlt).1.mpr z)) hb0⟩) rfl [] (by decide) rfl (by decide) (by decide) d_TypeFinder_type_38
      refine lv_icmp_lt (pc := 27) (tgt := 37) hx hb d_TypeFinder_type_27 (by decide) (fun h3 => no (fun g => by have := (xt_int _ hlt).2.1.mp h3; unfold xt_g at g; omega) _ hl) (fun h3 => ?_)
      refine lv_iload (pc := 30) hx hb d_TypeFinder_type_30 (lv_at hl 0 rfl) ?_
      refine lv_bipush (pc := 32) (v := 126) hx hb d_TypeFinder_type_32 (by decide) ?_
      refine lv_icmp_le (pc := 34) (tgt := 39) hx hb d_TypeFinder_type_34 (by decide) (fun h4 => ?_) (fun h4 => no (fun g => h4 ((xt_int _ hlt).2.2.mpr g.2)) _ hl)
      refine lv_iinc (pc := 39) (k := 1) (v := ((nI k) + 1)) (lv' := [(3, .int ((nI k) + 1)), (4, .int (nI (xt_n s0 k))), (0, .ref g0), (1, .long s0)]) hx hb d_TypeFinder_type_39 hl rfl (rfl) (by decide) rfl (fun ls hl => ?_)
      refine lv_goto (pc := 42) (tgt := 2) hx hb d_TypeFinder_type_42 (by decide) ?_
      have gk : xt_g s0 k := ⟨by have := mt (xt_int _ hlt).2.1.mpr h3; omega, (xt_int _ hlt).2.2.mp h4⟩
      exact ih (k + 1) _ _ _ (by omega) (xt_more hg gk) h (lv_sub (by rw [← nI_succ] at hl; exact hl) [0, 2, 3] rfl)
  refine lv_iconst (pc := 0) (v := 0) hx hb d_TypeFinder_type_0 (by decide) ?_
  refine lv_istore_n (pc := 1) (lv' := [(3, .int 0), (0, .ref g0), (1, .long s0)]) hx hb d_TypeFinder_type_1 rfl hl (by decide) rfl (fun ls hl => ?_)
  exact loop 8 0 _ _ _ rfl (fun j hj => absurd hj (Nat.not_lt_zero j)) h hl
abbrev rm_M_type : Room := { frames := 0, cells := 0, slots := 0, locals := 30 }
set_option maxHeartbeats 4000000 in
set_option maxRecDepth 100000 in
theorem ct_M_type (l : Launch) (G : xb_EV) (h0 : Nat) (r1 : Nat) (g1 : Nat → Int32) (s0 : Int64) (m1 : Value) (m4 : Value) (m5 : Value) (m6 : Value) (m7 : Value) (m8 : Value) (m9 : Value) (m10 : Value) (m11 : Value) (m12 : Value) (m13 : Value) (m14 : Value) (m15 : Value) (m16 : Value) (m17 : Value) (m18 : Value) (m19 : Value) (m20 : Value) (m21 : Value) (m22 : Value) (m23 : Value) (m24 : Value) (m25 : Value) (m26 : Value) (m27 : Value) (m28 : Value) (m29 : Value) (m30 : Value) (m31 : Value) (m32 : Value) (m33 : Value) (m34 : Value) (m35 : Value) (m36 : Value) (m37 : Value) (m38 : Value) (m39 : Value) (m40 : Value) (m41 : Value) (m42 : Value) (m43 : Value) (m44 : Value) (m45 : Value) (m46 : Value) (m47 : Value) (m48 : Value) (m49 : Value) (m50 : Value) (m51 : Value) (m52 : Value) (m53 : Value) (m54 : Value) (m55 : Value) (m56 : Value) (m57 : Value) (m58 : Value) (m59 : Value) (m60 : Value) (m61 : Value) (m62 : Value) (m63 : Value) (m64 : Value) (m65 : Value) (m66 : Value) (m67 : Value) (m68 : Value) (m69 : Value) (m70 : Value) (m71 : Value) (m72 : Value) (m73 : Value) (m74 : Value) (m75 : Value) (m76 : Value) (m77 : Value) (m78 : Value) (m79 : Value) : xb_CT l y_TypeFinderModel_type b_TypeFinderModel_type 7 (some .boolean) rm_M_type G [] [.ref h0, .long s0] [(h0, .inr (14, [.int 0, m1, .int 0, .ref r1, m4, m5, m6, m7, m8, m9, m10, m11, m12, m13, m14, m15, m16, m17, m18, m19, m20, m21, m22, m23, m24, m25, m26, m27, m28, m29, m30, m31, m32, m33, m34, m35, m36, m37, m38, m39, m40, m41, m42, m43, m44, m45, m46, m47, m48, m49, m50, m51, m52, m53, m54, m55, m56, m57, m58, m59, m60, m61, m62, m63, m64, m65, m66, m67, m68, m69, m70, m71, m72, m73, m74, m75, m76, m77, m78, m79])), (r1, .inl (G.2.1 0, 80, .inl (g1)))] (S := Int32) (fun u => some (.int u)) (fun u => xt_ans s0 u) (fun u => []) := by
  refine xb_CT.of (by decide) "TypeFinderModel" rfl ?_ (Nat.le_of_ble_eq_true rfl)
  intro p e s m args below meth c A ls Q F hr hlk hnm h hl hA hQ
  have hx := F.1.1
  have hb := F.1.2.1
  have hml := F.1.2.2.1
  have hown := F.1.2.2.2.1
  have hts := F.1.2.2.2.2
  have hK := F.2.1
  have put : xt_ok s0 → ∀ (n j mm : Nat) (g : Nat → Int32) (ls : Array Slot) (H : Heap) (locs : List Loc), j + n = mm → mm ≤ 8 → xb_W G A s [(h0, .inr (14, [.int 0, m1, .int 0, .ref r1, m4, m5, m6, m7, m8, m9, m10, m11, m12, m13, m14, m15, m16, m17, m18, m19, m20, m21, m22, m23, m24, m25, m26, m27, m28, m29, m30, m31, m32, m33, m34, m35, m36, m37, m38, m39, m40, m41, m42, m43, m44, m45, m46, m47, m48, m49, m50, m51, m52, m53, m54, m55, m56, m57, m58, m59, m60, m61, m62, m63, m64, m65, m66, m67, m68, m69, m70, m71, m72, m73, m74, m75, m76, m77, m78, m79])), (r1, .inl (G.2.1 0, 80, .inl (g)))] H locs → lv_has ls 7 [(5, .int (nI j)), (4, .int 1), (3, .int (nI mm)), (0, .ref h0), (1, .long s0)] → W p l e rm_M_type s m args below meth c H locs 0 0 Q (F0 m 104 ls []) := by
    intro hok n
    induction n with
    | zero =>
      intro j mm g ls H locs hj hm h hl
      obtain rfl : j = mm := by omega
      refine lv_iload (pc := 104) hx hb d_TypeFinderModel_type_104 (lv_at hl 0 rfl) ?_
      refine lv_iload_n (pc := 106) hx hb d_TypeFinderModel_type_106 rfl (lv_at hl 2 rfl) ?_
      refine lv_icmp_ge (pc := 107) (tgt := 140) hx hb d_TypeFinderModel_type_107 (by decide) (fun _ => ?_) (fun h => absurd (nI_le (Nat.le_refl j) (by omega)) h)
      refine lv_aload_n (pc := 140) hx hb d_TypeFinderModel_type_140 rfl (lv_at hl 3 rfl) ?_
      refine lv_dup (pc := 141) hx hb d_TypeFinderModel_type_141 rfl ?_
      refine xb_get (pc := 142) F h cf_14 0 rfl 2 (by decide) rfl k_415 (Or.inl rfl) rfl d_TypeFinderModel_type_142 ?_
      refine lv_iload_n (pc := 145) hx hb d_TypeFinderModel_type_145 rfl (lv_at hl 2 rfl) ?_
      refine lv_iadd (pc := 146) hx hb d_TypeFinderModel_type_146 ?_
      refine xb_put (pc := 147) (t0 := .int) (ws' := [(h0, .inr (14, [.int 0, m1, .int (0 + (nI j)), .ref r1, m4, m5, m6, m7, m8, m9, m10, m11, m12, m13, m14, m15, m16, m17, m18, m19, m20, m21, m22, m23, m24, m25, m26, m27, m28, m29, m30, m31, m32, m33, m34, m35, m36, m37, m38, m39, m40, m41, m42, m43, m44, m45, m46, m47, m48, m49, m50, m51, m52, m53, m54, m55, m56, m57, m58, m59, m60, m61, m62, m63, m64, m65, m66, m67, m68, m69, m70, m71, m72, m73, m74, m75, m76, m77, m78, m79])), (r1, .inl (G.2.1 0, 80, .inl (g)))]) F h cf_14 0 rfl 2 (by decide) rfl k_415 (Or.inl rfl) (by decide +kernel) rfl rfl (Nat.le_of_ble_eq_true rfl) rfl d_TypeFinderModel_type_147 (fun H locs h => ?_)
      refine lv_iconst (pc := 150) (v := 1) hx hb d_TypeFinderModel_type_150 (by decide) ?_
      exact xb_zret (pc := 151) (rm := rm_M_type) F hr hlk (by decide) hA hQ h 1 (Or.inl ⟨rfl, hok⟩) rfl [] (by decide) rfl (by decide) (by decide) d_TypeFinderModel_type_151
    | succ n ih =>
      intro j mm g ls H locs hj hm h hl
      refine lv_iload (pc := 104) hx hb d_TypeFinderModel_type_104 (lv_at hl 0 rfl) ?_
      refine lv_iload_n (pc := 106) hx hb d_TypeFinderModel_type_106 rfl (lv_at hl 2 rfl) ?_
      refine lv_icmp_ge (pc := 107) (tgt := 140) hx hb d_TypeFinderModel_type_107 (by decide) (fun h => absurd h (nI_ge (a := j) (b := mm) (by omega) (by omega))) (fun _ => ?_)
      refine lv_aload_n (pc := 110) hx hb d_TypeFinderModel_type_110 rfl (lv_at hl 3 rfl) ?_
      refine xb_get (pc := 111) F h cf_14 0 rfl 3 (by decide) rfl k_232 (Or.inl rfl) rfl d_TypeFinderModel_type_111 ?_
      refine lv_aload_n (pc := 114) hx hb d_TypeFinderModel_type_114 rfl (lv_at hl 3 rfl) ?_
      refine xb_get (pc := 115) F h cf_14 0 rfl 2 (by decide) rfl k_415 (Or.inl rfl) rfl d_TypeFinderModel_type_115 ?_
      refine lv_iload (pc := 118) hx hb d_TypeFinderModel_type_118 (lv_at hl 0 rfl) ?_
      refine lv_iadd (pc := 120) hx hb d_TypeFinderModel_type_120 ?_
      refine lv_lload_n (pc := 121) hx hb d_TypeFinderModel_type_121 rfl (lv_at hl 4 rfl) ?_
      refine lv_bipush (pc := 122) (v := 8) hx hb d_TypeFinderModel_type_122 (by decide) ?_
      refine lv_iload (pc := 124) hx hb d_TypeFinderModel_type_124 (lv_at hl 0 rfl) ?_
      refine lv_imul (pc := 126) hx hb d_TypeFinderModel_type_126 ?_
      refine lv_lushr (pc := 127) hx hb d_TypeFinderModel_type_127 rfl ?_
      refine lv_topl (fun x127_1 ex127_1 => ?_)
      refine lv_ldc2 (pc := 128) (v := 255) hx hb hown (hts _ k_401) d_TypeFinderModel_type_128 ?_
      refine lv_land (pc := 131) hx hb d_TypeFinderModel_type_131 ?_
      refine lv_topl (fun x131_2 ex131_2 => ?_)
      refine lv_l2i (pc := 132) hx hb d_TypeFinderModel_type_132 rfl ?_
      refine lv_topi (fun x132_3 ex132_3 => ?_)
      refine xb_iastF (pc := 133) (ws' := fun f133_4 => [(h0, .inr (14, [.int 0, m1, .int 0, .ref r1, m4, m5, m6, m7, m8, m9, m10, m11, m12, m13, m14, m15, m16, m17, m18, m19, m20, m21, m22, m23, m24, m25, m26, m27, m28, m29, m30, m31, m32, m33, m34, m35, m36, m37, m38, m39, m40, m41, m42, m43, m44, m45, m46, m47, m48, m49, m50, m51, m52, m53, m54, m55, m56, m57, m58, m59, m60, m61, m62, m63, m64, m65, m66, m67, m68, m69, m70, m71, m72, m73, m74, m75, m76, m77, m78, m79])), (r1, .inl (G.2.1 0, 80, .inl (f133_4)))]) F h 1 0 rfl rfl (by rw [Int32.zero_add]; exact vp_in_nI (by omega) (by decide)) (fun _ => rfl) d_TypeFinderModel_type_133 (fun f133_4 H locs h => ?_)
      refine lv_iinc (pc := 134) (k := 0) (v := ((nI j) + 1)) (lv' := [(5, .int ((nI j) + 1)), (4, .int 1), (3, .int (nI mm)), (0, .ref h0), (1, .long s0)]) hx hb d_TypeFinderModel_type_134 hl rfl (rfl) (by decide) rfl (fun ls hl => ?_)
      refine lv_goto (pc := 137) (tgt := 104) hx hb d_TypeFinderModel_type_137 (by decide) ?_
      exact ih (j + 1) mm _ _ _ _ (by omega) hm h (by rw [← nI_succ] at hl; exact hl)
  have fin : ∀ (k : Nat) (gg : Int32) (ls : Array Slot) (H : Heap) (locs : List Loc), k ≤ 8 → (∀ j, j < k → ¬ xt_n s0 j = 0) → ((gg = 1 ∧ ∀ j, j < k → xt_g s0 j) ∨ (gg = 0 ∧ ∃ j, j < k ∧ ¬ xt_g s0 j)) → (k = 8 ∨ xt_n s0 k = 0) → xb_W G A s [(h0, .inr (14, [.int 0, m1, .int 0, .ref r1, m4, m5, m6, m7, m8, m9, m10, m11, m12, m13, m14, m15, m16, m17, m18, m19, m20, m21, m22, m23, m24, m25, m26, m27, m28, m29, m30, m31, m32, m33, m34, m35, m36, m37, m38, m39, m40, m41, m42, m43, m44, m45, m46, m47, m48, m49, m50, m51, m52, m53, m54, m55, m56, m57, m58, m59, m60, m61, m62, m63, m64, m65, m66, m67, m68, m69, m70, m71, m72, m73, m74, m75, m76, m77, m78, m79])), (r1, .inl (G.2.1 0, 80, .inl (g1)))] H locs → lv_has ls 7 [(3, .int (nI k)), (4, .int gg), (0, .ref h0), (1, .long s0)] → W p l e rm_M_type s m args below meth c H locs 0 0 Q (F0 m 79 ls []) := by
    intro k gg ls H locs hk hn hg he h hl
    have no : ¬ xt_ok s0 → ∀ (ls : Array Slot), lv_has ls 7 [(3, .int (nI k)), (4, .int gg), (0, .ref h0), (1, .long s0)] → W p l e rm_M_type s m args below meth c H locs 0 0 Q (F0 m 99 ls []) := by
      intro hb0 ls hl
      refine lv_iconst (pc := 99) (v := 0) hx hb d_TypeFinderModel_type_99 (by decide) ?_
      exact xb_zret (pc := 100) (rm := rm_M_type) F hr hlk (by decide) hA hQ h 0 (Or.inr ⟨rfl, hb0⟩) rfl [] (by decide) rfl (by decide) (by decide) d_TypeFinderModel_type_100
    refine lv_iload_n (pc := 79) hx hb d_TypeFinderModel_type_79 rfl (lv_at hl 0 rfl) ?_
    refine lv_if_eq (pc := 80) (tgt := 99) hx hb d_TypeFinderModel_type_80 (by decide) (fun hc => ?_) (fun hc => ?_)
    · have hk0 : k = 0 := (xt_int k (by omega)).1.mp hc
      refine no (xt_no0 ?_) _ hl
      subst hk0
      rcases he with he | he
      · exact absurd he (by decide)
      · exact he
    · have hk0 : ¬ k = 0 := fun z => hc ((xt_int k (by omega)).1.mpr z)
      refine lv_iload (pc := 83) hx hb d_TypeFinderModel_type_83 (lv_at hl 1 rfl) ?_
      refine lv_if_eq (pc := 85) (tgt := 99) hx hb d_TypeFinderModel_type_85 (by decide) (fun hc2 => ?_) (fun hc2 => ?_)
      · rcases hg with ⟨a, -⟩ | ⟨-, j, hj, hb0⟩
        · rw [a] at hc2; exact absurd hc2 (by decide)
        · exact no (xt_no2 hk hn he hj hb0) _ hl
      · rcases hg with ⟨rfl, hg⟩ | ⟨a, -⟩
        · refine lv_aload_n (pc := 88) hx hb d_TypeFinderModel_type_88 rfl (lv_at hl 2 rfl) ?_
          refine xb_get (pc := 89) F h cf_14 0 rfl 2 (by decide) rfl k_415 (Or.inl rfl) rfl d_TypeFinderModel_type_89 ?_
          refine lv_iload_n (pc := 92) hx hb d_TypeFinderModel_type_92 rfl (lv_at hl 0 rfl) ?_
          refine lv_iadd (pc := 93) hx hb d_TypeFinderModel_type_93 ?_
          refine lv_bipush (pc := 94) (v := 80) hx hb d_TypeFinderModel_type_94 (by decide) ?_
          refine lv_icmp_le (pc := 96) (tgt := 101) hx hb d_TypeFinderModel_type_96 (by decide) (fun _ => ?_) (fun h => absurd (by rw [Int32.zero_add]; exact nI_le (a := k) (b := 80) (by omega) (by decide)) h)
          refine lv_iconst (pc := 101) (v := 0) hx hb d_TypeFinderModel_type_101 (by decide) ?_
          refine lv_istore (pc := 102) (lv' := [(5, .int 0), (3, .int (nI k)), (4, .int 1), (0, .ref h0), (1, .long s0)]) hx hb d_TypeFinderModel_type_102 hl (by decide) rfl (fun ls hl => ?_)
          exact put ⟨k, by omega, hk, hg, he⟩ k 0 k g1 _ _ _ (by omega) hk h (lv_sub hl [0, 2, 1, 3, 4] rfl)
        · exact absurd a hc2
  have loop : ∀ (n k : Nat) (gg : Int32) (ls : Array Slot) (H : Heap) (locs : List Loc), k + n = 8 → (∀ j, j < k → ¬ xt_n s0 j = 0) → ((gg = 1 ∧ ∀ j, j < k → xt_g s0 j) ∨ (gg = 0 ∧ ∃ j, j < k ∧ ¬ xt_g s0 j)) → xb_W G A s [(h0, .inr (14, [.int 0, m1, .int 0, .ref r1, m4, m5, m6, m7, m8, m9, m10, m11, m12, m13, m14, m15, m16, m17, m18, m19, m20, m21, m22, m23, m24, m25, m26, m27, m28, m29, m30, m31, m32, m33, m34, m35, m36, m37, m38, m39, m40, m41, m42, m43, m44, m45, m46, m47, m48, m49, m50, m51, m52, m53, m54, m55, m56, m57, m58, m59, m60, m61, m62, m63, m64, m65, m66, m67, m68, m69, m70, m71, m72, m73, m74, m75, m76, m77, m78, m79])), (r1, .inl (G.2.1 0, 80, .inl (g1)))] H locs → lv_has ls 7 [(3, .int (nI k)), (4, .int gg), (0, .ref h0), (1, .long s0)] → W p l e rm_M_type s m args below meth c H locs 0 0 Q (F0 m 10 ls []) := by
    intro n
    induction n with
    | zero =>
      intro k gg ls H locs hk hn hg h hl
      obtain rfl : k = 8 := by omega
      refine lv_iload_n (pc := 10) hx hb d_TypeFinderModel_type_10 rfl (lv_at hl 0 rfl) ?_
      refine lv_bipush (pc := 11) (v := 8) hx hb d_TypeFinderModel_type_11 (by decide) ?_
      refine lv_icmp_ge (pc := 13) (tgt := 79) hx hb d_TypeFinderModel_type_13 (by decide) (fun _ => ?_) (fun h => absurd (nI_le (Nat.le_refl 8) (by decide)) h)
      exact fin 8 gg _ _ _ (by decide) hn hg (Or.inl rfl) h hl
    | succ n ih =>
      intro k gg ls H locs hk hn hg h hl
      have hlt := xt_lt s0 k
      refine lv_iload_n (pc := 10) hx hb d_TypeFinderModel_type_10 rfl (lv_at hl 0 rfl) ?_
      refine lv_bipush (pc := 11) (v := 8) hx hb d_TypeFinderModel_type_11 (by decide) ?_
      refine lv_icmp_ge (pc := 13) (tgt := 79) hx hb d_TypeFinderModel_type_13 (by decide) (fun h => absurd h (nI_ge (a := k) (b := 8) (by omega) (by decide))) (fun _ => ?_)
      refine lv_lload_n (pc := 16) hx hb d_TypeFinderModel_type_16 rfl (lv_at hl 3 rfl) ?_
      refine lv_bipush (pc := 17) (v := 8) hx hb d_TypeFinderModel_type_17 (by decide) ?_
      refine lv_iload_n (pc := 19) hx hb d_TypeFinderModel_type_19 rfl (lv_at hl 0 rfl) ?_
      refine lv_imul (pc := 20) hx hb d_TypeFinderModel_type_20 ?_
      refine lv_lushr (pc := 21) hx hb d_TypeFinderModel_type_21 rfl ?_
      refine lv_topl (fun x21_1 ex21_1 => ?_)
      refine lv_ldc2 (pc := 22) (v := 255) hx hb hown (hts _ k_401) d_TypeFinderModel_type_22 ?_
      refine lv_land (pc := 25) hx hb d_TypeFinderModel_type_25 ?_
      refine lv_topl (fun x25_2 ex25_2 => ?_)
      have ez : x25_2 = Int64.ofNat (xt_n s0 k) := by rw [ex25_2, ex21_1]; exact xt_l s0 k
      refine lv_lconst (pc := 26) (v := 0) hx hb d_TypeFinderModel_type_26 (by decide) ?_
      refine W.lcmp (pc := 27) hx hb d_TypeFinderModel_type_27 ?_
      refine lv_topi (fun x27_3 ex27_3 => ?_)
      rw [ez] at ex27_3
      refine lv_if_eq (pc := 28) (tgt := 79) hx hb d_TypeFinderModel_type_28 (by decide) (fun hz => fin k gg _ _ _ (by omega) hn hg (Or.inr ((xt_cmp _ hlt).1.mp (by rw [← ex27_3]; exact hz))) h hl) (fun hz => ?_)
      have hnz : ¬ xt_n s0 k = 0 := fun z => hz (by rw [ex27_3]; exact (xt_cmp _ hlt).1.mpr z)
      have nxt : ∀ (g2 : Int32) (cc : Int64) (ls : Array Slot), ((g2 = 1 ∧ ∀ j, j < k + 1 → xt_g s0 j) ∨ (g2 = 0 ∧ ∃ j, j < k + 1 ∧ ¬ xt_g s0 j)) → lv_has ls 7 [(5, .long cc), (3, .int (nI k)), (4, .int gg), (0, .ref h0), (1, .long s0)] → W p l e rm_M_type s m args below meth c H locs 0 0 Q (F0 m 71 ls [.int g2]) := by
        intro g2 cc ls hg2 hl
        refine lv_istore (pc := 71) (lv' := [(4, .int g2), (5, .long cc), (3, .int (nI k)), (0, .ref h0), (1, .long s0)]) hx hb d_TypeFinderModel_type_71 hl (by decide) rfl (fun ls hl => ?_)
        refine lv_iinc (pc := 73) (k := 2) (v := ((nI k) + 1)) (lv' := [(3, .int ((nI k) + 1)), (4, .int g2), (5, .long cc), (0, .ref h0), (1, .long s0)]) hx hb d_TypeFinderModel_type_73 hl rfl (rfl) (by decide) rfl (fun ls hl => ?_)
        refine lv_goto (pc := 76) (tgt := 10) hx hb d_TypeFinderModel_type_76 (by decide) ?_
        exact ih (k + 1) g2 _ _ _ (by omega) (xt_more hn hnz) hg2 h (lv_sub (by rw [← nI_succ] at hl; exact hl) [0, 1, 3, 4] rfl)
      have bad : ∀ (cc : Int64) (ls : Array Slot), (∃ j, j < k + 1 ∧ ¬ xt_g s0 j) → lv_has ls 7 [(5, .long cc), (3, .int (nI k)), (4, .int gg), (0, .ref h0), (1, .long s0)] → W p l e rm_M_type s m args below meth c H locs 0 0 Q (F0 m 70 ls []) := by
        intro cc ls hb0 hl
        refine lv_iconst (pc := 70) (v := 0) hx hb d_TypeFinderModel_type_70 (by decide) ?_
        exact nxt 0 cc _ (Or.inr ⟨rfl, hb0⟩) hl
      refine lv_lload_n (pc := 31) hx hb d_TypeFinderModel_type_31 rfl (lv_at hl 3 rfl) ?_
      refine lv_bipush (pc := 32) (v := 8) hx hb d_TypeFinderModel_type_32 (by decide) ?_
      refine lv_iload_n (pc := 34) hx hb d_TypeFinderModel_type_34 rfl (lv_at hl 0 rfl) ?_
      refine lv_imul (pc := 35) hx hb d_TypeFinderModel_type_35 ?_
      refine lv_lushr (pc := 36) hx hb d_TypeFinderModel_type_36 rfl ?_
      refine lv_topl (fun x36_1 ex36_1 => ?_)
      refine lv_ldc2 (pc := 37) (v := 255) hx hb hown (hts _ k_401) d_TypeFinderModel_type_37 ?_
      refine lv_land (pc := 40) hx hb d_TypeFinderModel_type_40 ?_
      refine lv_topl (fun x40_2 ex40_2 => ?_)
      have ez2 : x40_2 = Int64.ofNat (xt_n s0 k) := by rw [ex40_2, ex36_1]; exact xt_l s0 k
      refine lv_lstore (pc := 41) (lv' := [(5, .long x40_2), (3, .int (nI k)), (4, .int gg), (0, .ref h0), (1, .long s0)]) hx hb d_TypeFinderModel_type_41 hl (by decide) rfl (fun ls hl => ?_)
      refine lv_iload (pc := 43) hx hb d_TypeFinderModel_type_43 (lv_at hl 2 rfl) ?_
      refine lv_if_eq (pc := 45) (tgt := 70) hx hb d_TypeFinderModel_type_45 (by decide) (fun h1 => ?_) (fun h1 => ?_)
      · refine bad _ _ ?_ hl
        rcases hg with ⟨a, -⟩ | ⟨-, j, hj, hb0⟩
        · rw [a] at h1; exact absurd h1 (by decide)
        · exact ⟨j, by omega, hb0⟩
      have hga : ∀ j, j < k → xt_g s0 j := by
        rcases hg with ⟨-, a⟩ | ⟨a, -⟩
        · exact a
        · exact absurd a h1
      refine lv_lload (pc := 48) hx hb d_TypeFinderModel_type_48 (lv_at hl 0 rfl) ?_
      refine lv_ldc2 (pc := 50) (v := 32) hx hb hown (hts _ k_694) d_TypeFinderModel_type_50 ?_
      refine W.lcmp (pc := 53) hx hb d_TypeFinderModel_type_53 ?_
      refine lv_topi (fun x53_1 ex53_1 => ?_)
      rw [ez2] at ex53_1
      refine lv_if_lt (pc := 54) (tgt := 70) hx hb d_TypeFinderModel_type_54 (by decide) (fun h2 => bad _ _ ⟨k, by omega, fun g => by have := (xt_cmp _ hlt).2.1.mp (by rw [← ex53_1]; exact h2); unfold xt_g at g; omega⟩ hl) (fun h2 => ?_)
      refine lv_lload (pc := 57) hx hb d_TypeFinderModel_type_57 (lv_at hl 0 rfl) ?_
      refine lv_ldc2 (pc := 59) (v := 126) hx hb hown (hts _ k_695) d_TypeFinderModel_type_59 ?_
      refine W.lcmp (pc := 62) hx hb d_TypeFinderModel_type_62 ?_
      refine lv_topi (fun x62_1 ex62_1 => ?_)
      rw [ez2] at ex62_1
      refine lv_if_gt (pc := 63) (tgt := 70) hx hb d_TypeFinderModel_type_63 (by decide) (fun h3 => bad _ _ ⟨k, by omega, fun g => by have := (xt_cmp _ hlt).2.2.mp (by rw [← ex62_1]; exact h3); unfold xt_g at g; omega⟩ hl) (fun h3 => ?_)
      refine lv_iconst (pc := 66) (v := 1) hx hb d_TypeFinderModel_type_66 (by decide) ?_
      refine lv_goto (pc := 67) (tgt := 71) hx hb d_TypeFinderModel_type_67 (by decide) ?_
      have gk : xt_g s0 k := ⟨by have := mt (xt_cmp _ hlt).2.1.mpr (by rw [← ex53_1]; exact h2); omega, by have := mt (xt_cmp _ hlt).2.2.mpr (by rw [← ex62_1]; exact h3); omega⟩
      exact nxt 1 _ _ (Or.inl ⟨rfl, xt_more hga gk⟩) hl
  refine lv_aload_n (pc := 0) hx hb d_TypeFinderModel_type_0 rfl (lv_at hl 0 rfl) ?_
  refine lv_iconst (pc := 1) (v := 0) hx hb d_TypeFinderModel_type_1 (by decide) ?_
  refine xb_put (pc := 2) (t0 := .int) (ws' := [(h0, .inr (14, [.int 0, m1, .int 0, .ref r1, m4, m5, m6, m7, m8, m9, m10, m11, m12, m13, m14, m15, m16, m17, m18, m19, m20, m21, m22, m23, m24, m25, m26, m27, m28, m29, m30, m31, m32, m33, m34, m35, m36, m37, m38, m39, m40, m41, m42, m43, m44, m45, m46, m47, m48, m49, m50, m51, m52, m53, m54, m55, m56, m57, m58, m59, m60, m61, m62, m63, m64, m65, m66, m67, m68, m69, m70, m71, m72, m73, m74, m75, m76, m77, m78, m79])), (r1, .inl (G.2.1 0, 80, .inl (g1)))]) F h cf_14 0 rfl 0 (by decide) rfl k_411 (Or.inl rfl) (by decide +kernel) rfl rfl (Nat.le_of_ble_eq_true rfl) rfl d_TypeFinderModel_type_2 (fun H locs h => ?_)
  refine lv_iconst (pc := 5) (v := 0) hx hb d_TypeFinderModel_type_5 (by decide) ?_
  refine lv_istore_n (pc := 6) (lv' := [(3, .int 0), (0, .ref h0), (1, .long s0)]) hx hb d_TypeFinderModel_type_6 rfl hl (by decide) rfl (fun ls hl => ?_)
  refine lv_iconst (pc := 7) (v := 1) hx hb d_TypeFinderModel_type_7 (by decide) ?_
  refine lv_istore (pc := 8) (lv' := [(4, .int 1), (3, .int 0), (0, .ref h0), (1, .long s0)]) hx hb d_TypeFinderModel_type_8 hl (by decide) rfl (fun ls hl => ?_)
  exact loop 8 0 1 _ _ _ rfl (fun j hj => absurd hj (Nat.not_lt_zero j)) (Or.inl ⟨rfl, fun j hj => absurd hj (Nat.not_lt_zero j)⟩) h (lv_sub hl [1, 0, 2, 3] rfl)
