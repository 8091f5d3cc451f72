abbrev rm_String_coder : Room := { frames := 0, cells := 0, slots := 0, locals := 30 }
set_option maxHeartbeats 4000000 in
set_option maxRecDepth 100000 in
theorem ct_String_coder (l : Launch) (G : xb_EV) (a0 : Nat) (d0 : Nat) (n0 : Nat) (fb : Nat → Int32) (hn : n0 < 65536) : xb_CT l y_String_coder b_String_coder 1 (some .byte) rm_String_coder G [(a0, d0, n0, fb)] [.ref a0] [] (S := Unit) (fun u => some (.int 0)) (fun u => True) (fun u => []) := by
  refine xb_CT.of (by decide) "java/lang/String" rfl ?_ (Nat.le_of_ble_eq_true rfl)
  intro p e s m args below meth c A ls Q F hr hlk hnm h hl hA hQ
  have hx := F.1.1
  have hb := F.1.2.1
  have hml := F.1.2.2.1
  have hown := F.1.2.2.2.1
  have hts := F.1.2.2.2.2
  have hK := F.2.1
  have hsb := F.2.2.2.2 _ List.mem_cons_self
  have hsT : va_T .byte d0 n0 (fun j => .int (fb j)) A s s.heap := hsb.2.2.2
  refine va_gets (pc := 0) hx hb (F.2.2.2.1.2.2.1) h.2.2 hown (hts _ k_0) (fun _ h => h) d_String_coder_0 ?_
  refine lv_if_eq (pc := 3) (tgt := 13) hx hb d_String_coder_3 (by decide) (fun h => absurd h (by decide)) (fun _ => ?_)
  refine lv_aload_n (pc := 6) hx hb d_String_coder_6 rfl (lv_at hl 0 rfl) ?_
  refine vk_getf (pc := 7) hx hb hsb.2.1 h.2.2 hown (hts _ k_1) (fun _ h => h) d_String_coder_7 ?_
  refine lv_goto (pc := 10) (tgt := 14) hx hb d_String_coder_10 (by decide) ?_
  exact xb_zret (pc := 14) (rm := rm_String_coder) F hr hlk (by decide) hA hQ h () trivial rfl [] (by decide) rfl (by decide) (by decide) d_String_coder_14
abbrev rm_String_isLatin1 : Room := { frames := 0, cells := 0, slots := 0, locals := 30 }
set_option maxHeartbeats 4000000 in
set_option maxRecDepth 100000 in
theorem ct_String_isLatin1 (l : Launch) (G : xb_EV) (a0 : Nat) (d0 : Nat) (n0 : Nat) (fb : Nat → Int32) (hn : n0 < 65536) : xb_CT l y_String_isLatin1 b_String_isLatin1 1 (some .boolean) rm_String_isLatin1 G [(a0, d0, n0, fb)] [.ref a0] [] (S := Unit) (fun u => some (.int 1)) (fun u => True) (fun u => []) := by
  refine xb_CT.of (by decide) "java/lang/String" rfl ?_ (Nat.le_of_ble_eq_true rfl)
  intro p e s m args below meth c A ls Q F hr hlk hnm h hl hA hQ
  have hx := F.1.1
  have hb := F.1.2.1
  have hml := F.1.2.2.1
  have hown := F.1.2.2.2.1
  have hts := F.1.2.2.2.2
  have hK := F.2.1
  have hsb := F.2.2.2.2 _ List.mem_cons_self
  have hsT : va_T .byte d0 n0 (fun j => .int (fb j)) A s s.heap := hsb.2.2.2
  refine va_gets (pc := 0) hx hb (F.2.2.2.1.2.2.1) h.2.2 hown (hts _ k_0) (fun _ h => h) d_String_isLatin1_0 ?_
  refine lv_if_eq (pc := 3) (tgt := 17) hx hb d_String_isLatin1_3 (by decide) (fun h => absurd h (by decide)) (fun _ => ?_)
  refine lv_aload_n (pc := 6) hx hb d_String_isLatin1_6 rfl (lv_at hl 0 rfl) ?_
  refine vk_getf (pc := 7) hx hb hsb.2.1 h.2.2 hown (hts _ k_1) (fun _ h => h) d_String_isLatin1_7 ?_
  refine lv_if_ne (pc := 10) (tgt := 17) hx hb d_String_isLatin1_10 (by decide) (fun h => absurd (by decide) h) (fun _ => ?_)
  refine lv_iconst (pc := 13) (v := 1) hx hb d_String_isLatin1_13 (by decide) ?_
  refine lv_goto (pc := 14) (tgt := 18) hx hb d_String_isLatin1_14 (by decide) ?_
  exact xb_zret (pc := 18) (rm := rm_String_isLatin1) F hr hlk (by decide) hA hQ h () trivial rfl [] (by decide) rfl (by decide) (by decide) d_String_isLatin1_18
abbrev rm_String_length : Room := { frames := 1, cells := 0, slots := 0, locals := 60 }
set_option maxHeartbeats 4000000 in
set_option maxRecDepth 100000 in
theorem ct_String_length (l : Launch) (G : xb_EV) (a0 : Nat) (d0 : Nat) (n0 : Nat) (fb : Nat → Int32) (hn : n0 < 65536) : xb_CT l y_String_length b_String_length 1 (some .int) rm_String_length G [(a0, d0, n0, fb)] [.ref a0] [] (S := Unit) (fun u => some (.int (nI n0))) (fun u => True) (fun u => []) := by
  refine xb_CT.of (by decide) "java/lang/String" rfl ?_ (Nat.le_of_ble_eq_true rfl)
  intro p e s m args below meth c A ls Q F hr hlk hnm h hl hA hQ
  have hx := F.1.1
  have hb := F.1.2.1
  have hml := F.1.2.2.1
  have hown := F.1.2.2.2.1
  have hts := F.1.2.2.2.2
  have hK := F.2.1
  have hsb := F.2.2.2.2 _ List.mem_cons_self
  have hsT : va_T .byte d0 n0 (fun j => .int (fb j)) A s s.heap := hsb.2.2.2
  refine lv_aload_n (pc := 0) hx hb d_String_length_0 rfl (lv_at hl 0 rfl) ?_
  refine vk_getf (pc := 1) hx hb hsb.2.2.1 h.2.2 hown (hts _ k_2) (fun _ h => h) d_String_length_1 ?_
  refine va_tlen (pc := 4) (v := (Int32.ofNat n0)) hx hb hsT h.2.2 (by first | rfl | decide) d_String_length_4 ?_
  refine lv_aload_n (pc := 5) hx hb d_String_length_5 rfl (lv_at hl 0 rfl) ?_
  refine xb_callV (pc := 6) (rm := rm_String_coder) (wr := []) F h (ct_String_coder l G a0 d0 n0 fb hn) 0 (va_Orecv hsb.1 h.2.2) k_3 k_4 k_5 k_6 k_7 hd_String_coder (by decide) [] [] rfl rfl (by decide) (by decide) (by decide) (xb_ssg F h [] rfl (fun _ z => z)) hl.1 rfl rfl (Nat.le_of_ble_eq_true rfl) (by decide) d_String_length_6 (fun u H locs hu h => ?_)
  have h : xb_W G A s [] _ _ := h
  refine W.widen (k := 0) (n := 0) (by decide) (by decide) ?_
  refine W.eq (g2 := F0 m 9 ls [.int 0, .int (Int32.ofNat n0)]) rfl ?_
  refine lv_ishr (pc := 9) hx hb d_String_length_9 ?_
  refine W.eq (g2 := F0 m 10 ls [.int (nI n0)]) (by rw [sb_shr0]; rfl) ?_
  exact xb_iret (pc := 10) (rm := rm_String_length) F hr hlk hA hQ h () trivial rfl [] (by decide) rfl (by decide) (by decide) d_String_length_10
abbrev rm_checkIndex : Room := { frames := 0, cells := 0, slots := 0, locals := 30 }
set_option maxHeartbeats 4000000 in
set_option maxRecDepth 100000 in
theorem ct_checkIndex (l : Launch) (G : xb_EV) (k : Nat) (n0 : Nat) (z : Nat) (hk : k < n0) (hn : n0 < 65536) : xb_CT l y_Preconditions_checkIndex b_Preconditions_checkIndex 3 (some .int) rm_checkIndex G [] [.int (nI k), .int (nI n0), .ref z] [] (S := Unit) (fun u => some (.int (nI k))) (fun u => True) (fun u => []) := by
  refine xb_CT.of (by decide) "jdk/internal/util/Preconditions" rfl ?_ (Nat.le_of_ble_eq_true rfl)
  intro p e s m args below meth c A ls Q F hr hlk hnm h hl hA hQ
  have hx := F.1.1
  have hb := F.1.2.1
  have hml := F.1.2.2.1
  have hown := F.1.2.2.2.1
  have hts := F.1.2.2.2.2
  have hK := F.2.1
  refine lv_iload_n (pc := 0) hx hb d_Preconditions_checkIndex_0 rfl (lv_at hl 0 rfl) ?_
  refine lv_if_lt (pc := 1) (tgt := 9) hx hb d_Preconditions_checkIndex_1 (by decide) (fun h => absurd h (nI_pos (by omega))) (fun _ => ?_)
  refine lv_iload_n (pc := 4) hx hb d_Preconditions_checkIndex_4 rfl (lv_at hl 0 rfl) ?_
  refine lv_iload_n (pc := 5) hx hb d_Preconditions_checkIndex_5 rfl (lv_at hl 1 rfl) ?_
  refine lv_icmp_lt (pc := 6) (tgt := 16) hx hb d_Preconditions_checkIndex_6 (by decide) (fun _ => ?_) (fun h => absurd (nI_lt hk (by omega)) h)
  refine lv_iload_n (pc := 16) hx hb d_Preconditions_checkIndex_16 rfl (lv_at hl 0 rfl) ?_
  exact xb_iret (pc := 17) (rm := rm_checkIndex) F hr hlk hA hQ h () trivial rfl [] (by decide) rfl (by decide) (by decide) d_Preconditions_checkIndex_17
abbrev rm_checkIndexN : Room := { frames := 0, cells := 0, slots := 0, locals := 30 }
set_option maxHeartbeats 4000000 in
set_option maxRecDepth 100000 in
theorem ct_checkIndexN (l : Launch) (G : xb_EV) (k : Nat) (n0 : Nat) (hk : k < n0) (hn : n0 < 65536) : xb_CT l y_Preconditions_checkIndex b_Preconditions_checkIndex 3 (some .int) rm_checkIndexN G [] [.int (nI k), .int (nI n0), .null] [] (S := Unit) (fun u => some (.int (nI k))) (fun u => True) (fun u => []) := by
  refine xb_CT.of (by decide) "jdk/internal/util/Preconditions" rfl ?_ (Nat.le_of_ble_eq_true rfl)
  intro p e s m args below meth c A ls Q F hr hlk hnm h hl hA hQ
  have hx := F.1.1
  have hb := F.1.2.1
  have hml := F.1.2.2.1
  have hown := F.1.2.2.2.1
  have hts := F.1.2.2.2.2
  have hK := F.2.1
  refine lv_iload_n (pc := 0) hx hb d_Preconditions_checkIndex_0 rfl (lv_at hl 0 rfl) ?_
  refine lv_if_lt (pc := 1) (tgt := 9) hx hb d_Preconditions_checkIndex_1 (by decide) (fun h => absurd h (nI_pos (by omega))) (fun _ => ?_)
  refine lv_iload_n (pc := 4) hx hb d_Preconditions_checkIndex_4 rfl (lv_at hl 0 rfl) ?_
  refine lv_iload_n (pc := 5) hx hb d_Preconditions_checkIndex_5 rfl (lv_at hl 1 rfl) ?_
  refine lv_icmp_lt (pc := 6) (tgt := 16) hx hb d_Preconditions_checkIndex_6 (by decide) (fun _ => ?_) (fun h => absurd (nI_lt hk (by omega)) h)
  refine lv_iload_n (pc := 16) hx hb d_Preconditions_checkIndex_16 rfl (lv_at hl 0 rfl) ?_
  exact xb_iret (pc := 17) (rm := rm_checkIndexN) F hr hlk hA hQ h () trivial rfl [] (by decide) rfl (by decide) (by decide) d_Preconditions_checkIndex_17
abbrev rm_String_checkIndex : Room := { frames := 1, cells := 0, slots := 0, locals := 60 }
set_option maxHeartbeats 4000000 in
set_option maxRecDepth 100000 in
theorem ct_String_checkIndex (l : Launch) (G : xb_EV) (k : Nat) (n0 : Nat) (hk : k < n0) (hn : n0 < 65536) : xb_CT l y_String_checkIndex b_String_checkIndex 2 none rm_String_checkIndex G [] [.int (nI k), .int (nI n0)] [] (S := Unit) (fun u => none) (fun u => True) (fun u => []) := by
  refine xb_CT.of (by decide) "java/lang/String" rfl ?_ (Nat.le_of_ble_eq_true rfl)
  intro p e s m args below meth c A ls Q F hr hlk hnm h hl hA hQ
  have hx := F.1.1
  have hb := F.1.2.1
  have hml := F.1.2.2.1
  have hown := F.1.2.2.2.1
  have hts := F.1.2.2.2.2
  have hK := F.2.1
  obtain ⟨z, hz⟩ := F.2.2.2.1.2.2.2.2.2.1
  cases z with
  | none =>
    have hz : va_Z "jdk/internal/util/Preconditions" "SIOOBE_FORMATTER" "Ljava/util/function/BiFunction;" (.null) A s s.heap := hz
    refine lv_iload_n (pc := 0) hx hb d_String_checkIndex_0 rfl (lv_at hl 0 rfl) ?_
    refine lv_iload_n (pc := 1) hx hb d_String_checkIndex_1 rfl (lv_at hl 1 rfl) ?_
    refine va_gets (pc := 2) hx hb (hz) h.2.2 hown (hts _ k_8) (fun _ h => h) d_String_checkIndex_2 ?_
    refine xb_callS (pc := 5) (rm := rm_checkIndexN) (wr := []) F h (ct_checkIndexN l G k n0 hk hn) 3 k_9 k_10 k_11 k_12 hd_Preconditions_checkIndex (by decide) [] [] rfl rfl (by decide) (by decide) (by decide) xb_ss0 hl.1 rfl rfl (Nat.le_of_ble_eq_true rfl) (by decide) d_String_checkIndex_5 (fun u H locs hu h => ?_)
    have h : xb_W G A s [] _ _ := h
    refine W.widen (k := 0) (n := 0) (by decide) (by decide) ?_
    refine W.eq (g2 := F0 m 8 ls [.int (nI k)]) rfl ?_
    refine lv_pop (pc := 8) hx hb d_String_checkIndex_8 rfl ?_
    exact xb_vret (pc := 9) (rm := rm_String_checkIndex) F hr hlk hA hQ h () trivial rfl [] (by decide) rfl (by decide) (by decide) d_String_checkIndex_9
  | some z =>
    have hz : va_Z "jdk/internal/util/Preconditions" "SIOOBE_FORMATTER" "Ljava/util/function/BiFunction;" (.ref z) A s s.heap := hz
    refine lv_iload_n (pc := 0) hx hb d_String_checkIndex_0 rfl (lv_at hl 0 rfl) ?_
    refine lv_iload_n (pc := 1) hx hb d_String_checkIndex_1 rfl (lv_at hl 1 rfl) ?_
    refine va_gets (pc := 2) hx hb (hz) h.2.2 hown (hts _ k_8) (fun _ h => h) d_String_checkIndex_2 ?_
    refine xb_callS (pc := 5) (rm := rm_checkIndex) (wr := []) F h (ct_checkIndex l G k n0 z hk hn) 3 k_9 k_10 k_11 k_12 hd_Preconditions_checkIndex (by decide) [] [] rfl rfl (by decide) (by decide) (by decide) xb_ss0 hl.1 rfl rfl (Nat.le_of_ble_eq_true rfl) (by decide) d_String_checkIndex_5 (fun u H locs hu h => ?_)
    have h : xb_W G A s [] _ _ := h
    refine W.widen (k := 0) (n := 0) (by decide) (by decide) ?_
    refine W.eq (g2 := F0 m 8 ls [.int (nI k)]) rfl ?_
    refine lv_pop (pc := 8) hx hb d_String_checkIndex_8 rfl ?_
    exact xb_vret (pc := 9) (rm := rm_String_checkIndex) F hr hlk hA hQ h () trivial rfl [] (by decide) rfl (by decide) (by decide) d_String_checkIndex_9
abbrev rm_SL1_charAt : Room := { frames := 2, cells := 0, slots := 0, locals := 90 }
set_option maxHeartbeats 4000000 in
set_option maxRecDepth 100000 in
theorem ct_SL1_charAt (l : Launch) (G : xb_EV) (a0 : Nat) (d0 : Nat) (n0 : Nat) (fb : Nat → Int32) (hn : n0 < 65536) (k : Nat) (hk : k < n0) : xb_CT l y_StringLatin1_charAt b_StringLatin1_charAt 2 (some .char) rm_SL1_charAt G [(a0, d0, n0, fb)] [.ref d0, .int (nI k)] [] (S := Int32) (fun u => some (.int u)) (fun u => narrow .char (.int u) = .int u ∧ u = fb k &&& 255) (fun u => []) := by
  refine xb_CT.of (by decide) "java/lang/StringLatin1" rfl ?_ (Nat.le_of_ble_eq_true rfl)
  intro p e s m args below meth c A ls Q F hr hlk hnm h hl hA hQ
  have hx := F.1.1
  have hb := F.1.2.1
  have hml := F.1.2.2.1
  have hown := F.1.2.2.2.1
  have hts := F.1.2.2.2.2
  have hK := F.2.1
  have hsb := F.2.2.2.2 _ List.mem_cons_self
  have hsT : va_T .byte d0 n0 (fun j => .int (fb j)) A s s.heap := hsb.2.2.2
  refine lv_iload_n (pc := 0) hx hb d_StringLatin1_charAt_0 rfl (lv_at hl 1 rfl) ?_
  refine lv_aload_n (pc := 1) hx hb d_StringLatin1_charAt_1 rfl (lv_at hl 0 rfl) ?_
  refine va_tlen (pc := 2) (v := (Int32.ofNat n0)) hx hb hsT h.2.2 (by first | rfl | decide) d_StringLatin1_charAt_2 ?_
  refine xb_callS (pc := 3) (rm := rm_String_checkIndex) (wr := []) F h (ct_String_checkIndex l G k n0 hk hn) 2 k_13 k_4 k_14 k_15 hd_String_checkIndex (by decide) [] [] rfl rfl (by decide) (by decide) (by decide) xb_ss0 hl.1 rfl rfl (Nat.le_of_ble_eq_true rfl) (by decide) d_StringLatin1_charAt_3 (fun u H locs hu h => ?_)
  have h : xb_W G A s [] _ _ := h
  refine W.widen (k := 0) (n := 0) (by decide) (by decide) ?_
  refine W.eq (g2 := F0 m 6 ls []) rfl ?_
  refine lv_aload_n (pc := 6) hx hb d_StringLatin1_charAt_6 rfl (lv_at hl 0 rfl) ?_
  refine lv_iload_n (pc := 7) hx hb d_StringLatin1_charAt_7 rfl (lv_at hl 1 rfl) ?_
  refine va_tb (pc := 8) hx hb hsT h.2.2 (vp_in_nI hk (by omega)) rfl d_StringLatin1_charAt_8 ?_
  refine lv_topi (fun x8_1 ex8_1 => ?_)
  refine lv_sipush (pc := 9) (v := 255) hx hb d_StringLatin1_charAt_9 (by decide) ?_
  refine lv_iand (pc := 12) hx hb d_StringLatin1_charAt_12 ?_
  refine lv_i2c (pc := 13) hx hb d_StringLatin1_charAt_13 rfl ?_
  refine lv_topi (fun x13_2 ex13_2 => ?_)
  exact xb_zret (pc := 14) (rm := rm_SL1_charAt) F hr hlk (by rw [ex13_2]; exact pk_nc _) hA hQ h x13_2 ⟨by rw [ex13_2]; exact pk_nc _, by rw [ex13_2, sc_c2, ex8_1, nI_clamp (by omega)]⟩ rfl [] (by decide) rfl (by decide) (by decide) d_StringLatin1_charAt_14
abbrev rm_String_charAt : Room := { frames := 3, cells := 0, slots := 0, locals := 130 }
set_option maxHeartbeats 4000000 in
set_option maxRecDepth 100000 in
theorem ct_String_charAt (l : Launch) (G : xb_EV) (a0 : Nat) (d0 : Nat) (n0 : Nat) (fb : Nat → Int32) (hn : n0 < 65536) (k : Nat) (hk : k < n0) : xb_CT l y_String_charAt b_String_charAt 2 (some .char) rm_String_charAt G [(a0, d0, n0, fb)] [.ref a0, .int (nI k)] [] (S := Int32) (fun u => some (.int u)) (fun u => narrow .char (.int u) = .int u ∧ u = fb k &&& 255) (fun u => []) := by
  refine xb_CT.of (by decide) "java/lang/String" rfl ?_ (Nat.le_of_ble_eq_true rfl)
  intro p e s m args below meth c A ls Q F hr hlk hnm h hl hA hQ
  have hx := F.1.1
  have hb := F.1.2.1
  have hml := F.1.2.2.1
  have hown := F.1.2.2.2.1
  have hts := F.1.2.2.2.2
  have hK := F.2.1
  have hsb := F.2.2.2.2 _ List.mem_cons_self
  have hsT : va_T .byte d0 n0 (fun j => .int (fb j)) A s s.heap := hsb.2.2.2
  refine lv_aload_n (pc := 0) hx hb d_String_charAt_0 rfl (lv_at hl 0 rfl) ?_
  refine xb_callV (pc := 1) (rm := rm_String_isLatin1) (wr := []) F h (ct_String_isLatin1 l G a0 d0 n0 fb hn) 0 (va_Orecv hsb.1 h.2.2) k_16 k_4 k_17 k_18 k_19 hd_String_isLatin1 (by decide) [] [] rfl rfl (by decide) (by decide) (by decide) (xb_ssg F h [] rfl (fun _ z => z)) hl.1 rfl rfl (Nat.le_of_ble_eq_true rfl) (by decide) d_String_charAt_1 (fun u H locs hu h => ?_)
  have h : xb_W G A s [] _ _ := h
  refine W.widen (k := 0) (n := 0) (by decide) (by decide) ?_
  refine W.eq (g2 := F0 m 4 ls [.int 1]) rfl ?_
  refine lv_if_eq (pc := 4) (tgt := 16) hx hb d_String_charAt_4 (by decide) (fun h => absurd h (by decide)) (fun _ => ?_)
  refine lv_aload_n (pc := 7) hx hb d_String_charAt_7 rfl (lv_at hl 0 rfl) ?_
  refine vk_getf (pc := 8) hx hb hsb.2.2.1 h.2.2 hown (hts _ k_2) (fun _ h => h) d_String_charAt_8 ?_
  refine lv_iload_n (pc := 11) hx hb d_String_charAt_11 rfl (lv_at hl 1 rfl) ?_
  refine xb_callS (pc := 12) (rm := rm_SL1_charAt) (wr := []) F h (ct_SL1_charAt l G a0 d0 n0 fb hn k hk) 2 k_20 k_21 k_22 k_23 hd_StringLatin1_charAt (by decide) [] [] rfl rfl (by decide) (by decide) (by decide) (xb_ssg F h [] rfl (fun _ z => z)) hl.1 rfl rfl (Nat.le_of_ble_eq_true rfl) (by decide) d_String_charAt_12 (fun u H locs hu h => ?_)
  have h : xb_W G A s [] _ _ := h
  refine W.widen (k := 0) (n := 0) (by decide) (by decide) ?_
  refine W.eq (g2 := F0 m 15 ls [.int u]) rfl ?_
  exact xb_zret (pc := 15) (rm := rm_String_charAt) F hr hlk hu.1 hA hQ h u hu rfl [] (by decide) rfl (by decide) (by decide) d_String_charAt_15
abbrev rm_String_init : Room := { frames := 1, cells := 0, slots := 0, locals := 30 }
set_option maxHeartbeats 4000000 in
set_option maxRecDepth 100000 in
theorem ct_String_init (l : Launch) (G : xb_EV) (h0 : Nat) (v0 : Nat) : xb_CT l y_String_init b_String_init 3 none rm_String_init G [] [.ref h0, .ref v0, .int 0] [(h0, .inr (13, [.null, .int 0, .int 0, .int 0]))] (S := Unit) (fun _ => none) (fun _ => True) (fun _ => [(h0, .inr (13, [.ref v0, .int 0, .int 0, .int 0]))]) := by
  refine xb_CT.of (by decide) "java/lang/String" rfl ?_ (Nat.le_of_ble_eq_true rfl)
  intro p e s m args below meth c A ls Q F hr hlk hnm h hl hA hQ
  have hx := F.1.1
  have hb := F.1.2.1
  have hml := F.1.2.2.1
  have hown := F.1.2.2.2.1
  have hts := F.1.2.2.2.2
  have hK := F.2.1
  refine lv_aload_n (pc := 0) hx hb d_String_init_0 rfl (lv_at hl 0 rfl) ?_
  refine W.objInit hx hb hown (hts _ k_377) (hts _ k_25) (hts _ k_26) rfl (by rw [hml]; exact hl.1) rfl d_String_init_1 (Nat.le_of_ble_eq_true rfl) (Nat.le_of_ble_eq_true rfl) ?_
  refine W.eq (g2 := F0 m 4 ls []) rfl ?_
  refine lv_aload_n (pc := 4) hx hb d_String_init_4 rfl (lv_at hl 0 rfl) ?_
  refine lv_aload_n (pc := 5) hx hb d_String_init_5 rfl (lv_at hl 1 rfl) ?_
  refine xb_putF (pc := 6) (t0 := (.array .byte)) (ws' := [(h0, .inr (13, [.ref v0, .int 0, .int 0, .int 0]))]) F h hnm cf_13 0 rfl 0 (by decide) rfl k_2 (by decide +kernel) rfl rfl (Nat.le_of_ble_eq_true rfl) rfl d_String_init_6 (fun H locs h => ?_)
  refine lv_aload_n (pc := 9) hx hb d_String_init_9 rfl (lv_at hl 0 rfl) ?_
  refine lv_iload_n (pc := 10) hx hb d_String_init_10 rfl (lv_at hl 2 rfl) ?_
  refine xb_putF (pc := 11) (t0 := .byte) (ws' := [(h0, .inr (13, [.ref v0, .int 0, .int 0, .int 0]))]) F h hnm cf_13 0 rfl 1 (by decide) rfl k_1 (by decide +kernel) (by decide) (by decide) (Nat.le_of_ble_eq_true rfl) rfl d_String_init_11 (fun H locs h => ?_)
  exact xb_vret (pc := 14) (rm := rm_String_init) F hr hlk hA hQ h () trivial rfl [0] (by decide) rfl (by decide) (by decide) d_String_init_14
abbrev rm_checkFromTo : Room := { frames := 0, cells := 0, slots := 0, locals := 30 }
set_option maxHeartbeats 4000000 in
set_option maxRecDepth 100000 in
theorem ct_checkFromTo (l : Launch) (G : xb_EV) (b : Nat) (e2 : Nat) (n0 : Nat) (hbe : b ≤ e2) (hen : e2 ≤ n0) (hn : n0 < 65536) (z : Nat) : xb_CT l y_Preconditions_checkFromToIndex b_Preconditions_checkFromToIndex 4 (some .int) rm_checkFromTo G [] [.int (nI b), .int (nI e2), .int (nI n0), .ref z] [] (S := Unit) (fun u => some (.int (nI b))) (fun u => True) (fun u => []) := by
  refine xb_CT.of (by decide) "jdk/internal/util/Preconditions" rfl ?_ (Nat.le_of_ble_eq_true rfl)
  intro p e s m args below meth c A ls Q F hr hlk hnm h hl hA hQ
  have hx := F.1.1
  have hb := F.1.2.1
  have hml := F.1.2.2.1
  have hown := F.1.2.2.2.1
  have hts := F.1.2.2.2.2
  have hK := F.2.1
  refine lv_iload_n (pc := 0) hx hb d_Preconditions_checkFromToIndex_0 rfl (lv_at hl 0 rfl) ?_
  refine lv_if_lt (pc := 1) (tgt := 14) hx hb d_Preconditions_checkFromToIndex_1 (by decide) (fun h => absurd h (nI_pos (by omega))) (fun _ => ?_)
  refine lv_iload_n (pc := 4) hx hb d_Preconditions_checkFromToIndex_4 rfl (lv_at hl 0 rfl) ?_
  refine lv_iload_n (pc := 5) hx hb d_Preconditions_checkFromToIndex_5 rfl (lv_at hl 1 rfl) ?_
  refine lv_icmp_gt (pc := 6) (tgt := 14) hx hb d_Preconditions_checkFromToIndex_6 (by decide) (fun h => absurd h (nI_nlt hbe (by omega))) (fun _ => ?_)
  refine lv_iload_n (pc := 9) hx hb d_Preconditions_checkFromToIndex_9 rfl (lv_at hl 1 rfl) ?_
  refine lv_iload_n (pc := 10) hx hb d_Preconditions_checkFromToIndex_10 rfl (lv_at hl 2 rfl) ?_
  refine lv_icmp_le (pc := 11) (tgt := 22) hx hb d_Preconditions_checkFromToIndex_11 (by decide) (fun _ => ?_) (fun h => absurd (nI_le hen (by omega)) h)
  refine lv_iload_n (pc := 22) hx hb d_Preconditions_checkFromToIndex_22 rfl (lv_at hl 0 rfl) ?_
  exact xb_iret (pc := 23) (rm := rm_checkFromTo) F hr hlk hA hQ h () trivial rfl [] (by decide) rfl (by decide) (by decide) d_Preconditions_checkFromToIndex_23
abbrev rm_checkFromToN : Room := { frames := 0, cells := 0, slots := 0, locals := 30 }
set_option maxHeartbeats 4000000 in
set_option maxRecDepth 100000 in
theorem ct_checkFromToN (l : Launch) (G : xb_EV) (b : Nat) (e2 : Nat) (n0 : Nat) (hbe : b ≤ e2) (hen : e2 ≤ n0) (hn : n0 < 65536) : xb_CT l y_Preconditions_checkFromToIndex b_Preconditions_checkFromToIndex 4 (some .int) rm_checkFromToN G [] [.int (nI b), .int (nI e2), .int (nI n0), .null] [] (S := Unit) (fun u => some (.int (nI b))) (fun u => True) (fun u => []) := by
  refine xb_CT.of (by decide) "jdk/internal/util/Preconditions" rfl ?_ (Nat.le_of_ble_eq_true rfl)
  intro p e s m args below meth c A ls Q F hr hlk hnm h hl hA hQ
  have hx := F.1.1
  have hb := F.1.2.1
  have hml := F.1.2.2.1
  have hown := F.1.2.2.2.1
  have hts := F.1.2.2.2.2
  have hK := F.2.1
  refine lv_iload_n (pc := 0) hx hb d_Preconditions_checkFromToIndex_0 rfl (lv_at hl 0 rfl) ?_
  refine lv_if_lt (pc := 1) (tgt := 14) hx hb d_Preconditions_checkFromToIndex_1 (by decide) (fun h => absurd h (nI_pos (by omega))) (fun _ => ?_)
  refine lv_iload_n (pc := 4) hx hb d_Preconditions_checkFromToIndex_4 rfl (lv_at hl 0 rfl) ?_
  refine lv_iload_n (pc := 5) hx hb d_Preconditions_checkFromToIndex_5 rfl (lv_at hl 1 rfl) ?_
  refine lv_icmp_gt (pc := 6) (tgt := 14) hx hb d_Preconditions_checkFromToIndex_6 (by decide) (fun h => absurd h (nI_nlt hbe (by omega))) (fun _ => ?_)
  refine lv_iload_n (pc := 9) hx hb d_Preconditions_checkFromToIndex_9 rfl (lv_at hl 1 rfl) ?_
  refine lv_iload_n (pc := 10) hx hb d_Preconditions_checkFromToIndex_10 rfl (lv_at hl 2 rfl) ?_
  refine lv_icmp_le (pc := 11) (tgt := 22) hx hb d_Preconditions_checkFromToIndex_11 (by decide) (fun _ => ?_) (fun h => absurd (nI_le hen (by omega)) h)
  refine lv_iload_n (pc := 22) hx hb d_Preconditions_checkFromToIndex_22 rfl (lv_at hl 0 rfl) ?_
  exact xb_iret (pc := 23) (rm := rm_checkFromToN) F hr hlk hA hQ h () trivial rfl [] (by decide) rfl (by decide) (by decide) d_Preconditions_checkFromToIndex_23
abbrev rm_checkBounds : Room := { frames := 1, cells := 0, slots := 0, locals := 60 }
set_option maxHeartbeats 4000000 in
set_option maxRecDepth 100000 in
theorem ct_checkBounds (l : Launch) (G : xb_EV) (b : Nat) (e2 : Nat) (n0 : Nat) (hbe : b ≤ e2) (hen : e2 ≤ n0) (hn : n0 < 65536) : xb_CT l y_String_checkBoundsBeginEnd b_String_checkBoundsBeginEnd 3 none rm_checkBounds G [] [.int (nI b), .int (nI e2), .int (nI n0)] [] (S := Unit) (fun u => none) (fun u => True) (fun u => []) := by
  refine xb_CT.of (by decide) "java/lang/String" rfl ?_ (Nat.le_of_ble_eq_true rfl)
  intro p e s m args below meth c A ls Q F hr hlk hnm h hl hA hQ
  have hx := F.1.1
  have hb := F.1.2.1
  have hml := F.1.2.2.1
  have hown := F.1.2.2.2.1
  have hts := F.1.2.2.2.2
  have hK := F.2.1
  obtain ⟨z, hz⟩ := F.2.2.2.1.2.2.2.2.2.1
  cases z with
  | none =>
    have hz : va_Z "jdk/internal/util/Preconditions" "SIOOBE_FORMATTER" "Ljava/util/function/BiFunction;" (.null) A s s.heap := hz
    refine lv_iload_n (pc := 0) hx hb d_String_checkBoundsBeginEnd_0 rfl (lv_at hl 0 rfl) ?_
    refine lv_iload_n (pc := 1) hx hb d_String_checkBoundsBeginEnd_1 rfl (lv_at hl 1 rfl) ?_
    refine lv_iload_n (pc := 2) hx hb d_String_checkBoundsBeginEnd_2 rfl (lv_at hl 2 rfl) ?_
    refine va_gets (pc := 3) hx hb (hz) h.2.2 hown (hts _ k_8) (fun _ h => h) d_String_checkBoundsBeginEnd_3 ?_
    refine xb_callS (pc := 6) (rm := rm_checkFromToN) (wr := []) F h (ct_checkFromToN l G b e2 n0 hbe hen hn) 4 k_360 k_10 k_361 k_362 hd_Preconditions_checkFromToIndex (by decide) [] [] rfl rfl (by decide) (by decide) (by decide) xb_ss0 hl.1 rfl rfl (Nat.le_of_ble_eq_true rfl) (by decide) d_String_checkBoundsBeginEnd_6 (fun u H locs hu h => ?_)
    have h : xb_W G A s [] _ _ := h
    refine W.widen (k := 0) (n := 0) (by decide) (by decide) ?_
    refine W.eq (g2 := F0 m 9 ls [.int (nI b)]) rfl ?_
    refine lv_pop (pc := 9) hx hb d_String_checkBoundsBeginEnd_9 rfl ?_
    exact xb_vret (pc := 10) (rm := rm_checkBounds) F hr hlk hA hQ h () trivial rfl [] (by decide) rfl (by decide) (by decide) d_String_checkBoundsBeginEnd_10
  | some z =>
    have hz : va_Z "jdk/internal/util/Preconditions" "SIOOBE_FORMATTER" "Ljava/util/function/BiFunction;" (.ref z) A s s.heap := hz
    refine lv_iload_n (pc := 0) hx hb d_String_checkBoundsBeginEnd_0 rfl (lv_at hl 0 rfl) ?_
    refine lv_iload_n (pc := 1) hx hb d_String_checkBoundsBeginEnd_1 rfl (lv_at hl 1 rfl) ?_
    refine lv_iload_n (pc := 2) hx hb d_String_checkBoundsBeginEnd_2 rfl (lv_at hl 2 rfl) ?_
    refine va_gets (pc := 3) hx hb (hz) h.2.2 hown (hts _ k_8) (fun _ h => h) d_String_checkBoundsBeginEnd_3 ?_
    refine xb_callS (pc := 6) (rm := rm_checkFromTo) (wr := []) F h (ct_checkFromTo l G b e2 n0 hbe hen hn z) 4 k_360 k_10 k_361 k_362 hd_Preconditions_checkFromToIndex (by decide) [] [] rfl rfl (by decide) (by decide) (by decide) xb_ss0 hl.1 rfl rfl (Nat.le_of_ble_eq_true rfl) (by decide) d_String_checkBoundsBeginEnd_6 (fun u H locs hu h => ?_)
    have h : xb_W G A s [] _ _ := h
    refine W.widen (k := 0) (n := 0) (by decide) (by decide) ?_
    refine W.eq (g2 := F0 m 9 ls [.int (nI b)]) rfl ?_
    refine lv_pop (pc := 9) hx hb d_String_checkBoundsBeginEnd_9 rfl ?_
    exact xb_vret (pc := 10) (rm := rm_checkBounds) F hr hlk hA hQ h () trivial rfl [] (by decide) rfl (by decide) (by decide) d_String_checkBoundsBeginEnd_10
abbrev rm_checkLength : Room := { frames := 0, cells := 0, slots := 0, locals := 30 }
set_option maxHeartbeats 4000000 in
set_option maxRecDepth 100000 in
theorem ct_checkLength (l : Launch) (G : xb_EV) (b : Nat) (e2 : Nat) (hbe : b ≤ e2) (hen : e2 < 65536) : xb_CT l y_Arrays_checkLength b_Arrays_checkLength 2 none rm_checkLength G [] [.int (nI b), .int (nI e2)] [] (S := Unit) (fun u => none) (fun u => True) (fun u => []) := by
  refine xb_CT.of (by decide) "java/util/Arrays" rfl ?_ (Nat.le_of_ble_eq_true rfl)
  intro p e s m args below meth c A ls Q F hr hlk hnm h hl hA hQ
  have hx := F.1.1
  have hb := F.1.2.1
  have hml := F.1.2.2.1
  have hown := F.1.2.2.2.1
  have hts := F.1.2.2.2.2
  have hK := F.2.1
  refine lv_iload_n (pc := 0) hx hb d_Arrays_checkLength_0 rfl (lv_at hl 1 rfl) ?_
  refine lv_iload_n (pc := 1) hx hb d_Arrays_checkLength_1 rfl (lv_at hl 0 rfl) ?_
  refine lv_icmp_ge (pc := 2) (tgt := 37) hx hb d_Arrays_checkLength_2 (by decide) (fun _ => ?_) (fun h => absurd (nI_le hbe (by omega)) h)
  exact xb_vret (pc := 37) (rm := rm_checkLength) F hr hlk hA hQ h () trivial rfl [] (by decide) rfl (by decide) (by decide) d_Arrays_checkLength_37
abbrev rm_copyOfRangeByte : Room := { frames := 3, cells := 1, slots := 5, locals := 120 }
set_option maxHeartbeats 4000000 in
set_option maxRecDepth 100000 in
theorem ct_copyOfRangeByte (l : Launch) (G : xb_EV) (a0 : Nat) (d0 : Nat) (n0 : Nat) (fb : Nat → Int32) (hn : n0 < 65536) (b : Nat) (e2 : Nat) (hbe : b < e2) (hen : e2 ≤ n0) (hne : ¬ (b = 0 ∧ e2 = n0)) (h5 : e2 - b ≤ 5) (hfb : ∀ i, i < n0 → fits .byte (.int (fb i)) = true) : xb_CT l y_Arrays_copyOfRangeByte b_Arrays_copyOfRangeByte 5 (some (.array .byte)) rm_copyOfRangeByte G [(a0, d0, n0, fb)] [.ref d0, .int (nI b), .int (nI e2)] [] (S := Nat × (Nat → Int32)) (fun u => some (.ref u.1)) (fun u => True) (fun u => [(u.1, .inl (G.2.1 4, e2 - b, .inl u.2))]) := by
  refine xb_CT.of (by decide) "java/util/Arrays" rfl ?_ (Nat.le_of_ble_eq_true rfl)
  intro p e s m args below meth c A ls Q F hr hlk hnm h hl hA hQ
  have hx := F.1.1
  have hb := F.1.2.1
  have hml := F.1.2.2.1
  have hown := F.1.2.2.2.1
  have hts := F.1.2.2.2.2
  have hK := F.2.1
  have hsb := F.2.2.2.2 _ List.mem_cons_self
  have hsT : va_T .byte d0 n0 (fun j => .int (fb j)) A s s.heap := hsb.2.2.2
  refine lv_iload_n (pc := 0) hx hb d_Arrays_copyOfRangeByte_0 rfl (lv_at hl 1 rfl) ?_
  refine lv_iload_n (pc := 1) hx hb d_Arrays_copyOfRangeByte_1 rfl (lv_at hl 2 rfl) ?_
  refine xb_callS (pc := 2) (rm := rm_checkLength) (wr := []) F h (ct_checkLength l G b e2 (by omega) (by omega)) 2 k_363 k_364 k_365 k_366 hd_Arrays_checkLength (by decide) [] [] rfl rfl (by decide) (by decide) (by decide) xb_ss0 hl.1 rfl rfl (Nat.le_of_ble_eq_true rfl) (by decide) d_Arrays_copyOfRangeByte_2 (fun u H locs hu h => ?_)
  have h : xb_W G A s [] _ _ := h
  refine W.widen (k := 0) (n := 0) (by decide) (by decide) ?_
  refine W.eq (g2 := F0 m 5 ls []) rfl ?_
  refine lv_iload_n (pc := 5) hx hb d_Arrays_copyOfRangeByte_5 rfl (lv_at hl 2 rfl) ?_
  refine lv_iload_n (pc := 6) hx hb d_Arrays_copyOfRangeByte_6 rfl (lv_at hl 1 rfl) ?_
  refine lv_isub (pc := 7) hx hb d_Arrays_copyOfRangeByte_7 ?_
  refine W.eq (g2 := F0 m 8 ls [.int (nI (e2 - b))]) (by rw [pk_sub (by omega)]) ?_
  refine lv_istore_n (pc := 8) (lv' := [(3, .int (nI (e2 - b))), (0, .ref d0), (1, .int (nI b)), (2, .int (nI e2))]) hx hb d_Arrays_copyOfRangeByte_8 rfl hl (by decide) rfl (fun ls hl => ?_)
  refine lv_iload_n (pc := 9) hx hb d_Arrays_copyOfRangeByte_9 rfl (lv_at hl 0 rfl) ?_
  refine xb_newa (pc := 10) (a0 := (e2 - b, .inl (fun _ => 0))) (ty := .byte) (N' := e2 - b) (ws' := fun q1 => [(q1, .inl (G.2.1 4, e2 - b, .inl (fun _ => 0)))]) F h rfl 4 rfl k_61 (fun _ => rfl) (nI_pos (by omega)) (nI_clamp (by omega)) (by simp only [componentBytes]; omega) (fun _ => rfl) (by decide) (by show 0 + (e2 - b) ≤ 5; omega) d_Arrays_copyOfRangeByte_10 (fun q1 H h => ?_)
  refine W.widen (k := 1) (n := 5) (by decide) (by omega) ?_
  refine lv_astore (pc := 12) (lv' := [(4, .ref q1), (3, .int (nI (e2 - b))), (0, .ref d0), (1, .int (nI b)), (2, .int (nI e2))]) hx hb d_Arrays_copyOfRangeByte_12 hl (by decide) rfl (fun ls hl => ?_)
  refine lv_aload_n (pc := 14) hx hb d_Arrays_copyOfRangeByte_14 rfl (lv_at hl 2 rfl) ?_
  refine lv_iload_n (pc := 15) hx hb d_Arrays_copyOfRangeByte_15 rfl (lv_at hl 3 rfl) ?_
  refine lv_aload (pc := 16) hx hb d_Arrays_copyOfRangeByte_16 (lv_at hl 0 rfl) ?_
  refine lv_iconst (pc := 18) (v := 0) hx hb d_Arrays_copyOfRangeByte_18 (by decide) ?_
  refine lv_aload_n (pc := 19) hx hb d_Arrays_copyOfRangeByte_19 rfl (lv_at hl 2 rfl) ?_
  refine va_tlen (pc := 20) (v := (Int32.ofNat n0)) hx hb hsT h.2.2 (by first | rfl | decide) d_Arrays_copyOfRangeByte_20 ?_
  refine lv_iload_n (pc := 21) hx hb d_Arrays_copyOfRangeByte_21 rfl (lv_at hl 3 rfl) ?_
  refine lv_isub (pc := 22) hx hb d_Arrays_copyOfRangeByte_22 ?_
  refine W.eq (g2 := F0 m 23 ls [.int (nI (n0 - b)), .int 0, .ref q1, .int (nI b), .ref d0]) (by rw [show Int32.ofNat n0 = nI n0 from rfl, pk_sub (by omega)]) ?_
  refine lv_iload_n (pc := 23) hx hb d_Arrays_copyOfRangeByte_23 rfl (lv_at hl 1 rfl) ?_
  refine va_mmin (pc := 24) hx hb (by rw [hml]; exact hl.1.symm) hown (hts _ k_367) (hts _ k_368) (hts _ k_40) (hts _ k_369) (Nat.le_of_ble_eq_true rfl) (Nat.le_of_ble_eq_true rfl) (by decide) (by decide) d_Arrays_copyOfRangeByte_24 ?_
  refine W.eq (g2 := F0 m 27 ls [.int (nI (e2 - b)), .int 0, .ref q1, .int (nI b), .ref d0]) (by rw [xb_min (by omega) (by omega)]) ?_
  refine vk_copyt (pc := 27) hx hb (by rw [hml]; exact hl.1.symm) hown (hts _ k_370) (hts _ k_371) (hts _ k_372) (hts _ k_373) hK h.1 h.2.1 h.2.2 hsT 0 4 rfl rfl (nI_pos (by omega)) (by decide) (nI_pos (by omega)) (by rw [nI_clamp (by omega), nI_clamp (by omega)]; omega) (by rw [nI_clamp (by omega)]; show 0 + _ ≤ _; omega) (fun i hi => by rw [nI_clamp (by omega)] at hi; rw [nI_clamp (by omega)]; exact hfb _ (by omega)) (Nat.le_of_ble_eq_true rfl) (Nat.le_of_ble_eq_true rfl) d_Arrays_copyOfRangeByte_27 (fun H locs a1 a2 a3 => ?_)
  obtain ⟨f1, hf1⟩ : ∃ f : Nat → Int32, f = va_cpy fb (fun _ => 0) (nI b).toNatClampNeg (0 : Int32).toNatClampNeg (nI (e2 - b)).toNatClampNeg := ⟨_, rfl⟩
  have h : xb_W G A s [(q1, .inl (G.2.1 4, e2 - b, .inl f1))] H locs := by rw [hf1]; exact ⟨a1, a2, a3⟩
  refine lv_aload (pc := 30) hx hb d_Arrays_copyOfRangeByte_30 (lv_at hl 0 rfl) ?_
  exact xb_aret (pc := 32) (rm := rm_copyOfRangeByte) F hr (Or.inr ⟨_, rfl⟩) (Or.inr ⟨_, rfl⟩) hlk hA hQ h (q1, f1) trivial rfl [0] (by decide) rfl (by decide) (by decide) d_Arrays_copyOfRangeByte_32
abbrev rm_copyOfRange : Room := { frames := 4, cells := 1, slots := 5, locals := 150 }
set_option maxHeartbeats 4000000 in
set_option maxRecDepth 100000 in
theorem ct_copyOfRange (l : Launch) (G : xb_EV) (a0 : Nat) (d0 : Nat) (n0 : Nat) (fb : Nat → Int32) (hn : n0 < 65536) (b : Nat) (e2 : Nat) (hbe : b < e2) (hen : e2 ≤ n0) (hne : ¬ (b = 0 ∧ e2 = n0)) (h5 : e2 - b ≤ 5) (hfb : ∀ i, i < n0 → fits .byte (.int (fb i)) = true) : xb_CT l y_Arrays_copyOfRange b_Arrays_copyOfRange 3 (some (.array .byte)) rm_copyOfRange G [(a0, d0, n0, fb)] [.ref d0, .int (nI b), .int (nI e2)] [] (S := Nat × (Nat → Int32)) (fun u => some (.ref u.1)) (fun u => True) (fun u => [(u.1, .inl (G.2.1 4, e2 - b, .inl u.2))]) := by
  refine xb_CT.of (by decide) "java/util/Arrays" rfl ?_ (Nat.le_of_ble_eq_true rfl)
  intro p e s m args below meth c A ls Q F hr hlk hnm h hl hA hQ
  have hx := F.1.1
  have hb := F.1.2.1
  have hml := F.1.2.2.1
  have hown := F.1.2.2.2.1
  have hts := F.1.2.2.2.2
  have hK := F.2.1
  have hsb := F.2.2.2.2 _ List.mem_cons_self
  have hsT : va_T .byte d0 n0 (fun j => .int (fb j)) A s s.heap := hsb.2.2.2
  have go10 : ∀ (ls : Array Slot), lv_has ls 3 [(0, .ref d0), (1, .int (nI b)), (2, .int (nI e2))] → W p l e rm_copyOfRange s m args below meth c s.heap [] 0 0 Q (F0 m 10 ls []) := by
    intro ls hl
    refine lv_aload_n (pc := 10) hx hb d_Arrays_copyOfRange_10 rfl (lv_at hl 0 rfl) ?_
    refine lv_iload_n (pc := 11) hx hb d_Arrays_copyOfRange_11 rfl (lv_at hl 1 rfl) ?_
    refine lv_iload_n (pc := 12) hx hb d_Arrays_copyOfRange_12 rfl (lv_at hl 2 rfl) ?_
    refine xb_callS (pc := 13) (rm := rm_copyOfRangeByte) (wr := []) F h (ct_copyOfRangeByte l G a0 d0 n0 fb hn b e2 hbe hen hne h5 hfb) 3 k_374 k_364 k_375 k_376 hd_Arrays_copyOfRangeByte (by decide) [] [] rfl rfl (by decide) (by decide) (by decide) (xb_ssg F h [] rfl (fun _ z => z)) hl.1 rfl rfl (Nat.le_of_ble_eq_true rfl) (by decide) d_Arrays_copyOfRange_13 (fun u H locs hu h => ?_)
    obtain ⟨q1, f1⟩ := u
    have h : xb_W G A s [(q1, .inl (G.2.1 4, (e2 - b), .inl (f1)))] _ _ := h
    refine W.widen (k := 1) (n := 5) (by decide) (by decide) ?_
    refine W.eq (g2 := F0 m 16 ls [.ref q1]) rfl ?_
    exact xb_aret (pc := 16) (rm := rm_copyOfRange) F hr (Or.inr ⟨_, rfl⟩) (Or.inr ⟨_, rfl⟩) hlk hA hQ h (q1, f1) trivial rfl [0] (by decide) rfl (by decide) (by decide) d_Arrays_copyOfRange_16
  refine lv_iload_n (pc := 0) hx hb d_Arrays_copyOfRange_0 rfl (lv_at hl 1 rfl) ?_
  refine lv_if_ne (pc := 1) (tgt := 10) hx hb d_Arrays_copyOfRange_1 (by decide) (fun _ => go10 ls hl) (fun hb0 => ?_)
  refine lv_iload_n (pc := 4) hx hb d_Arrays_copyOfRange_4 rfl (lv_at hl 2 rfl) ?_
  refine lv_aload_n (pc := 5) hx hb d_Arrays_copyOfRange_5 rfl (lv_at hl 0 rfl) ?_
  refine va_tlen (pc := 6) (v := (Int32.ofNat n0)) hx hb hsT h.2.2 (by first | rfl | decide) d_Arrays_copyOfRange_6 ?_
  refine lv_icmp_eq (pc := 7) (tgt := 17) hx hb d_Arrays_copyOfRange_7 (by decide) (fun h9 => absurd ⟨(nI_eq (by omega) (by decide)).mp hb0, (nI_eq (by omega) (by omega)).mp h9⟩ hne) (fun _ => go10 ls hl)
abbrev rm_newString : Room := { frames := 5, cells := 2, slots := 9, locals := 180 }
set_option maxHeartbeats 4000000 in
set_option maxRecDepth 100000 in
theorem ct_newString (l : Launch) (G : xb_EV) (a0 : Nat) (d0 : Nat) (n0 : Nat) (fb : Nat → Int32) (hn : n0 < 65536) (b : Nat) (e2 : Nat) (hbe : b < e2) (hen : e2 ≤ n0) (hne : ¬ (b = 0 ∧ e2 = n0)) (h5 : e2 - b ≤ 5) (hfb : ∀ i, i < n0 → fits .byte (.int (fb i)) = true) : xb_CT l y_StringLatin1_newString b_StringLatin1_newString 3 (some (.object "java/lang/String")) rm_newString G [(a0, d0, n0, fb)] [.ref d0, .int (nI b), .int (nI (e2 - b))] [] (S := Nat × Nat × (Nat → Int32)) (fun u => some (.ref u.1)) (fun u => True) (fun u => [(u.2.1, .inl (G.2.1 4, e2 - b, .inl u.2.2)), (u.1, .inr (13, [.ref u.2.1, .int 0, .int 0, .int 0]))]) := by
  refine xb_CT.of (by decide) "java/lang/StringLatin1" rfl ?_ (Nat.le_of_ble_eq_true rfl)
  intro p e s m args below meth c A ls Q F hr hlk hnm h hl hA hQ
  have hx := F.1.1
  have hb := F.1.2.1
  have hml := F.1.2.2.1
  have hown := F.1.2.2.2.1
  have hts := F.1.2.2.2.2
  have hK := F.2.1
  have hsb := F.2.2.2.2 _ List.mem_cons_self
  have hsT : va_T .byte d0 n0 (fun j => .int (fb j)) A s s.heap := hsb.2.2.2
  refine lv_iload_n (pc := 0) hx hb d_StringLatin1_newString_0 rfl (lv_at hl 2 rfl) ?_
  refine lv_if_ne (pc := 1) (tgt := 7) hx hb d_StringLatin1_newString_1 (by decide) (fun _ => ?_) (fun h => absurd h (nI_ne0 (by omega) (by omega)))
  refine xb_new (pc := 7) (ws' := fun q7_1 => [(q7_1, .inr (13, [.null, .int 0, .int 0, .int 0]))]) F h cf_13 k_378 k_379 k_4 df_13 (fun _ => rfl) (by decide) (by decide) d_StringLatin1_newString_7 (fun q7_1 H h => ?_)
  refine lv_dup (pc := 10) hx hb d_StringLatin1_newString_10 rfl ?_
  refine lv_aload_n (pc := 11) hx hb d_StringLatin1_newString_11 rfl (lv_at hl 0 rfl) ?_
  refine lv_iload_n (pc := 12) hx hb d_StringLatin1_newString_12 rfl (lv_at hl 1 rfl) ?_
  refine lv_iload_n (pc := 13) hx hb d_StringLatin1_newString_13 rfl (lv_at hl 1 rfl) ?_
  refine lv_iload_n (pc := 14) hx hb d_StringLatin1_newString_14 rfl (lv_at hl 2 rfl) ?_
  refine lv_iadd (pc := 15) hx hb d_StringLatin1_newString_15 ?_
  refine W.eq (g2 := F0 m 16 ls [.int (nI e2), .int (nI b), .ref d0, .ref q7_1, .ref q7_1]) (by rw [nI_add, show b + (e2 - b) = e2 by omega]) ?_
  refine xb_callS (pc := 16) (rm := rm_copyOfRange) (wr := [(q7_1, .inr (13, [.null, .int 0, .int 0, .int 0]))]) F h (ct_copyOfRange l G a0 d0 n0 fb hn b e2 hbe hen hne h5 hfb) 3 k_380 k_364 k_381 k_382 hd_Arrays_copyOfRange (by decide) [] [0] rfl rfl (by decide) (by decide) (by decide) (xb_ssg F h [] rfl (fun _ z => z)) hl.1 rfl rfl (Nat.le_of_ble_eq_true rfl) (by decide) d_StringLatin1_newString_16 (fun u H locs hu h => ?_)
  obtain ⟨q1, f1⟩ := u
  have h : xb_W G A s [(q7_1, .inr (13, [.null, .int 0, .int 0, .int 0])), (q1, .inl (G.2.1 4, (e2 - b), .inl (f1)))] _ _ := h
  refine W.widen (k := 2) (n := 9) (by decide) (by decide) ?_
  refine W.eq (g2 := F0 m 19 ls [.ref q1, .ref q7_1, .ref q7_1]) rfl ?_
  refine lv_iconst (pc := 19) (v := 0) hx hb d_StringLatin1_newString_19 (by decide) ?_
  refine xb_callI (pc := 20) (rm := rm_String_init) (wr := [(q1, .inl (G.2.1 4, (e2 - b), .inl (f1)))]) F h (ct_String_init l G q7_1 q1) 2 k_383 k_4 k_384 k_385 rfl hd_String_init (by decide) [0] [1] rfl rfl (by decide) (by decide) (by decide) xb_ss0 hl.1 rfl rfl (Nat.le_of_ble_eq_true rfl) (by decide) d_StringLatin1_newString_20 (fun u H locs hu h => ?_)
  have h : xb_W G A s [(q1, .inl (G.2.1 4, (e2 - b), .inl (f1))), (q7_1, .inr (13, [.ref q1, .int 0, .int 0, .int 0]))] _ _ := h
  refine W.widen (k := 2) (n := 9) (by decide) (by decide) ?_
  refine W.eq (g2 := F0 m 23 ls [.ref q7_1]) rfl ?_
  exact xb_aret (pc := 23) (rm := rm_newString) F hr (Or.inl ⟨_, rfl⟩) (Or.inr ⟨_, rfl⟩) hlk hA hQ h (q7_1, q1, f1) trivial rfl [0, 1] (by decide) rfl (by decide) (by decide) d_StringLatin1_newString_23
abbrev rm_substring : Room := { frames := 6, cells := 2, slots := 9, locals := 220 }
set_option maxHeartbeats 4000000 in
set_option maxRecDepth 100000 in
theorem ct_substring (l : Launch) (G : xb_EV) (a0 : Nat) (d0 : Nat) (n0 : Nat) (fb : Nat → Int32) (hn : n0 < 65536) (b : Nat) (e2 : Nat) (hbe : b < e2) (hen : e2 ≤ n0) (hne : ¬ (b = 0 ∧ e2 = n0)) (h5 : e2 - b ≤ 5) (hfb : ∀ i, i < n0 → fits .byte (.int (fb i)) = true) : xb_CT l y_String_substring b_String_substring 5 (some (.object "java/lang/String")) rm_substring G [(a0, d0, n0, fb)] [.ref a0, .int (nI b), .int (nI e2)] [] (S := Nat × Nat × (Nat → Int32)) (fun u => some (.ref u.1)) (fun u => True) (fun u => [(u.2.1, .inl (G.2.1 4, e2 - b, .inl u.2.2)), (u.1, .inr (13, [.ref u.2.1, .int 0, .int 0, .int 0]))]) := by
  refine xb_CT.of (by decide) "java/lang/String" rfl ?_ (Nat.le_of_ble_eq_true rfl)
  intro p e s m args below meth c A ls Q F hr hlk hnm h hl hA hQ
  have hx := F.1.1
  have hb := F.1.2.1
  have hml := F.1.2.2.1
  have hown := F.1.2.2.2.1
  have hts := F.1.2.2.2.2
  have hK := F.2.1
  have hsb := F.2.2.2.2 _ List.mem_cons_self
  have hsT : va_T .byte d0 n0 (fun j => .int (fb j)) A s s.heap := hsb.2.2.2
  have go22 : ∀ (ls : Array Slot) (H : Heap) (locs : List Loc), xb_W G A s [] H locs → lv_has ls 5 [(3, .int (nI n0)), (0, .ref a0), (1, .int (nI b)), (2, .int (nI e2))] → W p l e rm_substring s m args below meth c H locs 0 0 Q (F0 m 22 ls []) := by
    intro ls H locs h hl
    refine lv_iload_n (pc := 22) hx hb d_String_substring_22 rfl (lv_at hl 3 rfl) ?_
    refine lv_iload_n (pc := 23) hx hb d_String_substring_23 rfl (lv_at hl 2 rfl) ?_
    refine lv_isub (pc := 24) hx hb d_String_substring_24 ?_
    refine W.eq (g2 := F0 m 25 ls [.int (nI (e2 - b))]) (by rw [pk_sub (by omega)]) ?_
    refine lv_istore (pc := 25) (lv' := [(4, .int (nI (e2 - b))), (3, .int (nI n0)), (0, .ref a0), (1, .int (nI b)), (2, .int (nI e2))]) hx hb d_String_substring_25 hl (by decide) rfl (fun ls hl => ?_)
    refine lv_aload_n (pc := 27) hx hb d_String_substring_27 rfl (lv_at hl 2 rfl) ?_
    refine xb_callV (pc := 28) (rm := rm_String_isLatin1) (wr := []) F h (ct_String_isLatin1 l G a0 d0 n0 fb hn) 0 (va_Orecv hsb.1 h.2.2) k_16 k_4 k_17 k_18 k_19 hd_String_isLatin1 (by decide) [] [] rfl rfl (by decide) (by decide) (by decide) (xb_ssg F h [] rfl (fun _ z => z)) hl.1 rfl rfl (Nat.le_of_ble_eq_true rfl) (by decide) d_String_substring_28 (fun u H locs hu h => ?_)
    have h : xb_W G A s [] _ _ := h
    refine W.widen (k := 0) (n := 0) (by decide) (by decide) ?_
    refine W.eq (g2 := F0 m 31 ls [.int 1]) rfl ?_
    refine lv_if_eq (pc := 31) (tgt := 47) hx hb d_String_substring_31 (by decide) (fun h => absurd h (by decide)) (fun _ => ?_)
    refine lv_aload_n (pc := 34) hx hb d_String_substring_34 rfl (lv_at hl 2 rfl) ?_
    refine vk_getf (pc := 35) hx hb hsb.2.2.1 h.2.2 hown (hts _ k_2) (fun _ h => h) d_String_substring_35 ?_
    refine lv_iload_n (pc := 38) hx hb d_String_substring_38 rfl (lv_at hl 3 rfl) ?_
    refine lv_iload (pc := 39) hx hb d_String_substring_39 (lv_at hl 0 rfl) ?_
    refine xb_callS (pc := 41) (rm := rm_newString) (wr := []) F h (ct_newString l G a0 d0 n0 fb hn b e2 hbe hen hne h5 hfb) 3 k_386 k_21 k_387 k_388 hd_StringLatin1_newString (by decide) [] [] rfl rfl (by decide) (by decide) (by decide) (xb_ssg F h [] rfl (fun _ z => z)) hl.1 rfl rfl (Nat.le_of_ble_eq_true rfl) (by decide) d_String_substring_41 (fun u H locs hu h => ?_)
    obtain ⟨q0, q1, f1⟩ := u
    have h : xb_W G A s [(q1, .inl (G.2.1 4, (e2 - b), .inl (f1))), (q0, .inr (13, [.ref q1, .int 0, .int 0, .int 0]))] _ _ := h
    refine W.widen (k := 2) (n := 9) (by decide) (by decide) ?_
    refine W.eq (g2 := F0 m 44 ls [.ref q0]) rfl ?_
    refine lv_goto (pc := 44) (tgt := 57) hx hb d_String_substring_44 (by decide) ?_
    exact xb_aret (pc := 57) (rm := rm_substring) F hr (Or.inl ⟨_, rfl⟩) (Or.inr ⟨_, rfl⟩) hlk hA hQ h (q0, q1, f1) trivial rfl [0, 1] (by decide) rfl (by decide) (by decide) d_String_substring_57
  refine lv_aload_n (pc := 0) hx hb d_String_substring_0 rfl (lv_at hl 0 rfl) ?_
  refine xb_callV (pc := 1) (rm := rm_String_length) (wr := []) F h (ct_String_length l G a0 d0 n0 fb hn) 0 (va_Orecv hsb.1 h.2.2) k_389 k_4 k_390 k_391 k_392 hd_String_length (by decide) [] [] rfl rfl (by decide) (by decide) (by decide) (xb_ssg F h [] rfl (fun _ z => z)) hl.1 rfl rfl (Nat.le_of_ble_eq_true rfl) (by decide) d_String_substring_1 (fun u H locs hu h => ?_)
  have h : xb_W G A s [] _ _ := h
  refine W.widen (k := 0) (n := 0) (by decide) (by decide) ?_
  refine W.eq (g2 := F0 m 4 ls [.int (nI n0)]) rfl ?_
  refine lv_istore_n (pc := 4) (lv' := [(3, .int (nI n0)), (0, .ref a0), (1, .int (nI b)), (2, .int (nI e2))]) hx hb d_String_substring_4 rfl hl (by decide) rfl (fun ls hl => ?_)
  refine lv_iload_n (pc := 5) hx hb d_String_substring_5 rfl (lv_at hl 2 rfl) ?_
  refine lv_iload_n (pc := 6) hx hb d_String_substring_6 rfl (lv_at hl 3 rfl) ?_
  refine lv_iload_n (pc := 7) hx hb d_String_substring_7 rfl (lv_at hl 0 rfl) ?_
  refine xb_callS (pc := 8) (rm := rm_checkBounds) (wr := []) F h (ct_checkBounds l G b e2 n0 (by omega) hen hn) 3 k_393 k_4 k_394 k_395 hd_String_checkBoundsBeginEnd (by decide) [] [] rfl rfl (by decide) (by decide) (by decide) xb_ss0 hl.1 rfl rfl (Nat.le_of_ble_eq_true rfl) (by decide) d_String_substring_8 (fun u H locs hu h => ?_)
  have h : xb_W G A s [] _ _ := h
  refine W.widen (k := 0) (n := 0) (by decide) (by decide) ?_
  refine W.eq (g2 := F0 m 11 ls []) rfl ?_
  refine lv_iload_n (pc := 11) hx hb d_String_substring_11 rfl (lv_at hl 2 rfl) ?_
  refine lv_if_ne (pc := 12) (tgt := 22) hx hb d_String_substring_12 (by decide) (fun _ => go22 _ _ _ h hl) (fun hb0 => ?_)
  refine lv_iload_n (pc := 15) hx hb d_String_substring_15 rfl (lv_at hl 3 rfl) ?_
  refine lv_iload_n (pc := 16) hx hb d_String_substring_16 rfl (lv_at hl 0 rfl) ?_
  refine lv_icmp_ne (pc := 17) (tgt := 22) hx hb d_String_substring_17 (by decide) (fun _ => go22 _ _ _ h hl) (fun h9 => absurd ⟨(nI_eq (by omega) (by decide)).mp hb0, (nI_eq (by omega) (by omega)).mp h9⟩ hne)
