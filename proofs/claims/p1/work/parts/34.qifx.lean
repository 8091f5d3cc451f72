abbrev rm_canEncode : Room := { frames := 0, cells := 0, slots := 0, locals := 30 }
set_option maxHeartbeats 4000000 in
set_option maxRecDepth 100000 in
theorem ct_canEncode (l : Launch) (G : xb_EV) (ch : Int32) : xb_CT l y_StringLatin1_canEncode b_StringLatin1_canEncode 1 (some .boolean) rm_canEncode G [] [.int ch] [] (S := Int32) (fun u => some (.int u)) (fun u => (u = 1 ∧ ¬ ch < 0 ∧ ¬ 255 < ch) ∨ (u = 0 ∧ (ch < 0 ∨ 255 < ch))) (fun u => []) := by
  refine xb_CT.of (by decide) "java/lang/StringLatin1" rfl ?_ (Nat.le_of_ble_eq_true rfl)
  intro p e s m args below meth c A ls Q F hr hlk hnm h hl hA hQ
  have hx := F.1.1
  have hb := F.1.2.1
  have hml := F.1.2.2.1
  have hown := F.1.2.2.2.1
  have hts := F.1.2.2.2.2
  have hK := F.2.1
  have no : ∀ (ls : Array Slot), lv_has ls 1 [(0, .int ch)] → (ch < 0 ∨ 255 < ch) → W p l e rm_canEncode s m args below meth c s.heap [] 0 0 Q (F0 m 15 ls []) := by
    intro ls hl hc
    refine lv_iconst (pc := 15) (v := 0) hx hb d_StringLatin1_canEncode_15 (by decide) ?_
    exact xb_zret (pc := 16) (rm := rm_canEncode) F hr hlk (by decide) hA hQ h 0 (Or.inr ⟨rfl, hc⟩) rfl [] (by decide) rfl (by decide) (by decide) d_StringLatin1_canEncode_16
  refine lv_iload_n (pc := 0) hx hb d_StringLatin1_canEncode_0 rfl (lv_at hl 0 rfl) ?_
  refine lv_if_lt (pc := 1) (tgt := 15) hx hb d_StringLatin1_canEncode_1 (by decide) (fun hc => no ls hl (Or.inl hc)) (fun hc => ?_)
  refine lv_iload_n (pc := 4) hx hb d_StringLatin1_canEncode_4 rfl (lv_at hl 0 rfl) ?_
  refine lv_sipush (pc := 5) (v := 255) hx hb d_StringLatin1_canEncode_5 (by decide) ?_
  refine lv_icmp_gt (pc := 8) (tgt := 15) hx hb d_StringLatin1_canEncode_8 (by decide) (fun hc2 => no ls hl (Or.inr hc2)) (fun hc2 => ?_)
  refine lv_iconst (pc := 11) (v := 1) hx hb d_StringLatin1_canEncode_11 (by decide) ?_
  refine lv_goto (pc := 12) (tgt := 16) hx hb d_StringLatin1_canEncode_12 (by decide) ?_
  exact xb_zret (pc := 16) (rm := rm_canEncode) F hr hlk (by decide) hA hQ h 1 (Or.inl ⟨rfl, hc, hc2⟩) rfl [] (by decide) rfl (by decide) (by decide) d_StringLatin1_canEncode_16
abbrev rm_indexOfChar : Room := { frames := 0, cells := 0, slots := 0, locals := 30 }
set_option maxHeartbeats 4000000 in
set_option maxRecDepth 100000 in
theorem ct_indexOfChar (l : Launch) (G : xb_EV) (ch : Int32) : xb_CT l y_StringLatin1_indexOfChar b_StringLatin1_indexOfChar 6 (some .int) rm_indexOfChar G [((G.2.2.2.1 1), (G.2.2.2.2 1), 10, (fun j => (xb_sB.getD 1 []).getD j 0))] [.ref (G.2.2.2.2 1), .int ch, .int 0, .int 10] [] (S := Int32) (fun u => some (.int u)) (fun u => (u = -1 ∧ ∀ j, j < 10 → ¬ (xb_sB.getD 1 []).getD j 0 = ch.toInt8.toInt32) ∨ (∃ j : Nat, j < 10 ∧ u = nI j ∧ (xb_sB.getD 1 []).getD j 0 = ch.toInt8.toInt32)) (fun u => []) := by
  refine xb_CT.of (by decide) "java/lang/StringLatin1" rfl ?_ (Nat.le_of_ble_eq_true rfl)
  intro p e s m args below meth c A ls Q F hr hlk hnm h hl hA hQ
  have hx := F.1.1
  have hb := F.1.2.1
  have hml := F.1.2.2.1
  have hown := F.1.2.2.2.1
  have hts := F.1.2.2.2.2
  have hK := F.2.1
  have hsb := F.2.2.2.2 _ List.mem_cons_self
  have hsT : va_T .byte (G.2.2.2.2 1) 10 (fun j => .int ((xb_sB.getD 1 []).getD j 0)) A s s.heap := hsb.2.2.2
  have loop : ∀ (n k : Nat) (ls : Array Slot), k + n = 10 → (∀ j, j < k → ¬ (xb_sB.getD 1 []).getD j 0 = ch.toInt8.toInt32) → lv_has ls 6 [(5, .int (nI k)), (4, .int ch.toInt8.toInt32), (0, .ref (G.2.2.2.2 1)), (1, .int ch), (2, .int 0), (3, .int 10)] → W p l e rm_indexOfChar s m args below meth c s.heap [] 0 0 Q (F0 m 7 ls []) := by
    intro n
    induction n with
    | zero =>
      intro k ls hk hj hl
      obtain rfl : k = 10 := by omega
      refine lv_iload (pc := 7) hx hb d_StringLatin1_indexOfChar_7 (lv_at hl 0 rfl) ?_
      refine lv_iload_n (pc := 9) hx hb d_StringLatin1_indexOfChar_9 rfl (lv_at hl 5 rfl) ?_
      refine lv_icmp_ge (pc := 10) (tgt := 31) hx hb d_StringLatin1_indexOfChar_10 (by decide) (fun _ => ?_) (fun h => absurd (nI_le (Nat.le_refl 10) (by decide)) h)
      refine lv_iconst (pc := 31) (v := (-1)) hx hb d_StringLatin1_indexOfChar_31 (by decide) ?_
      exact xb_iret (pc := 32) (rm := rm_indexOfChar) F hr hlk hA hQ h (-1) (Or.inl ⟨rfl, hj⟩) rfl [] (by decide) rfl (by decide) (by decide) d_StringLatin1_indexOfChar_32
    | succ n ih =>
      intro k ls hk hj hl
      refine lv_iload (pc := 7) hx hb d_StringLatin1_indexOfChar_7 (lv_at hl 0 rfl) ?_
      refine lv_iload_n (pc := 9) hx hb d_StringLatin1_indexOfChar_9 rfl (lv_at hl 5 rfl) ?_
      refine lv_icmp_ge (pc := 10) (tgt := 31) hx hb d_StringLatin1_indexOfChar_10 (by decide) (fun h => absurd h (nI_ge (a := k) (b := 10) (by omega) (by decide))) (fun _ => ?_)
      refine lv_aload_n (pc := 13) hx hb d_StringLatin1_indexOfChar_13 rfl (lv_at hl 2 rfl) ?_
      refine lv_iload (pc := 14) hx hb d_StringLatin1_indexOfChar_14 (lv_at hl 0 rfl) ?_
      refine va_tb (pc := 16) hx hb hsT h.2.2 (vp_in_nI (by omega) (by decide)) rfl d_StringLatin1_indexOfChar_16 ?_
      refine lv_topi (fun x16_1 ex16_1 => ?_)
      refine lv_iload (pc := 17) hx hb d_StringLatin1_indexOfChar_17 (lv_at hl 1 rfl) ?_
      rw [nI_clamp (by omega)] at ex16_1
      refine lv_icmp_ne (pc := 19) (tgt := 25) hx hb d_StringLatin1_indexOfChar_19 (by decide) (fun hne => ?_) (fun heq => ?_)
      · refine lv_iinc (pc := 25) (k := 0) (v := ((nI k) + 1)) (lv' := [(5, .int ((nI k) + 1)), (4, .int ch.toInt8.toInt32), (0, .ref (G.2.2.2.2 1)), (1, .int ch), (2, .int 0), (3, .int 10)]) hx hb d_StringLatin1_indexOfChar_25 hl rfl (rfl) (by decide) rfl (fun ls hl => ?_)
        refine lv_goto (pc := 28) (tgt := 7) hx hb d_StringLatin1_indexOfChar_28 (by decide) ?_
        exact ih (k + 1) _ (by omega) (fun j hj2 => by
          rcases (by omega : j < k ∨ j = k) with h9 | rfl
          · exact hj j h9
          · rw [← ex16_1]; exact hne) (by rw [← nI_succ] at hl; exact hl)
      · refine lv_iload (pc := 22) hx hb d_StringLatin1_indexOfChar_22 (lv_at hl 0 rfl) ?_
        exact xb_iret (pc := 24) (rm := rm_indexOfChar) F hr hlk hA hQ h (nI k) (Or.inr ⟨k, by omega, rfl, by rw [← ex16_1]; exact heq⟩) rfl [] (by decide) rfl (by decide) (by decide) d_StringLatin1_indexOfChar_24
  refine lv_iload_n (pc := 0) hx hb d_StringLatin1_indexOfChar_0 rfl (lv_at hl 1 rfl) ?_
  refine lv_i2b (pc := 1) (v := ch.toInt8.toInt32) hx hb d_StringLatin1_indexOfChar_1 rfl ?_
  refine lv_istore (pc := 2) (lv' := [(4, .int ch.toInt8.toInt32), (0, .ref (G.2.2.2.2 1)), (1, .int ch), (2, .int 0), (3, .int 10)]) hx hb d_StringLatin1_indexOfChar_2 hl (by decide) rfl (fun ls hl => ?_)
  refine lv_iload_n (pc := 4) hx hb d_StringLatin1_indexOfChar_4 rfl (lv_at hl 3 rfl) ?_
  refine lv_istore (pc := 5) (lv' := [(5, .int 0), (4, .int ch.toInt8.toInt32), (0, .ref (G.2.2.2.2 1)), (1, .int ch), (2, .int 0), (3, .int 10)]) hx hb d_StringLatin1_indexOfChar_5 hl (by decide) rfl (fun ls hl => ?_)
  exact loop 10 0 _ rfl (fun j hj => absurd hj (Nat.not_lt_zero j)) hl
abbrev rm_L1_indexOf : Room := { frames := 1, cells := 0, slots := 0, locals := 70 }
set_option maxHeartbeats 4000000 in
set_option maxRecDepth 100000 in
theorem ct_L1_indexOf (l : Launch) (G : xb_EV) (ch : Int32) : xb_CT l y_StringLatin1_indexOf b_StringLatin1_indexOf 4 (some .int) rm_L1_indexOf G [((G.2.2.2.1 1), (G.2.2.2.2 1), 10, (fun j => (xb_sB.getD 1 []).getD j 0))] [.ref (G.2.2.2.2 1), .int ch, .int 0, .int 10] [] (S := Int32) (fun u => some (.int u)) (fun u => xo_pl ch u) (fun u => []) := by
  refine xb_CT.of (by decide) "java/lang/StringLatin1" rfl ?_ (Nat.le_of_ble_eq_true rfl)
  intro p e s m args below meth c A ls Q F hr hlk hnm h hl hA hQ
  have hx := F.1.1
  have hb := F.1.2.1
  have hml := F.1.2.2.1
  have hown := F.1.2.2.2.1
  have hts := F.1.2.2.2.2
  have hK := F.2.1
  have hsb := F.2.2.2.2 _ List.mem_cons_self
  have hsT : va_T .byte (G.2.2.2.2 1) 10 (fun j => .int ((xb_sB.getD 1 []).getD j 0)) A s s.heap := hsb.2.2.2
  refine lv_iload_n (pc := 0) hx hb d_StringLatin1_indexOf_0 rfl (lv_at hl 1 rfl) ?_
  refine xb_callS (pc := 1) (rm := rm_canEncode) (wr := []) F h (ct_canEncode l G ch) 1 k_665 k_21 k_666 k_667 hd_StringLatin1_canEncode (by decide) [] [] rfl rfl (by decide) (by decide) (by decide) xb_ss0 hl.1 rfl rfl (Nat.le_of_ble_eq_true rfl) (by decide) d_StringLatin1_indexOf_1 (fun ue H locs hue h => ?_)
  have h : xb_W G A s [] _ _ := h
  refine W.widen (k := 0) (n := 0) (by decide) (by decide) ?_
  refine W.eq (g2 := F0 m 4 ls [.int ue]) rfl ?_
  refine lv_if_ne (pc := 4) (tgt := 9) hx hb d_StringLatin1_indexOf_4 (by decide) (fun hne => ?_) (fun heq => ?_)
  · refine lv_iload_n (pc := 9) hx hb d_StringLatin1_indexOf_9 rfl (lv_at hl 2 rfl) ?_
    refine lv_iconst (pc := 10) (v := 0) hx hb d_StringLatin1_indexOf_10 (by decide) ?_
    refine va_mmax (pc := 11) hx hb (by rw [hml]; exact hl.1.symm) hown (hts _ k_668) (hts _ k_39) (hts _ k_40) (hts _ k_41) (Nat.le_of_ble_eq_true rfl) (Nat.le_of_ble_eq_true rfl) (by decide) (by decide) d_StringLatin1_indexOf_11 ?_
    refine lv_topi (fun y ey => ?_)
    obtain rfl : y = 0 := ey.trans (by decide)
    refine lv_istore_n (pc := 14) (lv' := [(2, .int 0), (0, .ref (G.2.2.2.2 1)), (1, .int ch), (3, .int 10)]) hx hb d_StringLatin1_indexOf_14 rfl hl (by decide) rfl (fun ls hl => ?_)
    refine lv_iload_n (pc := 15) hx hb d_StringLatin1_indexOf_15 rfl (lv_at hl 3 rfl) ?_
    refine lv_aload_n (pc := 16) hx hb d_StringLatin1_indexOf_16 rfl (lv_at hl 1 rfl) ?_
    refine va_tlen (pc := 17) (v := 10) hx hb hsT h.2.2 (by first | rfl | decide) d_StringLatin1_indexOf_17 ?_
    refine va_mmin (pc := 18) hx hb (by rw [hml]; exact hl.1.symm) hown (hts _ k_669) (hts _ k_368) (hts _ k_40) (hts _ k_369) (Nat.le_of_ble_eq_true rfl) (Nat.le_of_ble_eq_true rfl) (by decide) (by decide) d_StringLatin1_indexOf_18 ?_
    refine lv_topi (fun y ey => ?_)
    obtain rfl : y = 10 := ey.trans (by decide)
    refine lv_istore_n (pc := 21) (lv' := [(3, .int 10), (2, .int 0), (0, .ref (G.2.2.2.2 1)), (1, .int ch)]) hx hb d_StringLatin1_indexOf_21 rfl hl (by decide) rfl (fun ls hl => ?_)
    refine lv_iload_n (pc := 22) hx hb d_StringLatin1_indexOf_22 rfl (lv_at hl 1 rfl) ?_
    refine lv_iload_n (pc := 23) hx hb d_StringLatin1_indexOf_23 rfl (lv_at hl 0 rfl) ?_
    refine lv_icmp_lt (pc := 24) (tgt := 29) hx hb d_StringLatin1_indexOf_24 (by decide) (fun _ => ?_) (fun h => absurd (by decide) h)
    refine lv_aload_n (pc := 29) hx hb d_StringLatin1_indexOf_29 rfl (lv_at hl 2 rfl) ?_
    refine lv_iload_n (pc := 30) hx hb d_StringLatin1_indexOf_30 rfl (lv_at hl 3 rfl) ?_
    refine lv_iload_n (pc := 31) hx hb d_StringLatin1_indexOf_31 rfl (lv_at hl 1 rfl) ?_
    refine lv_iload_n (pc := 32) hx hb d_StringLatin1_indexOf_32 rfl (lv_at hl 0 rfl) ?_
    refine xb_callS (pc := 33) (rm := rm_indexOfChar) (wr := []) F h (ct_indexOfChar l G ch) 4 k_670 k_21 k_671 k_672 hd_StringLatin1_indexOfChar (by decide) [] [] rfl rfl (by decide) (by decide) (by decide) (xb_ssg F h [] rfl (fun _ z => z)) hl.1 rfl rfl (Nat.le_of_ble_eq_true rfl) (by decide) d_StringLatin1_indexOf_33 (fun uc H locs huc h => ?_)
    have h : xb_W G A s [] _ _ := h
    refine W.widen (k := 0) (n := 0) (by decide) (by decide) ?_
    refine W.eq (g2 := F0 m 36 ls [.int uc]) rfl ?_
    have hc : ¬ ch < 0 ∧ ¬ 255 < ch := by
      rcases hue with ⟨-, a⟩ | ⟨a, -⟩
      · exact a
      · exact absurd a hne
    exact xb_iret (pc := 36) (rm := rm_L1_indexOf) F hr hlk hA hQ h uc (by
      rcases huc with ⟨a, b⟩ | ⟨j, a, b, d⟩
      · exact Or.inl ⟨a, fun z => by obtain ⟨-, -, j, hj, hb⟩ := (xo_iff ch).mpr z; exact b j hj hb⟩
      · exact Or.inr ⟨by rw [b]; exact vp_in_nI a (by decide), (xo_iff ch).mp ⟨hc.1, hc.2, j, a, d⟩⟩) rfl [] (by decide) rfl (by decide) (by decide) d_StringLatin1_indexOf_36
  · refine lv_iconst (pc := 7) (v := (-1)) hx hb d_StringLatin1_indexOf_7 (by decide) ?_
    exact xb_iret (pc := 8) (rm := rm_L1_indexOf) F hr hlk hA hQ h (-1) (Or.inl ⟨rfl, fun z => by
      obtain ⟨c1, c2, -⟩ := (xo_iff ch).mpr z
      rcases hue with ⟨a, -⟩ | ⟨-, a | a⟩
      · rw [a] at heq; exact absurd heq (by decide)
      · exact c1 a
      · exact c2 a⟩) rfl [] (by decide) rfl (by decide) (by decide) d_StringLatin1_indexOf_8
abbrev rm_S_indexOf2 : Room := { frames := 3, cells := 0, slots := 0, locals := 110 }
set_option maxHeartbeats 4000000 in
set_option maxRecDepth 100000 in
theorem ct_S_indexOf2 (l : Launch) (G : xb_EV) (ch : Int32) : xb_CT l y_String_indexOf b_String_indexOf 3 (some .int) rm_S_indexOf2 G [((G.2.2.2.1 1), (G.2.2.2.2 1), 10, (fun j => (xb_sB.getD 1 []).getD j 0))] [.ref (G.2.2.2.1 1), .int ch, .int 0] [] (S := Int32) (fun u => some (.int u)) (fun u => xo_pl ch u) (fun u => []) := by
  refine xb_CT.of (by decide) "java/lang/String" rfl ?_ (Nat.le_of_ble_eq_true rfl)
  intro p e s m args below meth c A ls Q F hr hlk hnm h hl hA hQ
  have hx := F.1.1
  have hb := F.1.2.1
  have hml := F.1.2.2.1
  have hown := F.1.2.2.2.1
  have hts := F.1.2.2.2.2
  have hK := F.2.1
  have hsb := F.2.2.2.2 _ List.mem_cons_self
  have hsT : va_T .byte (G.2.2.2.2 1) 10 (fun j => .int ((xb_sB.getD 1 []).getD j 0)) A s s.heap := hsb.2.2.2
  refine lv_aload_n (pc := 0) hx hb d_String_indexOf_0 rfl (lv_at hl 0 rfl) ?_
  refine xb_callV (pc := 1) (rm := rm_String_isLatin1) (wr := []) F h (ct_String_isLatin1 l G (G.2.2.2.1 1) (G.2.2.2.2 1) 10 (fun j => (xb_sB.getD 1 []).getD j 0) (by decide)) 0 (va_Orecv hsb.1 h.2.2) k_16 k_4 k_17 k_18 k_19 hd_String_isLatin1 (by decide) [] [] rfl rfl (by decide) (by decide) (by decide) (xb_ssg F h [] rfl (fun _ z => z)) hl.1 rfl rfl (Nat.le_of_ble_eq_true rfl) (by decide) d_String_indexOf_1 (fun u H locs hu h => ?_)
  have h : xb_W G A s [] _ _ := h
  refine W.widen (k := 0) (n := 0) (by decide) (by decide) ?_
  refine W.eq (g2 := F0 m 4 ls [.int 1]) rfl ?_
  refine lv_if_eq (pc := 4) (tgt := 23) hx hb d_String_indexOf_4 (by decide) (fun h => absurd h (by decide)) (fun _ => ?_)
  refine lv_aload_n (pc := 7) hx hb d_String_indexOf_7 rfl (lv_at hl 0 rfl) ?_
  refine vk_getf (pc := 8) hx hb hsb.2.2.1 h.2.2 hown (hts _ k_2) (fun _ h => h) d_String_indexOf_8 ?_
  refine lv_iload_n (pc := 11) hx hb d_String_indexOf_11 rfl (lv_at hl 1 rfl) ?_
  refine lv_iload_n (pc := 12) hx hb d_String_indexOf_12 rfl (lv_at hl 2 rfl) ?_
  refine lv_aload_n (pc := 13) hx hb d_String_indexOf_13 rfl (lv_at hl 0 rfl) ?_
  refine xb_callV (pc := 14) (rm := rm_String_length) (wr := []) F h (ct_String_length l G (G.2.2.2.1 1) (G.2.2.2.2 1) 10 (fun j => (xb_sB.getD 1 []).getD j 0) (by decide)) 0 (va_Orecv hsb.1 h.2.2) k_389 k_4 k_390 k_391 k_392 hd_String_length (by decide) [] [] rfl rfl (by decide) (by decide) (by decide) (xb_ssg F h [] rfl (fun _ z => z)) hl.1 rfl rfl (Nat.le_of_ble_eq_true rfl) (by decide) d_String_indexOf_14 (fun u H locs hu h => ?_)
  have h : xb_W G A s [] _ _ := h
  refine W.widen (k := 0) (n := 0) (by decide) (by decide) ?_
  refine W.eq (g2 := F0 m 17 ls [.int 10, .int 0, .int ch, .ref (G.2.2.2.2 1)]) rfl ?_
  refine xb_callS (pc := 17) (rm := rm_L1_indexOf) (wr := []) F h (ct_L1_indexOf l G ch) 4 k_673 k_21 k_674 k_675 hd_StringLatin1_indexOf (by decide) [] [] rfl rfl (by decide) (by decide) (by decide) (xb_ssg F h [] rfl (fun _ z => z)) hl.1 rfl rfl (Nat.le_of_ble_eq_true rfl) (by decide) d_String_indexOf_17 (fun uu H locs huu h => ?_)
  have h : xb_W G A s [] _ _ := h
  refine W.widen (k := 0) (n := 0) (by decide) (by decide) ?_
  refine W.eq (g2 := F0 m 20 ls [.int uu]) rfl ?_
  refine lv_goto (pc := 20) (tgt := 36) hx hb d_String_indexOf_20 (by decide) ?_
  exact xb_iret (pc := 36) (rm := rm_S_indexOf2) F hr hlk hA hQ h uu huu rfl [] (by decide) rfl (by decide) (by decide) d_String_indexOf_36
abbrev rm_S_indexOf1 : Room := { frames := 4, cells := 0, slots := 0, locals := 140 }
set_option maxHeartbeats 4000000 in
set_option maxRecDepth 100000 in
theorem ct_S_indexOf1 (l : Launch) (G : xb_EV) (ch : Int32) : xb_CT l y_String_indexOf2 b_String_indexOf2 2 (some .int) rm_S_indexOf1 G [((G.2.2.2.1 1), (G.2.2.2.2 1), 10, (fun j => (xb_sB.getD 1 []).getD j 0))] [.ref (G.2.2.2.1 1), .int ch] [] (S := Int32) (fun u => some (.int u)) (fun u => xo_pl ch u) (fun u => []) := by
  refine xb_CT.of (by decide) "java/lang/String" rfl ?_ (Nat.le_of_ble_eq_true rfl)
  intro p e s m args below meth c A ls Q F hr hlk hnm h hl hA hQ
  have hx := F.1.1
  have hb := F.1.2.1
  have hml := F.1.2.2.1
  have hown := F.1.2.2.2.1
  have hts := F.1.2.2.2.2
  have hK := F.2.1
  have hsb := F.2.2.2.2 _ List.mem_cons_self
  have hsT : va_T .byte (G.2.2.2.2 1) 10 (fun j => .int ((xb_sB.getD 1 []).getD j 0)) A s s.heap := hsb.2.2.2
  refine lv_aload_n (pc := 0) hx hb d_String_indexOf2_0 rfl (lv_at hl 0 rfl) ?_
  refine lv_iload_n (pc := 1) hx hb d_String_indexOf2_1 rfl (lv_at hl 1 rfl) ?_
  refine lv_iconst (pc := 2) (v := 0) hx hb d_String_indexOf2_2 (by decide) ?_
  refine xb_callV (pc := 3) (rm := rm_S_indexOf2) (wr := []) F h (ct_S_indexOf2 l G ch) 2 (va_Orecv hsb.1 h.2.2) k_676 k_4 k_677 k_678 k_679 hd_String_indexOf (by decide) [] [] rfl rfl (by decide) (by decide) (by decide) (xb_ssg F h [] rfl (fun _ z => z)) hl.1 rfl rfl (Nat.le_of_ble_eq_true rfl) (by decide) d_String_indexOf2_3 (fun uu H locs huu h => ?_)
  have h : xb_W G A s [] _ _ := h
  refine W.widen (k := 0) (n := 0) (by decide) (by decide) ?_
  refine W.eq (g2 := F0 m 6 ls [.int uu]) rfl ?_
  exact xb_iret (pc := 6) (rm := rm_S_indexOf1) F hr hlk hA hQ h uu huu rfl [] (by decide) rfl (by decide) (by decide) d_String_indexOf2_6
abbrev rm_setLevel : Room := { frames := 5, cells := 0, slots := 0, locals := 170 }
set_option maxHeartbeats 4000000 in
set_option maxRecDepth 100000 in
theorem ct_setLevel (l : Launch) (G : xb_EV) (p0 : Nat) (r1 : Nat) (r2 : Nat) (pt : Value) (pd : Value) (g1 : Nat → Int32) (g2 : Nat → Int32) (ch : Int32) (lv : Int32) (rt : Int32) : xb_CT l y_TypeFinder_Parser_setLevel b_TypeFinder_Parser_setLevel 5 (some .boolean) rm_setLevel G [] [.ref p0, .int ch, .int lv, .int rt] [(p0, .inr (1, [pt, pd, .ref r1, .ref r2])), (r1, .inl (G.2.1 0, 10, .inl (g1))), (r2, .inl (G.2.1 2, 10, .inl (g2)))] (S := Int32 × (Nat → Int32) × (Nat → Int32)) (fun u => some (.int u.1)) (fun u => xo_ans ch lv u.1) (fun u => [(p0, .inr (1, [pt, pd, .ref r1, .ref r2])), (r1, .inl (G.2.1 0, 10, .inl u.2.1)), (r2, .inl (G.2.1 2, 10, .inl u.2.2))]) := by
  refine xb_CT.of (by decide) "TypeFinder$Parser" rfl ?_ (Nat.le_of_ble_eq_true rfl)
  intro p e s m args below meth c A ls Q F hr hlk hnm h hl hA hQ
  have hx := F.1.1
  have hb := F.1.2.1
  have hml := F.1.2.2.1
  have hown := F.1.2.2.2.1
  have hts := F.1.2.2.2.2
  have hK := F.2.1
  have hsb := xb_litF F 1 (by decide)
  refine va_ldcS (pc := 0) hx hb hown (xb_str (q := ("TypeFinder$Parser", 35, "+-*/<?:@^&", 1)) F 0 rfl) d_TypeFinder_Parser_setLevel_0 ?_
  refine lv_iload_n (pc := 2) hx hb d_TypeFinder_Parser_setLevel_2 rfl (lv_at hl 1 rfl) ?_
  refine xb_callV (pc := 3) (rm := rm_S_indexOf1) (wr := [(p0, .inr (1, [pt, pd, .ref r1, .ref r2])), (r1, .inl (G.2.1 0, 10, .inl (g1))), (r2, .inl (G.2.1 2, 10, .inl (g2)))]) F h (ct_S_indexOf1 l G ch) 1 (va_Orecv hsb.1 h.2.2) k_680 k_4 k_681 k_682 k_683 hd_String_indexOf2 (by decide) [] [0, 1, 2] rfl rfl (by decide) (by decide) (by decide) (xb_lit F h 1 (by decide)) hl.1 rfl rfl (Nat.le_of_ble_eq_true rfl) (by decide) d_TypeFinder_Parser_setLevel_3 (fun uu H locs huu h => ?_)
  have h : xb_W G A s [(p0, .inr (1, [pt, pd, .ref r1, .ref r2])), (r1, .inl (G.2.1 0, 10, .inl (g1))), (r2, .inl (G.2.1 2, 10, .inl (g2)))] _ _ := h
  refine W.widen (k := 0) (n := 0) (by decide) (by decide) ?_
  refine W.eq (g2 := F0 m 6 ls [.int uu]) rfl ?_
  refine lv_istore (pc := 6) (lv' := [(4, .int uu), (0, .ref p0), (1, .int ch), (2, .int lv), (3, .int rt)]) hx hb d_TypeFinder_Parser_setLevel_6 hl (by decide) rfl (fun ls hl => ?_)
  refine lv_iload (pc := 8) hx hb d_TypeFinder_Parser_setLevel_8 (lv_at hl 0 rfl) ?_
  have no : ∀ (ls : Array Slot), lv_has ls 5 [(4, .int uu), (0, .ref p0), (1, .int ch), (2, .int lv), (3, .int rt)] → ¬ xo_good ch lv → W p l e rm_setLevel s m args below meth c H locs 0 0 Q (F0 m 29 ls []) := by
    intro ls hl hg
    refine lv_iconst (pc := 29) (v := 0) hx hb d_TypeFinder_Parser_setLevel_29 (by decide) ?_
    exact xb_zret (pc := 30) (rm := rm_setLevel) F hr hlk (by decide) hA hQ h (0, g1, g2) (Or.inr ⟨rfl, hg⟩) rfl [0, 1, 2] (by decide) rfl (by decide) (by decide) d_TypeFinder_Parser_setLevel_30
  refine lv_if_lt (pc := 10) (tgt := 29) hx hb d_TypeFinder_Parser_setLevel_10 (by decide) (fun hc => no ls hl (fun g => xo_pl_neg huu hc g.1)) (fun hc => ?_)
  refine lv_iload_n (pc := 13) hx hb d_TypeFinder_Parser_setLevel_13 rfl (lv_at hl 2 rfl) ?_
  refine lv_bipush (pc := 14) (v := 58) hx hb d_TypeFinder_Parser_setLevel_14 (by decide) ?_
  refine lv_icmp_eq (pc := 16) (tgt := 29) hx hb d_TypeFinder_Parser_setLevel_16 (by decide) (fun h9 => no ls hl (fun g => g.2.1 h9)) (fun hc2 => ?_)
  refine lv_iload_n (pc := 19) hx hb d_TypeFinder_Parser_setLevel_19 rfl (lv_at hl 3 rfl) ?_
  refine lv_if_lt (pc := 20) (tgt := 29) hx hb d_TypeFinder_Parser_setLevel_20 (by decide) (fun h9 => no ls hl (fun g => g.2.2.1 h9)) (fun hc3 => ?_)
  refine lv_iload_n (pc := 23) hx hb d_TypeFinder_Parser_setLevel_23 rfl (lv_at hl 3 rfl) ?_
  refine lv_bipush (pc := 24) (v := 9) hx hb d_TypeFinder_Parser_setLevel_24 (by decide) ?_
  refine lv_icmp_le (pc := 26) (tgt := 31) hx hb d_TypeFinder_Parser_setLevel_26 (by decide) (fun hc4 => ?_) (fun h9 => no ls hl (fun g => h9 g.2.2.2))
  refine lv_aload_n (pc := 31) hx hb d_TypeFinder_Parser_setLevel_31 rfl (lv_at hl 1 rfl) ?_
  refine xb_get (pc := 32) F h cf_1 0 rfl 2 (by decide) rfl k_194 (Or.inl rfl) rfl d_TypeFinder_Parser_setLevel_32 ?_
  refine lv_iload (pc := 35) hx hb d_TypeFinder_Parser_setLevel_35 (lv_at hl 0 rfl) ?_
  refine lv_iload_n (pc := 37) hx hb d_TypeFinder_Parser_setLevel_37 rfl (lv_at hl 3 rfl) ?_
  refine xb_iastF (pc := 38) (ws' := fun f38_1 => [(p0, .inr (1, [pt, pd, .ref r1, .ref r2])), (r1, .inl (G.2.1 0, 10, .inl (f38_1))), (r2, .inl (G.2.1 2, 10, .inl (g2)))]) F h 1 0 rfl rfl (xo_pl_pos huu hc).1 (fun _ => rfl) d_TypeFinder_Parser_setLevel_38 (fun f38_1 H locs h => ?_)
  refine lv_aload_n (pc := 39) hx hb d_TypeFinder_Parser_setLevel_39 rfl (lv_at hl 1 rfl) ?_
  refine xb_get (pc := 40) F h cf_1 0 rfl 3 (by decide) rfl k_196 (Or.inl rfl) rfl d_TypeFinder_Parser_setLevel_40 ?_
  refine lv_iload (pc := 43) hx hb d_TypeFinder_Parser_setLevel_43 (lv_at hl 0 rfl) ?_
  refine lv_iload_n (pc := 45) hx hb d_TypeFinder_Parser_setLevel_45 rfl (lv_at hl 4 rfl) ?_
  refine xb_zastF (pc := 46) (ws' := fun f46_2 => [(p0, .inr (1, [pt, pd, .ref r1, .ref r2])), (r1, .inl (G.2.1 0, 10, .inl (f38_1))), (r2, .inl (G.2.1 2, 10, .inl (f46_2)))]) F h 2 2 rfl rfl (xo_pl_pos huu hc).1 (fun _ => rfl) d_TypeFinder_Parser_setLevel_46 (fun f46_2 H locs h => ?_)
  refine lv_iconst (pc := 47) (v := 1) hx hb d_TypeFinder_Parser_setLevel_47 (by decide) ?_
  exact xb_zret (pc := 48) (rm := rm_setLevel) F hr hlk (by decide) hA hQ h (1, f38_1, f46_2) (Or.inl ⟨rfl, (xo_pl_pos huu hc).2, hc2, hc3, hc4⟩) rfl [0, 1, 2] (by decide) rfl (by decide) (by decide) d_TypeFinder_Parser_setLevel_48
abbrev rm_C_ifx : Room := { frames := 6, cells := 0, slots := 0, locals := 200 }
set_option maxHeartbeats 4000000 in
set_option maxRecDepth 100000 in
theorem ct_C_ifx (l : Launch) (G : xb_EV) (g0 : Nat) (p0 : Nat) (r1 : Nat) (r2 : Nat) (pt : Value) (pd : Value) (g1 : Nat → Int32) (g2 : Nat → Int32) (ch : Int32) (lv : Int32) (rt : Int32) (t0 : Value) (t2 : Value) (t3 : Value) (t4 : Value) (t5 : Value) (t6 : Value) (t7 : Value) (t8 : Value) : xb_CT l y_TypeFinder_ifx b_TypeFinder_ifx 4 (some .boolean) rm_C_ifx G [] [.ref g0, .int ch, .int lv, .int rt] [(g0, .inr (0, [t0, .ref p0, t2, t3, t4, t5, t6, t7, t8])), (p0, .inr (1, [pt, pd, .ref r1, .ref r2])), (r1, .inl (G.2.1 0, 10, .inl (g1))), (r2, .inl (G.2.1 2, 10, .inl (g2)))] (S := Int32) (fun u => some (.int u)) (fun u => xo_ans ch lv u) (fun u => []) := by
  refine xb_CT.of (by decide) "TypeFinder" rfl ?_ (Nat.le_of_ble_eq_true rfl)
  intro p e s m args below meth c A ls Q F hr hlk hnm h hl hA hQ
  have hx := F.1.1
  have hb := F.1.2.1
  have hml := F.1.2.2.1
  have hown := F.1.2.2.2.1
  have hts := F.1.2.2.2.2
  have hK := F.2.1
  refine lv_aload_n (pc := 0) hx hb d_TypeFinder_ifx_0 rfl (lv_at hl 0 rfl) ?_
  refine xb_get (pc := 1) F h cf_0 0 rfl 1 (by decide) rfl k_206 (Or.inl rfl) rfl d_TypeFinder_ifx_1 ?_
  refine lv_iload_n (pc := 4) hx hb d_TypeFinder_ifx_4 rfl (lv_at hl 1 rfl) ?_
  refine lv_iload_n (pc := 5) hx hb d_TypeFinder_ifx_5 rfl (lv_at hl 2 rfl) ?_
  refine lv_iload_n (pc := 6) hx hb d_TypeFinder_ifx_6 rfl (lv_at hl 3 rfl) ?_
  refine xb_callV (pc := 7) (rm := rm_setLevel) (wr := [(g0, .inr (0, [t0, .ref p0, t2, t3, t4, t5, t6, t7, t8]))]) F h (ct_setLevel l G p0 r1 r2 pt pd g1 g2 ch lv rt) 3 (va_recv hK h.1 (q0 := 1) (ci := 1) rfl rfl) k_684 k_202 k_685 k_686 k_687 hd_TypeFinder_Parser_setLevel (by decide) [1, 2, 3] [0] rfl rfl (by decide) (by decide) (by decide) xb_ss0 hl.1 rfl rfl (Nat.le_of_ble_eq_true rfl) (by decide) d_TypeFinder_ifx_7 (fun u H locs hu h => ?_)
  obtain ⟨u1, u2, u3⟩ := u
  refine W.widen (k := 0) (n := 0) (by decide) (by decide) ?_
  refine W.eq (g2 := F0 m 10 ls [.int u1]) rfl ?_
  exact xb_zret (pc := 10) (rm := rm_C_ifx) F hr hlk (by rcases hu with ⟨a, -⟩ | ⟨a, -⟩ <;> (have a : u1 = _ := a; rw [a]; decide)) hA hQ h u1 hu rfl [] (by decide) rfl (by decide) (by decide) d_TypeFinder_ifx_10
theorem xo_none {ch : Int32} (c38 : ¬ ch = 38) (c42 : ¬ ch = 42) (c43 : ¬ ch = 43) (c45 : ¬ ch = 45) (c47 : ¬ ch = 47) (c58 : ¬ ch = 58) (c60 : ¬ ch = 60) (c63 : ¬ ch = 63) (c64 : ¬ ch = 64) (c94 : ¬ ch = 94) : Op.lookupswitch.offset [(38, 112), (42, 95), (43, 91), (45, 93), (47, 97), (58, 103), (60, 99), (63, 101), (64, 106), (94, 109)] 115 ch.toInt = 115 := by
  have h : ∀ v : Int32, ¬ ch = v → ¬ ch.toInt = v.toInt := fun v h z => h (Int32.toInt_inj.mp z)
  have g38 : ¬ (38 : Int) = ch.toInt := fun z => h 38 c38 z.symm
  have g42 : ¬ (42 : Int) = ch.toInt := fun z => h 42 c42 z.symm
  have g43 : ¬ (43 : Int) = ch.toInt := fun z => h 43 c43 z.symm
  have g45 : ¬ (45 : Int) = ch.toInt := fun z => h 45 c45 z.symm
  have g47 : ¬ (47 : Int) = ch.toInt := fun z => h 47 c47 z.symm
  have g58 : ¬ (58 : Int) = ch.toInt := fun z => h 58 c58 z.symm
  have g60 : ¬ (60 : Int) = ch.toInt := fun z => h 60 c60 z.symm
  have g63 : ¬ (63 : Int) = ch.toInt := fun z => h 63 c63 z.symm
  have g64 : ¬ (64 : Int) = ch.toInt := fun z => h 64 c64 z.symm
  have g94 : ¬ (94 : Int) = ch.toInt := fun z => h 94 c94 z.symm
  simp [Op.lookupswitch.offset, g38, g42, g43, g45, g47, g58, g60, g63, g64, g94]
abbrev rm_operatorOf : Room := { frames := 0, cells := 0, slots := 0, locals := 30 }
set_option maxHeartbeats 4000000 in
set_option maxRecDepth 100000 in
theorem ct_operatorOf (l : Launch) (G : xb_EV) (ch : Int32) : xb_CT l y_TypeFinderModel_operatorOf b_TypeFinderModel_operatorOf 1 (some .int) rm_operatorOf G [] [.int ch] [] (S := Int32) (fun u => some (.int u)) (fun u => xo_pl ch u ∧ (u = 6 ↔ ch = 58)) (fun u => []) := by
  refine xb_CT.of (by decide) "TypeFinderModel" rfl ?_ (Nat.le_of_ble_eq_true rfl)
  intro p e s m args below meth c A ls Q F hr hlk hnm h hl hA hQ
  have hx := F.1.1
  have hb := F.1.2.1
  have hml := F.1.2.2.1
  have hown := F.1.2.2.2.1
  have hts := F.1.2.2.2.2
  have hK := F.2.1
  refine lv_iload_n (pc := 0) hx hb d_TypeFinderModel_operatorOf_0 rfl (lv_at hl 0 rfl) ?_
  by_cases c38 : ch = 38
  · subst c38
    refine lv_lookup (pc := 1) (off := 112) (tgt := 113) hx hb d_TypeFinderModel_operatorOf_1 (by decide) (by decide) (by decide) ?_
    refine lv_bipush (pc := 113) (v := 9) hx hb d_TypeFinderModel_operatorOf_113 (by decide) ?_
    exact xb_iret (pc := 115) (rm := rm_operatorOf) F hr hlk hA hQ h 9 ⟨Or.inr ⟨by unfold vp_in; decide, by decide⟩, by decide⟩ rfl [] (by decide) rfl (by decide) (by decide) d_TypeFinderModel_operatorOf_115
  by_cases c42 : ch = 42
  · subst c42
    refine lv_lookup (pc := 1) (off := 95) (tgt := 96) hx hb d_TypeFinderModel_operatorOf_1 (by decide) (by decide) (by decide) ?_
    refine lv_iconst (pc := 96) (v := 2) hx hb d_TypeFinderModel_operatorOf_96 (by decide) ?_
    exact xb_iret (pc := 97) (rm := rm_operatorOf) F hr hlk hA hQ h 2 ⟨Or.inr ⟨by unfold vp_in; decide, by decide⟩, by decide⟩ rfl [] (by decide) rfl (by decide) (by decide) d_TypeFinderModel_operatorOf_97
  by_cases c43 : ch = 43
  · subst c43
    refine lv_lookup (pc := 1) (off := 91) (tgt := 92) hx hb d_TypeFinderModel_operatorOf_1 (by decide) (by decide) (by decide) ?_
    refine lv_iconst (pc := 92) (v := 0) hx hb d_TypeFinderModel_operatorOf_92 (by decide) ?_
    exact xb_iret (pc := 93) (rm := rm_operatorOf) F hr hlk hA hQ h 0 ⟨Or.inr ⟨by unfold vp_in; decide, by decide⟩, by decide⟩ rfl [] (by decide) rfl (by decide) (by decide) d_TypeFinderModel_operatorOf_93
  by_cases c45 : ch = 45
  · subst c45
    refine lv_lookup (pc := 1) (off := 93) (tgt := 94) hx hb d_TypeFinderModel_operatorOf_1 (by decide) (by decide) (by decide) ?_
    refine lv_iconst (pc := 94) (v := 1) hx hb d_TypeFinderModel_operatorOf_94 (by decide) ?_
    exact xb_iret (pc := 95) (rm := rm_operatorOf) F hr hlk hA hQ h 1 ⟨Or.inr ⟨by unfold vp_in; decide, by decide⟩, by decide⟩ rfl [] (by decide) rfl (by decide) (by decide) d_TypeFinderModel_operatorOf_95
  by_cases c47 : ch = 47
  · subst c47
    refine lv_lookup (pc := 1) (off := 97) (tgt := 98) hx hb d_TypeFinderModel_operatorOf_1 (by decide) (by decide) (by decide) ?_
    refine lv_iconst (pc := 98) (v := 3) hx hb d_TypeFinderModel_operatorOf_98 (by decide) ?_
    exact xb_iret (pc := 99) (rm := rm_operatorOf) F hr hlk hA hQ h 3 ⟨Or.inr ⟨by unfold vp_in; decide, by decide⟩, by decide⟩ rfl [] (by decide) rfl (by decide) (by decide) d_TypeFinderModel_operatorOf_99
  by_cases c58 : ch = 58
  · subst c58
    refine lv_lookup (pc := 1) (off := 103) (tgt := 104) hx hb d_TypeFinderModel_operatorOf_1 (by decide) (by decide) (by decide) ?_
    refine lv_bipush (pc := 104) (v := 6) hx hb d_TypeFinderModel_operatorOf_104 (by decide) ?_
    exact xb_iret (pc := 106) (rm := rm_operatorOf) F hr hlk hA hQ h 6 ⟨Or.inr ⟨by unfold vp_in; decide, by decide⟩, by decide⟩ rfl [] (by decide) rfl (by decide) (by decide) d_TypeFinderModel_operatorOf_106
  by_cases c60 : ch = 60
  · subst c60
    refine lv_lookup (pc := 1) (off := 99) (tgt := 100) hx hb d_TypeFinderModel_operatorOf_1 (by decide) (by decide) (by decide) ?_
    refine lv_iconst (pc := 100) (v := 4) hx hb d_TypeFinderModel_operatorOf_100 (by decide) ?_
    exact xb_iret (pc := 101) (rm := rm_operatorOf) F hr hlk hA hQ h 4 ⟨Or.inr ⟨by unfold vp_in; decide, by decide⟩, by decide⟩ rfl [] (by decide) rfl (by decide) (by decide) d_TypeFinderModel_operatorOf_101
  by_cases c63 : ch = 63
  · subst c63
    refine lv_lookup (pc := 1) (off := 101) (tgt := 102) hx hb d_TypeFinderModel_operatorOf_1 (by decide) (by decide) (by decide) ?_
    refine lv_iconst (pc := 102) (v := 5) hx hb d_TypeFinderModel_operatorOf_102 (by decide) ?_
    exact xb_iret (pc := 103) (rm := rm_operatorOf) F hr hlk hA hQ h 5 ⟨Or.inr ⟨by unfold vp_in; decide, by decide⟩, by decide⟩ rfl [] (by decide) rfl (by decide) (by decide) d_TypeFinderModel_operatorOf_103
  by_cases c64 : ch = 64
  · subst c64
    refine lv_lookup (pc := 1) (off := 106) (tgt := 107) hx hb d_TypeFinderModel_operatorOf_1 (by decide) (by decide) (by decide) ?_
    refine lv_bipush (pc := 107) (v := 7) hx hb d_TypeFinderModel_operatorOf_107 (by decide) ?_
    exact xb_iret (pc := 109) (rm := rm_operatorOf) F hr hlk hA hQ h 7 ⟨Or.inr ⟨by unfold vp_in; decide, by decide⟩, by decide⟩ rfl [] (by decide) rfl (by decide) (by decide) d_TypeFinderModel_operatorOf_109
  by_cases c94 : ch = 94
  · subst c94
    refine lv_lookup (pc := 1) (off := 109) (tgt := 110) hx hb d_TypeFinderModel_operatorOf_1 (by decide) (by decide) (by decide) ?_
    refine lv_bipush (pc := 110) (v := 8) hx hb d_TypeFinderModel_operatorOf_110 (by decide) ?_
    exact xb_iret (pc := 112) (rm := rm_operatorOf) F hr hlk hA hQ h 8 ⟨Or.inr ⟨by unfold vp_in; decide, by decide⟩, by decide⟩ rfl [] (by decide) rfl (by decide) (by decide) d_TypeFinderModel_operatorOf_112
  refine lv_lookup (pc := 1) (off := 115) (tgt := 116) hx hb d_TypeFinderModel_operatorOf_1 (by decide) (xo_none c38 c42 c43 c45 c47 c58 c60 c63 c64 c94) (by decide) ?_
  refine lv_iconst (pc := 116) (v := (-1)) hx hb d_TypeFinderModel_operatorOf_116 (by decide) ?_
  exact xb_iret (pc := 117) (rm := rm_operatorOf) F hr hlk hA hQ h (-1) ⟨Or.inl ⟨rfl, fun z => by simp only [xo_b, List.mem_cons, List.not_mem_nil, or_false] at z; rcases z with z | z | z | z | z | z | z | z | z | z <;> contradiction⟩, ⟨fun z => absurd z (by decide), fun z => absurd z c58⟩⟩ rfl [] (by decide) rfl (by decide) (by decide) d_TypeFinderModel_operatorOf_117
abbrev rm_M_ifx : Room := { frames := 1, cells := 0, slots := 0, locals := 60 }
set_option maxHeartbeats 4000000 in
set_option maxRecDepth 100000 in
theorem ct_M_ifx (l : Launch) (G : xb_EV) (h0 : Nat) (r1 : Nat) (r2 : Nat) (g1 : Nat → Int32) (g2 : Nat → Int32) (ch : Int32) (lv : Int32) (rt : Int32) (m1 : Value) (m2 : Value) (m3 : Value) (m4 : Value) (m5 : Value) (m6 : Value) (m9 : Value) (m10 : Value) (m11 : Value) (m12 : Value) (m13 : Value) (m14 : Value) (m15 : Value) (m16 : Value) (m17 : Value) (m18 : Value) (m19 : Value) (m20 : Value) (m21 : Value) (m22 : Value) (m23 : Value) (m24 : Value) (m25 : Value) (m26 : Value) (m27 : Value) (m28 : Value) (m29 : Value) (m30 : Value) (m31 : Value) (m32 : Value) (m33 : Value) (m34 : Value) (m35 : Value) (m36 : Value) (m37 : Value) (m38 : Value) (m39 : Value) (m40 : Value) (m41 : Value) (m42 : Value) (m43 : Value) (m44 : Value) (m45 : Value) (m46 : Value) (m47 : Value) (m48 : Value) (m49 : Value) (m50 : Value) (m51 : Value) (m52 : Value) (m53 : Value) (m54 : Value) (m55 : Value) (m56 : Value) (m57 : Value) (m58 : Value) (m59 : Value) (m60 : Value) (m61 : Value) (m62 : Value) (m63 : Value) (m64 : Value) (m65 : Value) (m66 : Value) (m67 : Value) (m68 : Value) (m69 : Value) (m70 : Value) (m71 : Value) (m72 : Value) (m73 : Value) (m74 : Value) (m75 : Value) (m76 : Value) (m77 : Value) (m78 : Value) (m79 : Value) : xb_CT l y_TypeFinderModel_ifx b_TypeFinderModel_ifx 5 (some .boolean) rm_M_ifx G [] [.ref h0, .int ch, .int lv, .int rt] [(h0, .inr (14, [.int 0, m1, m2, m3, m4, m5, m6, .ref r1, .ref r2, m9, m10, m11, m12, m13, m14, m15, m16, m17, m18, m19, m20, m21, m22, m23, m24, m25, m26, m27, m28, m29, m30, m31, m32, m33, m34, m35, m36, m37, m38, m39, m40, m41, m42, m43, m44, m45, m46, m47, m48, m49, m50, m51, m52, m53, m54, m55, m56, m57, m58, m59, m60, m61, m62, m63, m64, m65, m66, m67, m68, m69, m70, m71, m72, m73, m74, m75, m76, m77, m78, m79])), (r1, .inl (G.2.1 0, 10, .inl (g1))), (r2, .inl (G.2.1 2, 10, .inl (g2)))] (S := Int32) (fun u => some (.int u)) (fun u => xo_ans ch lv u) (fun u => []) := by
  refine xb_CT.of (by decide) "TypeFinderModel" rfl ?_ (Nat.le_of_ble_eq_true rfl)
  intro p e s m args below meth c A ls Q F hr hlk hnm h hl hA hQ
  have hx := F.1.1
  have hb := F.1.2.1
  have hml := F.1.2.2.1
  have hown := F.1.2.2.2.1
  have hts := F.1.2.2.2.2
  have hK := F.2.1
  refine lv_aload_n (pc := 0) hx hb d_TypeFinderModel_ifx_0 rfl (lv_at hl 0 rfl) ?_
  refine lv_iconst (pc := 1) (v := 0) hx hb d_TypeFinderModel_ifx_1 (by decide) ?_
  refine xb_put (pc := 2) (t0 := .int) (ws' := [(h0, .inr (14, [.int 0, m1, m2, m3, m4, m5, m6, .ref r1, .ref r2, m9, m10, m11, m12, m13, m14, m15, m16, m17, m18, m19, m20, m21, m22, m23, m24, m25, m26, m27, m28, m29, m30, m31, m32, m33, m34, m35, m36, m37, m38, m39, m40, m41, m42, m43, m44, m45, m46, m47, m48, m49, m50, m51, m52, m53, m54, m55, m56, m57, m58, m59, m60, m61, m62, m63, m64, m65, m66, m67, m68, m69, m70, m71, m72, m73, m74, m75, m76, m77, m78, m79])), (r1, .inl (G.2.1 0, 10, .inl (g1))), (r2, .inl (G.2.1 2, 10, .inl (g2)))]) F h cf_14 0 rfl 0 (by decide) rfl k_411 (Or.inl rfl) (by decide +kernel) rfl rfl (Nat.le_of_ble_eq_true rfl) rfl d_TypeFinderModel_ifx_2 (fun H locs h => ?_)
  refine lv_iload_n (pc := 5) hx hb d_TypeFinderModel_ifx_5 rfl (lv_at hl 1 rfl) ?_
  refine xb_callS (pc := 6) (rm := rm_operatorOf) (wr := [(h0, .inr (14, [.int 0, m1, m2, m3, m4, m5, m6, .ref r1, .ref r2, m9, m10, m11, m12, m13, m14, m15, m16, m17, m18, m19, m20, m21, m22, m23, m24, m25, m26, m27, m28, m29, m30, m31, m32, m33, m34, m35, m36, m37, m38, m39, m40, m41, m42, m43, m44, m45, m46, m47, m48, m49, m50, m51, m52, m53, m54, m55, m56, m57, m58, m59, m60, m61, m62, m63, m64, m65, m66, m67, m68, m69, m70, m71, m72, m73, m74, m75, m76, m77, m78, m79])), (r1, .inl (G.2.1 0, 10, .inl (g1))), (r2, .inl (G.2.1 2, 10, .inl (g2)))]) F h (ct_operatorOf l G ch) 1 k_688 k_282 k_689 k_690 hd_TypeFinderModel_operatorOf (by decide) [] [0, 1, 2] rfl rfl (by decide) (by decide) (by decide) xb_ss0 hl.1 rfl rfl (Nat.le_of_ble_eq_true rfl) (by decide) d_TypeFinderModel_ifx_6 (fun uu H locs huu h => ?_)
  have h : xb_W G A s [(h0, .inr (14, [.int 0, m1, m2, m3, m4, m5, m6, .ref r1, .ref r2, m9, m10, m11, m12, m13, m14, m15, m16, m17, m18, m19, m20, m21, m22, m23, m24, m25, m26, m27, m28, m29, m30, m31, m32, m33, m34, m35, m36, m37, m38, m39, m40, m41, m42, m43, m44, m45, m46, m47, m48, m49, m50, m51, m52, m53, m54, m55, m56, m57, m58, m59, m60, m61, m62, m63, m64, m65, m66, m67, m68, m69, m70, m71, m72, m73, m74, m75, m76, m77, m78, m79])), (r1, .inl (G.2.1 0, 10, .inl (g1))), (r2, .inl (G.2.1 2, 10, .inl (g2)))] _ _ := h
  refine W.widen (k := 0) (n := 0) (by decide) (by decide) ?_
  refine W.eq (g2 := F0 m 9 ls [.int uu]) rfl ?_
  refine lv_istore (pc := 9) (lv' := [(4, .int uu), (0, .ref h0), (1, .int ch), (2, .int lv), (3, .int rt)]) hx hb d_TypeFinderModel_ifx_9 hl (by decide) rfl (fun ls hl => ?_)
  refine lv_iload (pc := 11) hx hb d_TypeFinderModel_ifx_11 (lv_at hl 0 rfl) ?_
  have no : ∀ (ls : Array Slot), lv_has ls 5 [(4, .int uu), (0, .ref h0), (1, .int ch), (2, .int lv), (3, .int rt)] → ¬ xo_good ch lv → W p l e rm_M_ifx s m args below meth c H locs 0 0 Q (F0 m 33 ls []) := by
    intro ls hl hg
    refine lv_iconst (pc := 33) (v := 0) hx hb d_TypeFinderModel_ifx_33 (by decide) ?_
    exact xb_zret (pc := 34) (rm := rm_M_ifx) F hr hlk (by decide) hA hQ h 0 (Or.inr ⟨rfl, hg⟩) rfl [] (by decide) rfl (by decide) (by decide) d_TypeFinderModel_ifx_34
  refine lv_if_lt (pc := 13) (tgt := 33) hx hb d_TypeFinderModel_ifx_13 (by decide) (fun hc => no ls hl (fun g => xo_pl_neg huu.1 hc g.1)) (fun hc => ?_)
  refine lv_iload (pc := 16) hx hb d_TypeFinderModel_ifx_16 (lv_at hl 0 rfl) ?_
  refine lv_bipush (pc := 18) (v := 6) hx hb d_TypeFinderModel_ifx_18 (by decide) ?_
  refine lv_icmp_eq (pc := 20) (tgt := 33) hx hb d_TypeFinderModel_ifx_20 (by decide) (fun h9 => no ls hl (fun g => g.2.1 (huu.2.mp h9))) (fun hc2 => ?_)
  refine lv_iload_n (pc := 23) hx hb d_TypeFinderModel_ifx_23 rfl (lv_at hl 3 rfl) ?_
  refine lv_if_lt (pc := 24) (tgt := 33) hx hb d_TypeFinderModel_ifx_24 (by decide) (fun h9 => no ls hl (fun g => g.2.2.1 h9)) (fun hc3 => ?_)
  refine lv_iload_n (pc := 27) hx hb d_TypeFinderModel_ifx_27 rfl (lv_at hl 3 rfl) ?_
  refine lv_bipush (pc := 28) (v := 9) hx hb d_TypeFinderModel_ifx_28 (by decide) ?_
  refine lv_icmp_le (pc := 30) (tgt := 35) hx hb d_TypeFinderModel_ifx_30 (by decide) (fun hc4 => ?_) (fun h9 => no ls hl (fun g => h9 g.2.2.2))
  refine lv_aload_n (pc := 35) hx hb d_TypeFinderModel_ifx_35 rfl (lv_at hl 1 rfl) ?_
  refine xb_get (pc := 36) F h cf_14 0 rfl 7 (by decide) rfl k_235 (Or.inl rfl) rfl d_TypeFinderModel_ifx_36 ?_
  refine lv_iload (pc := 39) hx hb d_TypeFinderModel_ifx_39 (lv_at hl 0 rfl) ?_
  refine lv_iload_n (pc := 41) hx hb d_TypeFinderModel_ifx_41 rfl (lv_at hl 3 rfl) ?_
  refine xb_iastF (pc := 42) (ws' := fun f42_1 => [(h0, .inr (14, [.int 0, m1, m2, m3, m4, m5, m6, .ref r1, .ref r2, m9, m10, m11, m12, m13, m14, m15, m16, m17, m18, m19, m20, m21, m22, m23, m24, m25, m26, m27, m28, m29, m30, m31, m32, m33, m34, m35, m36, m37, m38, m39, m40, m41, m42, m43, m44, m45, m46, m47, m48, m49, m50, m51, m52, m53, m54, m55, m56, m57, m58, m59, m60, m61, m62, m63, m64, m65, m66, m67, m68, m69, m70, m71, m72, m73, m74, m75, m76, m77, m78, m79])), (r1, .inl (G.2.1 0, 10, .inl (f42_1))), (r2, .inl (G.2.1 2, 10, .inl (g2)))]) F h 1 0 rfl rfl (xo_pl_pos huu.1 hc).1 (fun _ => rfl) d_TypeFinderModel_ifx_42 (fun f42_1 H locs h => ?_)
  refine lv_aload_n (pc := 43) hx hb d_TypeFinderModel_ifx_43 rfl (lv_at hl 1 rfl) ?_
  refine xb_get (pc := 44) F h cf_14 0 rfl 8 (by decide) rfl k_236 (Or.inl rfl) rfl d_TypeFinderModel_ifx_44 ?_
  refine lv_iload (pc := 47) hx hb d_TypeFinderModel_ifx_47 (lv_at hl 0 rfl) ?_
  refine lv_iload_n (pc := 49) hx hb d_TypeFinderModel_ifx_49 rfl (lv_at hl 4 rfl) ?_
  refine xb_zastF (pc := 50) (ws' := fun f50_2 => [(h0, .inr (14, [.int 0, m1, m2, m3, m4, m5, m6, .ref r1, .ref r2, m9, m10, m11, m12, m13, m14, m15, m16, m17, m18, m19, m20, m21, m22, m23, m24, m25, m26, m27, m28, m29, m30, m31, m32, m33, m34, m35, m36, m37, m38, m39, m40, m41, m42, m43, m44, m45, m46, m47, m48, m49, m50, m51, m52, m53, m54, m55, m56, m57, m58, m59, m60, m61, m62, m63, m64, m65, m66, m67, m68, m69, m70, m71, m72, m73, m74, m75, m76, m77, m78, m79])), (r1, .inl (G.2.1 0, 10, .inl (f42_1))), (r2, .inl (G.2.1 2, 10, .inl (f50_2)))]) F h 2 2 rfl rfl (xo_pl_pos huu.1 hc).1 (fun _ => rfl) d_TypeFinderModel_ifx_50 (fun f50_2 H locs h => ?_)
  refine lv_iconst (pc := 51) (v := 1) hx hb d_TypeFinderModel_ifx_51 (by decide) ?_
  exact xb_zret (pc := 52) (rm := rm_M_ifx) F hr hlk (by decide) hA hQ h 1 (Or.inl ⟨rfl, (xo_pl_pos huu.1 hc).2, fun z => hc2 (huu.2.mpr z), hc3, hc4⟩) rfl [] (by decide) rfl (by decide) (by decide) d_TypeFinderModel_ifx_52
