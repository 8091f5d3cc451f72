abbrev rm_packed : Room := { frames := 6, cells := 0, slots := 0, locals := 220 }
set_option maxHeartbeats 4000000 in
set_option maxRecDepth 100000 in
theorem ct_packed (l : Launch) (G : xb_EV) (a0 d0 n0 : Nat) (fb : Nat → Int32) (hn : n0 < 65536) : xb_CT l y_TypeFinder_Tokens_packed b_TypeFinder_Tokens_packed 4 (some .long) rm_packed G [(a0, d0, n0, fb)] [.ref a0] [] (S := Int64) (fun u => some (.long u)) (fun _ => True) (fun _ => []) := by
  refine xb_CT.of (by decide) "TypeFinder$Tokens" rfl ?_ (Nat.le_of_ble_eq_true rfl)
  intro p e s m args below meth c A ls Q F hr hlk hnm h hl hA hQ
  have hx := F.1.1
  have hb := F.1.2.1
  have hml := F.1.2.2.1
  have hown := F.1.2.2.2.1
  have hts := F.1.2.2.2.2
  have hK := F.2.1
  have hsb := F.2.2.2.2 _ List.mem_cons_self
  have loop : ∀ (n k : Nat) (w : Int64) (ls : Array Slot) (H : Heap) (locs : List Loc), k + n = n0 → xb_W G A s [] H locs → lv_has ls 4 [(3, .int (nI k)), (1, .long w), (0, .ref a0)] → W p l e rm_packed s m args below meth c H locs 0 0 Q (F0 m 4 ls []) := by
    intro n
    induction n with
    | zero =>
      intro k w ls H locs hk h hl
      refine lv_iload_n (pc := 4) hx hb d_TypeFinder_Tokens_packed_4 rfl (lv_at hl 0 rfl) ?_
      refine lv_aload_n (pc := 5) hx hb d_TypeFinder_Tokens_packed_5 rfl (lv_at hl 2 rfl) ?_
      refine xb_callV (pc := 6) (rm := rm_String_length) (wr := []) F h (ct_String_length l G a0 d0 n0 fb hn) 0 (va_Orecv hsb.1 h.2.2) k_389 k_4 k_396 k_391 k_392 hd_String_length (by decide) [] [] rfl rfl (by decide) (by decide) (by decide) (xb_ssg F h [] rfl (fun _ z => z)) hl.1 rfl rfl (Nat.le_of_ble_eq_true rfl) (by decide) d_TypeFinder_Tokens_packed_6 (fun u H locs hu h => ?_)
      have h : xb_W G A s [] _ _ := h
      refine W.widen (k := 0) (n := 0) (by decide) (by decide) ?_
      refine W.eq (g2 := F0 m 9 ls [.int (nI n0), .int (nI k)]) rfl ?_
      refine lv_icmp_ge (pc := 9) (tgt := 30) hx hb d_TypeFinder_Tokens_packed_9 (by decide) (fun _ => ?_) (fun h => absurd (nI_le (a := n0) (b := k) (by omega) (by omega)) h)
      refine lv_lload_n (pc := 30) hx hb d_TypeFinder_Tokens_packed_30 rfl (lv_at hl 1 rfl) ?_
      exact xb_lret (pc := 31) (rm := rm_packed) F hr hlk hA hQ h w trivial rfl [] (by decide) rfl (by decide) (by decide) d_TypeFinder_Tokens_packed_31
    | succ n ih =>
      intro k w ls H locs hk h hl
      refine lv_iload_n (pc := 4) hx hb d_TypeFinder_Tokens_packed_4 rfl (lv_at hl 0 rfl) ?_
      refine lv_aload_n (pc := 5) hx hb d_TypeFinder_Tokens_packed_5 rfl (lv_at hl 2 rfl) ?_
      refine xb_callV (pc := 6) (rm := rm_String_length) (wr := []) F h (ct_String_length l G a0 d0 n0 fb hn) 0 (va_Orecv hsb.1 h.2.2) k_389 k_4 k_396 k_391 k_392 hd_String_length (by decide) [] [] rfl rfl (by decide) (by decide) (by decide) (xb_ssg F h [] rfl (fun _ z => z)) hl.1 rfl rfl (Nat.le_of_ble_eq_true rfl) (by decide) d_TypeFinder_Tokens_packed_6 (fun u H locs hu h => ?_)
      have h : xb_W G A s [] _ _ := h
      refine W.widen (k := 0) (n := 0) (by decide) (by decide) ?_
      refine W.eq (g2 := F0 m 9 ls [.int (nI n0), .int (nI k)]) rfl ?_
      refine lv_icmp_ge (pc := 9) (tgt := 30) hx hb d_TypeFinder_Tokens_packed_9 (by decide) (fun h => absurd h (nI_ge (a := k) (b := n0) (by omega) (by omega))) (fun _ => ?_)
      refine lv_lload_n (pc := 12) hx hb d_TypeFinder_Tokens_packed_12 rfl (lv_at hl 1 rfl) ?_
      refine lv_bipush (pc := 13) (v := 8) hx hb d_TypeFinder_Tokens_packed_13 (by decide) ?_
      refine lv_lshl (pc := 15) hx hb d_TypeFinder_Tokens_packed_15 rfl ?_
      refine lv_topl (fun x15_1 ex15_1 => ?_)
      refine lv_aload_n (pc := 16) hx hb d_TypeFinder_Tokens_packed_16 rfl (lv_at hl 2 rfl) ?_
      refine lv_iload_n (pc := 17) hx hb d_TypeFinder_Tokens_packed_17 rfl (lv_at hl 0 rfl) ?_
      refine xb_callV (pc := 18) (rm := rm_String_charAt) (wr := []) F h (ct_String_charAt l G a0 d0 n0 fb hn k (by omega)) 1 (va_Orecv hsb.1 h.2.2) k_397 k_4 k_398 k_399 k_400 hd_String_charAt (by decide) [] [] rfl rfl (by decide) (by decide) (by decide) (xb_ssg F h [] rfl (fun _ z => z)) hl.1 rfl rfl (Nat.le_of_ble_eq_true rfl) (by decide) d_TypeFinder_Tokens_packed_18 (fun u H locs hu h => ?_)
      obtain ⟨x18_2, rfl⟩ : ∃ z, z = u := ⟨_, rfl⟩
      have h : xb_W G A s [] _ _ := h
      refine W.widen (k := 0) (n := 0) (by decide) (by decide) ?_
      refine W.eq (g2 := F0 m 21 ls [.int x18_2, .long x15_1]) rfl ?_
      refine lv_i2l (pc := 21) hx hb d_TypeFinder_Tokens_packed_21 rfl ?_
      refine lv_topl (fun x21_3 ex21_3 => ?_)
      refine lv_lor (pc := 22) hx hb d_TypeFinder_Tokens_packed_22 ?_
      refine lv_topl (fun x22_4 ex22_4 => ?_)
      refine lv_lstore_n (pc := 23) (lv' := [(1, .long x22_4), (3, .int (nI k)), (0, .ref a0)]) hx hb d_TypeFinder_Tokens_packed_23 rfl hl (by decide) rfl (fun ls hl => ?_)
      refine lv_iinc (pc := 24) (k := 1) (v := ((nI k) + 1)) (lv' := [(3, .int ((nI k) + 1)), (1, .long x22_4), (0, .ref a0)]) hx hb d_TypeFinder_Tokens_packed_24 hl rfl (rfl) (by decide) rfl (fun ls hl => ?_)
      refine lv_goto (pc := 27) (tgt := 4) hx hb d_TypeFinder_Tokens_packed_27 (by decide) ?_
      exact ih (k + 1) _ _ _ _ (by omega) h (by rw [← nI_succ] at hl; exact hl)
  refine lv_lconst (pc := 0) (v := 0) hx hb d_TypeFinder_Tokens_packed_0 (by decide) ?_
  refine lv_lstore_n (pc := 1) (lv' := [(1, .long 0), (0, .ref a0)]) hx hb d_TypeFinder_Tokens_packed_1 rfl hl (by decide) rfl (fun ls hl => ?_)
  refine lv_iconst (pc := 2) (v := 0) hx hb d_TypeFinder_Tokens_packed_2 (by decide) ?_
  refine lv_istore_n (pc := 3) (lv' := [(3, .int 0), (1, .long 0), (0, .ref a0)]) hx hb d_TypeFinder_Tokens_packed_3 rfl hl (by decide) rfl (fun ls hl => ?_)
  exact loop n0 0 0 _ _ _ (by omega) h hl
