/-! The bytes of a word, as both sides read them. -/
def xt_v (s : Int64) (k : Nat) : Int64 := (s.toUInt64 >>> (((8 : Int32) * nI k).toInt64.toUInt64 &&& Int64.toUInt64 63)).toInt64
def xt_n (s : Int64) (k : Nat) : Nat := (xt_v s k).toBitVec.toNat % 256
theorem xt_lt (s : Int64) (k : Nat) : xt_n s k < 256 := Nat.mod_lt _ (by decide)
theorem xt_and (v : Int64) : v &&& 255 = Int64.ofNat (v.toBitVec.toNat % 256) := by
  apply Int64.toBitVec_inj.mp
  apply BitVec.eq_of_toNat_eq
  have h1 : (v &&& 255).toBitVec = v.toBitVec &&& 255#64 := rfl
  have h2 : (Int64.ofNat (v.toBitVec.toNat % 256)).toBitVec = BitVec.ofNat 64 (v.toBitVec.toNat % 256) := rfl
  rw [h1, h2, BitVec.toNat_and, BitVec.toNat_ofNat, BitVec.toNat_ofNat]
  have h3 : 255 % 2 ^ 64 = 2 ^ 8 - 1 := by decide
  rw [h3, Nat.and_two_pow_sub_one_eq_mod]
  omega
theorem xt_and32 (v : Int64) : v.toInt32 &&& 255 = nI (v.toBitVec.toNat % 256) := by
  apply Int32.toBitVec_inj.mp
  apply BitVec.eq_of_toNat_eq
  have h1 : (v.toInt32 &&& 255).toBitVec = v.toBitVec.signExtend 32 &&& 255#32 := rfl
  have h2 : (nI (v.toBitVec.toNat % 256)).toBitVec = BitVec.ofNat 32 (v.toBitVec.toNat % 256) := rfl
  rw [h1, h2, BitVec.toNat_and, BitVec.signExtend_eq_setWidth_of_le _ (by decide), BitVec.toNat_setWidth, BitVec.toNat_ofNat, BitVec.toNat_ofNat]
  have h3 : 255 % 2 ^ 32 = 2 ^ 8 - 1 := by decide
  rw [h3, Nat.and_two_pow_sub_one_eq_mod]
  omega
theorem xt_l (s : Int64) (k : Nat) : xt_v s k &&& 255 = Int64.ofNat (xt_n s k) := xt_and _
theorem xt_i (s : Int64) (k : Nat) : (xt_v s k).toInt32 &&& 255 = nI (xt_n s k) := xt_and32 _
theorem xt_cmp : ∀ n, n < 256 → (lg_cmp (Int64.ofNat n) 0 = 0 ↔ n = 0) ∧ (lg_cmp (Int64.ofNat n) 32 < 0 ↔ n < 32) ∧ (0 < lg_cmp (Int64.ofNat n) 126 ↔ 126 < n) := by decide +kernel
theorem xt_int : ∀ n, n < 256 → (nI n = 0 ↔ n = 0) ∧ (nI n < 32 ↔ n < 32) ∧ (nI n ≤ 126 ↔ n ≤ 126) := by decide +kernel
def xt_g (s : Int64) (k : Nat) : Prop := 32 ≤ xt_n s k ∧ xt_n s k ≤ 126
def xt_ok (s : Int64) : Prop := ∃ m, 1 ≤ m ∧ m ≤ 8 ∧ (∀ j, j < m → xt_g s j) ∧ (m = 8 ∨ xt_n s m = 0)
def xt_ans (s : Int64) (u : Int32) : Prop := (u = 1 ∧ xt_ok s) ∨ (u = 0 ∧ ¬ xt_ok s)
theorem xt_same {s : Int64} {u v : Int32} (h1 : xt_ans s u) (h2 : xt_ans s v) : u = v := by
  rcases h1 with ⟨a, b⟩ | ⟨a, b⟩ <;> rcases h2 with ⟨a2, b2⟩ | ⟨a2, b2⟩
  · rw [a, a2]
  · exact absurd b b2
  · exact absurd b2 b
  · rw [a, a2]
theorem xt_no0 {s : Int64} (h : xt_n s 0 = 0) : ¬ xt_ok s := by
  rintro ⟨m, h1, -, h3, -⟩
  have := h3 0 (by omega)
  unfold xt_g at this
  omega
theorem xt_no2 {s : Int64} {k j : Nat} (hk : k ≤ 8) (hn : ∀ i, i < k → ¬ xt_n s i = 0) (he : k = 8 ∨ xt_n s k = 0) (hj : j < k) (hb : ¬ xt_g s j) : ¬ xt_ok s := by
  rintro ⟨m, h1, h2, h3, h4⟩
  rcases Nat.lt_or_ge k m with h | h
  · have := h3 k h
    unfold xt_g at this
    omega
  · rcases Nat.lt_or_ge j m with h5 | h5
    · exact hb (h3 j h5)
    · rcases h4 with h4 | h4
      · omega
      · exact hn m (by omega) h4
theorem xt_no1 {s : Int64} {k : Nat} (hk : k < 8) (hg : ∀ i, i < k → xt_g s i) (hn : ¬ xt_n s k = 0) (hb : ¬ xt_g s k) : ¬ xt_ok s := by
  rintro ⟨m, h1, h2, h3, h4⟩
  rcases Nat.lt_or_ge k m with h | h
  · exact hb (h3 k h)
  · rcases h4 with h4 | h4
    · omega
    · rcases Nat.lt_or_ge m k with h5 | h5
      · have := hg m h5
        unfold xt_g at this
        omega
      · have : m = k := by omega
        exact hn (this ▸ h4)
theorem xt_gnz {s : Int64} {k : Nat} (h : xt_g s k) : ¬ xt_n s k = 0 := by
  unfold xt_g at h
  omega
theorem xt_more {P : Nat → Prop} {k : Nat} (h : ∀ i, i < k → P i) (hk : P k) : ∀ i, i < k + 1 → P i := by
  intro i hi
  rcases (by omega : i < k ∨ i = k) with h9 | rfl
  · exact h i h9
  · exact hk
