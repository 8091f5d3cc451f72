/-! Small facts for the law's own walk. -/
theorem xl_0 : Int32.toNatClampNeg 0 = 0 := by decide
theorem xl_1 : Int32.toNatClampNeg 1 = 1 := by decide
theorem xl_2 : Int32.toNatClampNeg 2 = 2 := by decide
theorem xl_3 : Int32.toNatClampNeg 3 = 3 := by decide
theorem xl_and (v : Int32) : v &&& 7 = nI (v.toBitVec.toNat % 8) := by
  apply Int32.toBitVec_inj.mp
  apply BitVec.eq_of_toNat_eq
  have h1 : (v &&& 7).toBitVec = v.toBitVec &&& 7#32 := rfl
  have h2 : (nI (v.toBitVec.toNat % 8)).toBitVec = BitVec.ofNat 32 (v.toBitVec.toNat % 8) := rfl
  rw [h1, h2, BitVec.toNat_and, BitVec.toNat_ofNat, BitVec.toNat_ofNat]
  have h3 : 7 % 2 ^ 32 = 2 ^ 3 - 1 := by decide
  rw [h3, Nat.and_two_pow_sub_one_eq_mod]
  omega
theorem xl_eight : ∀ n, n < 8 → nI n = 0 ∨ nI n = 1 ∨ nI n = 2 ∨ nI n = 3 ∨ nI n = 4 ∨ nI n = 5 ∨ nI n = 6 ∨ nI n = 7 := by decide
theorem xl_seven (v : Int32) : v &&& 7 = 0 ∨ v &&& 7 = 1 ∨ v &&& 7 = 2 ∨ v &&& 7 = 3 ∨ v &&& 7 = 4 ∨ v &&& 7 = 5 ∨ v &&& 7 = 6 ∨ v &&& 7 = 7 := by
  rw [xl_and v]
  exact xl_eight _ (Nat.mod_lt _ (by decide))
theorem xl_big {k : Int32} (h : ¬ k < 0) (h0 : ¬ k = 0) (h1 : ¬ k = 1) (h2 : ¬ k = 2) (h3 : ¬ k = 3) : 4 ≤ k := by
  obtain ⟨j, hj, rfl⟩ := nI_of h
  have a0 : ¬ j = 0 := fun z => h0 (by rw [z]; decide)
  have a1 : ¬ j = 1 := fun z => h1 (by rw [z]; decide)
  have a2 : ¬ j = 2 := fun z => h2 (by rw [z]; decide)
  have a3 : ¬ j = 3 := fun z => h3 (by rw [z]; decide)
  exact (show nI 4 ≤ nI j from nI_le (by omega) hj)
