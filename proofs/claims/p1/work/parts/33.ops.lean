/-! Operators: which characters they are. -/
def xo_b : List Int32 := [43, 45, 42, 47, 60, 63, 58, 64, 94, 38]
def xo_in (c : Int32) : Prop := ¬ c < 0 ∧ ¬ 255 < c ∧ ∃ j : Nat, j < 10 ∧ (xb_sB.getD 1 []).getD j 0 = c.toInt8.toInt32
theorem xo_tab : ∀ j, j < 10 → (xb_sB.getD 1 []).getD j 0 = xo_b.getD j 0 ∧ xo_b.getD j 0 &&& 255 = xo_b.getD j 0 := by decide
theorem xo_iff (c : Int32) : xo_in c ↔ c ∈ xo_b := by
  constructor
  · rintro ⟨h0, h1, j, hj, hb⟩
    obtain ⟨n, hn, rfl⟩ := nI_of h0
    have hn2 : n < 256 := by
      have := (nI_ltI (a := 255) (b := n) (by decide) hn).mpr
      rcases Nat.lt_or_ge 255 n with h | h
      · exact absurd (this h) h1
      · omega
    have e := sc_k8 n hn2
    rw [← hb, (xo_tab j hj).1, (xo_tab j hj).2] at e
    rw [← e]
    have hl : xo_b.length = 10 := rfl
    rw [List.getD_eq_getElem?_getD, List.getElem?_eq_getElem (by omega)]
    exact List.getElem_mem _
  · intro h
    simp only [xo_b, List.mem_cons, List.not_mem_nil, or_false] at h
    rcases h with rfl | rfl | rfl | rfl | rfl | rfl | rfl | rfl | rfl | rfl
    · exact ⟨by decide, by decide, 0, by decide, by decide⟩
    · exact ⟨by decide, by decide, 1, by decide, by decide⟩
    · exact ⟨by decide, by decide, 2, by decide, by decide⟩
    · exact ⟨by decide, by decide, 3, by decide, by decide⟩
    · exact ⟨by decide, by decide, 4, by decide, by decide⟩
    · exact ⟨by decide, by decide, 5, by decide, by decide⟩
    · exact ⟨by decide, by decide, 6, by decide, by decide⟩
    · exact ⟨by decide, by decide, 7, by decide, by decide⟩
    · exact ⟨by decide, by decide, 8, by decide, by decide⟩
    · exact ⟨by decide, by decide, 9, by decide, by decide⟩
/-- what both sides answer of infix -/
def xo_good (c l : Int32) : Prop := c ∈ xo_b ∧ ¬ c = 58 ∧ ¬ l < 0 ∧ l ≤ 9
def xo_ans (c l u : Int32) : Prop := (u = 1 ∧ xo_good c l) ∨ (u = 0 ∧ ¬ xo_good c l)
theorem xo_same {c l u v : Int32} (h1 : xo_ans c l u) (h2 : xo_ans c l v) : u = v := by
  rcases h1 with ⟨a, b⟩ | ⟨a, b⟩ <;> rcases h2 with ⟨a2, b2⟩ | ⟨a2, b2⟩
  · rw [a, a2]
  · exact absurd b b2
  · exact absurd b2 b
  · rw [a, a2]
/-- the place of an operator: -1 where it is none -/
def xo_pl (c u : Int32) : Prop := (u = -1 ∧ ¬ c ∈ xo_b) ∨ (vp_in u 10 ∧ c ∈ xo_b)
theorem xo_pl_neg {c u : Int32} (h : xo_pl c u) (hu : u < 0) : ¬ c ∈ xo_b := by
  rcases h with ⟨-, h⟩ | ⟨h, -⟩
  · exact h
  · exact absurd (Or.inl hu) h
theorem xo_pl_pos {c u : Int32} (h : xo_pl c u) (hu : ¬ u < 0) : vp_in u 10 ∧ c ∈ xo_b := by
  rcases h with ⟨h, -⟩ | h
  · subst h; exact absurd (by decide) hu
  · exact h
