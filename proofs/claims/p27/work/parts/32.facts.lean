-- decide, lapse, cure, serve
theorem sst_lt {a r : Nat → Int32} (h : sst a r = 0 ∨ sst a r = 1) : ¬ r 12 = 1 ∧ ¬ r 8 = 1 ∧ met r = false := by
  unfold sst at h
  by_cases h12 : r 12 = 1
  · rw [if_pos h12] at h; exact absurd h (by decide)
  · by_cases h8 : r 8 = 1
    · rw [if_neg h12, if_pos h8] at h; exact absurd h (by decide)
    · cases em : met r
      · exact ⟨h12, h8, rfl⟩
      · rw [if_neg h12, if_neg h8, em, if_pos rfl] at h; exact absurd h (by decide)
theorem sst_3 {a r : Nat → Int32} (h : sst a r = 3) : ¬ r 12 = 1 ∧ r 8 = 1 := by
  unfold sst at h
  by_cases h12 : r 12 = 1
  · rw [if_pos h12] at h; exact absurd h (by decide)
  · by_cases h8 : r 8 = 1
    · exact ⟨h12, h8⟩
    · exfalso
      rw [if_neg h12, if_neg h8] at h
      revert h
      cases met r <;> cases slp a r <;> decide
set_option maxRecDepth 100000 in
theorem bc_le : ∀ p, p < 7 → ∀ y, y < 2 ^ p → (0 : Int32) ≤ nI p - bc (nI y) := by decide +kernel

