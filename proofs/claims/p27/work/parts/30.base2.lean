-- ranges, numbers of conditions and stages
def wi (x lo hi : Int32) : Bool := decide (lo ≤ x) && decide (x ≤ hi)
theorem C_in (x lo hi : Int32) : cf_X3_isWithin x lo hi = some (bi (wi x lo hi)) := by
  rw [cf_X3_isWithin]; unfold wi
  by_cases h1 : x < lo
  · have : ¬ lo ≤ x := Int32.not_le.mpr h1
    simp [h1, this, bi]
  · have k1 : lo ≤ x := Int32.not_lt.mp h1
    by_cases h2 : hi < x
    · have : ¬ x ≤ hi := Int32.not_le.mpr h2
      simp [h1, h2, this, bi]
    · have k2 : x ≤ hi := Int32.not_lt.mp h2
      simp [h1, h2, k1, k2, bi]
theorem cmp_lt (x y : Int64) : lg_cmp x y < 0 ↔ x < y := by
  unfold lg_cmp
  by_cases h1 : x > y
  · have h2 : ¬ x < y := fun h => Int64.lt_irrefl (Int64.lt_trans h h1)
    rw [if_pos h1]; simp [h2]
  · rw [if_neg h1]
    by_cases h2 : x = y
    · subst h2; simp [Int64.lt_irrefl]
    · rw [if_neg h2]
      have h3 : x < y := by
        have h4 : x ≤ y := Int64.not_lt.mp h1
        rcases Int64.lt_or_eq_of_le h4 with q | q
        · exact q
        · exact absurd q h2
      simp [h3]
theorem cmp_gt (x y : Int64) : 0 < lg_cmp x y ↔ y < x := by
  unfold lg_cmp
  by_cases h1 : x > y
  · have h1' : y < x := h1
    rw [if_pos h1]; simp [h1']
  · have h1' : ¬ y < x := h1
    rw [if_neg h1]
    by_cases h2 : x = y
    · subst h2; simp [Int64.lt_irrefl]
    · rw [if_neg h2]; simp [h1']
theorem w_le (a b : Int32) : a.toInt64 ≤ b.toInt64 ↔ a ≤ b := by
  rw [Int64.le_iff_toInt_le, Int32.le_iff_toInt_le, Int32.toInt_toInt64, Int32.toInt_toInt64]
/-- a number from 0 below n, or out of it -/
theorem num_cases (x : Int32) {n : Nat} (hn : n < 2 ^ 31) : (∃ i, i < n ∧ x = nI i) ∨ (x < 0 ∨ nI n ≤ x) := by
  rcases pk_ix x hn with h | h | ⟨j, h1, h2⟩
  · exact Or.inr (Or.inl h)
  · exact Or.inr (Or.inr h)
  · exact Or.inl ⟨j, h1, h2⟩
theorem wi_nI {i : Nat} {lo hi : Nat} (h1 : i < 2 ^ 31) (h3 : hi < 2 ^ 31) (h2 : lo ≤ hi) : wi (nI i) (nI lo) (nI hi) = (decide (lo ≤ i) && decide (i ≤ hi)) := by
  unfold wi
  rw [decide_eq_decide.mpr (nI_leI (show lo < 2 ^ 31 by omega) h1), decide_eq_decide.mpr (nI_leI h1 h3)]
/-- within lo and hi: a number -/
theorem wi_num {x : Int32} {lo hi : Nat} (h3 : hi < 2 ^ 31) (h2 : lo ≤ hi) (h : wi x (nI lo) (nI hi) = true) : ∃ i, lo ≤ i ∧ i ≤ hi ∧ x = nI i := by
  unfold wi at h
  simp only [Bool.and_eq_true, decide_eq_true_eq] at h
  obtain ⟨a, b⟩ := h
  have h0 : ¬ x < 0 := fun q => by
    have := Int32.lt_of_le_of_lt a q
    exact absurd this (nI_pos (by omega))
  obtain ⟨j, hj, rfl⟩ := nI_of h0
  exact ⟨j, (nI_leI (by omega) hj).mp a, (nI_leI hj h3).mp b, rfl⟩
section CLS
variable {Y : mY} {G : mG} {h m : Nat}
theorem C_has1 (hP : PT Y G h) {N i : Nat} (hN : N ≤ 10) (hi : i < N) {V : mV} (h3 : V h 3 = nI N) : cf_X2_hasCondition Y V G h (nI i) = some 1 := by
  rw [cf_X2_hasCondition, if_neg (nI_pos (by omega)), if_pos hP.1, h3, if_neg (le_nI hi (by omega))]
theorem C_has0 (hP : PT Y G h) {N : Nat} {V : mV} (h3 : V h 3 = nI N) {x : Int32} (hx : x < 0 ∨ nI N ≤ x) : cf_X2_hasCondition Y V G h x = some 0 := by
  rw [cf_X2_hasCondition]
  by_cases q : x < 0
  · rw [if_pos q]
  · rw [if_neg q, if_pos hP.1, h3, if_pos (hx.resolve_left q)]
end CLS

