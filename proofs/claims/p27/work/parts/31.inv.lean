-- the invariants, and a change of one row
def RS (r : Nat → Int32) : Prop := (∃ p, 1 ≤ p ∧ p ≤ 6 ∧ r 3 = nI p ∧ (∃ x, x < 2 ^ p ∧ r 4 = nI x) ∧ (∃ x, x < 2 ^ p ∧ r 5 = nI x)) ∧ (∃ y, y ≤ 365 ∧ r 2 = nI y) ∧ (r 0 = 2 → ∃ k, k ≤ 365 ∧ r 7 = nI k)
def LI (a r : Nat → Int32) : Prop := r 0 = 0 → (r 8 = 1 ∨ r 12 = 1) → a (6 + (r 1).toNatClampNeg) ≠ -1
def DY (N : Nat) (a : Nat → Int32) (d : Nat) : Prop := d ≤ 9999 ∧ a 0 = nI d ∧ (∀ k, k < 5 → (a (6 + k) = -1 ∧ a (11 + k) = -1) ∨ ∃ t, t ≤ d ∧ a (6 + k) = nI t) ∧ ∀ i, i < N → ∃ g, g ≤ d ∧ rc a i 9 = nI g
def SI (N : Nat) (a : Nat → Int32) : Prop := AI N a ∧ (∃ d, DY N a d) ∧ (∃ s, s ≤ 99 ∧ a 2 = nI s) ∧ (∃ s, s ≤ 365 ∧ a 3 = nI s) ∧ ∀ i, i < N → RS (rc a i) ∧ LI a (rc a i)
theorem pow_le64 {p x : Nat} (hp : p ≤ 6) (h : x < 2 ^ p) : x < 64 := Nat.lt_of_lt_of_le h (Nat.pow_le_pow_right (n := 2) (by omega) hp)
theorem RS_64 {r : Nat → Int32} (h : RS r) : is64 (r 4) ∧ is64 (r 5) := by
  obtain ⟨⟨p, p1, p6, -, ⟨x, hx, ex⟩, ⟨y, hy, ey⟩⟩, -⟩ := h
  exact ⟨⟨x, pow_le64 p6 hx, ex⟩, ⟨y, pow_le64 p6 hy, ey⟩⟩
theorem st_lt {x : Int32} (h : isSt x) : x.toNatClampNeg < 5 := by
  obtain ⟨t, ht, rfl⟩ := h
  rw [nI_clamp (by omega)]; exact ht
theorem rc_so_o {a r : Nat → Int32} {i j : Nat} (ht : tl r (ro a i)) (h : j ≠ i) : rc (so a i r) j = rc a j := rc_other h ht
theorem SI_row {N : Nat} {a a2 : Nat → Int32} {i : Nat} {r' : Nat → Int32} (hs : SI N a) (hi : i < N) (h2 : ∀ j, j < 16 → j ≠ 4 → j ≠ 5 → a2 j = a j) (h2r : ∀ j, rc a2 j = rc a j) (ht : tl r' (ro a2 i)) (hf : RF (cut r')) (hS : RS (cut r')) (hk : isSt (cut r' 1)) (hL : LI a (cut r')) (hg : ∀ d, DY N a d → ∃ g, g ≤ d ∧ cut r' 9 = nI g) : SI N (so a2 i r') := by
  obtain ⟨⟨hN, ha1, hrow⟩, ⟨d, hd⟩, ⟨s0, hs0, e0⟩, ⟨s1, hs1, e1⟩, hrs⟩ := hs
  have hh : ∀ j, j < 16 → j ≠ 4 → j ≠ 5 → so a2 i r' j = a j := fun j hj h4 h5 => by rw [so_h _ _ _ hj]; exact h2 j hj h4 h5
  have hr : ∀ j, rc (so a2 i r') j = if j = i then cut r' else rc a j := fun j => by rw [rc_so ht, h2r]
  have hgi := hg d hd
  obtain ⟨d1, d2, d3, d4⟩ := hd
  refine ⟨⟨hN, by rw [hh 1 (by omega) (by omega) (by omega)]; exact ha1, fun j hj => ?_⟩, ⟨d, d1, by rw [hh 0 (by omega) (by omega) (by omega)]; exact d2, fun k hk5 => by rw [hh (6 + k) (by omega) (by omega) (by omega), hh (11 + k) (by omega) (by omega) (by omega)]; exact d3 k hk5, fun j hj => ?_⟩, ⟨s0, hs0, by rw [hh 2 (by omega) (by omega) (by omega)]; exact e0⟩, ⟨s1, hs1, by rw [hh 3 (by omega) (by omega) (by omega)]; exact e1⟩, fun j hj => ?_⟩
  · rw [hr]
    by_cases e : j = i
    · rw [if_pos e]; exact ⟨hf, hk, (RS_64 hS).2⟩
    · rw [if_neg e]; exact hrow j hj
  · rw [hr]
    by_cases e : j = i
    · rw [if_pos e]; exact hgi
    · rw [if_neg e]; exact d4 j hj
  · rw [hr]
    by_cases e : j = i
    · rw [if_pos e]
      refine ⟨hS, fun q1 q2 => ?_⟩
      have := st_lt hk
      rw [hh _ (by omega) (by omega) (by omega)]
      exact hL q1 q2
    · rw [if_neg e]
      refine ⟨(hrs j hj).1, fun q1 q2 => ?_⟩
      have := st_lt (hrow j hj).2.1
      rw [hh _ (by omega) (by omega) (by omega)]
      exact (hrs j hj).2 q1 q2
theorem PM_row {V V' : mV} {h N i : Nat} {a a2 r' : Nat → Int32} (hm : PM V h N a) (hN : N ≤ 10) (hi : i < N) (h2 : ∀ j, j < 16 → j ≠ 4 → j ≠ 5 → a2 j = a j) (h2r : ∀ j, rc a2 j = rc a j) (h3 : V' h 3 = V h 3) (h4 : V' h 4 = V h 4) (h5 : V' h 5 = a2 4) (h6 : V' h 6 = a2 5) (h7 : V' h 7 = V h 7) (h8 : V' h 8 = V h 8) (ho : sb2 V' V (h + 4 + i) h) (hc : CM (V' (h + 4 + i)) (cut r')) (ht : tl r' (ro a2 i)) : PM V' h N (so a2 i r') := by
  obtain ⟨m3, m4, m5, m6, m7, m8, mst, mc⟩ := hm
  have hh : ∀ j, j < 16 → j ≠ 4 → j ≠ 5 → so a2 i r' j = a j := fun j hj h4 h5 => by rw [so_h _ _ _ hj]; exact h2 j hj h4 h5
  refine ⟨by rw [h3]; exact m3, by rw [h4, hh 0 (by omega) (by omega) (by omega)]; exact m4, by rw [h5, so_h _ _ _ (by omega)], by rw [h6, so_h _ _ _ (by omega)], by rw [h7, hh 2 (by omega) (by omega) (by omega)]; exact m7, by rw [h8, hh 3 (by omega) (by omega) (by omega)]; exact m8, fun k hk => ?_, fun j hj => ?_⟩
  · rw [ho (h + 2) (by omega) (by omega), ho (h + 3) (by omega) (by omega), hh (6 + k) (by omega) (by omega) (by omega), hh (11 + k) (by omega) (by omega) (by omega)]
    exact mst k hk
  · rw [rc_so ht, h2r]
    by_cases e : j = i
    · subst e; rw [if_pos rfl]; exact hc
    · rw [if_neg e, ho (h + 4 + j) (by omega) (by omega)]
      exact mc j hj
theorem sO_2 {V' V : mV} {h i : Nat} (hi : i < 10) (ho : sb2 V' V (h + 4 + i) h) : sO V' V h := fun b hb => ho b (by omega) (by omega)
theorem psh : ∀ p, p < 7 → (1 : Int32) <<< (nI p &&& 31) = nI (2 ^ p) ∧ nI (2 ^ p) - 1 = nI (2 ^ p - 1) := by decide
section CLS
variable {Y : mY} {G H : mG} {h m : Nat}
theorem C_pset {c : Nat} (hc : Y.1 c = 0) (W : mV) {p : Nat} (hp : p ≤ 6) (h3 : W c 3 = nI p) (x : Int32) : cf_X0_isPartsSet Y W G c x = some (bi (decide (0 ≤ x) && decide (x < nI (2 ^ p)))) := by
  rw [cf_X0_isPartsSet, if_pos hc, h3, (psh p (by omega)).1]
  by_cases q : x < 0
  · have : ¬ (0 : Int32) ≤ x := Int32.not_le.mpr q
    simp [q, this, bi]
  · have k : (0 : Int32) ≤ x := Int32.not_lt.mp q
    by_cases q2 : nI (2 ^ p) ≤ x
    · have : ¬ x < nI (2 ^ p) := Int32.not_lt.mpr q2
      simp [q, q2, this, bi]
    · have : x < nI (2 ^ p) := Int32.not_le.mp q2
      simp [q, q2, k, this, bi]
end CLS

