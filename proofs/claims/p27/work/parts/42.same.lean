-- what is recorded, by both
def mix (n : Nat) (a b : Nat → Int32) : Nat → Int32 := fun k => if k < n then a k else b k
theorem mix_step (n : Nat) (a b : Nat → Int32) : va_up (mix n a b) n (a n) = mix (n + 1) a b := by
  funext q
  by_cases e : q = n
  · subst e; rw [va_up_s]; simp [mix]
  · rw [un_ _ _ e]; simp only [mix]
    by_cases l : q < n
    · rw [if_pos l, if_pos (by omega)]
    · rw [if_neg l, if_neg (by omega)]
theorem mix_0 (a b : Nat → Int32) : mix 0 a b = b := by funext q; simp [mix]
theorem mix_lt (n : Nat) (a b : Nat → Int32) {k : Nat} (h : k < n) : mix n a b k = a k := by simp [mix, h]
/-- of o and behind it, n entries from another array -/
def seg (o n : Nat) (a b : Nat → Int32) : Nat → Int32 := fun k => if o ≤ k ∧ k < o + n then a (k - o) else b k
theorem seg_step (o n : Nat) (a b : Nat → Int32) : va_up (seg o n a b) (o + n) (a n) = seg o (n + 1) a b := by
  funext q
  by_cases e : q = o + n
  · subst e; rw [va_up_s]; simp only [seg]; rw [if_pos (by omega)]; congr 1; omega
  · rw [un_ _ _ e]; simp only [seg]
    by_cases l : o ≤ q ∧ q < o + n
    · rw [if_pos l, if_pos (by omega)]
    · rw [if_neg l, if_neg (by omega)]
theorem seg_0 (o : Nat) (a b : Nat → Int32) : seg o 0 a b = b := by funext q; simp only [seg]; rw [if_neg (by omega)]
theorem rc_eq {a a' : Nat → Int32} (h : ∀ k, k < 146 → a' k = a k) {i : Nat} (hi : i < 10) : rc a' i = rc a i := by
  funext k
  simp only [rc, cut, ro]
  split
  · exact h _ (by omega)
  · rfl
theorem PM_eq {V : mV} {h N : Nat} {a a' : Nat → Int32} (hN : N ≤ 10) (e : ∀ k, k < 146 → a' k = a k) (hm : PM V h N a) : PM V h N a' := by
  obtain ⟨m3, m4, m5, m6, m7, m8, mst, mc⟩ := hm
  refine ⟨m3, by rw [e 0 (by omega)]; exact m4, by rw [e 4 (by omega)]; exact m5, by rw [e 5 (by omega)]; exact m6, by rw [e 2 (by omega)]; exact m7, by rw [e 3 (by omega)]; exact m8, fun k hk => by rw [e _ (by omega), e _ (by omega)]; exact mst k hk, fun i hi => by rw [rc_eq e (by omega)]; exact mc i hi⟩
theorem SI_eq {N : Nat} {a a' : Nat → Int32} (e : ∀ k, k < 146 → a' k = a k) (hs : SI N a) : SI N a' := by
  obtain ⟨⟨hN, ha1, hrow⟩, ⟨d, d1, d2, d3, d4⟩, ⟨s0, hs0, e0⟩, ⟨s1, hs1, e1⟩, hrs⟩ := hs
  have hr : ∀ i, i < N → rc a' i = rc a i := fun i hi => rc_eq e (by omega)
  refine ⟨⟨hN, by rw [e 1 (by omega)]; exact ha1, fun i hi => by rw [hr i hi]; exact hrow i hi⟩, ⟨d, d1, by rw [e 0 (by omega)]; exact d2, fun k hk => by rw [e _ (by omega), e _ (by omega)]; exact d3 k hk, fun i hi => by rw [hr i hi]; exact d4 i hi⟩, ⟨s0, hs0, by rw [e 2 (by omega)]; exact e0⟩, ⟨s1, hs1, by rw [e 3 (by omega)]; exact e1⟩, fun i hi => ?_⟩
  rw [hr i hi]
  refine ⟨(hrs i hi).1, fun q1 q2 => ?_⟩
  have := st_lt (hrow i hi).2.1
  rw [e _ (by omega)]
  exact (hrs i hi).2 q1 q2
theorem PM_sO {V V' : mV} {h g N : Nat} {a : Nat → Int32} (hN : N ≤ 10) (hd : g + 14 ≤ h ∨ h + 14 ≤ g) (ho : sO V' V g) (hm : PM V h N a) : PM V' h N a := by
  obtain ⟨m3, m4, m5, m6, m7, m8, mst, mc⟩ := hm
  have q : ∀ j, j < 14 → V' (h + j) = V (h + j) := fun j hj => ho _ (by omega)
  have q0 : V' h = V h := q 0 (by omega)
  refine ⟨by rw [q0]; exact m3, by rw [q0]; exact m4, by rw [q0]; exact m5, by rw [q0]; exact m6, by rw [q0]; exact m7, by rw [q0]; exact m8, fun k hk => by rw [q 2 (by omega), q 3 (by omega)]; exact mst k hk, fun i hi => by have e := q (4 + i) (by omega); rw [show h + (4 + i) = h + 4 + i by omega] at e; rw [e]; exact mc i hi⟩
theorem PM_bl {V V' : mV} {h N : Nat} {a : Nat → Int32} (hN : N ≤ 10) (q : ∀ j, j < 14 → V' (h + j) = V (h + j)) (hm : PM V h N a) : PM V' h N a := by
  obtain ⟨m3, m4, m5, m6, m7, m8, mst, mc⟩ := hm
  have q0 : V' h = V h := q 0 (by omega)
  refine ⟨by rw [q0]; exact m3, by rw [q0]; exact m4, by rw [q0]; exact m5, by rw [q0]; exact m6, by rw [q0]; exact m7, by rw [q0]; exact m8, fun k hk => by rw [q 2 (by omega), q 3 (by omega)]; exact mst k hk, fun i hi => by have e := q (4 + i) (by omega); rw [show h + (4 + i) = h + 4 + i by omega] at e; rw [e]; exact mc i hi⟩

