-- days that pass
theorem wait_s (s : Int32) (r : Nat → Int32) {k : Nat} (h : k ≠ 4 ∧ k ≠ 5 ∧ k ≠ 6 ∧ k ≠ 8 ∧ k ≠ 9 ∧ k ≠ 10) : rwait s r k = r k := by
  obtain ⟨h4, h5, h6, h8, h9, h10⟩ := h
  unfold rwait rappr rmend; (try dsimp only); repeat' split
  all_goals simp [va_up, h4, h5, h6, h8, h9, h10]
theorem wait_4 (s : Int32) (r : Nat → Int32) : rwait s r 4 = r 4 ∨ rwait s r 4 = r 4 ||| r 5 := by
  unfold rwait rappr rmend; (try dsimp only); repeat' split
  all_goals simp [va_up]
theorem wait_8 (s : Int32) (r : Nat → Int32) : rwait s r 8 = r 8 ∨ rwait s r 8 = 0 := by
  unfold rwait rappr rmend; (try dsimp only); repeat' split
  all_goals simp [va_up]
theorem wait_9 (s : Int32) (r : Nat → Int32) : rwait s r 9 = r 9 ∨ rwait s r 9 = 0 := by
  unfold rwait rappr rmend; (try dsimp only); repeat' split
  all_goals simp [va_up]
theorem run_s (a r : Nat → Int32) {k : Nat} (h : k ≠ 7 ∧ k ≠ 8 ∧ k ≠ 9 ∧ k ≠ 10) : rrun a r k = r k := by
  obtain ⟨h7, h8, h9, h10⟩ := h
  unfold rrun rbrk; repeat' split
  all_goals simp [va_up, h7, h8, h9, h10]
theorem rbr_runs {a r : Nat → Int32} (h : rbr a r = true) : runs a r = true ∧ r 0 = 1 := by
  unfold rbr at h
  simp only [Bool.and_eq_true, decide_eq_true_eq] at h
  exact ⟨h.1, h.2.1⟩
theorem run_7 (a r : Nat → Int32) : rrun a r 7 = r 7 ∨ (rrun a r 7 = r 7 + 1 ∧ runs a r = true) := by
  unfold rrun rbrk
  by_cases h : rbr a r = true
  · rw [if_pos h]; right; exact ⟨by simp [va_up], (rbr_runs h).1⟩
  · rw [if_neg h]
    by_cases h2 : runs a r = true
    · rw [if_pos h2]; right; exact ⟨by simp [va_up], h2⟩
    · rw [if_neg h2]; exact Or.inl rfl
theorem run_8 (a r : Nat → Int32) : rrun a r 8 = r 8 ∨ r 0 = 1 := by
  unfold rrun rbrk
  by_cases h : rbr a r = true
  · exact Or.inr (rbr_runs h).2
  · rw [if_neg h]; left; split <;> simp [va_up]
theorem run_9 (a r : Nat → Int32) : rrun a r 9 = r 9 ∨ rrun a r 9 = 0 := by
  unfold rrun rbrk; repeat' split
  all_goals simp [va_up]
theorem age_s (s : Int32) (r : Nat → Int32) {k : Nat} (h : k < 8) : rage s r k = r k := by
  have h8 : k ≠ 8 := by omega
  have h9 : k ≠ 9 := by omega
  have h10 : k ≠ 10 := by omega
  have h11 : k ≠ 11 := by omega
  have h12 : k ≠ 12 := by omega
  unfold rage rmend; (try dsimp only); repeat' split
  all_goals simp [va_up, h8, h9, h10, h11, h12]
theorem age_8 (s : Int32) (r : Nat → Int32) : rage s r 8 = r 8 ∨ rage s r 8 = 0 := by
  unfold rage rmend; (try dsimp only); repeat' split
  all_goals simp [va_up]
theorem age_9 (s : Int32) (r : Nat → Int32) : rage s r 9 = r 9 + 1 ∨ rage s r 9 = 0 := by
  unfold rage rmend; (try dsimp only); repeat' split
  all_goals simp [va_up]
theorem day_s (a r : Nat → Int32) {k : Nat} (h : k < 4) : rday a r k = r k := by
  have q : rrun a (rwait (a 2) r) k = r k := by
    rw [run_s _ _ ⟨by omega, by omega, by omega, by omega⟩, wait_s _ _ ⟨by omega, by omega, by omega, by omega, by omega, by omega⟩]
  unfold rday; try dsimp only
  split
  · rw [age_s _ _ (by omega), q]
  · exact q
theorem day_4 (a r : Nat → Int32) : rday a r 4 = r 4 ∨ rday a r 4 = r 4 ||| r 5 := by
  have q : rrun a (rwait (a 2) r) 4 = r 4 ∨ rrun a (rwait (a 2) r) 4 = r 4 ||| r 5 := by
    rw [run_s _ _ ⟨by omega, by omega, by omega, by omega⟩]; exact wait_4 _ _
  unfold rday; try dsimp only
  split
  · rw [age_s _ _ (by omega)]; exact q
  · exact q
theorem day_5 (a r : Nat → Int32) : rday a r 5 = r 5 ∨ rday a r 5 = 0 := by
  have q : rrun a (rwait (a 2) r) 5 = r 5 ∨ rrun a (rwait (a 2) r) 5 = 0 := by
    rw [run_5]; exact wait_5 _ _
  unfold rday; try dsimp only
  split
  · rw [age_s _ _ (by omega)]; exact q
  · exact q
theorem day_7 (a r : Nat → Int32) : rday a r 7 = r 7 ∨ (rday a r 7 = r 7 + 1 ∧ (r 0 = 2 → r 7 < r 2)) := by
  have q : rrun a (rwait (a 2) r) 7 = r 7 ∨ (rrun a (rwait (a 2) r) 7 = r 7 + 1 ∧ (r 0 = 2 → r 7 < r 2)) := by
    have w7 : rwait (a 2) r 7 = r 7 := wait_s _ _ ⟨by omega, by omega, by omega, by omega, by omega, by omega⟩
    have w0 : rwait (a 2) r 0 = r 0 := wait_s _ _ ⟨by omega, by omega, by omega, by omega, by omega, by omega⟩
    have w2 : rwait (a 2) r 2 = r 2 := wait_s _ _ ⟨by omega, by omega, by omega, by omega, by omega, by omega⟩
    rcases run_7 a (rwait (a 2) r) with e | ⟨e, hr⟩
    · left; rw [e, w7]
    · right
      refine ⟨by rw [e, w7], fun k => ?_⟩
      unfold runs at hr
      simp only [Bool.and_eq_true, decide_eq_true_eq] at hr
      have hm := (sst_lt (Or.inr hr.1)).2.2
      unfold met at hm
      rw [w0, if_pos k, w2, w7] at hm
      exact Int32.not_le.mp (of_decide_eq_false hm)
  unfold rday; try dsimp only
  split
  · rw [age_s _ _ (by omega)]; exact q
  · exact q
theorem day_8 (a r : Nat → Int32) (h0 : r 0 = 0) (h : rday a r 8 = 1) : r 8 = 1 := by
  have q : rrun a (rwait (a 2) r) 8 = 1 → r 8 = 1 := by
    intro e
    rcases run_8 a (rwait (a 2) r) with e2 | e2
    · rw [e2] at e
      rcases wait_8 (a 2) r with e3 | e3
      · rw [e3] at e; exact e
      · rw [e3] at e; cases e
    · rw [wait_s _ _ ⟨by omega, by omega, by omega, by omega, by omega, by omega⟩, h0] at e2; cases e2
  unfold rday at h; try dsimp only at h
  split at h
  · next hc => exact hc.1
  · exact q h
theorem day_12 (a r : Nat → Int32) (h : rday a r 12 = 1) : r 8 = 1 ∨ r 12 = 1 := by
  unfold rday at h; try dsimp only at h
  split at h
  · next hc => exact Or.inl hc.1
  · rw [run_s _ _ ⟨by omega, by omega, by omega, by omega⟩, wait_s _ _ ⟨by omega, by omega, by omega, by omega, by omega, by omega⟩] at h
    exact Or.inr h
theorem day_9 (a r : Nat → Int32) {g d : Nat} (hg : g ≤ d) (e : r 9 = nI g) : ∃ g', g' ≤ d + 1 ∧ rday a r 9 = nI g' := by
  have q : ∃ g', g' ≤ d ∧ rrun a (rwait (a 2) r) 9 = nI g' := by
    rcases run_9 a (rwait (a 2) r) with e1 | e1
    · rw [e1]
      rcases wait_9 (a 2) r with e2 | e2
      · exact ⟨g, hg, e2.trans e⟩
      · exact ⟨0, by omega, e2⟩
    · exact ⟨0, by omega, e1⟩
  obtain ⟨g1, h1, e1⟩ := q
  unfold rday; try dsimp only
  split
  · rcases age_9 (a 3) (rrun a (rwait (a 2) r)) with e2 | e2
    · exact ⟨g1 + 1, by omega, by rw [e2, e1, nI_succ]⟩
    · exact ⟨0, by omega, e2⟩
  · exact ⟨g1, by omega, e1⟩
theorem or_pow {p x y : Nat} (hx : x < 2 ^ p) (hy : y < 2 ^ p) : x ||| y < 2 ^ p := Nat.or_lt_two_pow hx hy
theorem RS_day {a r : Nat → Int32} (h : RS r) : RS (rday a r) := by
  obtain ⟨⟨p, p1, p6, e3, ⟨x, hx, e4⟩, ⟨y, hy, e5⟩⟩, ⟨q, hq, e2⟩, rk⟩ := h
  refine ⟨⟨p, p1, p6, by rw [day_s _ _ (by omega)]; exact e3, ?_, ?_⟩, ⟨q, hq, by rw [day_s _ _ (by omega)]; exact e2⟩, fun k0 => ?_⟩
  · rcases day_4 a r with e | e
    · exact ⟨x, hx, e.trans e4⟩
    · exact ⟨x ||| y, or_pow hx hy, by rw [e, e4, e5, nI_or]⟩
  · rcases day_5 a r with e | e
    · exact ⟨y, hy, e.trans e5⟩
    · exact ⟨0, Nat.two_pow_pos p, e⟩
  · rw [day_s _ _ (by omega)] at k0
    obtain ⟨k, hk, e7⟩ := rk k0
    rcases day_7 a r with e | ⟨e, hlt⟩
    · exact ⟨k, hk, e.trans e7⟩
    · have := hlt k0
      rw [e7, e2] at this
      have := (nI_ltI (by omega) (by omega)).mp this
      exact ⟨k + 1, by omega, by rw [e, e7, nI_succ]⟩
theorem SI_day {N d : Nat} {a b : Nat → Int32} (hs : SI N a) (hD : DY N a d) (hlt : d < 9999) (hd : dayP N a b) (hf : ∀ i, i < N → RF (rday a (rc a i))) : SI N b ∧ DY N b (d + 1) := by
  obtain ⟨hA, -, ⟨s0, hs0, e0⟩, ⟨s1, hs1, e1⟩, hrs⟩ := hs
  obtain ⟨-, d2, d3, d4⟩ := hD
  have hb := hd.2.2.2.1
  have hN := hA.1
  have hrow : ∀ i, i < N → rc b i = rday a (rc a i) := fun i hi => by rw [hd.2.2.2.2 i (by omega), if_pos hi]
  have hDY : DY N b (d + 1) := by
    refine ⟨by omega, by rw [hd.1, d2, nI_succ], fun k hk => ?_, fun i hi => ?_⟩
    · rw [hb (6 + k) (by omega) (by omega) (by omega) (by omega), hb (11 + k) (by omega) (by omega) (by omega) (by omega)]
      rcases d3 k hk with e | ⟨t, ht, e⟩
      · exact Or.inl e
      · exact Or.inr ⟨t, by omega, e⟩
    · rw [hrow i hi]
      obtain ⟨g, hg, e⟩ := d4 i hi
      exact day_9 _ _ hg e
  refine ⟨⟨AI_day hA hd hf, ⟨_, hDY⟩, ⟨s0, hs0, by rw [hb 2 (by omega) (by omega) (by omega) (by omega)]; exact e0⟩, ⟨s1, hs1, by rw [hb 3 (by omega) (by omega) (by omega) (by omega)]; exact e1⟩, fun i hi => ?_⟩, hDY⟩
  rw [hrow i hi]
  refine ⟨RS_day (hrs i hi).1, fun k0 k1 => ?_⟩
  rw [day_s _ _ (by omega)] at k0 ⊢
  have := st_lt (hA.2.2 i hi).2.1
  rw [hb _ (by omega) (by omega) (by omega) (by omega)]
  refine (hrs i hi).2 k0 ?_
  rcases k1 with k1 | k1
  · exact Or.inl (day_8 _ _ k0 k1)
  · exact day_12 _ _ k1

