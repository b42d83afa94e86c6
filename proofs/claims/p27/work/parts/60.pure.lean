-- the other order: heads alike, rows turned round
def Sw (a b : Nat → Int32) : Prop := (∀ j, j < 16 → b j = a j) ∧ ∀ i, i < 5 → rc b i = rc a (4 - i)
/-- what holds of a row besides, on the day d -/
def XI (d : Nat) (r : Nat → Int32) : Prop := (r 4 &&& r 5) = 0 ∧ (r 12 = 1 → r 8 = 0) ∧ (r 8 = 1 → r 0 ≠ 2 → met r = false) ∧ ∃ u, u ≤ d ∧ r 11 = nI u
theorem XI_le {d e : Nat} {r : Nat → Int32} (h : d ≤ e) (q : XI d r) : XI e r := by
  obtain ⟨h1, h2, h3, u, hu, h4⟩ := q
  exact ⟨h1, h2, h3, u, by omega, h4⟩
theorem met_up {r : Nat → Int32} {k : Nat} (v : Int32) (h : k = 5 ∨ k = 6 ∨ k = 8 ∨ k = 9 ∨ k = 10 ∨ k = 11 ∨ k = 12) : met (va_up r k v) = met r := by
  unfold met
  rw [un_ _ _ (show 0 ≠ k by omega), un_ _ _ (show 2 ≠ k by omega), un_ _ _ (show 3 ≠ k by omega), un_ _ _ (show 4 ≠ k by omega), un_ _ _ (show 7 ≠ k by omega)]
theorem met_up7 {r : Nat → Int32} (v : Int32) (h : r 0 ≠ 2) : met (va_up r 7 v) = met r := by
  unfold met
  rw [un_ _ _ (show 0 ≠ 7 by omega), un_ _ _ (show 3 ≠ 7 by omega), un_ _ _ (show 4 ≠ 7 by omega), if_neg h, if_neg h]
theorem and_z (x : Int32) : x &&& 0 = 0 := by simp
theorem XI_appr {d : Nat} {r : Nat → Int32} (h : XI d r) (x : Int32) : XI d (rappr r x) := by
  obtain ⟨h1, h2, h3, u, hu, h4⟩ := h
  unfold rappr
  dsimp only
  cases em : met (va_up (va_up (va_up r 4 (r 4 ||| x)) 5 0) 6 0)
  · simp only [Bool.false_and]
    rw [if_neg (by decide)]
    refine ⟨by simp [va_up], fun q => ?_, fun _ _ => em, u, hu, by simpa [va_up] using h4⟩
    have := h2 (by simpa [va_up] using q)
    simpa [va_up] using this
  · by_cases e8 : r 8 = 1
    · rw [if_pos (by simp [va_up, e8])]
      refine ⟨by simp [va_up, rmend], fun _ => by simp [va_up, rmend], fun q => ?_, u, hu, by simpa [va_up, rmend] using h4⟩
      simp [va_up, rmend] at q
    · rw [if_neg (by simp [va_up, e8])]
      refine ⟨by simp [va_up], fun q => ?_, fun q => ?_, u, hu, by simpa [va_up] using h4⟩
      · have := h2 (by simpa [va_up] using q)
        simpa [va_up] using this
      · exact absurd (by simpa [va_up] using q) e8
theorem XI_6 {d : Nat} {r : Nat → Int32} (h : XI d r) (v : Int32) : XI d (va_up r 6 v) := by
  obtain ⟨h1, h2, h3, u, hu, h4⟩ := h
  refine ⟨by simpa [va_up] using h1, by simpa [va_up] using h2, fun q k => ?_, u, hu, by simpa [va_up] using h4⟩
  rw [met_up _ (by omega)]
  exact h3 (by simpa [va_up] using q) (by simpa [va_up] using k)
theorem XI_wait {d : Nat} (s : Int32) {r : Nat → Int32} (h : XI d r) : XI d (rwait s r) := by
  unfold rwait
  split
  · exact h
  · split
    · exact XI_6 h _
    · exact XI_appr (XI_6 h _) _
theorem XI_run {d : Nat} (a : Nat → Int32) {r : Nat → Int32} (h : XI d r) : XI d (rrun a r) := by
  obtain ⟨h1, h2, h3, u, hu, h4⟩ := id h
  unfold rrun
  by_cases hb : rbr a r = true
  · rw [if_pos hb]
    obtain ⟨hr, h0⟩ := rbr_runs hb
    have n2 : r 0 ≠ 2 := by rw [h0]; decide
    unfold runs at hr
    simp only [Bool.and_eq_true, decide_eq_true_eq] at hr
    obtain ⟨n12, n8, nm⟩ := sst_lt (Or.inr hr.1)
    refine ⟨by simpa [va_up, rbrk] using h1, fun q => absurd (by simpa [va_up, rbrk] using q) n12, fun _ _ => ?_, u, hu, by simpa [va_up, rbrk] using h4⟩
    unfold rbrk
    rw [met_up _ (by omega), met_up _ (by omega), met_up _ (by omega), met_up7 _ n2]
    exact nm
  · rw [if_neg hb]
    by_cases hr : runs a r = true
    · rw [if_pos hr]
      unfold runs at hr
      simp only [Bool.and_eq_true, decide_eq_true_eq] at hr
      obtain ⟨n12, n8, nm⟩ := sst_lt (Or.inr hr.1)
      exact ⟨by simpa [va_up] using h1, fun q => absurd (by simpa [va_up] using q) n12, fun q => absurd (by simpa [va_up] using q) n8, u, hu, by simpa [va_up] using h4⟩
    · rw [if_neg hr]; exact h
theorem XI_age {d : Nat} (s : Int32) {r : Nat → Int32} (h : XI d r) (e8 : r 8 = 1) : XI (d + 1) (rage s r) := by
  obtain ⟨h1, h2, h3, u, hu, h4⟩ := id h
  unfold rage
  dsimp only
  split
  · refine ⟨by simpa [va_up] using h1, by simpa [va_up] using h2, fun q k => ?_, u, by omega, by simpa [va_up] using h4⟩
    rw [met_up _ (by omega), met_up _ (by omega)]
    exact h3 e8 (by simpa [va_up] using k)
  · split
    · refine ⟨by simpa [va_up] using h1, by simpa [va_up] using h2, fun q k => ?_, u + 1, by omega, by rw [va_up_s, h4, nI_succ]⟩
      rw [met_up _ (by omega), met_up _ (by omega)]
      exact h3 e8 (by simpa [va_up] using k)
    · split
      · refine ⟨by simpa [va_up] using h1, by simpa [va_up] using h2, fun q k => ?_, u, by omega, by simpa [va_up] using h4⟩
        rw [met_up _ (by omega)]
        exact h3 e8 (by simpa [va_up] using k)
      · refine ⟨by simpa [va_up, rmend] using h1, fun _ => by simp [va_up, rmend], fun q => ?_, u, by omega, by simpa [va_up, rmend] using h4⟩
        simp [va_up, rmend] at q
theorem XI_day {d : Nat} (a : Nat → Int32) {r : Nat → Int32} (h : XI d r) : XI (d + 1) (rday a r) := by
  have q : XI d (rrun a (rwait (a 2) r)) := XI_run a (XI_wait _ h)
  unfold rday
  dsimp only
  split
  · next hc => exact XI_age _ q hc.2
  · exact XI_le (by omega) q
-- the row changes: they read of the head what it says of all, and keep what holds besides
theorem Xe {d : Nat} {r : Nat → Int32} (h : XI d r) (e : Int32) : XI d ((e, (0 : Int32), r) : Int32 × Int32 × (Nat → Int32)).2.2 := h
theorem X_apply {d : Nat} (x : Int32) (a : Nat → Int32) {r : Nat → Int32} (h : XI d r) : XI d (fApply x a r).2.2 := by
  obtain ⟨h1, h2, h3, u, hu, h4⟩ := id h
  unfold fApply
  split
  · exact h
  · split
    · split
      · exact h
      · split
        · split
          · next hz =>
            refine ⟨by simpa [va_up] using hz, by simpa [va_up] using h2, fun q k => ?_, u, hu, by simpa [va_up] using h4⟩
            show met (va_up (va_up r 5 x) 6 0) = false
            rw [met_up _ (by omega), met_up _ (by omega)]
            exact h3 (by simpa [va_up] using q) (by simpa [va_up] using k)
          · exact h
        · exact h
    · exact h
theorem X_decide {d : Nat} (x : Int32) (a : Nat → Int32) {r : Nat → Int32} (h : XI d r) : XI d (fDecide x a r).2.2 := by
  unfold fDecide
  split
  · split
    · exact h
    · split
      · exact XI_appr h x
      · exact h
  · exact h
theorem X_lapse {d : Nat} (a : Nat → Int32) {r : Nat → Int32} (h : XI d r) : XI d (fLapse a r).2.2 := by
  obtain ⟨h1, h2, h3, u, hu, h4⟩ := id h
  unfold fLapse
  split
  · next h0 =>
    split
    · next hs =>
      obtain ⟨n12, n8, nm⟩ := sst_lt (Or.inr hs)
      exact ⟨by simpa [va_up, rbrk] using h1, fun q => absurd (by simpa [va_up, rbrk] using q) n12, fun _ k => absurd (by simpa [va_up, rbrk] using h0) k, u, hu, by simpa [va_up, rbrk] using h4⟩
    · exact h
  · exact h
theorem XI_mend {d : Nat} {r : Nat → Int32} (h : XI d r) : XI d (rmend r) := by
  obtain ⟨h1, h2, h3, u, hu, h4⟩ := id h
  refine ⟨by simpa [va_up, rmend] using h1, fun _ => by simp [va_up, rmend], fun q => ?_, u, hu, by simpa [va_up, rmend] using h4⟩
  simp [va_up, rmend] at q
theorem X_cure {d : Nat} (a : Nat → Int32) {r : Nat → Int32} (h : XI d r) : XI d (fCure a r).2.2 := by
  unfold fCure
  split
  · split
    · exact XI_mend h
    · exact h
  · exact h
theorem X_serve {d : Nat} (y : Int32) (a : Nat → Int32) {r : Nat → Int32} (h : XI d r) : XI d (fServe y a r).2.2 := by
  obtain ⟨h1, h2, h3, u, hu, h4⟩ := id h
  unfold fServe
  split
  · split
    · refine ⟨by simpa [va_up] using h1, by simpa [va_up] using h2, fun q k => ?_, u, hu, by simpa [va_up] using h4⟩
      show met (va_up r 10 y) = false
      rw [met_up _ (by omega)]
      exact h3 (by simpa [va_up] using q) (by simpa [va_up] using k)
    · exact h
  · exact h
theorem X_vary {d : Nat} (b2 b3 : Int32) (a : Nat → Int32) {r : Nat → Int32} (h : XI d r) : XI d (fVary b2 b3 a r).2.2 := by
  obtain ⟨h1, h2, h3, u, hu, h4⟩ := id h
  unfold fVary
  split
  · split
    · next hc =>
      unfold cv at hc
      simp only [Bool.and_eq_true, Bool.or_eq_true, decide_eq_true_eq] at hc
      obtain ⟨n12, n8, nm⟩ := sst_lt hc.1
      split
      · exact ⟨by simpa [va_up] using h1, fun q => absurd (by simpa [va_up] using q) n12, fun q => absurd (by simpa [va_up] using q) n8, u, hu, by simpa [va_up] using h4⟩
      · split
        · exact ⟨by simpa [va_up] using h1, fun q => absurd (by simpa [va_up] using q) n12, fun q => absurd (by simpa [va_up] using q) n8, u, hu, by simpa [va_up] using h4⟩
        · exact ⟨by simpa [va_up] using h1, fun q => absurd (by simpa [va_up] using q) n12, fun q => absurd (by simpa [va_up] using q) n8, u, hu, by simpa [va_up] using h4⟩
    · exact h
  · exact h
def hds (a b : Nat → Int32) : Prop := ∀ j, j < 16 → b j = a j
theorem hds_sst {a b : Nat → Int32} (h : hds a b) {r : Nat → Int32} (hs : isSt (r 1)) : sst b r = sst a r := sst_hd (fun j _ h16 => h j h16) hs
theorem H_apply {a b : Nat → Int32} (h : hds a b) (x : Int32) (r : Nat → Int32) : fApply x b r = fApply x a r := by
  unfold fApply; rw [h 2 (by omega)]
theorem H_decide (a b : Nat → Int32) (x : Int32) (r : Nat → Int32) : fDecide x b r = fDecide x a r := rfl
theorem H_lapse {a b : Nat → Int32} (h : hds a b) {r : Nat → Int32} (hs : isSt (r 1)) : fLapse b r = fLapse a r := by
  unfold fLapse; rw [hds_sst h hs]
theorem H_cure {a b : Nat → Int32} (h : hds a b) {r : Nat → Int32} (hs : isSt (r 1)) : fCure b r = fCure a r := by
  unfold fCure; rw [hds_sst h hs]
theorem H_serve {a b : Nat → Int32} (h : hds a b) (y : Int32) {r : Nat → Int32} (hs : isSt (r 1)) : fServe y b r = fServe y a r := by
  unfold fServe; rw [hds_sst h hs]
theorem H_vary {a b : Nat → Int32} (h : hds a b) (b2 b3 : Int32) {r : Nat → Int32} (hs : isSt (r 1)) : fVary b2 b3 b r = fVary b2 b3 a r := by
  unfold fVary
  by_cases ev : vv (r 0) b2 b3 = true
  · rw [if_pos ev, if_pos ev]
    have e : cv b r b2 b3 = cv a r b2 b3 := by
      unfold cv
      rw [hds_sst h hs]
      have em : mv_ b r b2 b3 = mv_ a r b2 b3 := by
        unfold mv_
        by_cases h0 : b2 = 0
        · rw [if_pos h0, if_pos h0]
        · rw [if_neg h0, if_neg h0]
          by_cases h1 : b2 = 1
          · rw [if_pos h1, if_pos h1]
          · rw [if_neg h1, if_neg h1]
            unfold vv at ev
            rw [if_neg h0, if_neg h1] at ev
            by_cases h2 : b2 = 2
            · rw [if_pos h2] at ev
              obtain ⟨t, -, ht, e⟩ := wi_num (lo := 0) (hi := 4) (by omega) (by omega) ev
              rw [e, nI_clamp (by omega), h (6 + t) (by omega)]
            · rw [if_neg h2] at ev; cases ev
      rw [em]
    rw [e]
  · rw [if_neg ev, if_neg ev]
theorem Sw_row {a b a' b' : Nat → Int32} (h : Sw a b) {c : Nat} (hc : c < 5) {D : Int32} {r' : Nat → Int32} (h1 : AppR 5 a a' c D r') (h2 : AppR 5 b b' (4 - c) D r') : Sw a' b' := by
  obtain ⟨p1, p2, p3⟩ := h1
  obtain ⟨q1, q2, q3⟩ := h2
  refine ⟨fun j hj => ?_, fun i hi => ?_⟩
  · by_cases e : j = 4
    · subst e; rw [q2, p2, h.1 4 (by omega)]
    · rw [q1 j hj e, p1 j hj e, h.1 j hj]
  · rw [q3 i hi, p3 (4 - i) (by omega)]
    by_cases e : i = 4 - c
    · rw [if_pos e, if_pos (by omega)]
    · rw [if_neg e, if_neg (by omega)]; exact h.2 i hi
theorem sm5 (g g' : Nat → Int32) (h : ∀ i, i < 5 → g' i = g (4 - i)) : sm g' 5 = sm g 5 := by
  simp only [sm]
  rw [h 0 (by omega), h 1 (by omega), h 2 (by omega), h 3 (by omega), h 4 (by omega)]
  show 0 + g 4 + g 3 + g 2 + g 1 + g 0 = 0 + g 0 + g 1 + g 2 + g 3 + g 4
  simp only [Int32.zero_add]
  ac_rfl
theorem sg5 (p p' : Nat → Bool) (h : ∀ i, i < 5 → p' i = p (4 - i)) : sg p' 0 5 = sg p 0 5 := by
  simp only [sg]
  rw [h 0 (by omega), h 1 (by omega), h 2 (by omega), h 3 (by omega), h 4 (by omega)]
  show bi (p 4) + (bi (p 3) + (bi (p 2) + (bi (p 1) + (bi (p 0) + 0)))) = bi (p 0) + (bi (p 1) + (bi (p 2) + (bi (p 3) + (bi (p 4) + 0))))
  simp only [Int32.add_zero]
  ac_rfl
theorem Sw_day {a b : Nat → Int32} (h : Sw a b) (hok : ∀ i, i < 5 → okr (rc a i)) : Sw (dayF 5 a) (dayF 5 b) := by
  have pa := dayF_P 5 a
  have pb := dayF_P 5 b
  have hb : ∀ i, i < 5 → rc b i = rc a (4 - i) := h.2
  have h2 : b 2 = a 2 := h.1 2 (by omega)
  have h3 : b 3 = a 3 := h.1 3 (by omega)
  have hh : ∀ j, 6 ≤ j → j < 16 → b j = a j := fun j _ hj => h.1 j hj
  refine ⟨fun j hj => ?_, fun i hi => ?_⟩
  · by_cases e0 : j = 0
    · subst e0; rw [pa.1, pb.1, h.1 0 (by omega)]
    · by_cases e4 : j = 4
      · subst e4
        rw [pa.2.1, pb.2.1, h.1 4 (by omega)]
        refine congrArg (fun z => a 4 + z) (sm5 _ _ fun i hi => ?_)
        show bi (rbr b (rwait (b 2) (rc b i))) = bi (rbr a (rwait (a 2) (rc a (4 - i))))
        rw [hb i hi, h2, rbr_hd hh (okr_wait (hok _ (by omega))).1]
      · by_cases e5 : j = 5
        · subst e5
          rw [pa.2.2.1, pb.2.2.1, h.1 5 (by omega)]
          refine congrArg (fun z => a 5 + z) (sm5 _ _ fun i hi => ?_)
          show wInc (b 2) (rc b i) = wInc (a 2) (rc a (4 - i))
          rw [hb i hi, h2]
        · rw [pa.2.2.2.1 j hj e0 e4 e5, pb.2.2.2.1 j hj e0 e4 e5, h.1 j hj]
  · have ea := pa.2.2.2.2 (4 - i) (by omega)
    have eb := pb.2.2.2.2 i (by omega)
    rw [if_pos (by omega)] at ea
    rw [if_pos hi] at eb
    rw [ea, eb]
    show rday b (rc b i) = rday a (rc a (4 - i))
    rw [hb i hi, rday_hd h2 h3 hh (hok _ (by omega))]
theorem dayF_row {a : Nat → Int32} {i : Nat} (hi : i < 5) : rc (dayF 5 a) i = rday a (rc a i) := by
  rw [(dayF_P 5 a).2.2.2.2 i (by omega), if_pos hi]
theorem dayF_hd {a : Nat → Int32} : (∀ j, 6 ≤ j → j < 16 → dayF 5 a j = a j) ∧ dayF 5 a 2 = a 2 ∧ dayF 5 a 3 = a 3 :=
  ⟨fun j h6 h16 => (dayF_P 5 a).2.2.2.1 j h16 (by omega) (by omega) (by omega), (dayF_P 5 a).2.2.2.1 2 (by omega) (by omega) (by omega) (by omega), (dayF_P 5 a).2.2.2.1 3 (by omega) (by omega) (by omega) (by omega)⟩
theorem rd_hd {a b : Nat → Int32} (h2 : b 2 = a 2) (h3 : b 3 = a 3) (h : ∀ j, 6 ≤ j → j < 16 → b j = a j) : ∀ (n : Nat) {r : Nat → Int32}, okr r → rd b n r = rd a n r
  | 0, _, _ => rfl
  | n + 1, r, hr => by
      rw [rd, rd, rday_hd h2 h3 h hr]
      exact rd_hd h2 h3 h n (okr_day hr)
/-- behind some days -/
theorem dN_row : ∀ (n : Nat) (a : Nat → Int32), (∀ i, i < 5 → okr (rc a i)) → (∀ i, i < 5 → rc (dN 5 n a) i = rd a n (rc a i)) ∧ (∀ j, 6 ≤ j → j < 16 → dN 5 n a j = a j) ∧ dN 5 n a 2 = a 2 ∧ dN 5 n a 3 = a 3
  | 0, a, _ => ⟨fun _ _ => rfl, fun _ _ _ => rfl, rfl, rfl⟩
  | n + 1, a, hok => by
      obtain ⟨d1, d2, d3⟩ := @dayF_hd a
      have hk : ∀ i, i < 5 → okr (rc (dayF 5 a) i) := fun i hi => by rw [dayF_row hi]; exact okr_day (hok i hi)
      obtain ⟨e1, e2, e3, e4⟩ := dN_row n (dayF 5 a) hk
      refine ⟨fun i hi => ?_, fun j h6 h16 => (e2 j h6 h16).trans (d1 j h6 h16), e3.trans d2, e4.trans d3⟩
      show rc (dN 5 n (dayF 5 a)) i = rd a (n + 1) (rc a i)
      rw [e1 i hi, dayF_row hi, rd, rd_hd d2 d3 d1 n (okr_day (hok i hi))]
theorem Sw_tw {a b : Nat → Int32} (h : Sw a b) {i : Nat} (hi : i < 5) : rc b (4 - i) = rc a i := by
  rw [h.2 (4 - i) (by omega)]; congr 1; omega
