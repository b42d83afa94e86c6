-- rows cut at their thirteen places; what a row's step leaves alone
def cut (r : Nat → Int32) : Nat → Int32 := fun k => if k < 13 then r k else 0
def tl (r r' : Nat → Int32) : Prop := ∀ k, 13 ≤ k → r k = r' k
def rc (a : Nat → Int32) (i : Nat) : Nat → Int32 := cut (ro a i)
theorem cut_lt (r : Nat → Int32) {k : Nat} (h : k < 13) : cut r k = r k := by simp [cut, h]
theorem cut_up (r : Nat → Int32) {k : Nat} (h : k < 13) (v : Int32) : cut (va_up r k v) = va_up (cut r) k v := by
  funext j
  by_cases hj : j = k
  · subst hj; simp [cut, va_up, h]
  · simp [cut, va_up, hj]
theorem cut_cut (r : Nat → Int32) : cut (cut r) = cut r := by
  funext k
  by_cases h : k < 13 <;> simp [cut, h]
theorem tl_rf (r : Nat → Int32) : tl r r := fun _ _ => rfl
theorem tl_up {r r' : Nat → Int32} (h : tl r r') {k : Nat} (hk : k < 13) (v : Int32) : tl (va_up r k v) r' := by
  intro j hj
  rw [va_up_ne _ _ (by omega)]
  exact h j hj
theorem rc_same (a : Nat → Int32) (i : Nat) (r : Nat → Int32) : rc (so a i r) i = cut r := by rw [rc, ro_so]
theorem rc_other {a r : Nat → Int32} {i j : Nat} (h : j ≠ i) (ht : tl r (ro a i)) : rc (so a i r) j = rc a j := by
  funext k
  by_cases hk : k < 13
  · simp only [rc, cut_lt _ hk, ro, so]
    by_cases hb : 16 + 13 * i ≤ 16 + 13 * j + k
    · rw [if_pos hb, ht _ (by omega)]
      simp only [ro]
      congr 1
      omega
    · rw [if_neg hb]
  · simp [rc, cut, hk]
theorem rc_hd (a : Nat → Int32) {j : Nat} (h : j < 16) (v : Int32) (i : Nat) : rc (va_up a j v) i = rc a i := by
  funext k
  by_cases hk : k < 13
  · simp only [rc, cut_lt _ hk, ro]
    rw [va_up_ne _ _ (by omega)]
  · simp [rc, cut, hk]
theorem ro_hd (a : Nat → Int32) {j : Nat} (h : j < 16) (v : Int32) (i : Nat) : ro (va_up a j v) i = ro a i := by
  funext k
  simp only [ro]
  rw [va_up_ne _ _ (by omega)]
theorem met_cut (r : Nat → Int32) : met (cut r) = met r := rfl
theorem slp_cut (a r : Nat → Int32) : slp a (cut r) = slp a r := rfl
theorem sst_cut (a r : Nat → Int32) : sst a (cut r) = sst a r := rfl
theorem runs_cut (a r : Nat → Int32) : runs a (cut r) = runs a r := rfl
theorem rbr_cut (a r : Nat → Int32) : rbr a (cut r) = rbr a r := rfl
theorem wInc_cut (s : Int32) (r : Nat → Int32) : wInc s (cut r) = wInc s r := rfl
theorem cut_mend (r : Nat → Int32) : cut (rmend r) = rmend (cut r) := by
  unfold rmend; rw [cut_up _ (by omega), cut_up _ (by omega), cut_up _ (by omega)]
theorem cut_brk (r : Nat → Int32) : cut (rbrk r) = rbrk (cut r) := by
  unfold rbrk; rw [cut_up _ (by omega), cut_up _ (by omega), cut_up _ (by omega)]
theorem tl_mend {r r' : Nat → Int32} (h : tl r r') : tl (rmend r) r' := tl_up (tl_up (tl_up h (by omega) _) (by omega) _) (by omega) _
theorem tl_brk {r r' : Nat → Int32} (h : tl r r') : tl (rbrk r) r' := tl_up (tl_up (tl_up h (by omega) _) (by omega) _) (by omega) _
theorem cut_ite {c : Prop} [Decidable c] (r r' : Nat → Int32) : cut (if c then r else r') = if c then cut r else cut r' := by split <;> rfl
theorem cut_appr (r : Nat → Int32) (x : Int32) : cut (rappr r x) = rappr (cut r) x := by
  have e : cut (va_up (va_up (va_up r 4 (r 4 ||| x)) 5 0) 6 0) = va_up (va_up (va_up (cut r) 4 (cut r 4 ||| x)) 5 0) 6 0 := by
    rw [cut_up _ (by omega), cut_up _ (by omega), cut_up _ (by omega), cut_lt r (show 4 < 13 by omega)]
  unfold rappr
  dsimp only
  rw [← e, cut_ite, cut_mend, met_cut, cut_lt _ (show 8 < 13 by omega)]
theorem tl_appr {r r' : Nat → Int32} (h : tl r r') (x : Int32) : tl (rappr r x) r' := by
  have e : tl (va_up (va_up (va_up r 4 (r 4 ||| x)) 5 0) 6 0) r' := tl_up (tl_up (tl_up h (by omega) _) (by omega) _) (by omega) _
  unfold rappr
  dsimp only
  split
  · exact tl_mend e
  · exact e
theorem cut_wait (s : Int32) (r : Nat → Int32) : cut (rwait s r) = rwait s (cut r) := by
  unfold rwait
  rw [cut_ite, cut_ite, cut_appr, cut_up _ (by omega), cut_lt r (show 5 < 13 by omega), cut_lt r (show 6 < 13 by omega)]
theorem tl_wait (s : Int32) (r : Nat → Int32) : tl (rwait s r) r := by
  unfold rwait
  split
  · exact tl_rf r
  · split
    · exact tl_up (tl_rf r) (by omega) _
    · exact tl_appr (tl_up (tl_rf r) (by omega) _) _
theorem cut_run (a r : Nat → Int32) : cut (rrun a r) = rrun a (cut r) := by
  unfold rrun
  rw [cut_ite, cut_ite, cut_brk, cut_up _ (by omega), rbr_cut, runs_cut, cut_lt r (show 7 < 13 by omega)]
theorem tl_run (a r : Nat → Int32) : tl (rrun a r) r := by
  unfold rrun
  split
  · exact tl_brk (tl_up (tl_rf r) (by omega) _)
  · split
    · exact tl_up (tl_rf r) (by omega) _
    · exact tl_rf r
theorem cut_age (s : Int32) (r : Nat → Int32) : cut (rage s r) = rage s (cut r) := by
  unfold rage
  dsimp only
  simp only [cut_ite, cut_mend, cut_up _ (show 9 < 13 by omega), cut_up _ (show 10 < 13 by omega), cut_up _ (show 11 < 13 by omega), cut_up _ (show 12 < 13 by omega), cut_lt r (show 9 < 13 by omega), cut_lt r (show 10 < 13 by omega), cut_lt r (show 11 < 13 by omega)]
theorem tl_age (s : Int32) (r : Nat → Int32) : tl (rage s r) r := by
  have e : tl (va_up r 9 (r 9 + 1)) r := tl_up (tl_rf r) (by omega) _
  unfold rage
  dsimp only
  split
  · exact tl_up e (by omega) _
  · split
    · exact tl_up e (by omega) _
    · split
      · exact e
      · exact tl_up (tl_mend e) (by omega) _
/-- the steps read of the head only what they say -/
theorem slp_hd {a b : Nat → Int32} (h : ∀ j, 6 ≤ j → j < 16 → b j = a j) {r : Nat → Int32} (hs : isSt (r 1)) : slp b r = slp a r := by
  obtain ⟨t, ht, hs⟩ := hs
  unfold slp
  rw [hs, nI_clamp (by omega), h (6 + t) (by omega) (by omega), h (11 + t) (by omega) (by omega)]
theorem sst_hd {a b : Nat → Int32} (h : ∀ j, 6 ≤ j → j < 16 → b j = a j) {r : Nat → Int32} (hs : isSt (r 1)) : sst b r = sst a r := by
  unfold sst; rw [slp_hd h hs]
theorem runs_hd {a b : Nat → Int32} (h : ∀ j, 6 ≤ j → j < 16 → b j = a j) {r : Nat → Int32} (hs : isSt (r 1)) : runs b r = runs a r := by
  unfold runs; rw [sst_hd h hs]
theorem rbr_hd {a b : Nat → Int32} (h : ∀ j, 6 ≤ j → j < 16 → b j = a j) {r : Nat → Int32} (hs : isSt (r 1)) : rbr b r = rbr a r := by
  unfold rbr; rw [runs_hd h hs]
theorem rrun_hd {a b : Nat → Int32} (h : ∀ j, 6 ≤ j → j < 16 → b j = a j) {r : Nat → Int32} (hs : isSt (r 1)) : rrun b r = rrun a r := by
  unfold rrun; rw [rbr_hd h hs, runs_hd h hs]
/-- the places that a step leaves -/
theorem wait_1 (s : Int32) (r : Nat → Int32) : rwait s r 1 = r 1 := by
  unfold rwait rappr rmend; dsimp only; repeat' split
  all_goals simp [va_up]
theorem wait_5 (s : Int32) (r : Nat → Int32) : rwait s r 5 = r 5 ∨ rwait s r 5 = 0 := by
  unfold rwait rappr rmend; dsimp only; repeat' split
  all_goals simp [va_up]
theorem run_1 (a r : Nat → Int32) : rrun a r 1 = r 1 := by
  unfold rrun rbrk; repeat' split
  all_goals simp [va_up]
theorem run_5 (a r : Nat → Int32) : rrun a r 5 = r 5 := by
  unfold rrun rbrk; repeat' split
  all_goals simp [va_up]
def sm (g : Nat → Int32) : Nat → Int32
  | 0 => 0
  | n + 1 => sm g n + g n
theorem sm_cong {g g' : Nat → Int32} : ∀ {n : Nat}, (∀ i, i < n → g i = g' i) → sm g n = sm g' n
  | 0, _ => rfl
  | n + 1, h => by rw [sm, sm, sm_cong (fun i hi => h i (by omega)), h n (by omega)]
def okr (r : Nat → Int32) : Prop := isSt (r 1) ∧ is64 (r 5)
theorem okr_wait {s : Int32} {r : Nat → Int32} (h : okr r) : okr (rwait s r) := by
  refine ⟨by rw [wait_1]; exact h.1, ?_⟩
  rcases wait_5 s r with e | e
  · rw [e]; exact h.2
  · rw [e]; exact ⟨0, by omega, rfl⟩
theorem okr_cut {r : Nat → Int32} : okr (cut r) ↔ okr r := Iff.rfl

