-- the reference's day
def rowsP (i : Nat) (b a : Nat → Int32) (f : Nat → Nat → Int32) : Prop := ∀ j, j < 10 → rc b j = if j < i then f j else rc a j
theorem rowsP_0 (a : Nat → Int32) (f : Nat → Nat → Int32) : rowsP 0 a a f := fun j _ => by rw [if_neg (by omega)]
theorem rowsP_step {b b' a : Nat → Int32} {f : Nat → Nat → Int32} {i : Nat} (h : rowsP i b a f) (h' : ∀ j, j < 10 → rc b' j = if j = i then f i else rc b j) : rowsP (i + 1) b' a f := by
  intro j hj
  rw [h' j hj]
  by_cases e : j = i
  · subst e; rw [if_pos rfl, if_pos (by omega)]
  · rw [if_neg e, h j hj]
    by_cases e2 : j < i
    · rw [if_pos e2, if_pos (by omega)]
    · rw [if_neg e2, if_neg (by omega)]
theorem rowsP_stp {b b' a : Nat → Int32} {f : Nat → Nat → Int32} {i : Nat} (h : rowsP i b a f) (hi : rc b' i = f i) (ho : ∀ j, j ≠ i → rc b' j = rc b j) : rowsP (i + 1) b' a f :=
  rowsP_step h (fun j _ => by
    by_cases e : j = i
    · subst e; rw [if_pos rfl, hi]
    · rw [if_neg e, ho j e])
theorem rc_so {a r : Nat → Int32} {i : Nat} (ht : tl r (ro a i)) (j : Nat) : rc (so a i r) j = if j = i then cut r else rc a j := by
  by_cases e : j = i
  · subst e; rw [if_pos rfl, rc_same]
  · rw [if_neg e, rc_other e ht]
section MOD
variable {Y : mY} {G : mG} {m : Nat}
theorem M_loop90 (hM : MT Y G m) {N : Nat} (hN : N ≤ 10) (p : Nat → Bool) (W : mV) (h1 : W (m + 1) 1 = nI N) :
    ∃ b, lp_X4_passDay_90 Y G fuB W m (nI (mN p N)) 0 = some (va_up W (m + 1) b) ∧ (∀ j, j < 16 → b j = W (m + 1) j) ∧ rowsP N b (W (m + 1)) (fun j => if p j = true ∧ rc (W (m + 1)) j 8 = 1 then rage (W (m + 1) 3) (rc (W (m + 1)) j) else rc (W (m + 1)) j) := by
  obtain ⟨s, hs, b, rfl, hb⟩ := loop_gen (fun k s i => lp_X4_passDay_90 Y G k s m (nI (mN p N)) i) some N
    (fun i s => ∃ b, s = va_up W (m + 1) b ∧ (∀ j, j < 16 → b j = W (m + 1) j) ∧ rowsP i b (W (m + 1)) (fun j => if p j = true ∧ rc (W (m + 1)) j 8 = 1 then rage (W (m + 1) 3) (rc (W (m + 1)) j) else rc (W (m + 1)) j))
    (by
      rintro k s ⟨b, rfl, hb, hr⟩
      show lp_X4_passDay_90 Y G (k + 1) _ m _ (nI N) = _
      rw [lp_X4_passDay_90, if_pos (MT_k hM), MT_g hM, Option.bind_some, if_pos (MT_k1 hM), if_pos (MT_i1 hM), tn_1, va_up_s, hb 1 (by omega), h1, if_pos (nI_le (Nat.le_refl _) (by omega))])
    (by
      rintro k s i hi ⟨b, rfl, hb, hr⟩
      have hri := hr i (by omega)
      rw [if_neg (by omega)] at hri
      have h8 : ro b i 8 = rc (W (m + 1)) i 8 := by rw [← hri]; rfl
      show ∃ s', lp_X4_passDay_90 Y G (k + 1) _ m _ (nI i) = _ ∧ _
      rw [lp_X4_passDay_90, if_pos (MT_k hM), MT_g hM, Option.bind_some, if_pos (MT_k1 hM), if_pos (MT_i1 hM), tn_1, va_up_s, hb 1 (by omega), h1, if_neg (le_nI hi (by omega)), M_g8 hM (by omega), Option.bind_some, M_ages hM (by omega), Option.bind_some, va_up_s, uu_, h8, ← nI_1]
      by_cases hp : p i = true
      · rw [if_pos ((mk_test hN hi).mpr hp)]
        by_cases h9 : rc (W (m + 1)) i 8 = 1
        · rw [if_pos h9]
          refine ⟨_, rfl, _, rfl, fun j hj => by rw [so_h _ _ _ hj]; exact hb j hj, rowsP_stp hr ?_ (fun j hj => rc_other hj (tl_age _ _))⟩
          rw [rc_same, cut_age, hb 3 (by omega), if_pos ⟨hp, h9⟩]
          show rage _ (rc b i) = _
          rw [hri]
        · rw [if_neg h9]
          refine ⟨_, rfl, _, rfl, hb, rowsP_stp hr ?_ (fun _ _ => rfl)⟩
          rw [if_neg (fun h => h9 h.2), hri]
      · rw [if_neg (fun h => hp ((mk_test hN hi).mp h))]
        refine ⟨_, rfl, _, rfl, hb, rowsP_stp hr ?_ (fun _ _ => rfl)⟩
        rw [if_neg (fun h => hp h.1), hri])
    N 0 fuB W (by omega) (fuB_gt (by omega)) ⟨W (m + 1), (us_ _ _).symm, fun _ _ => rfl, rowsP_0 _ _⟩
  exact ⟨b, hs, hb⟩
theorem M_loop67 (hM : MT Y G m) {N : Nat} (hN : N ≤ 10) (br : Int32) (W : mV) (h1 : W (m + 1) 1 = nI N) (hok : ∀ j, j < N → okr (rc (W (m + 1)) j)) :
    ∃ b, lp_X4_passDay_67 Y G fuB W m br 0 = lp_X4_passDay_90 Y G fuB (va_up W (m + 1) b) m br 0 ∧ (∀ j, j < 16 → j ≠ 4 → b j = W (m + 1) j) ∧ b 4 = W (m + 1) 4 + sm (fun j => bi (rbr (W (m + 1)) (rc (W (m + 1)) j))) N ∧ rowsP N b (W (m + 1)) (fun j => rrun (W (m + 1)) (rc (W (m + 1)) j)) := by
  obtain ⟨s, hs, b, rfl, hb⟩ := loop_gen (fun k s i => lp_X4_passDay_67 Y G k s m br i) (fun s => lp_X4_passDay_90 Y G fuB s m br 0) N
    (fun i s => ∃ b, s = va_up W (m + 1) b ∧ (∀ j, j < 16 → j ≠ 4 → b j = W (m + 1) j) ∧ b 4 = W (m + 1) 4 + sm (fun j => bi (rbr (W (m + 1)) (rc (W (m + 1)) j))) i ∧ rowsP i b (W (m + 1)) (fun j => rrun (W (m + 1)) (rc (W (m + 1)) j)))
    (by
      rintro k s ⟨b, rfl, hb, hb4, hr⟩
      show lp_X4_passDay_67 Y G (k + 1) _ m _ (nI N) = _
      rw [lp_X4_passDay_67, if_pos (MT_k hM), MT_g hM, Option.bind_some, if_pos (MT_k1 hM), if_pos (MT_i1 hM), tn_1, va_up_s, hb 1 (by omega) (by omega), h1, if_pos (nI_le (Nat.le_refl _) (by omega))])
    (by
      rintro k s i hi ⟨b, rfl, hb, hb4, hr⟩
      have hri := hr i (by omega)
      rw [if_neg (by omega)] at hri
      have hro : okr (ro b i) := by have := hok i hi; rw [← hri] at this; exact okr_cut.mp this
      have hh : ∀ j, 6 ≤ j → j < 16 → b j = W (m + 1) j := fun j h6 h16 => hb j h16 (by omega)
      show ∃ s', lp_X4_passDay_67 Y G (k + 1) _ m _ (nI i) = _ ∧ _
      have e1 := M_runs hM (show i < 10 by omega) (va_up W (m + 1) b) (by rw [va_up_s]; exact hro.1)
      rw [va_up_s, uu_] at e1
      rw [lp_X4_passDay_67, if_pos (MT_k hM), MT_g hM, Option.bind_some, if_pos (MT_k1 hM), if_pos (MT_i1 hM), tn_1, va_up_s, hb 1 (by omega) (by omega), h1, if_neg (le_nI hi (by omega)), e1, Option.bind_some, ← nI_1]
      refine ⟨_, rfl, _, rfl, fun j hj h4 => ?_, ?_, rowsP_stp hr ?_ (fun j hj => by rw [rc_other hj (by rw [ro_hd _ (by omega)]; exact tl_run _ _), rc_hd _ (by omega)])⟩
      · rw [so_h _ _ _ hj, va_up_ne _ _ h4]; exact hb j hj h4
      · rw [so_h _ _ _ (by omega), va_up_s, hb4, sm, Int32.add_assoc]
        congr 2
        rw [rbr_hd hh hro.1, ← hri]; rfl
      · rw [rc_same, cut_run, rrun_hd hh (by exact hro.1)]
        show rrun _ (rc b i) = _
        rw [hri])
    N 0 fuB W (by omega) (fuB_gt (by omega)) ⟨W (m + 1), (us_ _ _).symm, fun _ _ _ => rfl, by simp [sm], rowsP_0 _ _⟩
  exact ⟨b, hs, hb⟩
theorem M_loop44 (hM : MT Y G m) {N : Nat} (hN : N ≤ 10) (br : Int32) (W : mV) (h1 : W (m + 1) 1 = nI N) (hok : ∀ j, j < N → okr (rc (W (m + 1)) j)) :
    ∃ b, lp_X4_passDay_44 Y G fuB W m br 0 = lp_X4_passDay_67 Y G fuB (va_up W (m + 1) b) m br 0 ∧ (∀ j, j < 16 → j ≠ 5 → b j = W (m + 1) j) ∧ b 5 = W (m + 1) 5 + sm (fun j => wInc (W (m + 1) 2) (rc (W (m + 1)) j)) N ∧ rowsP N b (W (m + 1)) (fun j => rwait (W (m + 1) 2) (rc (W (m + 1)) j)) := by
  obtain ⟨s, hs, b, rfl, hb⟩ := loop_gen (fun k s i => lp_X4_passDay_44 Y G k s m br i) (fun s => lp_X4_passDay_67 Y G fuB s m br 0) N
    (fun i s => ∃ b, s = va_up W (m + 1) b ∧ (∀ j, j < 16 → j ≠ 5 → b j = W (m + 1) j) ∧ b 5 = W (m + 1) 5 + sm (fun j => wInc (W (m + 1) 2) (rc (W (m + 1)) j)) i ∧ rowsP i b (W (m + 1)) (fun j => rwait (W (m + 1) 2) (rc (W (m + 1)) j)))
    (by
      rintro k s ⟨b, rfl, hb, hb4, hr⟩
      show lp_X4_passDay_44 Y G (k + 1) _ m _ (nI N) = _
      rw [lp_X4_passDay_44, if_pos (MT_k hM), MT_g hM, Option.bind_some, if_pos (MT_k1 hM), if_pos (MT_i1 hM), tn_1, va_up_s, hb 1 (by omega) (by omega), h1, if_pos (nI_le (Nat.le_refl _) (by omega))])
    (by
      rintro k s i hi ⟨b, rfl, hb, hb4, hr⟩
      have hri := hr i (by omega)
      rw [if_neg (by omega)] at hri
      have hro : okr (ro b i) := by have := hok i hi; rw [← hri] at this; exact okr_cut.mp this
      show ∃ s', lp_X4_passDay_44 Y G (k + 1) _ m _ (nI i) = _ ∧ _
      have e1 := M_waits hM (show i < 10 by omega) (va_up W (m + 1) b) (by rw [va_up_s]; exact hro.2)
      rw [va_up_s, uu_, hb 2 (by omega) (by omega)] at e1
      rw [lp_X4_passDay_44, if_pos (MT_k hM), MT_g hM, Option.bind_some, if_pos (MT_k1 hM), if_pos (MT_i1 hM), tn_1, va_up_s, hb 1 (by omega) (by omega), h1, if_neg (le_nI hi (by omega)), e1, Option.bind_some, ← nI_1]
      refine ⟨_, rfl, _, rfl, fun j hj h4 => ?_, ?_, rowsP_stp hr ?_ (fun j hj => by rw [rc_other hj (by rw [ro_hd _ (by omega)]; exact tl_wait _ _), rc_hd _ (by omega)])⟩
      · rw [so_h _ _ _ hj, va_up_ne _ _ h4]; exact hb j hj h4
      · rw [so_h _ _ _ (by omega), va_up_s, hb4, sm, Int32.add_assoc]
        congr 2
        rw [← hri]; rfl
      · rw [rc_same, cut_wait]
        show rwait _ (rc b i) = _
        rw [hri])
    N 0 fuB W (by omega) (fuB_gt (by omega)) ⟨W (m + 1), (us_ _ _).symm, fun _ _ _ => rfl, by simp [sm], rowsP_0 _ _⟩
  exact ⟨b, hs, hb⟩
theorem M_loop14 (hM : MT Y G m) {N : Nat} (hN : N ≤ 10) (p : Nat → Bool) (W : mV) (h1 : W (m + 1) 1 = nI N) (hp : ∀ j, j < N → rc (W (m + 1)) j 8 = bi (p j)) :
    lp_X4_passDay_14 Y G fuB W m 0 0 = lp_X4_passDay_44 Y G fuB W m (nI (mN p N)) 0 := by
  obtain ⟨s, hs, rfl⟩ := loop_gen (fun k s i => lp_X4_passDay_14 Y G k W m s i) (fun s => lp_X4_passDay_44 Y G fuB W m s 0) N (fun i s => s = nI (mN p i))
    (by
      rintro k s rfl
      show lp_X4_passDay_14 Y G (k + 1) _ m _ (nI N) = _
      rw [lp_X4_passDay_14, if_pos (MT_k hM), MT_g hM, Option.bind_some, if_pos (MT_k1 hM), if_pos (MT_i1 hM), tn_1, h1, if_pos (nI_le (Nat.le_refl _) (by omega))])
    (by
      rintro k s i hi rfl
      show ∃ s', lp_X4_passDay_14 Y G (k + 1) _ m _ (nI i) = _ ∧ _
      have h8 : ro (W (m + 1)) i 8 = bi (p i) := hp i hi
      rw [lp_X4_passDay_14, if_pos (MT_k hM), MT_g hM, Option.bind_some, if_pos (MT_k1 hM), if_pos (MT_i1 hM), tn_1, h1, if_neg (le_nI hi (by omega)), M_g8 hM (by omega), Option.bind_some, h8, mk_or (by omega) rfl, ← nI_1]
      exact ⟨_, rfl, rfl⟩)
    N 0 fuB 0 (by omega) (fuB_gt (by omega)) rfl
  exact hs
/-- a row behind a day -/
def rday (a r : Nat → Int32) : Nat → Int32 :=
  let r1 := rrun a (rwait (a 2) r)
  if r 8 = 1 ∧ r1 8 = 1 then rage (a 3) r1 else r1
/-- the array behind a day, of N conditions -/
def dayP (N : Nat) (a b : Nat → Int32) : Prop := b 0 = a 0 + 1 ∧ b 4 = a 4 + sm (fun j => bi (rbr a (rwait (a 2) (rc a j)))) N ∧ b 5 = a 5 + sm (fun j => wInc (a 2) (rc a j)) N ∧ (∀ j, j < 16 → j ≠ 0 → j ≠ 4 → j ≠ 5 → b j = a j) ∧ rowsP N b a (fun j => rday a (rc a j))
theorem M_passDay (hM : MT Y G m) {N : Nat} (hN : N ≤ 10) (W : mV) (h1 : W (m + 1) 1 = nI N) (hok : ∀ j, j < N → okr (rc (W (m + 1)) j)) (h8 : ∀ j, j < N → rc (W (m + 1)) j 8 = 0 ∨ rc (W (m + 1)) j 8 = 1) :
    ∃ b, cf_X4_passDay Y W G m = some (va_up W (m + 1) b) ∧ dayP N (W (m + 1)) b := by
  rw [cf_X4_passDay, if_pos (MT_k hM), MT_g hM, Option.bind_some, if_pos (MT_k1 hM), if_pos (MT_i0 hM), if_pos (MT_i0 hM), tn_0, up2]
  generalize hW0 : W (m + 1) = a at *
  have hp : ∀ j, j < N → rc a j 8 = bi (decide (rc a j 8 = 1)) := by
    intro j hj
    rcases h8 j hj with e | e <;> rw [e] <;> decide
  have e0 : ∀ j, rc (va_up a 0 (a 0 + 1)) j = rc a j := fun j => rc_hd _ (by omega) _ _
  have e14 := M_loop14 hM hN (fun j => decide (rc a j 8 = 1)) (va_up W (m + 1) (va_up a 0 (a 0 + 1))) (by rw [va_up_s, va_up_ne _ _ (by omega)]; exact h1) (by rw [va_up_s]; intro j hj; rw [e0]; exact hp j hj)
  rw [e14]
  obtain ⟨b1, e44, c1, c2, c3⟩ := M_loop44 hM hN (nI (mN (fun j => decide (rc a j 8 = 1)) N)) (va_up W (m + 1) (va_up a 0 (a 0 + 1))) (by rw [va_up_s, va_up_ne _ _ (by omega)]; exact h1) (by rw [va_up_s]; intro j hj; rw [e0]; exact hok j hj)
  rw [e44, uu_]
  rw [va_up_s] at c1 c2 c3
  have d1 : ∀ j, j < 16 → j ≠ 0 → j ≠ 5 → b1 j = a j := fun j h h0 h5 => by rw [c1 j h h5, va_up_ne _ _ h0]
  have r1 : ∀ j, j < N → rc b1 j = rwait (a 2) (rc a j) := fun j hj => by
    rw [c3 j (by omega), if_pos hj]
    dsimp only
    rw [e0, va_up_ne _ _ (by omega)]
  obtain ⟨b2, e67, f1, f2, f3⟩ := M_loop67 hM hN (nI (mN (fun j => decide (rc a j 8 = 1)) N)) (va_up W (m + 1) b1) (by rw [va_up_s, d1 1 (by omega) (by omega) (by omega)]; exact h1) (by rw [va_up_s]; intro j hj; rw [r1 j hj]; exact okr_wait (hok j hj))
  rw [e67, uu_]
  rw [va_up_s] at f1 f2 f3
  have hh : ∀ j, 6 ≤ j → j < 16 → b1 j = a j := fun j h6 h16 => d1 j h16 (by omega) (by omega)
  have r2 : ∀ j, j < N → rc b2 j = rrun a (rwait (a 2) (rc a j)) := fun j hj => by
    rw [f3 j (by omega), if_pos hj]
    dsimp only
    rw [r1 j hj, rrun_hd hh (okr_wait (hok j hj)).1]
  have d2 : ∀ j, j < 16 → j ≠ 4 → b2 j = b1 j := fun j h h4 => f1 j h h4
  obtain ⟨b3, e90, g1, g2⟩ := M_loop90 hM hN (fun j => decide (rc a j 8 = 1)) (va_up W (m + 1) b2) (by rw [va_up_s, d2 1 (by omega) (by omega), d1 1 (by omega) (by omega) (by omega)]; exact h1)
  rw [e90, uu_]
  rw [va_up_s] at g1 g2
  refine ⟨b3, rfl, ?_, ?_, ?_, ?_, ?_⟩
  · rw [g1 0 (by omega), d2 0 (by omega) (by omega), c1 0 (by omega) (by omega), va_up_s]
  · rw [g1 4 (by omega), f2, d1 4 (by omega) (by omega) (by omega)]
    congr 1
    refine sm_cong fun j hj => ?_
    show bi (rbr b1 (rc b1 j)) = _
    rw [r1 j hj, rbr_hd hh (okr_wait (hok j hj)).1]
  · rw [g1 5 (by omega), d2 5 (by omega) (by omega), c2, va_up_ne _ _ (show 5 ≠ 0 by omega)]
    refine congrArg _ (sm_cong fun j hj => ?_)
    show wInc (va_up a 0 _ 2) (rc (va_up a 0 _) j) = _
    rw [e0, va_up_ne _ _ (by omega)]
  · intro j hj h0 h4 h5
    rw [g1 j hj, d2 j hj h4, d1 j hj h0 h5]
  · intro j hj
    rw [g2 j hj]
    by_cases e : j < N
    · rw [if_pos e, if_pos e]
      dsimp only
      rw [r2 j e, d2 3 (by omega) (by omega), d1 3 (by omega) (by omega) (by omega)]
      unfold rday
      simp only [decide_eq_true_eq]
    · rw [if_neg e, if_neg e, f3 j hj, if_neg e, c3 j hj, if_neg e, e0]
end MOD
