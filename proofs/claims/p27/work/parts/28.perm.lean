-- a permission against the array
def PM (V : mV) (h N : Nat) (a : Nat → Int32) : Prop := V h 3 = nI N ∧ V h 4 = a 0 ∧ V h 5 = a 4 ∧ V h 6 = a 5 ∧ V h 7 = a 2 ∧ V h 8 = a 3 ∧ stP V h a ∧ ∀ i, i < N → CM (V (h + 4 + i)) (rc a i)
/-- the same outside a permission's fourteen cells -/
def sO (V W : mV) (h : Nat) : Prop := ∀ b, ¬ (h ≤ b ∧ b < h + 14) → V b = W b
theorem sO_rf (V : mV) (h : Nat) : sO V V h := fun _ _ => rfl
theorem sO_tr {U V W : mV} {h : Nat} (h1 : sO U V h) (h2 : sO V W h) : sO U W h := fun b hb => (h1 b hb).trans (h2 b hb)
def AI (N : Nat) (a : Nat → Int32) : Prop := N ≤ 10 ∧ a 1 = nI N ∧ ∀ i, i < N → RF (rc a i) ∧ okr (rc a i)
theorem age_1 (s : Int32) (r : Nat → Int32) : rage s r 1 = r 1 ∧ rage s r 5 = r 5 := by
  unfold rage rmend; repeat' split
  all_goals simp [va_up]
theorem okr_run {a r : Nat → Int32} (h : okr r) : okr (rrun a r) := ⟨by rw [run_1]; exact h.1, by rw [run_5]; exact h.2⟩
theorem okr_day {a r : Nat → Int32} (h : okr r) : okr (rday a r) := by
  unfold rday; dsimp only
  have h1 := okr_run (a := a) (okr_wait (s := a 2) h)
  split
  · exact ⟨by rw [(age_1 _ _).1]; exact h1.1, by rw [(age_1 _ _).2]; exact h1.2⟩
  · exact h1
section CLS
variable {Y : mY} {G : mG} {h : Nat}
theorem C_loop48 (hP : PT Y G h) {N : Nat} (V : mV) {a : Nat → Int32} (hA : AI N a) (hm : PM V h N a) (j1 j2 : Int32) : ∃ V', lp_X2_passDays_48 Y G fuB (up2 V h 4 (V h 4 + 1)) h j1 j2 0 = some (V', j1, j2, nI N) ∧ (∀ b, dayP N a b → PM V' h N b) ∧ (∀ i, i < N → RF (rday a (rc a i))) ∧ sO V' V h := by
  obtain ⟨hN, ha1, hrow⟩ := hA
  obtain ⟨m3, m4, m5, m6, m7, m8, mst, mc⟩ := hm
  obtain ⟨s, hs, p3, p4, p5, p6, p7, p8, pst, pin, -, pO⟩ := loop_gen (fun k s i => lp_X2_passDays_48 Y G k s h j1 j2 i) (fun s => some (s, j1, j2, nI N)) N
    (fun i W => W h 3 = nI N ∧ W h 4 = a 0 + 1 ∧ W h 5 = a 4 + sm (fun j => bi (rbr a (rwait (a 2) (rc a j)))) i ∧ W h 6 = a 5 + sm (fun j => wInc (a 2) (rc a j)) i ∧ W h 7 = a 2 ∧ W h 8 = a 3 ∧ stP W h a ∧ (∀ j, j < i → CM (W (h + 4 + j)) (rday a (rc a j)) ∧ RF (rday a (rc a j))) ∧ (∀ j, i ≤ j → j < N → CM (W (h + 4 + j)) (rc a j)) ∧ sO W V h)
    (by
      rintro k W ⟨p3, -⟩
      show lp_X2_passDays_48 Y G (k + 1) W h j1 j2 (nI N) = _
      rw [lp_X2_passDays_48, if_pos hP.1, p3, if_pos (nI_le (Nat.le_refl _) (by omega))])
    (by
      rintro k W i hi ⟨p3, p4, p5, p6, p7, p8, pst, pin, pout, pO⟩
      show ∃ s', lp_X2_passDays_48 Y G (k + 1) W h j1 j2 (nI i) = _ ∧ _
      obtain ⟨k0, g0, -, -, k1, l1, -, -, -, -, gc⟩ := id hP
      obtain ⟨gi, ki⟩ := gc i (by omega)
      obtain ⟨V1, e1, c1, f1, g1, s1⟩ := C_day hP ki (by omega) (by omega) (by omega) W (a := a) (r := rc a i) pst (pout i (Nat.le_refl _) hi) (hrow i hi).1 (hrow i hi).2 p7 p8
      rw [lp_X2_passDays_48, if_pos k0, p3, if_neg (le_nI hi (by omega)), g0, Option.bind_some, if_pos (Or.inl k1), l1, if_pos (nx_in (by omega) (by decide)), nI_clamp (by omega), gi, Option.bind_some, e1, Option.bind_some, ← nI_1]
      refine ⟨V1, rfl, ?_, ?_, ?_, ?_, ?_, ?_, ?_, fun j hj => ?_, fun j hj hjN => ?_, fun b hb => ?_⟩
      · rw [g1, va_up_ne _ _ (by omega), va_up_ne _ _ (by omega), p3]
      · rw [g1, va_up_ne _ _ (by omega), va_up_ne _ _ (by omega), p4]
      · rw [g1, va_up_s, p5, sm, Int32.add_assoc]
      · rw [g1, va_up_ne _ _ (by omega), va_up_s, p6, sm, Int32.add_assoc]
      · rw [g1, va_up_ne _ _ (by omega), va_up_ne _ _ (by omega), p7]
      · rw [g1, va_up_ne _ _ (by omega), va_up_ne _ _ (by omega), p8]
      · exact stP_of pst s1 (by omega) (by omega)
      · rcases Nat.lt_or_ge j i with q | q
        · rw [s1 (h + 4 + j) (by omega) (by omega)]
          exact pin j q
        · have e : j = i := by omega
          subst e
          exact ⟨c1, f1⟩
      · rw [s1 (h + 4 + j) (by omega) (by omega)]
        exact pout j (by omega) hjN
      · rw [s1 b (by omega) (by omega)]
        exact pO b hb)
    N 0 fuB (up2 V h 4 (V h 4 + 1)) (by omega) (fuB_gt (by omega))
    ⟨by rw [up2_sn _ _ _ (by omega)]; exact m3, by rw [up2_ss, m4], by rw [up2_sn _ _ _ (by omega), m5]; simp [sm], by rw [up2_sn _ _ _ (by omega), m6]; simp [sm], by rw [up2_sn _ _ _ (by omega)]; exact m7, by rw [up2_sn _ _ _ (by omega)]; exact m8,
      fun k hk => by rw [up2_n _ _ _ (show h + 2 ≠ h by omega), up2_n _ _ _ (show h + 3 ≠ h by omega)]; exact mst k hk, fun j hj => by omega, fun j _ hj => by rw [up2_n _ _ _ (show h + 4 + j ≠ h by omega)]; exact mc j hj, fun b hb => up2_n _ _ _ (by omega)⟩
  refine ⟨s, hs, fun b hb => ⟨p3, ?_, ?_, ?_, ?_, ?_, fun k hk => ?_, fun i hi => ?_⟩, fun i hi => (pin i hi).2, pO⟩
  · rw [p4, hb.1]
  · rw [p5, hb.2.1]
  · rw [p6, hb.2.2.1]
  · rw [p7, hb.2.2.2.1 2 (by omega) (by omega) (by omega) (by omega)]
  · rw [p8, hb.2.2.2.1 3 (by omega) (by omega) (by omega) (by omega)]
  · rw [(pst k hk).1, (pst k hk).2, hb.2.2.2.1 (6 + k) (by omega) (by omega) (by omega) (by omega), hb.2.2.2.1 (11 + k) (by omega) (by omega) (by omega) (by omega)]
    exact ⟨rfl, rfl⟩
  · rw [hb.2.2.2.2 i (by omega), if_pos hi]
    exact (pin i hi).1
theorem AI_day {N : Nat} {a b : Nat → Int32} (hA : AI N a) (hd : dayP N a b) (hf : ∀ i, i < N → RF (rday a (rc a i))) : AI N b := by
  obtain ⟨hN, ha1, hrow⟩ := hA
  refine ⟨hN, by rw [hd.2.2.2.1 1 (by omega) (by omega) (by omega) (by omega)]; exact ha1, fun i hi => ?_⟩
  rw [hd.2.2.2.2 i (by omega), if_pos hi]
  exact ⟨hf i hi, okr_day (hrow i hi).2⟩
end CLS

