-- what stands behind the constructors
theorem I0 {n a : Nat} {Y : mY} {V : mV} {G : mG} (h : Y.1 a = 0) : ∃ V', cf_X0_init n Y V G a = some (n, Y, V', G) ∧ ∀ b, b ≠ a → V' b = V b := by
  refine ⟨_, by rw [cf_X0_init, if_pos h, Option.bind_some, Option.bind_some, if_pos (Nat.le_refl 0)], fun b hb => ?_⟩
  simp only [up2_n _ _ _ hb]
theorem I88 {h n : Nat} {Y : mY} {G : mG} (h0 : Y.1 h = 2) (g1 : G h 1 = some (h + 2)) (g2 : G h 2 = some (h + 3)) (k2 : Y.1 (h + 2) = 6) (l2 : Y.2 (h + 2) = 5) (k3 : Y.1 (h + 3) = 6) (l3 : Y.2 (h + 3) = 5) {u : Nat} (hu : u ≤ 13) : ∀ (d j fuel : Nat) (V : mV), j + d = 5 → d < fuel → ∃ V', lp_X2_init_88 fuel u n Y V G h (nI j) = some (n, Y, V', G) ∧ (∀ b, b ≠ h + 2 → b ≠ h + 3 → V' b = V b) ∧ (∀ k, j ≤ k → k < 5 → V' (h + 2) k = -1 ∧ V' (h + 3) k = -1) ∧ ∀ k, k < j → V' (h + 2) k = V (h + 2) k ∧ V' (h + 3) k = V (h + 3) k
  | 0, j, fuel, V, hj, hf => by
      obtain ⟨f, rfl⟩ : ∃ f, fuel = f + 1 := ⟨fuel - 1, by omega⟩
      obtain rfl : j = 5 := by omega
      exact ⟨V, by rw [lp_X2_init_88, if_pos (show (5 : Int32) ≤ nI 5 by decide), if_pos hu], fun _ _ _ => rfl, fun k a b => absurd a (by omega), fun _ _ => ⟨rfl, rfl⟩⟩
  | d + 1, j, fuel, V, hj, hf => by
      obtain ⟨f, rfl⟩ : ∃ f, fuel = f + 1 := ⟨fuel - 1, by omega⟩
      have lt : ¬ (5 : Int32) ≤ nI j := le_nI (a := 5) (b := j) (by omega) (by decide)
      have i2 : ¬ (nI j < 0 ∨ Y.2 (h + 2) ≤ (nI j).toNatClampNeg) := by rw [l2]; exact nx_in (by omega) (by decide)
      have i3 : ¬ (nI j < 0 ∨ Y.2 (h + 3) ≤ (nI j).toNatClampNeg) := by rw [l3]; exact nx_in (by omega) (by decide)
      have cj : (nI j).toNatClampNeg = j := nI_clamp (by omega)
      rw [cj] at i2 i3
      obtain ⟨V', e1, e2, e3, e4⟩ := I88 h0 g1 g2 k2 l2 k3 l3 hu d (j + 1) f (up2 (up2 V (h + 2) j (-1)) (h + 3) j (-1)) (by omega) (by omega)
      refine ⟨V', ?_, fun b a1 a2 => by rw [e2 b a1 a2, up2_n _ _ _ a2, up2_n _ _ _ a1], fun k a1 a2 => ?_, fun k a1 => ?_⟩
      · rw [lp_X2_init_88, if_neg lt, if_pos h0, g1, Option.bind_some, if_pos k2, cj, if_pos i2, g2, Option.bind_some, if_pos k3, if_pos i3, ← nI_succ]
        exact e1
      · by_cases e : k = j
        · subst e
          rw [(e4 k (by omega)).1, (e4 k (by omega)).2, up2_n _ _ _ (show h + 2 ≠ h + 3 by omega), up2_ss, up2_ss]
          exact ⟨rfl, rfl⟩
        · exact e3 k (by omega) a2
      · rw [(e4 k (by omega)).1, (e4 k (by omega)).2, up2_n _ _ _ (show h + 2 ≠ h + 3 by omega), up2_sn _ _ _ (show k ≠ j by omega), up2_sn _ _ _ (show k ≠ j by omega), up2_n _ _ _ (show h + 3 ≠ h + 2 by omega)]
        exact ⟨rfl, rfl⟩
theorem I61 {h : Nat} : ∀ (d i fuel : Nat) (Y : mY) (V : mV) (G : mG), i + d = 10 → d < fuel → Y.1 h = 2 → G h 0 = some (h + 1) → G h 1 = some (h + 2) → G h 2 = some (h + 3) → Y.1 (h + 1) = 7 → Y.2 (h + 1) = 10 → Y.1 (h + 2) = 6 → Y.2 (h + 2) = 5 → Y.1 (h + 3) = 6 → Y.2 (h + 3) = 5 → ∃ Y' V' G', lp_X2_init_61 fuel (3 + i) (h + 4 + i) Y V G h (nI i) = some (h + 14, Y', V', G') ∧ Y'.2 = Y.2 ∧ (∀ b, ¬ (h + 4 + i ≤ b ∧ b < h + 14) → Y'.1 b = Y.1 b) ∧ (∀ j, i ≤ j → j < 10 → Y'.1 (h + 4 + j) = 0 ∧ G' (h + 1) j = some (h + 4 + j)) ∧ (∀ b, b ≠ h + 1 → ¬ (h + 4 + i ≤ b ∧ b < h + 14) → G' b = G b) ∧ (∀ j, j < i → G' (h + 1) j = G (h + 1) j) ∧ (∀ b, b ≠ h + 2 → b ≠ h + 3 → ¬ (h + 4 + i ≤ b ∧ b < h + 14) → V' b = V b) ∧ ∀ k, k < 5 → V' (h + 2) k = -1 ∧ V' (h + 3) k = -1
  | 0, i, fuel, Y, V, G, hi, hf, h0, g0, g1, g2, k1, l1, k2, l2, k3, l3 => by
      obtain ⟨f, rfl⟩ : ∃ f, fuel = f + 1 := ⟨fuel - 1, by omega⟩
      obtain rfl : i = 10 := by omega
      obtain ⟨V', e1, e2, e3, -⟩ := I88 (n := h + 14) h0 g1 g2 k2 l2 k3 l3 (u := 3 + 10) (by omega) 5 0 fuB V (by omega) (fuB_gt (by omega))
      exact ⟨Y, V', G, by rw [lp_X2_init_61, if_pos (show (10 : Int32) ≤ nI 10 by decide)]; exact e1, rfl, fun _ _ => rfl, fun j a b => absurd a (by omega), fun _ _ _ => rfl, fun _ _ => rfl, fun b a1 a2 _ => e2 b a1 a2, fun k hk => e3 k (by omega) hk⟩
  | d + 1, i, fuel, Y, V, G, hi, hf, h0, g0, g1, g2, k1, l1, k2, l2, k3, l3 => by
      obtain ⟨f, rfl⟩ : ∃ f, fuel = f + 1 := ⟨fuel - 1, by omega⟩
      have lt : ¬ (10 : Int32) ≤ nI i := le_nI (a := 10) (b := i) (by omega) (by decide)
      have yk : ∀ b, b ≠ h + 4 + i → va_up Y.1 (h + 4 + i) 0 b = Y.1 b := fun b hb => va_up_ne _ _ hb
      have ya : va_up Y.1 (h + 4 + i) 0 (h + 4 + i) = 0 := va_up_s _ _ _
      obtain ⟨V1, e1, o1⟩ := I0 (n := h + 4 + i + 1) (a := h + 4 + i) (Y := (va_up Y.1 (h + 4 + i) 0, Y.2)) (V := va_up V (h + 4 + i) (fun _ => 0)) (G := va_up G (h + 4 + i) (fun _ => none)) ya
      have i1 : ¬ (nI i < 0 ∨ Y.2 (h + 1) ≤ (nI i).toNatClampNeg) := by rw [l1]; exact nx_in (by omega) (by decide)
      have ci : (nI i).toNatClampNeg = i := nI_clamp (by omega)
      rw [ci] at i1
      have gG : ∀ b, b ≠ h + 1 → b ≠ h + 4 + i → up2 (va_up G (h + 4 + i) (fun _ => none)) (h + 1) i (some (h + 4 + i)) b = G b := fun b b1 b2 => by rw [up2_n _ _ _ b1, va_up_ne _ _ b2]
      obtain ⟨Y', V', G', q1, q2, q3, q4, q5, q6, q7, q8⟩ := I61 (h := h) d (i + 1) f (va_up Y.1 (h + 4 + i) 0, Y.2) V1 (up2 (va_up G (h + 4 + i) (fun _ => none)) (h + 1) i (some (h + 4 + i))) (by omega) (by omega) ((yk h (by omega)).trans h0) (by rw [gG h (by omega) (by omega)]; exact g0) (by rw [gG h (by omega) (by omega)]; exact g1) (by rw [gG h (by omega) (by omega)]; exact g2) ((yk _ (by omega)).trans k1) l1 ((yk _ (by omega)).trans k2) l2 ((yk _ (by omega)).trans k3) l3
      refine ⟨Y', V', G', ?_, q2, fun b hb => (q3 b (by omega)).trans (yk b (by omega)), fun j a1 a2 => ?_, fun b a1 a2 => by rw [q5 b a1 (by omega), gG b a1 (by omega)], fun j hj => ?_, fun b a1 a2 a3 => by rw [q7 b a1 a2 (by omega), o1 b (by omega), va_up_ne _ _ (by omega)], q8⟩
      · rw [lp_X2_init_61, if_neg lt, if_pos h0, g0, Option.bind_some, if_pos (show 3 + i + 1 ≤ 13 by omega), if_pos (show 3 + i + 1 + 0 ≤ 13 by omega), e1, Option.bind_some]
        dsimp only
        rw [if_pos (Or.inl ⟨(yk _ (by omega)).trans k1, ya⟩), ci, if_pos i1, ← nI_succ]
        exact q1
      · by_cases e : j = i
        · subst e
          refine ⟨(q3 _ (by omega)).trans ya, ?_⟩
          rw [q6 j (by omega), up2_ss]
        · exact q4 j (by omega) a2
      · rw [q6 j (by omega), up2_sn _ _ _ (by omega), va_up_ne _ _ (by omega)]
/-- a new permission's values -/
def P0 (V : mV) (h : Nat) : Prop := V h 3 = 0 ∧ V h 4 = 0 ∧ V h 5 = 0 ∧ V h 6 = 0 ∧ V h 7 = 56 ∧ V h 8 = 100 ∧ ∀ k, k < 5 → V (h + 2) k = -1 ∧ V (h + 3) k = -1
theorem I2 {h : Nat} {Y : mY} {V : mV} {G : mG} (h0 : Y.1 h = 2) (l1 : Y.2 (h + 1) = 10) (l2 : Y.2 (h + 2) = 5) (l3 : Y.2 (h + 3) = 5) : ∃ Y' V' G', cf_X2_init (h + 1) Y V G h = some (h + 14, Y', V', G') ∧ Y'.2 = Y.2 ∧ (∀ b, ¬ (h < b ∧ b < h + 14) → Y'.1 b = Y.1 b) ∧ PT Y' G' h ∧ (∀ b, ¬ (h ≤ b ∧ b < h + 14) → G' b = G b) ∧ (∀ b, ¬ (h ≤ b ∧ b < h + 14) → V' b = V b) ∧ P0 V' h := by
  have y1 : ∀ b, b ≠ h + 1 → va_up Y.1 (h + 1) 7 b = Y.1 b := fun b hb => va_up_ne _ _ hb
  have y2 : ∀ b, b ≠ h + 1 → b ≠ h + 2 → va_up (va_up Y.1 (h + 1) 7) (h + 2) 6 b = Y.1 b := fun b b1 b2 => by rw [va_up_ne _ _ b2, y1 b b1]
  have y3 : ∀ b, b ≠ h + 1 → b ≠ h + 2 → b ≠ h + 3 → va_up (va_up (va_up Y.1 (h + 1) 7) (h + 2) 6) (h + 3) 6 b = Y.1 b := fun b b1 b2 b3 => by rw [va_up_ne _ _ b3, y2 b b1 b2]
  obtain ⟨Y', V', G', q1, q2, q3, q4, q5, q6, q7, q8⟩ := I61 (h := h) 10 0 fuB (va_up (va_up (va_up Y.1 (h + 1) 7) (h + 2) 6) (h + 3) 6, Y.2) (up2 (up2 (up2 (up2 (up2 (up2 (va_up (va_up V (h + 2) (fun _ => 0)) (h + 3) (fun _ => 0)) h 3 0) h 4 0) h 5 0) h 6 0) h 7 56) h 8 100) (up2 (up2 (up2 (va_up G (h + 1) (fun _ => none)) h 0 (some (h + 1))) h 1 (some (h + 2))) h 2 (some (h + 3))) (by omega) (fuB_gt (by omega)) ((y3 h (by omega) (by omega) (by omega)).trans h0) (by rw [up2_sn _ _ _ (by omega), up2_sn _ _ _ (by omega), up2_ss]) (by rw [up2_sn _ _ _ (by omega), up2_ss]) (up2_ss _ _ _ _) (by dsimp only; rw [va_up_ne _ _ (by omega), va_up_ne _ _ (by omega), va_up_s]) l1 (by dsimp only; rw [va_up_ne _ _ (by omega), va_up_s]) l2 (by dsimp only; rw [va_up_s]) l3
  have gh : G' h = up2 (up2 (up2 (va_up G (h + 1) (fun _ => none)) h 0 (some (h + 1))) h 1 (some (h + 2))) h 2 (some (h + 3)) h := q5 h (by omega) (by omega)
  have vh : V' h = up2 (up2 (up2 (up2 (up2 (up2 (va_up (va_up V (h + 2) (fun _ => 0)) (h + 3) (fun _ => 0)) h 3 0) h 4 0) h 5 0) h 6 0) h 7 56) h 8 100 h := q7 h (by omega) (by omega) (by omega)
  refine ⟨Y', V', G', ?_, q2, fun b hb => (q3 b (by omega)).trans (y3 b (by omega) (by omega) (by omega)), ⟨(q3 h (by omega)).trans ((y3 h (by omega) (by omega) (by omega)).trans h0), ?_, ?_, ?_, ?_, ?_, ?_, ?_, ?_, ?_, fun i hi => ⟨(q4 i (by omega) hi).2, (q4 i (by omega) hi).1⟩⟩, fun b hb => ?_, fun b hb => ?_, ?_, ?_, ?_, ?_, ?_, ?_, q8⟩
  · rw [cf_X2_init, if_pos (show 0 + 1 ≤ 13 by omega), if_pos (show ¬ (10 : Int32) < 0 by decide), if_pos (show Y.2 (h + 1) = (10 : Int32).toNatClampNeg from l1), if_pos (show (10 : Int32).toNatClampNeg ≤ 600 by decide), if_pos (show va_up Y.1 (h + 1) 7 h = 2 from (y1 h (by omega)).trans h0), if_pos (show 0 + 1 + 1 ≤ 13 by omega), if_pos (show ¬ (5 : Int32) < 0 by decide), if_pos (show Y.2 (h + 1 + 1) = (5 : Int32).toNatClampNeg from l2), if_pos (show (5 : Int32).toNatClampNeg ≤ 600 by decide), if_pos (show va_up (va_up Y.1 (h + 1) 7) (h + 1 + 1) 6 h = 2 from (y2 h (by omega) (by omega)).trans h0), if_pos (show 0 + 1 + 1 + 1 ≤ 13 by omega), if_pos (show ¬ (5 : Int32) < 0 by decide), if_pos (show Y.2 (h + 1 + 1 + 1) = (5 : Int32).toNatClampNeg from l3), if_pos (show (5 : Int32).toNatClampNeg ≤ 600 by decide), if_pos (show va_up (va_up (va_up Y.1 (h + 1) 7) (h + 1 + 1) 6) (h + 1 + 1 + 1) 6 h = 2 from (y3 h (by omega) (by omega) (by omega)).trans h0), Option.bind_some, Option.bind_some]
    exact q1
  · rw [gh, up2_sn _ _ _ (by omega), up2_sn _ _ _ (by omega), up2_ss]
  · rw [gh, up2_sn _ _ _ (by omega), up2_ss]
  · rw [gh, up2_ss]
  · rw [q3 _ (by omega)]; dsimp only; rw [va_up_ne _ _ (by omega), va_up_ne _ _ (by omega), va_up_s]
  · rw [q2]; exact l1
  · rw [q3 _ (by omega)]; dsimp only; rw [va_up_ne _ _ (by omega), va_up_s]
  · rw [q2]; exact l2
  · rw [q3 _ (by omega)]; dsimp only; rw [va_up_s]
  · rw [q2]; exact l3
  · rw [q5 b (by omega) (by omega), up2_n _ _ _ (by omega), up2_n _ _ _ (by omega), up2_n _ _ _ (by omega), va_up_ne _ _ (by omega)]
  · rw [q7 b (by omega) (by omega) (by omega)]
    simp only [up2_n _ _ _ (show b ≠ h by omega)]
    rw [va_up_ne _ _ (by omega), va_up_ne _ _ (by omega)]
  · rw [vh]; simp [up2_s, va_up]
  · rw [vh]; simp [up2_s, va_up]
  · rw [vh]; simp [up2_s, va_up]
  · rw [vh]; simp [up2_s, va_up]
  · rw [vh]; simp [up2_s, va_up]
  · rw [vh]; simp [up2_s, va_up]
