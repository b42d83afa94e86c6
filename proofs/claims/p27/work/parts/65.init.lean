-- what stands behind the constructors
def OT (Y : mY) (G : mG) (o : Nat) : Prop := Y.1 o = 1 ∧ G o 0 = some (o + 1) ∧ G o 1 = some (o + 2) ∧ Y.1 (o + 1) = 5 ∧ Y.2 (o + 1) = 80 ∧ Y.1 (o + 2) = 6 ∧ Y.2 (o + 2) = 4
theorem I0 {n a : Nat} {Y : mY} {V : mV} {G : mG} (h : Y.1 a = 0) : ∃ V', cf_X0_init n Y V G a = some (n, Y, V', G) ∧ ∀ b, b ≠ a → V' b = V b := by
  refine ⟨_, by rw [cf_X0_init, if_pos h, Option.bind_some, Option.bind_some, if_pos (Nat.le_refl 0)], fun b hb => ?_⟩
  simp only [up2_n _ _ _ hb]
theorem I88 {h n : Nat} {Y : mY} {G : mG} (h0 : Y.1 h = 2) (g1 : G h 1 = some (h + 2)) (g2 : G h 2 = some (h + 3)) (k2 : Y.1 (h + 2) = 6) (l2 : Y.2 (h + 2) = 5) (k3 : Y.1 (h + 3) = 6) (l3 : Y.2 (h + 3) = 5) {u : Nat} (hu : u ≤ 13) : ∀ (d j fuel : Nat) (V : mV), j + d = 5 → d < fuel → ∃ V', lp_X2_init_88 fuel u n Y V G h (nI j) = some (n, Y, V', G) ∧ (∀ b, b ≠ h + 2 → b ≠ h + 3 → V' b = V b) ∧ (∀ k, j ≤ k → k < 5 → V' (h + 2) k = -1 ∧ V' (h + 3) k = -1) ∧ ∀ k, k < j → V' (h + 2) k = V (h + 2) k ∧ V' (h + 3) k = V (h + 3) k
  | 0, j, fuel, V, hj, hf => by
      obtain ⟨f, rfl⟩ : ∃ f, fuel = f + 1 := ⟨fuel - 1, by omega⟩
      obtain rfl : j = 5 := by omega
      exact ⟨V, by rw [lp_X2_init_88, if_pos (show (5 : Int32) ≤ nI 5 by decide), if_pos hu], fun _ _ _ => rfl, fun k a b => absurd a (by omega), fun _ _ => ⟨rfl, rfl⟩⟩
  | d + 1, j, fuel, V, hj, hf => by
      obtain ⟨f, rfl⟩ : ∃ f, fuel = f + 1 := ⟨fuel - 1, by omega⟩
      have lt : ¬ (5 : Int32) ≤ nI j := le_nI (a := 5) (b := j) (by omega) (by decide)
      have i2 : ¬ (nI j < 0 ∨ Y.2 (h + 2) ≤ (nI j).toNatClampNeg) := by rw [l2]; exact nx_in (by omega) (by decide)
      have i3 : ¬ (nI j < 0 ∨ Y.2 (h + 3) ≤ (nI j).toNatClampNeg) := by rw [l3]; exact nx_in (by omega) (by decide)
      have cj : (nI j).toNatClampNeg = j := nI_clamp (by omega)
      rw [cj] at i2 i3
      obtain ⟨V', e1, e2, e3, e4⟩ := I88 h0 g1 g2 k2 l2 k3 l3 hu d (j + 1) f (up2 (up2 V (h + 2) j (-1)) (h + 3) j (-1)) (by omega) (by omega)
      refine ⟨V', ?_, fun b a1 a2 => by rw [e2 b a1 a2, up2_n _ _ _ a2, up2_n _ _ _ a1], fun k a1 a2 => ?_, fun k a1 => ?_⟩
      · rw [lp_X2_init_88, if_neg lt, if_pos h0, g1, Option.bind_some, if_pos k2, cj, if_pos i2, g2, Option.bind_some, if_pos k3, if_pos i3, ← nI_succ]
        exact e1
      · by_cases e : k = j
        · subst e
          rw [(e4 k (by omega)).1, (e4 k (by omega)).2, up2_n _ _ _ (show h + 2 ≠ h + 3 by omega), up2_ss, up2_ss]
          exact ⟨rfl, rfl⟩
        · exact e3 k (by omega) a2
      · rw [(e4 k (by omega)).1, (e4 k (by omega)).2, up2_n _ _ _ (show h + 2 ≠ h + 3 by omega), up2_sn _ _ _ (show k ≠ j by omega), up2_sn _ _ _ (show k ≠ j by omega), up2_n _ _ _ (show h + 3 ≠ h + 2 by omega)]
        exact ⟨rfl, rfl⟩
theorem I61 {h : Nat} : ∀ (d i fuel : Nat) (Y : mY) (V : mV) (G : mG), i + d = 10 → d < fuel → Y.1 h = 2 → G h 0 = some (h + 1) → G h 1 = some (h + 2) → G h 2 = some (h + 3) → Y.1 (h + 1) = 7 → Y.2 (h + 1) = 10 → Y.1 (h + 2) = 6 → Y.2 (h + 2) = 5 → Y.1 (h + 3) = 6 → Y.2 (h + 3) = 5 → ∃ Y' V' G', lp_X2_init_61 fuel (3 + i) (h + 4 + i) Y V G h (nI i) = some (h + 14, Y', V', G') ∧ Y'.2 = Y.2 ∧ (∀ b, ¬ (h + 4 + i ≤ b ∧ b < h + 14) → Y'.1 b = Y.1 b) ∧ (∀ j, i ≤ j → j < 10 → Y'.1 (h + 4 + j) = 0 ∧ G' (h + 1) j = some (h + 4 + j)) ∧ (∀ b, b ≠ h + 1 → ¬ (h + 4 + i ≤ b ∧ b < h + 14) → G' b = G b) ∧ (∀ j, j < i → G' (h + 1) j = G (h + 1) j) ∧ (∀ b, b ≠ h + 2 → b ≠ h + 3 → ¬ (h + 4 + i ≤ b ∧ b < h + 14) → V' b = V b) ∧ ∀ k, k < 5 → V' (h + 2) k = -1 ∧ V' (h + 3) k = -1
  | 0, i, fuel, Y, V, G, hi, hf, h0, g0, g1, g2, k1, l1, k2, l2, k3, l3 => by
      obtain ⟨f, rfl⟩ : ∃ f, fuel = f + 1 := ⟨fuel - 1, by omega⟩
      obtain rfl : i = 10 := by omega
      obtain ⟨V', e1, e2, e3, -⟩ := I88 (n := h + 14) h0 g1 g2 k2 l2 k3 l3 (u := 3 + 10) (by omega) 5 0 fuB V (by omega) (fuB_gt (by omega))
      exact ⟨Y, V', G, by rw [lp_X2_init_61, if_pos (show (10 : Int32) ≤ nI 10 by decide)]; exact e1, rfl, fun _ _ => rfl, fun j a b => absurd a (by omega), fun _ _ _ => rfl, fun _ _ => rfl, fun b a1 a2 _ => e2 b a1 a2, fun k hk => e3 k (by omega) hk⟩
  | d + 1, i, fuel, Y, V, G, hi, hf, h0, g0, g1, g2, k1, l1, k2, l2, k3, l3 => by
      obtain ⟨f, rfl⟩ : ∃ f, fuel = f + 1 := ⟨fuel - 1, by omega⟩
      have lt : ¬ (10 : Int32) ≤ nI i := le_nI (a := 10) (b := i) (by omega) (by decide)
      have yk : ∀ b, b ≠ h + 4 + i → va_up Y.1 (h + 4 + i) 0 b = Y.1 b := fun b hb => va_up_ne _ _ hb
      have ya : va_up Y.1 (h + 4 + i) 0 (h + 4 + i) = 0 := va_up_s _ _ _
      obtain ⟨V1, e1, o1⟩ := I0 (n := h + 4 + i + 1) (a := h + 4 + i) (Y := (va_up Y.1 (h + 4 + i) 0, Y.2)) (V := va_up V (h + 4 + i) (fun _ => 0)) (G := va_up G (h + 4 + i) (fun _ => none)) ya
      have i1 : ¬ (nI i < 0 ∨ Y.2 (h + 1) ≤ (nI i).toNatClampNeg) := by rw [l1]; exact nx_in (by omega) (by decide)
      have ci : (nI i).toNatClampNeg = i := nI_clamp (by omega)
      rw [ci] at i1
      have gG : ∀ b, b ≠ h + 1 → b ≠ h + 4 + i → up2 (va_up G (h + 4 + i) (fun _ => none)) (h + 1) i (some (h + 4 + i)) b = G b := fun b b1 b2 => by rw [up2_n _ _ _ b1, va_up_ne _ _ b2]
      obtain ⟨Y', V', G', q1, q2, q3, q4, q5, q6, q7, q8⟩ := I61 (h := h) d (i + 1) f (va_up Y.1 (h + 4 + i) 0, Y.2) V1 (up2 (va_up G (h + 4 + i) (fun _ => none)) (h + 1) i (some (h + 4 + i))) (by omega) (by omega) ((yk h (by omega)).trans h0) (by rw [gG h (by omega) (by omega)]; exact g0) (by rw [gG h (by omega) (by omega)]; exact g1) (by rw [gG h (by omega) (by omega)]; exact g2) ((yk _ (by omega)).trans k1) l1 ((yk _ (by omega)).trans k2) l2 ((yk _ (by omega)).trans k3) l3
      refine ⟨Y', V', G', ?_, q2, fun b hb => (q3 b (by omega)).trans (yk b (by omega)), fun j a1 a2 => ?_, fun b a1 a2 => by rw [q5 b a1 (by omega), gG b a1 (by omega)], fun j hj => ?_, fun b a1 a2 a3 => by rw [q7 b a1 a2 (by omega), o1 b (by omega), va_up_ne _ _ (by omega)], q8⟩
      · rw [lp_X2_init_61, if_neg lt, if_pos h0, g0, Option.bind_some, if_pos (show 3 + i + 1 ≤ 13 by omega), if_pos (show 3 + i + 1 + 0 ≤ 13 by omega), e1, Option.bind_some]
        dsimp only
        rw [if_pos (Or.inl ⟨(yk _ (by omega)).trans k1, ya⟩), ci, if_pos i1, ← nI_succ]
        exact q1
      · by_cases e : j = i
        · subst e
          refine ⟨(q3 _ (by omega)).trans ya, ?_⟩
          rw [q6 j (by omega), up2_ss]
        · exact q4 j (by omega) a2
      · rw [q6 j (by omega), up2_sn _ _ _ (by omega), va_up_ne _ _ (by omega)]
/-- a new permission's values -/
def P0 (V : mV) (h : Nat) : Prop := V h 3 = 0 ∧ V h 4 = 0 ∧ V h 5 = 0 ∧ V h 6 = 0 ∧ V h 7 = 56 ∧ V h 8 = 100 ∧ ∀ k, k < 5 → V (h + 2) k = -1 ∧ V (h + 3) k = -1
theorem I2 {h : Nat} {Y : mY} {V : mV} {G : mG} (h0 : Y.1 h = 2) (l1 : Y.2 (h + 1) = 10) (l2 : Y.2 (h + 2) = 5) (l3 : Y.2 (h + 3) = 5) : ∃ Y' V' G', cf_X2_init (h + 1) Y V G h = some (h + 14, Y', V', G') ∧ Y'.2 = Y.2 ∧ (∀ b, ¬ (h < b ∧ b < h + 14) → Y'.1 b = Y.1 b) ∧ PT Y' G' h ∧ (∀ b, ¬ (h ≤ b ∧ b < h + 14) → G' b = G b) ∧ (∀ b, ¬ (h ≤ b ∧ b < h + 14) → V' b = V b) ∧ P0 V' h := by
  have y1 : ∀ b, b ≠ h + 1 → va_up Y.1 (h + 1) 7 b = Y.1 b := fun b hb => va_up_ne _ _ hb
  have y2 : ∀ b, b ≠ h + 1 → b ≠ h + 2 → va_up (va_up Y.1 (h + 1) 7) (h + 2) 6 b = Y.1 b := fun b b1 b2 => by rw [va_up_ne _ _ b2, y1 b b1]
  have y3 : ∀ b, b ≠ h + 1 → b ≠ h + 2 → b ≠ h + 3 → va_up (va_up (va_up Y.1 (h + 1) 7) (h + 2) 6) (h + 3) 6 b = Y.1 b := fun b b1 b2 b3 => by rw [va_up_ne _ _ b3, y2 b b1 b2]
  obtain ⟨Y', V', G', q1, q2, q3, q4, q5, q6, q7, q8⟩ := I61 (h := h) 10 0 fuB (va_up (va_up (va_up Y.1 (h + 1) 7) (h + 2) 6) (h + 3) 6, Y.2) (up2 (up2 (up2 (up2 (up2 (up2 (va_up (va_up V (h + 2) (fun _ => 0)) (h + 3) (fun _ => 0)) h 3 0) h 4 0) h 5 0) h 6 0) h 7 56) h 8 100) (up2 (up2 (up2 (va_up G (h + 1) (fun _ => none)) h 0 (some (h + 1))) h 1 (some (h + 2))) h 2 (some (h + 3))) (by omega) (fuB_gt (by omega)) ((y3 h (by omega) (by omega) (by omega)).trans h0) (by rw [up2_sn _ _ _ (by omega), up2_sn _ _ _ (by omega), up2_ss]) (by rw [up2_sn _ _ _ (by omega), up2_ss]) (up2_ss _ _ _ _) (by dsimp only; rw [va_up_ne _ _ (by omega), va_up_ne _ _ (by omega), va_up_s]) l1 (by dsimp only; rw [va_up_ne _ _ (by omega), va_up_s]) l2 (by dsimp only; rw [va_up_s]) l3
  have gh : G' h = up2 (up2 (up2 (va_up G (h + 1) (fun _ => none)) h 0 (some (h + 1))) h 1 (some (h + 2))) h 2 (some (h + 3)) h := q5 h (by omega) (by omega)
  have vh : V' h = up2 (up2 (up2 (up2 (up2 (up2 (va_up (va_up V (h + 2) (fun _ => 0)) (h + 3) (fun _ => 0)) h 3 0) h 4 0) h 5 0) h 6 0) h 7 56) h 8 100 h := q7 h (by omega) (by omega) (by omega)
  refine ⟨Y', V', G', ?_, q2, fun b hb => (q3 b (by omega)).trans (y3 b (by omega) (by omega) (by omega)), ⟨(q3 h (by omega)).trans ((y3 h (by omega) (by omega) (by omega)).trans h0), ?_, ?_, ?_, ?_, ?_, ?_, ?_, ?_, ?_, fun i hi => ⟨(q4 i (by omega) hi).2, (q4 i (by omega) hi).1⟩⟩, fun b hb => ?_, fun b hb => ?_, ?_, ?_, ?_, ?_, ?_, ?_, q8⟩
  · rw [cf_X2_init, if_pos (show 0 + 1 ≤ 13 by omega), if_pos (show ¬ (10 : Int32) < 0 by decide), if_pos (show Y.2 (h + 1) = (10 : Int32).toNatClampNeg from l1), if_pos (show (10 : Int32).toNatClampNeg ≤ 600 by decide), if_pos (show va_up Y.1 (h + 1) 7 h = 2 from (y1 h (by omega)).trans h0), if_pos (show 0 + 1 + 1 ≤ 13 by omega), if_pos (show ¬ (5 : Int32) < 0 by decide), if_pos (show Y.2 (h + 1 + 1) = (5 : Int32).toNatClampNeg from l2), if_pos (show (5 : Int32).toNatClampNeg ≤ 600 by decide), if_pos (show va_up (va_up Y.1 (h + 1) 7) (h + 1 + 1) 6 h = 2 from (y2 h (by omega) (by omega)).trans h0), if_pos (show 0 + 1 + 1 + 1 ≤ 13 by omega), if_pos (show ¬ (5 : Int32) < 0 by decide), if_pos (show Y.2 (h + 1 + 1 + 1) = (5 : Int32).toNatClampNeg from l3), if_pos (show (5 : Int32).toNatClampNeg ≤ 600 by decide), if_pos (show va_up (va_up (va_up Y.1 (h + 1) 7) (h + 1 + 1) 6) (h + 1 + 1 + 1) 6 h = 2 from (y3 h (by omega) (by omega) (by omega)).trans h0), Option.bind_some, Option.bind_some]
    exact q1
  · rw [gh, up2_sn _ _ _ (by omega), up2_sn _ _ _ (by omega), up2_ss]
  · rw [gh, up2_sn _ _ _ (by omega), up2_ss]
  · rw [gh, up2_ss]
  · rw [q3 _ (by omega)]; dsimp only; rw [va_up_ne _ _ (by omega), va_up_ne _ _ (by omega), va_up_s]
  · rw [q2]; exact l1
  · rw [q3 _ (by omega)]; dsimp only; rw [va_up_ne _ _ (by omega), va_up_s]
  · rw [q2]; exact l2
  · rw [q3 _ (by omega)]; dsimp only; rw [va_up_s]
  · rw [q2]; exact l3
  · rw [q5 b (by omega) (by omega), up2_n _ _ _ (by omega), up2_n _ _ _ (by omega), up2_n _ _ _ (by omega), va_up_ne _ _ (by omega)]
  · rw [q7 b (by omega) (by omega) (by omega)]
    simp only [up2_n _ _ _ (show b ≠ h by omega)]
    rw [va_up_ne _ _ (by omega), va_up_ne _ _ (by omega)]
  · rw [vh]; simp [up2_s, va_up]
  · rw [vh]; simp [up2_s, va_up]
  · rw [vh]; simp [up2_s, va_up]
  · rw [vh]; simp [up2_s, va_up]
  · rw [vh]; simp [up2_s, va_up]
  · rw [vh]; simp [up2_s, va_up]

theorem PT_eq {Y Y' : mY} {G G' : mG} {h : Nat} (h1 : ∀ j, j < 14 → Y'.1 (h + j) = Y.1 (h + j)) (h2 : Y'.2 = Y.2) (g0 : G' h = G h) (g1 : G' (h + 1) = G (h + 1)) (hP : PT Y G h) : PT Y' G' h := by
  obtain ⟨a0, a1, a2, a3, a4, a5, a6, a7, a8, a9, a10⟩ := hP
  refine ⟨(h1 0 (by omega)).trans a0, by rw [g0]; exact a1, by rw [g0]; exact a2, by rw [g0]; exact a3, (h1 1 (by omega)).trans a4, by rw [h2]; exact a5, (h1 2 (by omega)).trans a6, by rw [h2]; exact a7, (h1 3 (by omega)).trans a8, by rw [h2]; exact a9, fun i hi => ⟨by rw [g1]; exact (a10 i hi).1, ?_⟩⟩
  have := h1 (4 + i) (by omega)
  rw [show h + (4 + i) = h + 4 + i by omega] at this
  exact this.trans (a10 i hi).2
theorem I1 {o : Nat} {Y : mY} {V : mV} {G : mG} (h0 : Y.1 o = 1) (l1 : Y.2 (o + 1) = 80) (l2 : Y.2 (o + 2) = 4) : ∃ Y' V' G', cf_X1_init (o + 1) Y V G o = some (o + 3, Y', V', G') ∧ Y'.2 = Y.2 ∧ (∀ b, ¬ (o < b ∧ b < o + 3) → Y'.1 b = Y.1 b) ∧ OT Y' G' o ∧ (∀ b, b ≠ o → G' b = G b) ∧ (∀ b, ¬ (o ≤ b ∧ b < o + 3) → V' b = V b) ∧ V' o 2 = 0 := by
  have y1 : ∀ b, b ≠ o + 1 → va_up Y.1 (o + 1) 5 b = Y.1 b := fun b hb => va_up_ne _ _ hb
  have y2 : ∀ b, b ≠ o + 1 → b ≠ o + 2 → va_up (va_up Y.1 (o + 1) 5) (o + 2) 6 b = Y.1 b := fun b b1 b2 => by rw [va_up_ne _ _ b2, y1 b b1]
  refine ⟨(va_up (va_up Y.1 (o + 1) 5) (o + 2) 6, Y.2), up2 (up2 (up2 (up2 (up2 (va_up (va_up V (o + 1) (fun _ => 0)) (o + 2) (fun _ => 0)) o 2 0) o 3 0) o 4 0) o 5 0) o 6 0, up2 (up2 G o 0 (some (o + 1))) o 1 (some (o + 2)), ?_, rfl, fun b hb => y2 b (by omega) (by omega), ⟨(y2 o (by omega) (by omega)).trans h0, by rw [up2_sn _ _ _ (by omega), up2_ss], up2_ss _ _ _ _, ?_, l1, va_up_s _ _ _, l2⟩, fun b hb => by rw [up2_n _ _ _ hb, up2_n _ _ _ hb], fun b hb => ?_, ?_⟩
  · rw [cf_X1_init, if_pos (show 0 + 1 ≤ 2 by omega), if_pos (show ¬ (80 : Int32) < 0 by decide), if_pos (show Y.2 (o + 1) = (80 : Int32).toNatClampNeg from l1), if_pos (show (80 : Int32).toNatClampNeg ≤ 600 by decide), if_pos (show va_up Y.1 (o + 1) 5 o = 1 from (y1 o (by omega)).trans h0), if_pos (show 0 + 1 + 1 ≤ 2 by omega), if_pos (show ¬ (4 : Int32) < 0 by decide), if_pos (show Y.2 (o + 1 + 1) = (4 : Int32).toNatClampNeg from l2), if_pos (show (4 : Int32).toNatClampNeg ≤ 600 by decide), if_pos (show va_up (va_up Y.1 (o + 1) 5) (o + 1 + 1) 6 o = 1 from (y2 o (by omega) (by omega)).trans h0), Option.bind_some, if_pos (show 0 + 1 + 1 ≤ 2 by omega)]
  · dsimp only; rw [va_up_ne _ _ (by omega), va_up_s]
  · simp only [up2_n _ _ _ (show b ≠ o by omega)]
    rw [va_up_ne _ _ (by omega), va_up_ne _ _ (by omega)]
  · simp [up2_s, va_up]
theorem I63 {x : Nat} : ∀ (d j fuel : Nat) (Y : mY) (V : mV) (G : mG), j + d = 4 → d < fuel → Y.1 x = 3 → G x 2 = some (x + 29) → Y.1 (x + 29) = 8 → Y.2 (x + 29) = 4 → (∀ i, i < 4 → Y.2 (x + 47 + 14 * i + 1) = 10 ∧ Y.2 (x + 47 + 14 * i + 2) = 5 ∧ Y.2 (x + 47 + 14 * i + 3) = 5) → ∃ Y' V' G', lp_X3_init_63 fuel (46 + 14 * j) (x + 47 + 14 * j) Y V G x (nI j) = some (x + 103, Y', V', G') ∧ Y'.2 = Y.2 ∧ (∀ b, b < x + 47 + 14 * j → Y'.1 b = Y.1 b) ∧ (∀ b, b < x + 47 + 14 * j → b ≠ x + 29 → G' b = G b) ∧ (∀ b, b < x + 47 + 14 * j → V' b = V b) ∧ (∀ i, j ≤ i → i < 4 → PT Y' G' (x + 47 + 14 * i) ∧ G' (x + 29) i = some (x + 47 + 14 * i)) ∧ ∀ i, i < j → G' (x + 29) i = G (x + 29) i
  | 0, j, fuel, Y, V, G, hj, hf, h0, g2, k29, l29, hl => by
      obtain ⟨f, rfl⟩ : ∃ f, fuel = f + 1 := ⟨fuel - 1, by omega⟩
      obtain rfl : j = 4 := by omega
      exact ⟨Y, V, G, by rw [lp_X3_init_63, if_pos (show (4 : Int32) ≤ nI 4 by decide), if_pos (show 46 + 14 * 4 ≤ 102 by omega)], rfl, fun _ _ => rfl, fun _ _ _ => rfl, fun _ _ => rfl, fun i a b => absurd a (by omega), fun _ _ => rfl⟩
  | d + 1, j, fuel, Y, V, G, hj, hf, h0, g2, k29, l29, hl => by
      obtain ⟨f, rfl⟩ : ∃ f, fuel = f + 1 := ⟨fuel - 1, by omega⟩
      have lt : ¬ (4 : Int32) ≤ nI j := le_nI (a := 4) (b := j) (by omega) (by decide)
      obtain ⟨Y1, V1, G1, e1, e2, e3, e4, e5, e6, -⟩ := I2 (h := x + 47 + 14 * j) (Y := (va_up Y.1 (x + 47 + 14 * j) 2, Y.2)) (V := va_up V (x + 47 + 14 * j) (fun _ => 0)) (G := va_up G (x + 47 + 14 * j) (fun _ => none)) (va_up_s _ _ _) (hl j (by omega)).1 (hl j (by omega)).2.1 (hl j (by omega)).2.2
      have yl : ∀ b, b < x + 47 + 14 * j → Y1.1 b = Y.1 b := fun b hb => (e3 b (by omega)).trans (va_up_ne _ _ (by omega))
      have yn : Y1.1 (x + 47 + 14 * j) = 2 := (e3 _ (by omega)).trans (va_up_s _ _ _)
      have gl : ∀ b, b < x + 47 + 14 * j → G1 b = G b := fun b hb => (e5 b (by omega)).trans (va_up_ne _ _ (by omega))
      have vl : ∀ b, b < x + 47 + 14 * j → V1 b = V b := fun b hb => (e6 b (by omega)).trans (va_up_ne _ _ (by omega))
      have ix : ¬ (nI j < 0 ∨ Y1.2 (x + 29) ≤ (nI j).toNatClampNeg) := by rw [e2]; dsimp only; rw [l29]; exact nx_in (by omega) (by decide)
      have cj : (nI j).toNatClampNeg = j := nI_clamp (by omega)
      rw [cj] at ix
      have gu : ∀ b, b < x + 47 + 14 * j → b ≠ x + 29 → up2 G1 (x + 29) j (some (x + 47 + 14 * j)) b = G b := fun b hb hn => by rw [up2_n _ _ _ hn, gl b hb]
      obtain ⟨Y', V', G', q1, q2, q3, q4, q5, q6, q7⟩ := I63 (x := x) d (j + 1) f Y1 V1 (up2 G1 (x + 29) j (some (x + 47 + 14 * j))) (by omega) (by omega) ((yl x (by omega)).trans h0) (by rw [gu x (by omega) (by omega)]; exact g2) ((yl _ (by omega)).trans k29) (by rw [e2]; exact l29) (fun i hi => by rw [e2]; exact hl i hi)
      refine ⟨Y', V', G', ?_, q2.trans e2, fun b hb => (q3 b (by omega)).trans (yl b hb), fun b hb hn => (q4 b (by omega) hn).trans (gu b hb hn), fun b hb => (q5 b (by omega)).trans (vl b hb), fun i a1 a2 => ?_, fun i hi => ?_⟩
      · rw [lp_X3_init_63, if_neg lt, if_pos h0, g2, Option.bind_some, if_pos (show 46 + 14 * j + 1 ≤ 102 by omega), if_pos (show 46 + 14 * j + 1 + 13 ≤ 102 by omega), e1, Option.bind_some]
        dsimp only
        rw [if_pos (Or.inr ⟨(yl _ (by omega)).trans k29, yn⟩), cj, if_pos ix, ← nI_succ]
        have := q1
        rw [show 46 + 14 * (j + 1) = 46 + 14 * j + 1 + 13 by omega, show x + 47 + 14 * (j + 1) = x + 47 + 14 * j + 14 by omega] at this
        exact this
      · by_cases e : i = j
        · subst e
          refine ⟨PT_eq (fun k hk => q3 _ (by omega)) q2 (by rw [q4 _ (by omega) (by omega), up2_n _ _ _ (by omega)]) (by rw [q4 _ (by omega) (by omega), up2_n _ _ _ (by omega)]) e4, ?_⟩
          rw [q7 i (by omega), up2_ss]
        · exact q6 i (by omega) a2
      · rw [q7 i (by omega), up2_sn _ _ _ (by omega), gl _ (by omega)]

def lnT (k : Nat) : Nat := if k = 2 ∨ k = 16 ∨ k = 34 ∨ k = 48 ∨ k = 62 ∨ k = 76 ∨ k = 90 then 10 else if k = 3 ∨ k = 4 ∨ k = 17 ∨ k = 18 ∨ k = 35 ∨ k = 36 ∨ k = 49 ∨ k = 50 ∨ k = 63 ∨ k = 64 ∨ k = 77 ∨ k = 78 ∨ k = 91 ∨ k = 92 then 5 else if k = 29 ∨ k = 32 ∨ k = 109 then 4 else if k = 31 ∨ k = 108 then 80 else if k = 104 ∨ k = 105 ∨ k = 106 then 146 else if k = 107 then 584 else 0
theorem ln_at {x b k v : Nat} {l Ln : Nat → Nat} (hLn : ∀ k, k < 103 → Ln (x + k) = lnT k) (hl : l = Ln) (hb : b = x + k) (hk : k < 103) (hv : lnT k = v) : l b = v := by
  subst hl hb hv
  exact hLn k hk
def q0_ : Nat → Nat := fun j => if j < 4 then j + 1 else 0
theorem q0_p : QP q0_ := by
  refine ⟨fun j hj => ?_, fun i j hi hj e => ?_⟩
  · unfold q0_; split <;> omega
  · unfold q0_ at e; split at e <;> split at e <;> omega
set_option maxHeartbeats 1000000 in
theorem I3 {x : Nat} {Y : mY} {V : mV} {G : mG} (h0 : Y.1 x = 3) {Ln : Nat → Nat} (hLn : ∀ k, k < 103 → Ln (x + k) = lnT k) (hl : Y.2 = Ln) : ∃ Y' V' G', cf_X3_init (x + 1) Y V G x = some (x + 103, Y', V', G') ∧ Y'.2 = Y.2 ∧ Y'.1 x = 3 ∧ (G' x 0 = some (x + 1) ∧ G' x 1 = some (x + 15) ∧ G' x 2 = some (x + 29) ∧ G' x 3 = some (x + 30)) ∧ Y'.1 (x + 29) = 8 ∧ (PT Y' G' (x + 1) ∧ PT Y' G' (x + 15) ∧ ∀ k, k < 5 → PT Y' G' (x + 33 + 14 * k)) ∧ OT Y' G' (x + 30) ∧ GR x G' q0_ ∧ P0 V' (x + 1) ∧ V' x 5 = 0 ∧ V' (x + 30) 2 = 0 ∧ (∀ b, b < x → Y'.1 b = Y.1 b) ∧ (∀ b, b < x → G' b = G b) ∧ ∀ b, b < x → V' b = V b := by
  obtain ⟨Y1, V1, G1, e1, f1, k1, p1, g1, v1, w1⟩ := I2 (h := x + 1) (Y := (va_up Y.1 (x + 1) 2, Y.2)) (V := va_up V (x + 1) (fun _ => 0)) (G := va_up G (x + 1) (fun _ => none)) (va_up_s _ _ _) (ln_at hLn (k := 2) hl (by omega) (by omega) rfl) (ln_at hLn (k := 3) hl (by omega) (by omega) rfl) (ln_at hLn (k := 4) hl (by omega) (by omega) rfl)
  have hl1 : Y1.2 = Ln := f1.trans hl
  obtain ⟨Y2, V2, G2, e2, f2, k2, p2, g2, v2, -⟩ := I2 (h := x + 15) (Y := (va_up Y1.1 (x + 15) 2, Y1.2)) (V := va_up V1 (x + 15) (fun _ => 0)) (G := va_up (up2 G1 x 0 (some (x + 1))) (x + 15) (fun _ => none)) (va_up_s _ _ _) (ln_at hLn (k := 16) hl1 (by omega) (by omega) rfl) (ln_at hLn (k := 17) hl1 (by omega) (by omega) rfl) (ln_at hLn (k := 18) hl1 (by omega) (by omega) rfl)
  have hl2 : Y2.2 = Ln := f2.trans hl1
  obtain ⟨Y4, V4, G4, e4, f4, k4, p4, g4, v4, t4⟩ := I1 (o := x + 30) (Y := (va_up (va_up Y2.1 (x + 29) 8) (x + 30) 1, Y2.2)) (V := va_up V2 (x + 30) (fun _ => 0)) (G := va_up (up2 (va_up (up2 G2 x 1 (some (x + 15))) (x + 29) (fun _ => none)) x 2 (some (x + 29))) (x + 30) (fun _ => none)) (va_up_s _ _ _) (ln_at hLn (k := 31) hl2 (by omega) (by omega) rfl) (ln_at hLn (k := 32) hl2 (by omega) (by omega) rfl)
  have hl4 : Y4.2 = Ln := f4.trans hl2
  obtain ⟨Y5, V5, G5, e5, f5, k5, p5, g5, v5, -⟩ := I2 (h := x + 33) (Y := (va_up Y4.1 (x + 33) 2, Y4.2)) (V := va_up V4 (x + 33) (fun _ => 0)) (G := va_up (up2 G4 x 3 (some (x + 30))) (x + 33) (fun _ => none)) (va_up_s _ _ _) (ln_at hLn (k := 34) hl4 (by omega) (by omega) rfl) (ln_at hLn (k := 35) hl4 (by omega) (by omega) rfl) (ln_at hLn (k := 36) hl4 (by omega) (by omega) rfl)
  have hl5 : Y5.2 = Ln := f5.trans hl4
  -- kinds
  have a1 : ∀ b, b < x + 1 → Y1.1 b = Y.1 b := fun b hb => (k1 b (by omega)).trans (va_up_ne _ _ (by omega))
  have a2 : ∀ b, b < x + 15 → Y2.1 b = Y1.1 b := fun b hb => (k2 b (by omega)).trans (va_up_ne _ _ (by omega))
  have a4 : ∀ b, b < x + 29 → Y4.1 b = Y2.1 b := fun b hb => (k4 b (by omega)).trans (by dsimp only; rw [va_up_ne _ _ (by omega), va_up_ne _ _ (by omega)])
  have a29 : Y4.1 (x + 29) = 8 := (k4 _ (by omega)).trans (by dsimp only; rw [va_up_ne _ _ (by omega), va_up_s])
  have a5 : ∀ b, b < x + 33 → Y5.1 b = Y4.1 b := fun b hb => (k5 b (by omega)).trans (va_up_ne _ _ (by omega))
  have kx1 : Y1.1 x = 3 := (a1 x (by omega)).trans h0
  have kx2 : Y2.1 x = 3 := (a2 x (by omega)).trans kx1
  have kx4 : Y4.1 x = 3 := (a4 x (by omega)).trans kx2
  have kx5 : Y5.1 x = 3 := (a5 x (by omega)).trans kx4
  -- references
  have b2 : ∀ b, b < x + 15 → b ≠ x → G2 b = G1 b := fun b hb hn => (g2 b (by omega)).trans (by rw [va_up_ne _ _ (by omega), up2_n _ _ _ hn])
  have b4 : ∀ b, b < x + 29 → b ≠ x → G4 b = G2 b := fun b hb hn => (g4 b (by omega)).trans (by rw [va_up_ne _ _ (by omega), up2_n _ _ _ hn, va_up_ne _ _ (by omega), up2_n _ _ _ hn])
  have b5 : ∀ b, b < x + 33 → b ≠ x → G5 b = G4 b := fun b hb hn => (g5 b (by omega)).trans (by rw [va_up_ne _ _ (by omega), up2_n _ _ _ hn])
  have x2 : G2 x 0 = some (x + 1) := by rw [g2 x (by omega), va_up_ne _ _ (by omega), up2_ss]
  have x4 : G4 x = up2 (va_up (up2 G2 x 1 (some (x + 15))) (x + 29) (fun _ => none)) x 2 (some (x + 29)) x := (g4 x (by omega)).trans (va_up_ne _ _ (by omega))
  have x5 : G5 x = up2 G4 x 3 (some (x + 30)) x := (g5 x (by omega)).trans (va_up_ne _ _ (by omega))
  have y52 : G5 x 2 = some (x + 29) := by rw [x5, up2_sn _ _ _ (by omega), x4, up2_ss]
  have y51 : G5 x 1 = some (x + 15) := by rw [x5, up2_sn _ _ _ (by omega), x4, up2_sn _ _ _ (by omega), va_up_ne _ _ (by omega), up2_ss]
  have y50 : G5 x 0 = some (x + 1) := by rw [x5, up2_sn _ _ _ (by omega), x4, up2_sn _ _ _ (by omega), va_up_ne _ _ (by omega), up2_sn _ _ _ (by omega), x2]
  have y53 : G5 x 3 = some (x + 30) := by rw [x5, up2_ss]
  obtain ⟨Y6, V6, G6, e6, f6, k6, g6, v6, p6, -⟩ := I63 (x := x) 4 0 fuB Y5 (up2 V5 x 5 0) (up2 G5 x 4 (some (x + 33))) (by omega) (fuB_gt (by omega)) kx5 (by rw [up2_sn _ _ _ (by omega)]; exact y52) ((a5 _ (by omega)).trans a29) (ln_at hLn (k := 29) hl5 (by omega) (by omega) rfl) (fun i hi => by
    rcases (show i = 0 ∨ i = 1 ∨ i = 2 ∨ i = 3 by omega) with e | e | e | e <;> subst e
    · exact ⟨ln_at hLn (k := 48) hl5 (by omega) (by omega) rfl, ln_at hLn (k := 49) hl5 (by omega) (by omega) rfl, ln_at hLn (k := 50) hl5 (by omega) (by omega) rfl⟩
    · exact ⟨ln_at hLn (k := 62) hl5 (by omega) (by omega) rfl, ln_at hLn (k := 63) hl5 (by omega) (by omega) rfl, ln_at hLn (k := 64) hl5 (by omega) (by omega) rfl⟩
    · exact ⟨ln_at hLn (k := 76) hl5 (by omega) (by omega) rfl, ln_at hLn (k := 77) hl5 (by omega) (by omega) rfl, ln_at hLn (k := 78) hl5 (by omega) (by omega) rfl⟩
    · exact ⟨ln_at hLn (k := 90) hl5 (by omega) (by omega) rfl, ln_at hLn (k := 91) hl5 (by omega) (by omega) rfl, ln_at hLn (k := 92) hl5 (by omega) (by omega) rfl⟩)
  have z6 : ∀ b, b < x + 47 → b ≠ x → b ≠ x + 29 → G6 b = G5 b := fun b hb h1 h2 => (g6 b (by omega) h2).trans (up2_n _ _ _ h1)
  have zx : G6 x = up2 G5 x 4 (some (x + 33)) x := g6 x (by omega) (by omega)
  refine ⟨Y6, V6, G6, ?_, (f6.trans hl5).trans hl.symm, (k6 x (by omega)).trans kx5, ⟨by rw [zx, up2_sn _ _ _ (by omega)]; exact y50, by rw [zx, up2_sn _ _ _ (by omega)]; exact y51, by rw [zx, up2_sn _ _ _ (by omega)]; exact y52, by rw [zx, up2_sn _ _ _ (by omega)]; exact y53⟩, (k6 _ (by omega)).trans ((a5 _ (by omega)).trans a29), ⟨?_, ?_, fun k hk => ?_⟩, ?_, ⟨?_, fun j hj => ?_⟩, ?_, ?_, ?_, fun b hb => ?_, fun b hb => ?_, fun b hb => ?_⟩
  · have e1 : cf_X2_init (x + 1 + 1) (va_up Y.1 (x + 1) 2, Y.2) (va_up V (x + 1) (fun _ => 0)) (va_up G (x + 1) (fun _ => none)) (x + 1) = some (x + 15, Y1, V1, G1) := e1
    have e2 : cf_X2_init (x + 15 + 1) (va_up Y1.1 (x + 15) 2, Y1.2) (va_up V1 (x + 15) (fun _ => 0)) (va_up (up2 G1 x 0 (some (x + 1))) (x + 15) (fun _ => none)) (x + 15) = some (x + 29, Y2, V2, G2) := e2
    have e4 : cf_X1_init (x + 29 + 1 + 1) (va_up (va_up Y2.1 (x + 29) 8, Y2.2).1 (x + 29 + 1) 1, (va_up Y2.1 (x + 29) 8, Y2.2).2) (va_up V2 (x + 29 + 1) (fun _ => 0)) (va_up (up2 (va_up (up2 G2 x 1 (some (x + 15))) (x + 29) (fun _ => none)) x 2 (some (x + 29))) (x + 29 + 1) (fun _ => none)) (x + 29 + 1) = some (x + 33, Y4, V4, G4) := e4
    have e5 : cf_X2_init (x + 33 + 1) (va_up Y4.1 (x + 33) 2, Y4.2) (va_up V4 (x + 33) (fun _ => 0)) (va_up (up2 G4 x 3 (some (x + 29 + 1))) (x + 33) (fun _ => none)) (x + 33) = some (x + 47, Y5, V5, G5) := e5
    rw [cf_X3_init, if_pos (show 0 + 1 ≤ 102 by omega), if_pos (show 0 + 1 + 13 ≤ 102 by omega), e1, Option.bind_some]
    dsimp only
    rw [if_pos kx1, if_pos (show 0 + 1 + 13 + 1 ≤ 102 by omega), if_pos (show 0 + 1 + 13 + 1 + 13 ≤ 102 by omega), e2, Option.bind_some]
    dsimp only
    rw [if_pos kx2, if_pos (show 0 + 1 + 13 + 1 + 13 + 1 ≤ 102 by omega), if_pos (show ¬ (4 : Int32) < 0 by decide), if_pos (show Y2.2 (x + 29) = (4 : Int32).toNatClampNeg from ln_at hLn (k := 29) hl2 (by omega) (by omega) rfl), if_pos (show (4 : Int32).toNatClampNeg ≤ 600 by decide), if_pos (show va_up Y2.1 (x + 29) 8 x = 3 by rw [va_up_ne _ _ (by omega)]; exact kx2), if_pos (show 0 + 1 + 13 + 1 + 13 + 1 + 1 ≤ 102 by omega), Option.bind_some, if_pos (show 0 + 1 + 13 + 1 + 13 + 1 + 1 + 2 ≤ 102 by omega), e4, Option.bind_some]
    dsimp only
    rw [if_pos kx4, if_pos (show 0 + 1 + 13 + 1 + 13 + 1 + 1 + 2 + 1 ≤ 102 by omega), if_pos (show 0 + 1 + 13 + 1 + 13 + 1 + 1 + 2 + 1 + 13 ≤ 102 by omega), e5, Option.bind_some]
    dsimp only
    rw [if_pos kx5]
    exact e6
  · exact PT_eq (fun j hj => (k6 _ (by omega)).trans ((a5 _ (by omega)).trans ((a4 _ (by omega)).trans (a2 _ (by omega))))) (f6.trans (hl5.trans hl1.symm)) (by rw [z6 _ (by omega) (by omega) (by omega), b5 _ (by omega) (by omega), b4 _ (by omega) (by omega), b2 _ (by omega) (by omega)]) (by rw [z6 _ (by omega) (by omega) (by omega), b5 _ (by omega) (by omega), b4 _ (by omega) (by omega), b2 _ (by omega) (by omega)]) p1
  · exact PT_eq (fun j hj => (k6 _ (by omega)).trans ((a5 _ (by omega)).trans (a4 _ (by omega)))) (f6.trans (hl5.trans hl2.symm)) (by rw [z6 _ (by omega) (by omega) (by omega), b5 _ (by omega) (by omega), b4 _ (by omega) (by omega)]) (by rw [z6 _ (by omega) (by omega) (by omega), b5 _ (by omega) (by omega), b4 _ (by omega) (by omega)]) p2
  · cases k with
    | zero => exact PT_eq (fun j hj => k6 _ (by omega)) f6 (by rw [z6 _ (by omega) (by omega) (by omega)]) (by rw [z6 _ (by omega) (by omega) (by omega)]) p5
    | succ k =>
      have := (p6 k (by omega) (by omega)).1
      rwa [show x + 47 + 14 * k = x + 33 + 14 * (k + 1) by omega] at this
  · obtain ⟨o1, o2, o3, o4, o5, o6, o7⟩ := p4
    have gg : G6 (x + 30) = G4 (x + 30) := by rw [z6 _ (by omega) (by omega) (by omega), b5 _ (by omega) (by omega)]
    have kk : ∀ b, x + 30 ≤ b → b < x + 33 → Y6.1 b = Y4.1 b := fun b h1 h2 => (k6 _ (by omega)).trans (a5 _ (by omega))
    have ll : Y6.2 = Y4.2 := f6.trans (hl5.trans hl4.symm)
    exact ⟨(kk _ (by omega) (by omega)).trans o1, by rw [gg]; exact o2, by rw [gg]; exact o3, (kk _ (by omega) (by omega)).trans o4, by rw [ll]; exact o5, (kk _ (by omega) (by omega)).trans o6, by rw [ll]; exact o7⟩
  · rw [zx, up2_ss]; rfl
  · have := (p6 j (by omega) hj).2
    rw [this]; unfold q0_; rw [if_pos hj]; congr 1; omega
  · obtain ⟨w3, w4, w5, w6, w7, w8, ws⟩ := w1
    have vv6 : ∀ b, x + 1 ≤ b → b < x + 15 → V6 b = V1 b := fun b h1 h2 => by
      rw [v6 b (by omega), up2_n _ _ _ (by omega), v5 b (by omega), va_up_ne _ _ (by omega), v4 b (by omega), va_up_ne _ _ (by omega), v2 b (by omega), va_up_ne _ _ (by omega)]
    unfold P0
    rw [vv6 (x + 1) (by omega) (by omega), vv6 (x + 1 + 2) (by omega) (by omega), vv6 (x + 1 + 3) (by omega) (by omega)]
    exact ⟨w3, w4, w5, w6, w7, w8, ws⟩
  · rw [v6 x (by omega), up2_ss]
  · rw [v6 _ (by omega), up2_n _ _ _ (by omega), v5 _ (by omega), va_up_ne _ _ (by omega)]; exact t4
  · rw [k6 b (by omega), a5 b (by omega), a4 b (by omega), a2 b (by omega), a1 b (by omega)]
  · rw [z6 b (by omega) (by omega) (by omega), b5 b (by omega) (by omega), b4 b (by omega) (by omega), b2 b (by omega) (by omega), g1 b (by omega), va_up_ne _ _ (by omega)]
  · rw [v6 b (by omega), up2_n _ _ _ (by omega), v5 b (by omega), va_up_ne _ _ (by omega), v4 b (by omega), va_up_ne _ _ (by omega), v2 b (by omega), va_up_ne _ _ (by omega), v1 b (by omega), va_up_ne _ _ (by omega)]
