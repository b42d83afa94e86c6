-- both constructors
theorem PT_eq {Y Y' : mY} {G G' : mG} {h : Nat} (h1 : ∀ j, j < 14 → Y'.1 (h + j) = Y.1 (h + j)) (h2 : Y'.2 = Y.2) (g0 : G' h = G h) (g1 : G' (h + 1) = G (h + 1)) (hP : PT Y G h) : PT Y' G' h := by
  obtain ⟨a0, a1, a2, a3, a4, a5, a6, a7, a8, a9, a10⟩ := hP
  refine ⟨(h1 0 (by omega)).trans a0, by rw [g0]; exact a1, by rw [g0]; exact a2, by rw [g0]; exact a3, (h1 1 (by omega)).trans a4, by rw [h2]; exact a5, (h1 2 (by omega)).trans a6, by rw [h2]; exact a7, (h1 3 (by omega)).trans a8, by rw [h2]; exact a9, fun i hi => ⟨by rw [g1]; exact (a10 i hi).1, ?_⟩⟩
  have := h1 (4 + i) (by omega)
  rw [show h + (4 + i) = h + 4 + i by omega] at this
  exact this.trans (a10 i hi).2
theorem I1 {o : Nat} {Y : mY} {V : mV} {G : mG} (h0 : Y.1 o = 1) (l1 : Y.2 (o + 1) = 80) (l2 : Y.2 (o + 2) = 4) : ∃ Y' V' G', cf_X1_init (o + 1) Y V G o = some (o + 3, Y', V', G') ∧ Y'.2 = Y.2 ∧ (∀ b, ¬ (o < b ∧ b < o + 3) → Y'.1 b = Y.1 b) ∧ OT Y' G' o ∧ (∀ b, b ≠ o → G' b = G b) ∧ (∀ b, ¬ (o ≤ b ∧ b < o + 3) → V' b = V b) ∧ V' o 2 = 0 := by
  have y1 : ∀ b, b ≠ o + 1 → va_up Y.1 (o + 1) 5 b = Y.1 b := fun b hb => va_up_ne _ _ hb
  have y2 : ∀ b, b ≠ o + 1 → b ≠ o + 2 → va_up (va_up Y.1 (o + 1) 5) (o + 2) 6 b = Y.1 b := fun b b1 b2 => by rw [va_up_ne _ _ b2, y1 b b1]
  refine ⟨(va_up (va_up Y.1 (o + 1) 5) (o + 2) 6, Y.2), up2 (up2 (up2 (up2 (up2 (va_up (va_up V (o + 1) (fun _ => 0)) (o + 2) (fun _ => 0)) o 2 0) o 3 0) o 4 0) o 5 0) o 6 0, up2 (up2 G o 0 (some (o + 1))) o 1 (some (o + 2)), ?_, rfl, fun b hb => y2 b (by omega) (by omega), ⟨(y2 o (by omega) (by omega)).trans h0, by rw [up2_sn _ _ _ (by omega), up2_ss], up2_ss _ _ _ _, ?_, l1, va_up_s _ _ _, l2⟩, fun b hb => by rw [up2_n _ _ _ hb, up2_n _ _ _ hb], fun b hb => ?_, ?_⟩
  · rw [cf_X1_init, if_pos (show 0 + 1 ≤ 2 by omega), if_pos (show ¬ (80 : Int32) < 0 by decide), if_pos (show Y.2 (o + 1) = (80 : Int32).toNatClampNeg from l1), if_pos (show (80 : Int32).toNatClampNeg ≤ 600 by decide), if_pos (show va_up Y.1 (o + 1) 5 o = 1 from (y1 o (by omega)).trans h0), if_pos (show 0 + 1 + 1 ≤ 2 by omega), if_pos (show ¬ (4 : Int32) < 0 by decide), if_pos (show Y.2 (o + 1 + 1) = (4 : Int32).toNatClampNeg from l2), if_pos (show (4 : Int32).toNatClampNeg ≤ 600 by decide), if_pos (show va_up (va_up Y.1 (o + 1) 5) (o + 1 + 1) 6 o = 1 from (y2 o (by omega) (by omega)).trans h0), Option.bind_some, if_pos (show 0 + 1 + 1 ≤ 2 by omega)]
  · dsimp only; rw [va_up_ne _ _ (by omega), va_up_s]
  · simp only [up2_n _ _ _ (show b ≠ o by omega)]
    rw [va_up_ne _ _ (by omega), va_up_ne _ _ (by omega)]
  · simp [up2_s, va_up]
theorem I63 {x : Nat} : ∀ (d j fuel : Nat) (Y : mY) (V : mV) (G : mG), j + d = 4 → d < fuel → Y.1 x = 3 → G x 2 = some (x + 29) → Y.1 (x + 29) = 8 → Y.2 (x + 29) = 4 → (∀ i, i < 4 → Y.2 (x + 47 + 14 * i + 1) = 10 ∧ Y.2 (x + 47 + 14 * i + 2) = 5 ∧ Y.2 (x + 47 + 14 * i + 3) = 5) → ∃ Y' V' G', lp_X3_init_63 fuel (46 + 14 * j) (x + 47 + 14 * j) Y V G x (nI j) = some (x + 103, Y', V', G') ∧ Y'.2 = Y.2 ∧ (∀ b, b < x + 47 + 14 * j → Y'.1 b = Y.1 b) ∧ (∀ b, b < x + 47 + 14 * j → b ≠ x + 29 → G' b = G b) ∧ (∀ b, b < x + 47 + 14 * j → V' b = V b) ∧ (∀ i, j ≤ i → i < 4 → PT Y' G' (x + 47 + 14 * i) ∧ G' (x + 29) i = some (x + 47 + 14 * i)) ∧ ∀ i, i < j → G' (x + 29) i = G (x + 29) i
  | 0, j, fuel, Y, V, G, hj, hf, h0, g2, k29, l29, hl => by
      obtain ⟨f, rfl⟩ : ∃ f, fuel = f + 1 := ⟨fuel - 1, by omega⟩
      obtain rfl : j = 4 := by omega
      exact ⟨Y, V, G, by rw [lp_X3_init_63, if_pos (show (4 : Int32) ≤ nI 4 by decide), if_pos (show 46 + 14 * 4 ≤ 102 by omega)], rfl, fun _ _ => rfl, fun _ _ _ => rfl, fun _ _ => rfl, fun i a b => absurd a (by omega), fun _ _ => rfl⟩
  | d + 1, j, fuel, Y, V, G, hj, hf, h0, g2, k29, l29, hl => by
      obtain ⟨f, rfl⟩ : ∃ f, fuel = f + 1 := ⟨fuel - 1, by omega⟩
      have lt : ¬ (4 : Int32) ≤ nI j := le_nI (a := 4) (b := j) (by omega) (by decide)
      obtain ⟨Y1, V1, G1, e1, e2, e3, e4, e5, e6, -⟩ := I2 (h := x + 47 + 14 * j) (Y := (va_up Y.1 (x + 47 + 14 * j) 2, Y.2)) (V := va_up V (x + 47 + 14 * j) (fun _ => 0)) (G := va_up G (x + 47 + 14 * j) (fun _ => none)) (va_up_s _ _ _) (hl j (by omega)).1 (hl j (by omega)).2.1 (hl j (by omega)).2.2
      have yl : ∀ b, b < x + 47 + 14 * j → Y1.1 b = Y.1 b := fun b hb => (e3 b (by omega)).trans (va_up_ne _ _ (by omega))
      have yn : Y1.1 (x + 47 + 14 * j) = 2 := (e3 _ (by omega)).trans (va_up_s _ _ _)
      have gl : ∀ b, b < x + 47 + 14 * j → G1 b = G b := fun b hb => (e5 b (by omega)).trans (va_up_ne _ _ (by omega))
      have vl : ∀ b, b < x + 47 + 14 * j → V1 b = V b := fun b hb => (e6 b (by omega)).trans (va_up_ne _ _ (by omega))
      have ix : ¬ (nI j < 0 ∨ Y1.2 (x + 29) ≤ (nI j).toNatClampNeg) := by rw [e2]; dsimp only; rw [l29]; exact nx_in (by omega) (by decide)
      have cj : (nI j).toNatClampNeg = j := nI_clamp (by omega)
      rw [cj] at ix
      have gu : ∀ b, b < x + 47 + 14 * j → b ≠ x + 29 → up2 G1 (x + 29) j (some (x + 47 + 14 * j)) b = G b := fun b hb hn => by rw [up2_n _ _ _ hn, gl b hb]
      obtain ⟨Y', V', G', q1, q2, q3, q4, q5, q6, q7⟩ := I63 (x := x) d (j + 1) f Y1 V1 (up2 G1 (x + 29) j (some (x + 47 + 14 * j))) (by omega) (by omega) ((yl x (by omega)).trans h0) (by rw [gu x (by omega) (by omega)]; exact g2) ((yl _ (by omega)).trans k29) (by rw [e2]; exact l29) (fun i hi => by rw [e2]; exact hl i hi)
      refine ⟨Y', V', G', ?_, q2.trans e2, fun b hb => (q3 b (by omega)).trans (yl b hb), fun b hb hn => (q4 b (by omega) hn).trans (gu b hb hn), fun b hb => (q5 b (by omega)).trans (vl b hb), fun i a1 a2 => ?_, fun i hi => ?_⟩
      · rw [lp_X3_init_63, if_neg lt, if_pos h0, g2, Option.bind_some, if_pos (show 46 + 14 * j + 1 ≤ 102 by omega), if_pos (show 46 + 14 * j + 1 + 13 ≤ 102 by omega), e1, Option.bind_some]
        dsimp only
        rw [if_pos (Or.inr ⟨(yl _ (by omega)).trans k29, yn⟩), cj, if_pos ix, ← nI_succ]
        have := q1
        rw [show 46 + 14 * (j + 1) = 46 + 14 * j + 1 + 13 by omega, show x + 47 + 14 * (j + 1) = x + 47 + 14 * j + 14 by omega] at this
        exact this
      · by_cases e : i = j
        · subst e
          refine ⟨PT_eq (fun k hk => q3 _ (by omega)) q2 (by rw [q4 _ (by omega) (by omega), up2_n _ _ _ (by omega)]) (by rw [q4 _ (by omega) (by omega), up2_n _ _ _ (by omega)]) e4, ?_⟩
          rw [q7 i (by omega), up2_ss]
        · exact q6 i (by omega) a2
      · rw [q7 i (by omega), up2_sn _ _ _ (by omega), gl _ (by omega)]
theorem J73 {m n u : Nat} {Y : mY} {G : mG} (h0 : Y.1 m = 4) (g0 : G m 0 = some (m + 1)) (k1 : Y.1 (m + 1) = 6) (l1 : Y.2 (m + 1) = 146) (hu : u ≤ 6) : ∀ (d j fuel : Nat) (V : mV), j + d = 5 → d < fuel → ∃ V', lp_X4_init_73 fuel u n Y V G m (nI j) = some (n, Y, V', G) ∧ (∀ b, b ≠ m + 1 → V' b = V b) ∧ (∀ k, k < 6 → V' (m + 1) k = V (m + 1) k) ∧ (∀ k, j ≤ k → k < 5 → V' (m + 1) (6 + k) = -1 ∧ V' (m + 1) (11 + k) = -1) ∧ ∀ k, k < j → V' (m + 1) (6 + k) = V (m + 1) (6 + k) ∧ V' (m + 1) (11 + k) = V (m + 1) (11 + k)
  | 0, j, fuel, V, hj, hf => by
      obtain ⟨f, rfl⟩ : ∃ f, fuel = f + 1 := ⟨fuel - 1, by omega⟩
      obtain rfl : j = 5 := by omega
      exact ⟨V, by rw [lp_X4_init_73, if_pos (show (5 : Int32) ≤ nI 5 by decide), if_pos hu], fun _ _ => rfl, fun _ _ => rfl, fun k a b => absurd a (by omega), fun _ _ => ⟨rfl, rfl⟩⟩
  | d + 1, j, fuel, V, hj, hf => by
      obtain ⟨f, rfl⟩ : ∃ f, fuel = f + 1 := ⟨fuel - 1, by omega⟩
      have lt : ¬ (5 : Int32) ≤ nI j := le_nI (a := 5) (b := j) (by omega) (by decide)
      have e6 : (6 : Int32) + nI j = nI (6 + j) := nI_add 6 j
      have e11 : (11 : Int32) + nI j = nI (11 + j) := nI_add 11 j
      have c6 : (nI (6 + j)).toNatClampNeg = 6 + j := nI_clamp (by omega)
      have c11 : (nI (11 + j)).toNatClampNeg = 11 + j := nI_clamp (by omega)
      have i6 : ¬ (nI (6 + j) < 0 ∨ Y.2 (m + 1) ≤ (nI (6 + j)).toNatClampNeg) := by rw [l1]; exact nx_in (by omega) (by decide)
      have i11 : ¬ (nI (11 + j) < 0 ∨ Y.2 (m + 1) ≤ (nI (11 + j)).toNatClampNeg) := by rw [l1]; exact nx_in (by omega) (by decide)
      obtain ⟨V', q1, q2, q3, q4, q5⟩ := J73 (n := n) h0 g0 k1 l1 hu d (j + 1) f (up2 (up2 V (m + 1) (6 + j) (-1)) (m + 1) (11 + j) (-1)) (by omega) (by omega)
      refine ⟨V', ?_, fun b hb => by rw [q2 b hb, up2_n _ _ _ hb, up2_n _ _ _ hb], fun k hk => by rw [q3 k hk, up2_sn _ _ _ (by omega), up2_sn _ _ _ (by omega)], fun k a1 a2 => ?_, fun k hk => ?_⟩
      · rw [lp_X4_init_73, if_neg lt, if_pos h0, g0, Option.bind_some, if_pos k1, e6, e11, if_pos i6, if_pos i11, c6, c11, Option.bind_some, ← nI_succ]
        exact q1
      · by_cases e : k = j
        · subst e
          rw [(q5 k (by omega)).1, (q5 k (by omega)).2, up2_sn _ _ _ (show 6 + k ≠ 11 + k by omega), up2_ss, up2_ss]
          exact ⟨rfl, rfl⟩
        · exact q4 k (by omega) a2
      · rw [(q5 k (by omega)).1, (q5 k (by omega)).2, up2_sn _ _ _ (show 6 + k ≠ 11 + j by omega), up2_sn _ _ _ (show 6 + k ≠ 6 + j by omega), up2_sn _ _ _ (show 11 + k ≠ 11 + j by omega), up2_sn _ _ _ (show 11 + k ≠ 6 + j by omega)]
        exact ⟨rfl, rfl⟩
theorem I4 {m : Nat} {Y : mY} {V : mV} {G : mG} (h0 : Y.1 m = 4) (l1 : Y.2 (m + 1) = 146) (l2 : Y.2 (m + 2) = 146) (l3 : Y.2 (m + 3) = 146) (l4 : Y.2 (m + 4) = 584) (l5 : Y.2 (m + 5) = 80) (l6 : Y.2 (m + 6) = 4) : ∃ Y' V' G', cf_X4_init (m + 1) Y V G m = some (m + 7, Y', V', G') ∧ Y'.2 = Y.2 ∧ (∀ b, ¬ (m < b ∧ b < m + 7) → Y'.1 b = Y.1 b) ∧ MT Y' G' m ∧ (∀ b, b ≠ m → G' b = G b) ∧ (∀ b, ¬ (m < b ∧ b < m + 7) → V' b = V b) ∧ V' (m + 1) 0 = 0 ∧ V' (m + 1) 1 = 0 ∧ V' (m + 1) 2 = 56 ∧ V' (m + 1) 3 = 100 ∧ V' (m + 1) 4 = 0 ∧ V' (m + 1) 5 = 0 ∧ ∀ k, k < 5 → V' (m + 1) (6 + k) = -1 ∧ V' (m + 1) (11 + k) = -1 := by
  have yo : ∀ b, ¬ (m < b ∧ b < m + 7) → va_up (va_up (va_up (va_up (va_up (va_up Y.1 (m + 1) 6) (m + 2) 6) (m + 3) 6) (m + 4) 6) (m + 5) 6) (m + 6) 6 b = Y.1 b := fun b hb => by
    rw [va_up_ne _ _ (by omega), va_up_ne _ _ (by omega), va_up_ne _ _ (by omega), va_up_ne _ _ (by omega), va_up_ne _ _ (by omega), va_up_ne _ _ (by omega)]
  have y4 : ∀ k, k < 7 → 0 < k → va_up (va_up (va_up (va_up (va_up (va_up Y.1 (m + 1) 6) (m + 2) 6) (m + 3) 6) (m + 4) 6) (m + 5) 6) (m + 6) 6 (m + k) = 6 := fun k hk h1 => by
    rcases (show k = 1 ∨ k = 2 ∨ k = 3 ∨ k = 4 ∨ k = 5 ∨ k = 6 by omega) with e | e | e | e | e | e <;> subst e <;> simp [va_up]
  have g0 : up2 (up2 (up2 (up2 (up2 (up2 G m 0 (some (m + 1))) m 1 (some (m + 2))) m 2 (some (m + 3))) m 3 (some (m + 4))) m 5 (some (m + 5))) m 9 (some (m + 6)) m 0 = some (m + 1) := by simp [up2_s, va_up]
  have i2 : ¬ ((2 : Int32) < 0 ∨ Y.2 (m + 1) ≤ (2 : Int32).toNatClampNeg) := by rw [l1]; decide
  have i3 : ¬ ((3 : Int32) < 0 ∨ Y.2 (m + 1) ≤ (3 : Int32).toNatClampNeg) := by rw [l1]; decide
  obtain ⟨V', q1, q2, q3, q4, -⟩ := J73 (m := m) (n := m + 7) (u := 6) (Y := (va_up (va_up (va_up (va_up (va_up (va_up Y.1 (m + 1) 6) (m + 2) 6) (m + 3) 6) (m + 4) 6) (m + 5) 6) (m + 6) 6, Y.2)) (G := up2 (up2 (up2 (up2 (up2 (up2 G m 0 (some (m + 1))) m 1 (some (m + 2))) m 2 (some (m + 3))) m 3 (some (m + 4))) m 5 (some (m + 5))) m 9 (some (m + 6))) ((yo m (by omega)).trans h0) g0 (y4 1 (by omega) (by omega)) l1 (Nat.le_refl 6) 5 0 fuB (up2 (up2 (va_up (va_up (va_up (va_up (va_up (va_up V (m + 1) (fun _ => 0)) (m + 2) (fun _ => 0)) (m + 3) (fun _ => 0)) (m + 4) (fun _ => 0)) (m + 5) (fun _ => 0)) (m + 6) (fun _ => 0)) (m + 1) 2 56) (m + 1) 3 100) (by omega) (fuB_gt (by omega))
  have v1 : va_up (va_up (va_up (va_up (va_up (va_up V (m + 1) (fun _ => 0)) (m + 2) (fun _ => 0)) (m + 3) (fun _ => 0)) (m + 4) (fun _ => 0)) (m + 5) (fun _ => 0)) (m + 6) (fun _ => (0 : Int32)) (m + 1) = fun _ => 0 := by
    rw [va_up_ne _ _ (by omega), va_up_ne _ _ (by omega), va_up_ne _ _ (by omega), va_up_ne _ _ (by omega), va_up_ne _ _ (by omega), va_up_s]
  have hd : ∀ k, k < 6 → V' (m + 1) k = if k = 3 then 100 else if k = 2 then 56 else 0 := fun k hk => by
    rw [q3 k hk, up2_s, up2_s, v1]; simp only [va_up]
  refine ⟨(va_up (va_up (va_up (va_up (va_up (va_up Y.1 (m + 1) 6) (m + 2) 6) (m + 3) 6) (m + 4) 6) (m + 5) 6) (m + 6) 6, Y.2), V', (up2 (up2 (up2 (up2 (up2 (up2 G m 0 (some (m + 1))) m 1 (some (m + 2))) m 2 (some (m + 3))) m 3 (some (m + 4))) m 5 (some (m + 5))) m 9 (some (m + 6))), ?_, rfl, yo, ⟨(yo m (by omega)).trans h0, g0, ?_, ?_, ?_, ?_, ?_, y4 1 (by omega) (by omega), y4 2 (by omega) (by omega), y4 3 (by omega) (by omega), y4 4 (by omega) (by omega), y4 5 (by omega) (by omega), y4 6 (by omega) (by omega), l1, l2, l3, l4, l5, l6⟩, fun b hb => ?_, fun b hb => ?_, hd 0 (by omega), hd 1 (by omega), hd 2 (by omega), hd 3 (by omega), hd 4 (by omega), hd 5 (by omega), fun k hk => q4 k (by omega) hk⟩
  · have k0 : ∀ (f : Nat → Nat), f m = 4 → (∀ k, k ≠ m → True) → f m = 4 := fun _ h _ => h
    rw [cf_X4_init, if_pos (show 0 + 1 ≤ 6 by omega), if_pos (show ¬ (146 : Int32) < 0 by decide), if_pos (show Y.2 (m + 1) = (146 : Int32).toNatClampNeg from l1), if_pos (show (146 : Int32).toNatClampNeg ≤ 600 by decide), if_pos (show va_up Y.1 (m + 1) 6 m = 4 by rw [va_up_ne _ _ (by omega)]; exact h0), if_pos (show 0 + 1 + 1 ≤ 6 by omega), if_pos (show ¬ (146 : Int32) < 0 by decide), if_pos (show Y.2 (m + 1 + 1) = (146 : Int32).toNatClampNeg from l2), if_pos (show (146 : Int32).toNatClampNeg ≤ 600 by decide), if_pos (show va_up (va_up Y.1 (m + 1) 6) (m + 1 + 1) 6 m = 4 by rw [va_up_ne _ _ (by omega), va_up_ne _ _ (by omega)]; exact h0), if_pos (show 0 + 1 + 1 + 1 ≤ 6 by omega), if_pos (show ¬ (146 : Int32) < 0 by decide), if_pos (show Y.2 (m + 1 + 1 + 1) = (146 : Int32).toNatClampNeg from l3), if_pos (show (146 : Int32).toNatClampNeg ≤ 600 by decide), if_pos (show va_up (va_up (va_up Y.1 (m + 1) 6) (m + 1 + 1) 6) (m + 1 + 1 + 1) 6 m = 4 by rw [va_up_ne _ _ (by omega), va_up_ne _ _ (by omega), va_up_ne _ _ (by omega)]; exact h0), if_pos (show 0 + 1 + 1 + 1 + 1 ≤ 6 by omega), if_pos (show ¬ (584 : Int32) < 0 by decide), if_pos (show Y.2 (m + 1 + 1 + 1 + 1) = (584 : Int32).toNatClampNeg from l4), if_pos (show (584 : Int32).toNatClampNeg ≤ 600 by decide), Option.bind_some, if_pos (show va_up (va_up (va_up (va_up Y.1 (m + 1) 6) (m + 1 + 1) 6) (m + 1 + 1 + 1) 6) (m + 1 + 1 + 1 + 1) 6 m = 4 by rw [va_up_ne _ _ (by omega), va_up_ne _ _ (by omega), va_up_ne _ _ (by omega), va_up_ne _ _ (by omega)]; exact h0), Option.bind_some, if_pos (show 0 + 1 + 1 + 1 + 1 + 1 ≤ 6 by omega), if_pos (show ¬ (80 : Int32) < 0 by decide), if_pos (show Y.2 (m + 1 + 1 + 1 + 1 + 1) = (80 : Int32).toNatClampNeg from l5), if_pos (show (80 : Int32).toNatClampNeg ≤ 600 by decide), if_pos (show va_up (va_up (va_up (va_up (va_up Y.1 (m + 1) 6) (m + 1 + 1) 6) (m + 1 + 1 + 1) 6) (m + 1 + 1 + 1 + 1) 6) (m + 1 + 1 + 1 + 1 + 1) 6 m = 4 by rw [va_up_ne _ _ (by omega), va_up_ne _ _ (by omega), va_up_ne _ _ (by omega), va_up_ne _ _ (by omega), va_up_ne _ _ (by omega)]; exact h0), if_pos (show 0 + 1 + 1 + 1 + 1 + 1 + 1 ≤ 6 by omega), if_pos (show ¬ (4 : Int32) < 0 by decide), if_pos (show Y.2 (m + 1 + 1 + 1 + 1 + 1 + 1) = (4 : Int32).toNatClampNeg from l6), if_pos (show (4 : Int32).toNatClampNeg ≤ 600 by decide), Option.bind_some, if_pos (show va_up (va_up (va_up (va_up (va_up (va_up Y.1 (m + 1) 6) (m + 1 + 1) 6) (m + 1 + 1 + 1) 6) (m + 1 + 1 + 1 + 1) 6) (m + 1 + 1 + 1 + 1 + 1) 6) (m + 1 + 1 + 1 + 1 + 1 + 1) 6 m = 4 from (yo m (by omega)).trans h0)]
    rw [show up2 (up2 (up2 (up2 (up2 (up2 G m 0 (some (m + 1))) m 1 (some (m + 1 + 1))) m 2 (some (m + 1 + 1 + 1))) m 3 (some (m + 1 + 1 + 1 + 1))) m 5 (some (m + 1 + 1 + 1 + 1 + 1))) m 9 (some (m + 1 + 1 + 1 + 1 + 1 + 1)) m 0 = some (m + 1) from g0, Option.bind_some, if_pos (show va_up (va_up (va_up (va_up (va_up (va_up Y.1 (m + 1) 6) (m + 1 + 1) 6) (m + 1 + 1 + 1) 6) (m + 1 + 1 + 1 + 1) 6) (m + 1 + 1 + 1 + 1 + 1) 6) (m + 1 + 1 + 1 + 1 + 1 + 1) 6 (m + 1) = 6 from y4 1 (by omega) (by omega)), if_pos i2, if_pos i3, Option.bind_some]
    exact q1
  · simp [up2_s, va_up]
  · simp [up2_s, va_up]
  · simp [up2_s, va_up]
  · simp [up2_s, va_up]
  · simp [up2_s, va_up]
  · simp only [up2_n _ _ _ hb]
  · rw [q2 b (by omega), up2_n _ _ _ (by omega), up2_n _ _ _ (by omega), va_up_ne _ _ (by omega), va_up_ne _ _ (by omega), va_up_ne _ _ (by omega), va_up_ne _ _ (by omega), va_up_ne _ _ (by omega), va_up_ne _ _ (by omega)]
