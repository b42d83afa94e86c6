-- a text played
section CLS
variable {Y : mY} {G : mG} {x : Nat}
theorem P_play {V : mV} (hGI : GI x Y V G) : ∃ r V1 G1 V2, cf_X3_play Y V G x = some (r, V1, G1) ∧ cf_X4_play Y V1 G1 (x + 103) = some (r, V2) ∧ GI x Y V2 G1 := by
  obtain ⟨hX, ⟨q, hq, hG, t, ht, h5, h4, hH⟩, ⟨N, hm, hs'⟩, hT⟩ := id hGI
  obtain ⟨⟨a0, a1, a2, a3, a4⟩, ⟨b1, b2⟩, ⟨c1, c2, c3⟩, -, hM⟩ := id hX
  have hO := XT_O hX
  have hN := hs'.1.1
  have q4 := hq.1 4 (by omega)
  have cB := c3 _ q4
  obtain ⟨L, T, hL, hTR⟩ := TX_TR hT
  obtain ⟨V1, e1, p1, o1⟩ := C_copy (g := x + 15) (h := x + 1) c2 c1 (by omega) hs'.1 hm
  have v1 : ∀ b, ¬ (x + 15 ≤ b ∧ b < x + 29) → V1 b = V b := fun b hb => o1 b (by omega)
  have hd : x + 15 + 14 ≤ x + 30 := by omega
  have w0 : V1 (x + 103 + 1) = V (x + 104) := v1 _ (by omega)
  obtain ⟨d, y0, V2, W0, f1, f2, f3, f4, f5⟩ := D_all (W := V1) hO c2 hM hd (hTR V1 V1 (by rw [v1 _ (by omega)]) (v1 _ (by omega)) (by rw [v1 _ (by omega)]) (v1 _ (by omega))) (N := N) (by rw [w0]; exact p1) (by rw [w0]; exact hs')
  have v2 : ∀ b, b ≠ x + 30 → b ≠ x + 32 → ¬ (x + 15 ≤ b ∧ b < x + 29) → V2 b = V b := fun b h1 h2 h3 => by rw [f3.1 b h1 h2 (by omega), v1 b h3]
  -- the reference from any state behind that
  have run : ∀ (V5 : mV) (G5 : mG), MT Y G5 (x + 103) → (∀ b, x + 103 ≤ b → V5 b = V b) → ∃ y W2, cf_X4_doesAll Y (va_up V5 (x + 105) (mix 146 (V5 (x + 104)) (V5 (x + 105)))) G5 (x + 103) = some (y, W2) ∧ FB (x + 103) (va_up V5 (x + 105) (mix 146 (V5 (x + 104)) (V5 (x + 105)))) W2 ∧ ((V2 (x + 30) 5 = 0 ∧ y = 1 ∧ d = W2 (x + 103) 12 ∧ 0 ≤ d ∧ ∃ N, PM V2 (x + 15) N (W2 (x + 104)) ∧ SI N (W2 (x + 104))) ∨ (y = 0 ∧ ¬ V2 (x + 30) 5 = 0)) := by
    intro V5 G5 hM5 v5
    have w1 : va_up V5 (x + 105) (mix 146 (V5 (x + 104)) (V5 (x + 105))) (x + 103 + 1) = V (x + 104) := by rw [va_up_ne _ _ (by omega)]; exact v5 _ (by omega)
    obtain ⟨d', y, V2', W2, g1, g2, -, g4, g5⟩ := D_all (W := va_up V5 (x + 105) (mix 146 (V5 (x + 104)) (V5 (x + 105)))) hO c2 hM5 hd (hTR V1 _ (by rw [v1 _ (by omega)]) (v1 _ (by omega)) (by rw [va_up_ne _ _ (by omega), v5 _ (by omega)]) (by rw [va_up_ne _ _ (by omega), v5 _ (by omega)])) (N := N) (by rw [w1]; exact p1) (by rw [w1]; exact hs')
    have ee := f1.symm.trans g1
    simp only [Option.some.injEq, Prod.mk.injEq] at ee
    obtain ⟨rfl, rfl⟩ := ee
    refine ⟨y, W2, g2, g4, ?_⟩
    rcases g5 with h | ⟨h1, -, h3, -, -⟩
    · exact Or.inl h
    · exact Or.inr ⟨h1, h3⟩
  obtain ⟨t1, t2, t3⟩ := MT_2 hM
  have pre : cf_X3_play Y V G x = if V2 (x + 30) 5 = 0 then ((G x 4).bind fun r10 => if Y.1 r10 = 2 then (cf_X2_copyFrom Y V2 G r10 (x + 1)).bind fun x12 => if Y.1 (x + 1) = 2 then (cf_X2_copyFrom Y x12 G (x + 1) (x + 15)).bind fun x14 => (cf_X3_recorded Y x14 G x d).bind fun x15 => some (x15.1, x15.2.1, x15.2.2) else none else none) else some (-1000002, V2, G) := by
    rw [cf_X3_play, if_pos a0, a2, Option.bind_some, a1, Option.bind_some, if_pos c2.1, e1, Option.bind_some, a4, Option.bind_some, if_pos hO.1, f1, Option.bind_some]
  by_cases hz : V2 (x + 30) 5 = 0
  · obtain ⟨y0e, d12, dge, N0, pm0, si0⟩ : y0 = 1 ∧ d = W0 (x + 103) 12 ∧ 0 ≤ d ∧ ∃ N, PM V2 (x + 15) N (W0 (x + 104)) ∧ SI N (W0 (x + 104)) := by
      rcases f5 with ⟨-, h⟩ | ⟨-, -, h, -⟩
      · exact h
      · exact absurd hz h
    have n2 : PM V2 (x + 1) N (V (x + 104)) := PM_bl hN (fun i hi => v2 _ (by omega) (by omega) (by omega)) hm
    obtain ⟨V3, e3, p3, o3⟩ := C_copy (g := x + 33 + 14 * q 4) (h := x + 1) cB c1 (by omega) hs'.1 n2
    have tr3 : ∀ i, i < 14 → V3 (x + 15 + i) = V2 (x + 15 + i) := fun i hi => o3 _ (by omega)
    obtain ⟨V4, e4, p4, o4⟩ := C_copy (g := x + 1) (h := x + 15) c1 c2 (by omega) si0.1 (PM_bl si0.1.1 tr3 pm0)
    have v4 : ∀ b, b ≠ x + 30 → b ≠ x + 32 → ¬ (x + 1 ≤ b ∧ b < x + 29) → ¬ (x + 33 + 14 * q 4 ≤ b ∧ b < x + 33 + 14 * q 4 + 14) → V4 b = V b := fun b h1 h2 h3 h4 => by rw [o4 b (by omega), o3 b (by omega), v2 b h1 h2 (by omega)]
    have h54 : V4 x 5 = nI t := by rw [v4 _ (by omega) (by omega) (by omega) (by omega)]; exact h5
    obtain ⟨V5, G5, q', e5, hX5, hG5, hq5, r5, r6, r7, r8⟩ := C_recorded hX hq hG ht h54 dge
    have hM5 := hX5.2.2.2.2
    have v5 : ∀ b, b ≠ x → b ≠ x + 30 → b ≠ x + 32 → ¬ (x + 1 ≤ b ∧ b < x + 29) → ¬ (x + 33 + 14 * q 4 ≤ b ∧ b < x + 33 + 14 * q 4 + 14) → V5 b = V b := fun b h0 h1 h2 h3 h4 => by rw [r6 b h0, v4 b h1 h2 h3 h4]
    obtain ⟨y, W2, k2, kF, kR⟩ := run V5 G5 hM5 (fun b hb => v5 b (by omega) (by omega) (by omega) (by omega) (by omega))
    obtain ⟨rfl, d2, -, N2, pm2, si2⟩ : y = 1 ∧ d = W2 (x + 103) 12 ∧ 0 ≤ d ∧ ∃ N, PM V2 (x + 15) N (W2 (x + 104)) ∧ SI N (W2 (x + 104)) := by
      rcases kR with ⟨-, h⟩ | ⟨-, h⟩
      · exact h
      · exact absurd hz h
    obtain ⟨V4', e4', p4', o4'⟩ := C_copy (g := x + 1) (h := x + 15) c1 c2 (by omega) si2.1 (PM_bl si2.1.1 tr3 pm2)
    have ee := e4.symm.trans e4'
    simp only [Option.some.injEq] at ee
    subst ee
    have h4W : W2 (x + 103) 4 = nI t := by rw [kF.2.2, va_up_ne _ _ (by omega), v5 _ (by omega) (by omega) (by omega) (by omega) (by omega)]; exact h4
    obtain ⟨V6, e6, u4, u5, u6, u7, u8⟩ := M_record hM5 ht h4W
    obtain ⟨k0, k1, kk⟩ := MT_2 hM5
    have x6 : ∀ b, b ≠ x + 103 → b ≠ x + 107 → b ≠ x + 104 → b ≠ x + 105 → b ≠ x + 109 → V6 b = V5 b := fun b h1 h2 h3 h4 h6 => by
      rw [u6 b h1 (by omega), kF.1 b h1 (by omega) (by omega), va_up_ne _ _ h4]
    have x104 : V6 (x + 104) = W2 (x + 104) := u6 _ (by omega) (by omega)
    have kept : ∀ k, k < 146 → W2 (x + 103 + 2) k = V (x + 104) k := by
      intro k hk
      rw [kF.1 _ (by omega) (by omega) (by omega), show x + 103 + 2 = x + 105 from rfl, va_up_s, mix_lt _ _ _ hk, v5 _ (by omega) (by omega) (by omega) (by omega) (by omega)]
    have hsW : ∀ j, hs W2 (x + 103) j = hs V (x + 103) j := by
      intro j; unfold hs; rw [kF.1 _ (by omega) (by omega) (by omega), va_up_ne _ _ (by omega), v5 _ (by omega) (by omega) (by omega) (by omega) (by omega)]
    have bl6 : ∀ j, j < 4 → ∀ i, i < 14 → V6 (x + 33 + 14 * q j + i) = V (x + 33 + 14 * q j + i) := by
      intro j hj i hi
      have g1 := hq.1 j (by omega)
      have g2 : q j ≠ q 4 := fun e => by have := hq.2 j 4 (by omega) (by omega) e; omega
      rw [x6 _ (by omega) (by omega) (by omega) (by omega) (by omega), v5 _ (by omega) (by omega) (by omega) (by omega) (by omega)]
    have bf6 : PM V6 (x + 33 + 14 * q 4) N (V (x + 104)) := PM_bl hN (fun i hi => by rw [x6 _ (by omega) (by omega) (by omega) (by omega) (by omega), r6 _ (by omega), o4 _ (by omega)]) p3
    have newH : ∀ a2, (∀ k, k < 146 → a2 k = V (x + 104) k) → PM V6 (x + 33 + 14 * q 4) N a2 ∧ SI N a2 := fun a2 e => ⟨PM_eq hN e bf6, SI_eq e hs'⟩
    have oldH : ∀ j a2, j < t → j < 4 → (∀ k, k < 146 → a2 k = hs V (x + 103) j k) → ∃ Nj, PM V6 (x + 33 + 14 * q j) Nj a2 ∧ SI Nj a2 := fun j a2 hj hj4 e => by
      obtain ⟨Nj, pj, sj⟩ := hH j hj
      exact ⟨Nj, PM_eq sj.1.1 e (PM_bl sj.1.1 (bl6 j hj4) pj), SI_eq e sj⟩
    refine ⟨d, V5, G5, V6, ?_, ?_, hX5, ⟨q', hq5, hG5, _, ?_, ?_, u4, fun j hj => ?_⟩, ⟨N2, ?_, ?_⟩, ?_⟩
    · rw [pre, if_pos hz, hG.1, Option.bind_some, if_pos cB.1, e3, Option.bind_some, if_pos c1.1, e4, Option.bind_some, e5]; rfl
    · rw [cf_X4_play, if_pos (MT_k hM5), MT_g hM5, Option.bind_some, k0, Option.bind_some, M_copy (MT_k1 hM5) (MT_l1 hM5) k1 kk (by omega), Option.bind_some, show x + 103 + 1 = x + 104 from rfl, show x + 103 + 2 = x + 105 from rfl, k2, Option.bind_some, if_neg (n1_ _), e6, Option.bind_some, u5 12 (by omega), d2]
    · split <;> omega
    · rw [x6 _ (by omega) (by omega) (by omega) (by omega) (by omega)]; exact r5
    · by_cases t4 : t < 4
      · rw [if_pos t4] at hj
        obtain ⟨z1, z2⟩ := r7 t4
        obtain ⟨y1, y2⟩ := u7 t4
        by_cases e : j = t
        · subst e
          rw [z1]
          exact ⟨N, newH _ (fun k hk => by rw [y1 k hk]; exact kept k hk)⟩
        · rw [z2 j (by omega)]
          exact oldH j _ (by omega) (by omega) (fun k hk => by rw [y2 j (by omega) k hk, hsW])
      · obtain rfl : t = 4 := by omega
        rw [if_neg t4] at hj
        have z := r8 rfl
        obtain ⟨y1, y2⟩ := u8 rfl
        rw [z j hj]
        by_cases e : j = 3
        · subst e
          exact ⟨N, newH _ (fun k hk => by rw [y1 k hk]; exact kept k hk)⟩
        · exact oldH (j + 1) _ (by omega) (by omega) (fun k hk => by rw [y2 j (by omega) k hk, hsW])
    · rw [x104]
      exact PM_bl si2.1.1 (fun i hi => by rw [x6 _ (by omega) (by omega) (by omega) (by omega) (by omega), r6 _ (by omega)]) p4'
    · rw [x104]; exact si2
    · exact TX_eq (by rw [x6 _ (by omega) (by omega) (by omega) (by omega) (by omega), r6 _ (by omega), o4 _ (by omega), o3 _ (by omega), f3.2, v1 _ (by omega)]) (by rw [u5 _ (by omega), kF.2.1, va_up_ne _ _ (by omega), v5 _ (by omega) (by omega) (by omega) (by omega) (by omega)]) (by rw [x6 _ (by omega) (by omega) (by omega) (by omega) (by omega), v5 _ (by omega) (by omega) (by omega) (by omega) (by omega)]) (by rw [x6 _ (by omega) (by omega) (by omega) (by omega) (by omega), v5 _ (by omega) (by omega) (by omega) (by omega) (by omega)]) hT
  · obtain ⟨y, W2, k2, kF, kR⟩ := run V2 G hM (fun b hb => v2 b (by omega) (by omega) (by omega))
    have y0 : y = 0 := by
      rcases kR with ⟨h, -⟩ | ⟨h, -⟩
      · exact absurd h hz
      · exact h
    subst y0
    have cpy2 : cf_X4_copy Y W2 G (x + 105) (x + 104) = some (va_up W2 (x + 104) (mix 146 (W2 (x + 105)) (W2 (x + 104)))) := M_copy t2 t3 (MT_k1 hM) (MT_l1 hM) (by omega) W2
    have xn : ∀ b, b ≠ x + 104 → va_up W2 (x + 104) (mix 146 (W2 (x + 105)) (W2 (x + 104))) b = W2 b := fun b hb => va_up_ne _ _ hb
    have wn : ∀ b, b ≠ x + 105 → va_up V2 (x + 105) (mix 146 (V2 (x + 104)) (V2 (x + 105))) b = V2 b := fun b hb => va_up_ne _ _ hb
    have w2 : ∀ b, b ≠ x + 103 → b ≠ x + 109 → b ≠ x + 104 → b ≠ x + 105 → W2 b = V2 b := fun b h1 h2 h3 h4 => by rw [kF.1 b h1 (by omega) (by omega), wn b h4]
    refine ⟨-1000002, V2, G, va_up W2 (x + 104) (mix 146 (W2 (x + 105)) (W2 (x + 104))), by rw [pre, if_neg hz], ?_, GI_up hGI (fun b hb => ?_) ?_ ?_ ?_ (fun k hk => ?_) (TX_eq ?_ ?_ ?_ ?_ hT)⟩
    · rw [cf_X4_play, if_pos (MT_k hM), MT_g hM, Option.bind_some, t1, Option.bind_some, M_copy (MT_k1 hM) (MT_l1 hM) t2 t3 (by omega), Option.bind_some, show x + 103 + 1 = x + 104 from rfl, show x + 103 + 2 = x + 105 from rfl, k2, Option.bind_some, if_pos rfl, cpy2, Option.bind_some]
    · rw [xn _ (by omega), w2 _ (by omega) (by omega) (by omega) (by omega), v2 _ (by omega) (by omega) (by omega)]
    · rw [xn _ (by omega), w2 _ (by omega) (by omega) (by omega) (by omega), v2 _ (by omega) (by omega) (by omega)]
    · rw [xn _ (by omega), kF.2.2, wn _ (by omega), v2 _ (by omega) (by omega) (by omega)]
    · rw [xn _ (by omega), w2 _ (by omega) (by omega) (by omega) (by omega), v2 _ (by omega) (by omega) (by omega)]
    · rw [va_up_s, mix_lt _ _ _ hk, kF.1 (x + 105) (by omega) (by omega) (by omega), va_up_s, mix_lt _ _ _ hk, v2 _ (by omega) (by omega) (by omega)]
    · rw [xn _ (by omega), w2 _ (by omega) (by omega) (by omega) (by omega), f3.2, v1 _ (by omega)]
    · rw [xn _ (by omega), kF.2.1, wn _ (by omega), v2 _ (by omega) (by omega) (by omega)]
    · rw [xn _ (by omega), w2 _ (by omega) (by omega) (by omega) (by omega), v2 _ (by omega) (by omega) (by omega)]
    · rw [xn _ (by omega), w2 _ (by omega) (by omega) (by omega) (by omega), v2 _ (by omega) (by omega) (by omega)]
end CLS
