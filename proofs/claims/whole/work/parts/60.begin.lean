-- the state behind both constructors; the law's function
def lnT (k : Nat) : Nat := if k = 2 ∨ k = 16 ∨ k = 34 ∨ k = 48 ∨ k = 62 ∨ k = 76 ∨ k = 90 then 10 else if k = 3 ∨ k = 4 ∨ k = 17 ∨ k = 18 ∨ k = 35 ∨ k = 36 ∨ k = 49 ∨ k = 50 ∨ k = 63 ∨ k = 64 ∨ k = 77 ∨ k = 78 ∨ k = 91 ∨ k = 92 then 5 else if k = 29 ∨ k = 32 ∨ k = 109 then 4 else if k = 31 ∨ k = 108 then 80 else if k = 104 ∨ k = 105 ∨ k = 106 then 146 else if k = 107 then 584 else 0
theorem ln_at {x b k v : Nat} {l : Nat → Nat} (hl : l = fun b => lnT (b - x)) (hb : b = x + k) (hv : lnT k = v) : l b = v := by
  subst hb; subst hl; dsimp only; rw [Nat.add_sub_cancel_left]; exact hv
def q0_ : Nat → Nat := fun j => if j < 4 then j + 1 else 0
theorem q0_p : QP q0_ := by
  refine ⟨fun j hj => ?_, fun i j hi hj e => ?_⟩
  · unfold q0_; split <;> omega
  · unfold q0_ at e; split at e <;> split at e <;> omega
set_option maxHeartbeats 1000000 in
theorem I3 {x : Nat} {Y : mY} {V : mV} {G : mG} (h0 : Y.1 x = 3) (hl : Y.2 = fun b => lnT (b - x)) : ∃ Y' V' G', cf_X3_init (x + 1) Y V G x = some (x + 103, Y', V', G') ∧ Y'.2 = Y.2 ∧ Y'.1 x = 3 ∧ (G' x 0 = some (x + 1) ∧ G' x 1 = some (x + 15) ∧ G' x 2 = some (x + 29) ∧ G' x 3 = some (x + 30)) ∧ Y'.1 (x + 29) = 8 ∧ (PT Y' G' (x + 1) ∧ PT Y' G' (x + 15) ∧ ∀ k, k < 5 → PT Y' G' (x + 33 + 14 * k)) ∧ OT Y' G' (x + 30) ∧ GR x G' q0_ ∧ P0 V' (x + 1) ∧ V' x 5 = 0 ∧ V' (x + 30) 2 = 0 := by
  obtain ⟨Y1, V1, G1, e1, f1, k1, p1, g1, v1, w1⟩ := I2 (h := x + 1) (Y := (va_up Y.1 (x + 1) 2, Y.2)) (V := va_up V (x + 1) (fun _ => 0)) (G := va_up G (x + 1) (fun _ => none)) (va_up_s _ _ _) (ln_at (k := 2) hl (by omega) rfl) (ln_at (k := 3) hl (by omega) rfl) (ln_at (k := 4) hl (by omega) rfl)
  have hl1 : Y1.2 = fun b => lnT (b - x) := f1.trans hl
  obtain ⟨Y2, V2, G2, e2, f2, k2, p2, g2, v2, -⟩ := I2 (h := x + 15) (Y := (va_up Y1.1 (x + 15) 2, Y1.2)) (V := va_up V1 (x + 15) (fun _ => 0)) (G := va_up (up2 G1 x 0 (some (x + 1))) (x + 15) (fun _ => none)) (va_up_s _ _ _) (ln_at (k := 16) hl1 (by omega) rfl) (ln_at (k := 17) hl1 (by omega) rfl) (ln_at (k := 18) hl1 (by omega) rfl)
  have hl2 : Y2.2 = fun b => lnT (b - x) := f2.trans hl1
  obtain ⟨Y4, V4, G4, e4, f4, k4, p4, g4, v4, t4⟩ := I1 (o := x + 30) (Y := (va_up (va_up Y2.1 (x + 29) 8) (x + 30) 1, Y2.2)) (V := va_up V2 (x + 30) (fun _ => 0)) (G := va_up (up2 (va_up (up2 G2 x 1 (some (x + 15))) (x + 29) (fun _ => none)) x 2 (some (x + 29))) (x + 30) (fun _ => none)) (va_up_s _ _ _) (ln_at (k := 31) hl2 (by omega) rfl) (ln_at (k := 32) hl2 (by omega) rfl)
  have hl4 : Y4.2 = fun b => lnT (b - x) := f4.trans hl2
  obtain ⟨Y5, V5, G5, e5, f5, k5, p5, g5, v5, -⟩ := I2 (h := x + 33) (Y := (va_up Y4.1 (x + 33) 2, Y4.2)) (V := va_up V4 (x + 33) (fun _ => 0)) (G := va_up (up2 G4 x 3 (some (x + 30))) (x + 33) (fun _ => none)) (va_up_s _ _ _) (ln_at (k := 34) hl4 (by omega) rfl) (ln_at (k := 35) hl4 (by omega) rfl) (ln_at (k := 36) hl4 (by omega) rfl)
  have hl5 : Y5.2 = fun b => lnT (b - x) := f5.trans hl4
  -- kinds
  have a1 : ∀ b, b < x + 1 → Y1.1 b = Y.1 b := fun b hb => (k1 b (by omega)).trans (va_up_ne _ _ (by omega))
  have a2 : ∀ b, b < x + 15 → Y2.1 b = Y1.1 b := fun b hb => (k2 b (by omega)).trans (va_up_ne _ _ (by omega))
  have a4 : ∀ b, b < x + 29 → Y4.1 b = Y2.1 b := fun b hb => (k4 b (by omega)).trans (by dsimp only; rw [va_up_ne _ _ (by omega), va_up_ne _ _ (by omega)])
  have a29 : Y4.1 (x + 29) = 8 := (k4 _ (by omega)).trans (by dsimp only; rw [va_up_ne _ _ (by omega), va_up_s])
  have a5 : ∀ b, b < x + 33 → Y5.1 b = Y4.1 b := fun b hb => (k5 b (by omega)).trans (va_up_ne _ _ (by omega))
  have kx1 : Y1.1 x = 3 := (a1 x (by omega)).trans h0
  have kx2 : Y2.1 x = 3 := (a2 x (by omega)).trans kx1
  have kx4 : Y4.1 x = 3 := (a4 x (by omega)).trans kx2
  have kx5 : Y5.1 x = 3 := (a5 x (by omega)).trans kx4
  -- references
  have b2 : ∀ b, b < x + 15 → b ≠ x → G2 b = G1 b := fun b hb hn => (g2 b (by omega)).trans (by rw [va_up_ne _ _ (by omega), up2_n _ _ _ hn])
  have b4 : ∀ b, b < x + 29 → b ≠ x → G4 b = G2 b := fun b hb hn => (g4 b (by omega)).trans (by rw [va_up_ne _ _ (by omega), up2_n _ _ _ hn, va_up_ne _ _ (by omega), up2_n _ _ _ hn])
  have b5 : ∀ b, b < x + 33 → b ≠ x → G5 b = G4 b := fun b hb hn => (g5 b (by omega)).trans (by rw [va_up_ne _ _ (by omega), up2_n _ _ _ hn])
  have x2 : G2 x 0 = some (x + 1) := by rw [g2 x (by omega), va_up_ne _ _ (by omega), up2_ss]
  have x4 : G4 x = up2 (va_up (up2 G2 x 1 (some (x + 15))) (x + 29) (fun _ => none)) x 2 (some (x + 29)) x := (g4 x (by omega)).trans (va_up_ne _ _ (by omega))
  have x5 : G5 x = up2 G4 x 3 (some (x + 30)) x := (g5 x (by omega)).trans (va_up_ne _ _ (by omega))
  have y52 : G5 x 2 = some (x + 29) := by rw [x5, up2_sn _ _ _ (by omega), x4, up2_ss]
  have y51 : G5 x 1 = some (x + 15) := by rw [x5, up2_sn _ _ _ (by omega), x4, up2_sn _ _ _ (by omega), va_up_ne _ _ (by omega), up2_ss]
  have y50 : G5 x 0 = some (x + 1) := by rw [x5, up2_sn _ _ _ (by omega), x4, up2_sn _ _ _ (by omega), va_up_ne _ _ (by omega), up2_sn _ _ _ (by omega), x2]
  have y53 : G5 x 3 = some (x + 30) := by rw [x5, up2_ss]
  obtain ⟨Y6, V6, G6, e6, f6, k6, g6, v6, p6, -⟩ := I63 (x := x) 4 0 fuB Y5 (up2 V5 x 5 0) (up2 G5 x 4 (some (x + 33))) (by omega) (fuB_gt (by omega)) kx5 (by rw [up2_sn _ _ _ (by omega)]; exact y52) ((a5 _ (by omega)).trans a29) (ln_at (k := 29) hl5 (by omega) rfl) (fun i hi => by
    rcases (show i = 0 ∨ i = 1 ∨ i = 2 ∨ i = 3 by omega) with e | e | e | e <;> subst e
    · exact ⟨ln_at (k := 48) hl5 (by omega) rfl, ln_at (k := 49) hl5 (by omega) rfl, ln_at (k := 50) hl5 (by omega) rfl⟩
    · exact ⟨ln_at (k := 62) hl5 (by omega) rfl, ln_at (k := 63) hl5 (by omega) rfl, ln_at (k := 64) hl5 (by omega) rfl⟩
    · exact ⟨ln_at (k := 76) hl5 (by omega) rfl, ln_at (k := 77) hl5 (by omega) rfl, ln_at (k := 78) hl5 (by omega) rfl⟩
    · exact ⟨ln_at (k := 90) hl5 (by omega) rfl, ln_at (k := 91) hl5 (by omega) rfl, ln_at (k := 92) hl5 (by omega) rfl⟩)
  have z6 : ∀ b, b < x + 47 → b ≠ x → b ≠ x + 29 → G6 b = G5 b := fun b hb h1 h2 => (g6 b (by omega) h2).trans (up2_n _ _ _ h1)
  have zx : G6 x = up2 G5 x 4 (some (x + 33)) x := g6 x (by omega) (by omega)
  refine ⟨Y6, V6, G6, ?_, (f6.trans hl5).trans hl.symm, (k6 x (by omega)).trans kx5, ⟨by rw [zx, up2_sn _ _ _ (by omega)]; exact y50, by rw [zx, up2_sn _ _ _ (by omega)]; exact y51, by rw [zx, up2_sn _ _ _ (by omega)]; exact y52, by rw [zx, up2_sn _ _ _ (by omega)]; exact y53⟩, (k6 _ (by omega)).trans ((a5 _ (by omega)).trans a29), ⟨?_, ?_, fun k hk => ?_⟩, ?_, ⟨?_, fun j hj => ?_⟩, ?_, ?_, ?_⟩
  · have e1 : cf_X2_init (x + 1 + 1) (va_up Y.1 (x + 1) 2, Y.2) (va_up V (x + 1) (fun _ => 0)) (va_up G (x + 1) (fun _ => none)) (x + 1) = some (x + 15, Y1, V1, G1) := e1
    have e2 : cf_X2_init (x + 15 + 1) (va_up Y1.1 (x + 15) 2, Y1.2) (va_up V1 (x + 15) (fun _ => 0)) (va_up (up2 G1 x 0 (some (x + 1))) (x + 15) (fun _ => none)) (x + 15) = some (x + 29, Y2, V2, G2) := e2
    have e4 : cf_X1_init (x + 29 + 1 + 1) (va_up (va_up Y2.1 (x + 29) 8, Y2.2).1 (x + 29 + 1) 1, (va_up Y2.1 (x + 29) 8, Y2.2).2) (va_up V2 (x + 29 + 1) (fun _ => 0)) (va_up (up2 (va_up (up2 G2 x 1 (some (x + 15))) (x + 29) (fun _ => none)) x 2 (some (x + 29))) (x + 29 + 1) (fun _ => none)) (x + 29 + 1) = some (x + 33, Y4, V4, G4) := e4
    have e5 : cf_X2_init (x + 33 + 1) (va_up Y4.1 (x + 33) 2, Y4.2) (va_up V4 (x + 33) (fun _ => 0)) (va_up (up2 G4 x 3 (some (x + 29 + 1))) (x + 33) (fun _ => none)) (x + 33) = some (x + 47, Y5, V5, G5) := e5
    rw [cf_X3_init, if_pos (show 0 + 1 ≤ 102 by omega), if_pos (show 0 + 1 + 13 ≤ 102 by omega), e1, Option.bind_some]
    dsimp only
    rw [if_pos kx1, if_pos (show 0 + 1 + 13 + 1 ≤ 102 by omega), if_pos (show 0 + 1 + 13 + 1 + 13 ≤ 102 by omega), e2, Option.bind_some]
    dsimp only
    rw [if_pos kx2, if_pos (show 0 + 1 + 13 + 1 + 13 + 1 ≤ 102 by omega), if_pos (show ¬ (4 : Int32) < 0 by decide), if_pos (show Y2.2 (x + 29) = (4 : Int32).toNatClampNeg from ln_at (k := 29) hl2 (by omega) rfl), if_pos (show (4 : Int32).toNatClampNeg ≤ 600 by decide), if_pos (show va_up Y2.1 (x + 29) 8 x = 3 by rw [va_up_ne _ _ (by omega)]; exact kx2), if_pos (show 0 + 1 + 13 + 1 + 13 + 1 + 1 ≤ 102 by omega), Option.bind_some, if_pos (show 0 + 1 + 13 + 1 + 13 + 1 + 1 + 2 ≤ 102 by omega), e4, Option.bind_some]
    dsimp only
    rw [if_pos kx4, if_pos (show 0 + 1 + 13 + 1 + 13 + 1 + 1 + 2 + 1 ≤ 102 by omega), if_pos (show 0 + 1 + 13 + 1 + 13 + 1 + 1 + 2 + 1 + 13 ≤ 102 by omega), e5, Option.bind_some]
    dsimp only
    rw [if_pos kx5]
    exact e6
  · exact PT_eq (fun j hj => (k6 _ (by omega)).trans ((a5 _ (by omega)).trans ((a4 _ (by omega)).trans (a2 _ (by omega))))) (f6.trans (hl5.trans hl1.symm)) (by rw [z6 _ (by omega) (by omega) (by omega), b5 _ (by omega) (by omega), b4 _ (by omega) (by omega), b2 _ (by omega) (by omega)]) (by rw [z6 _ (by omega) (by omega) (by omega), b5 _ (by omega) (by omega), b4 _ (by omega) (by omega), b2 _ (by omega) (by omega)]) p1
  · exact PT_eq (fun j hj => (k6 _ (by omega)).trans ((a5 _ (by omega)).trans (a4 _ (by omega)))) (f6.trans (hl5.trans hl2.symm)) (by rw [z6 _ (by omega) (by omega) (by omega), b5 _ (by omega) (by omega), b4 _ (by omega) (by omega)]) (by rw [z6 _ (by omega) (by omega) (by omega), b5 _ (by omega) (by omega), b4 _ (by omega) (by omega)]) p2
  · cases k with
    | zero => exact PT_eq (fun j hj => k6 _ (by omega)) f6 (by rw [z6 _ (by omega) (by omega) (by omega)]) (by rw [z6 _ (by omega) (by omega) (by omega)]) p5
    | succ k =>
      have := (p6 k (by omega) (by omega)).1
      rwa [show x + 47 + 14 * k = x + 33 + 14 * (k + 1) by omega] at this
  · obtain ⟨o1, o2, o3, o4, o5, o6, o7⟩ := p4
    have gg : G6 (x + 30) = G4 (x + 30) := by rw [z6 _ (by omega) (by omega) (by omega), b5 _ (by omega) (by omega)]
    have kk : ∀ b, x + 30 ≤ b → b < x + 33 → Y6.1 b = Y4.1 b := fun b h1 h2 => (k6 _ (by omega)).trans (a5 _ (by omega))
    have ll : Y6.2 = Y4.2 := f6.trans (hl5.trans hl4.symm)
    exact ⟨(kk _ (by omega) (by omega)).trans o1, by rw [gg]; exact o2, by rw [gg]; exact o3, (kk _ (by omega) (by omega)).trans o4, by rw [ll]; exact o5, (kk _ (by omega) (by omega)).trans o6, by rw [ll]; exact o7⟩
  · rw [zx, up2_ss]; rfl
  · have := (p6 j (by omega) hj).2
    rw [this]; unfold q0_; rw [if_pos hj]; congr 1; omega
  · obtain ⟨w3, w4, w5, w6, w7, w8, ws⟩ := w1
    have vv6 : ∀ b, x + 1 ≤ b → b < x + 15 → V6 b = V1 b := fun b h1 h2 => by
      rw [v6 b (by omega), up2_n _ _ _ (by omega), v5 b (by omega), va_up_ne _ _ (by omega), v4 b (by omega), va_up_ne _ _ (by omega), v2 b (by omega), va_up_ne _ _ (by omega)]
    unfold P0
    rw [vv6 (x + 1) (by omega) (by omega), vv6 (x + 1 + 2) (by omega) (by omega), vv6 (x + 1 + 3) (by omega) (by omega)]
    exact ⟨w3, w4, w5, w6, w7, w8, ws⟩
  · rw [v6 x (by omega), up2_ss]
  · rw [v6 _ (by omega), up2_n _ _ _ (by omega), v5 _ (by omega), va_up_ne _ _ (by omega)]; exact t4
theorem law_one {L : Nat} {xs : Nat → Int32} (hL : L ≤ 2560) {x : Nat} {Y : mY} {V : mV} {G : mG} (hl : Y.2 = fun b => lnT (b - x)) : cf_L_law L xs x Y V G = some 1 := by
  obtain ⟨Y6, V6, G6, e6, f6, kx, ⟨x0, x1, x2, x3⟩, k29, ⟨p1, p2, pk⟩, o30, gr, ⟨w3, w4, w5, w6, w7, w8, ws⟩, v5, t2⟩ := I3 (x := x) (Y := (va_up Y.1 x 3, Y.2)) (V := va_up V x (fun _ => 0)) (G := va_up G x (fun _ => none)) (va_up_s _ _ _) hl
  have hl6 : Y6.2 = fun b => lnT (b - x) := f6.trans hl
  obtain ⟨Y7, V7, G7, e7, f7, k7, hM, g7, v7, a0, a1, a2, a3, a4, a5, ab⟩ := I4 (m := x + 103) (Y := (va_up Y6.1 (x + 103) 4, Y6.2)) (V := va_up V6 (x + 103) (fun _ => 0)) (G := va_up G6 (x + 103) (fun _ => none)) (va_up_s _ _ _) (ln_at (k := 104) hl6 (by omega) rfl) (ln_at (k := 105) hl6 (by omega) rfl) (ln_at (k := 106) hl6 (by omega) rfl) (ln_at (k := 107) hl6 (by omega) rfl) (ln_at (k := 108) hl6 (by omega) rfl) (ln_at (k := 109) hl6 (by omega) rfl)
  have kk : ∀ b, b < x + 103 → Y7.1 b = Y6.1 b := fun b hb => (k7 b (by omega)).trans (va_up_ne _ _ (by omega))
  have gg : ∀ b, b < x + 103 → G7 b = G6 b := fun b hb => (g7 b (by omega)).trans (va_up_ne _ _ (by omega))
  have vv : ∀ b, b < x + 103 → V7 b = V6 b := fun b hb => (v7 b (by omega)).trans (va_up_ne _ _ (by omega))
  have vm : V7 (x + 103) = fun _ => 0 := (v7 _ (by omega)).trans (va_up_s _ _ _)
  have ll : Y7.2 = Y6.2 := f7
  have pt : ∀ h, h + 14 ≤ x + 103 → PT Y6 G6 h → PT Y7 G7 h := fun h hh p => PT_eq (fun j hj => kk _ (by omega)) ll (gg _ (by omega)) (gg _ (by omega)) p
  have hGI : GI x Y7 V7 G7 := by
    refine ⟨⟨⟨(kk x (by omega)).trans kx, by rw [gg x (by omega)]; exact x0, by rw [gg x (by omega)]; exact x1, by rw [gg x (by omega)]; exact x2, by rw [gg x (by omega)]; exact x3⟩, ⟨(kk _ (by omega)).trans k29, by rw [ll]; exact ln_at (k := 29) hl6 (by omega) rfl⟩, ⟨pt _ (by omega) p1, pt _ (by omega) p2, fun k hk => pt _ (by omega) (pk k hk)⟩, ?_, hM⟩, ⟨q0_, q0_p, ⟨by rw [gg x (by omega)]; exact gr.1, fun j hj => by rw [gg _ (by omega)]; exact gr.2 j hj⟩, 0, by omega, by rw [vv x (by omega)]; exact v5, by rw [vm]; rfl, fun j hj => absurd hj (by omega)⟩, ⟨0, ⟨by rw [vv _ (by omega)]; exact w3, ?_, ?_, ?_, ?_, ?_, fun k hk => ?_, fun i hi => absurd hi (by omega)⟩, ⟨by omega, a1, fun i hi => absurd hi (by omega)⟩, ⟨0, by omega, a0, fun k hk => Or.inl (ab k hk), fun i hi => absurd hi (by omega)⟩, ⟨56, by omega, a2⟩, ⟨100, by omega, a3⟩, fun i hi => absurd hi (by omega)⟩, ⟨0, by omega, by rw [vv _ (by omega)]; exact t2, by rw [vm]; rfl, fun k hk => absurd hk (by omega)⟩⟩
    · obtain ⟨o1, o2, o3, o4, o5, o6, o7⟩ := o30
      exact ⟨(kk _ (by omega)).trans o1, by rw [gg _ (by omega)]; exact o2, by rw [gg _ (by omega)]; exact o3, (kk _ (by omega)).trans o4, by rw [ll]; exact o5, (kk _ (by omega)).trans o6, by rw [ll]; exact o7⟩
    · rw [vv _ (by omega), w4]; exact a0.symm
    · rw [vv _ (by omega), w5]; exact a4.symm
    · rw [vv _ (by omega), w6]; exact a5.symm
    · rw [vv _ (by omega), w7]; exact a2.symm
    · rw [vv _ (by omega), w8]; exact a3.symm
    · rw [vv (x + 1 + 2) (by omega), vv (x + 1 + 3) (by omega), (ws k hk).1, (ws k hk).2]
      exact ⟨(ab k hk).1.symm, (ab k hk).2.symm⟩
  rw [cf_L_law, if_pos (show 0 + 1 ≤ 200 by omega), if_pos (show 0 + 1 + 102 ≤ 200 by omega), e6, Option.bind_some]
  dsimp only
  rw [if_pos (show 0 + 1 + 102 + 1 ≤ 200 by omega), if_pos (show 0 + 1 + 102 + 1 + 6 ≤ 200 by omega), e7, Option.bind_some]
  exact law_lp hL 2560 0 fuB V7 G7 (by omega) (by omega) (fuB_gt (by omega)) hGI
