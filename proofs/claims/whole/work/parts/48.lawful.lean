-- forecasts: when a stage could be begun without a breach
def GD (r : Nat → Int32) : Prop := RS r ∧ r 0 = 0 ∧ ¬ r 8 = 1 ∧ ¬ r 12 = 1
theorem GD_day {a r : Nat → Int32} (h : GD r) : GD (rday a r) := by
  obtain ⟨h1, h2, h3, h4⟩ := h
  refine ⟨RS_day h1, by rw [day_s _ _ (by omega)]; exact h2, fun z => h3 (day_8 _ _ h2 z), fun z => ?_⟩
  rcases day_12 _ _ z with q | q
  · exact h3 q
  · exact h4 q
theorem GD_met {a r : Nat → Int32} (h : GD r) (hm : met r = true) : met (rday a r) = true := by
  obtain ⟨⟨⟨p, p1, p6, e3, ⟨x, hx, e4⟩, ⟨y, hy, e5⟩⟩, -, -⟩, h0, -, -⟩ := h
  have n2 : ¬ r 0 = 2 := by rw [h0]; decide
  unfold met at hm ⊢
  rw [day_s _ _ (by omega), day_s _ _ (show 3 < 4 by omega), if_neg n2]
  rw [if_neg n2] at hm
  have pl : 2 ^ p ≤ 64 := Nat.pow_le_pow_right (n := 2) (by omega) p6
  have e := of_decide_eq_true hm
  rw [e3, (psh p (by omega)).1, (psh p (by omega)).2] at e ⊢
  rw [e4] at e
  have ex := (nI_eq (by omega) (by omega)).mp e
  refine decide_eq_true ?_
  rcases day_4 a r with q | q
  · rw [q, e4, ex]
  · rw [q, e4, e5, nI_or]
    have h1 := or_pow hx hy
    have h2 : x ≤ x ||| y := Nat.left_le_or
    congr 1; omega
theorem GD_rd {a r : Nat → Int32} (h : GD r) : ∀ k, GD (rd a k r)
  | 0 => h
  | k + 1 => by rw [rd_s]; exact GD_day (GD_rd h k)
theorem GD_mono {a r : Nat → Int32} (h : GD r) {k : Nat} (hk : met (rd a k r) = true) : ∀ d, met (rd a (k + d) r) = true
  | 0 => hk
  | d + 1 => by rw [show k + (d + 1) = k + d + 1 from rfl, rd_s]; exact GD_met (GD_rd h _) (GD_mono h hk d)
theorem GD_le {a r : Nat → Int32} (h : GD r) {k l : Nat} (hk : met (rd a k r) = true) (hl : k ≤ l) : met (rd a l r) = true := by
  have := GD_mono h hk (l - k); rwa [show k + (l - k) = l by omega] at this
theorem GD_st {a r : Nat → Int32} (h : GD r) : sst a r = 2 ↔ met r = true := by
  unfold sst
  rw [if_neg h.2.2.2, if_neg h.2.2.1]
  cases met r
  · constructor
    · intro q
      by_cases z : slp a r = true
      · rw [if_neg (by decide), if_pos z] at q; exact absurd q (by decide)
      · rw [if_neg (by decide), if_neg z] at q; exact absurd q (by decide)
    · intro q; cases q
  · simp
def allM (a : Nat → Int32) (p : Nat → Bool) (i k : Nat) : Prop := ∀ j, j < i → p j = true → met (rd a k (rc a j)) = true
def lwR (a : Nat → Int32) (p : Nat → Bool) (N : Nat) (res : Int32) : Prop := (∃ M, M ≤ 400 ∧ res = nI M ∧ allM a p N M ∧ ∀ k, k < M → ¬ allM a p N k) ∨ (res = -1000004 ∧ ∀ k, k ≤ 400 → ¬ allM a p N k)
theorem lwR_eq {a : Nat → Int32} {p : Nat → Bool} {N : Nat} {r s : Int32} (h1 : lwR a p N r) (h2 : lwR a p N s) : r = s := by
  rcases h1 with ⟨M, hM, e, hA, hn⟩ | ⟨e, hn⟩ <;> rcases h2 with ⟨M2, hM2, e2, hA2, hn2⟩ | ⟨e2, hn2⟩
  · have : M = M2 := by
      rcases Nat.lt_trichotomy M M2 with q | q | q
      · exact absurd hA (hn2 _ q)
      · exact q
      · exact absurd hA2 (hn _ q)
    rw [e, e2, this]
  · exact absurd hA (hn2 _ hM)
  · exact absurd hA2 (hn _ hM2)
  · rw [e, e2]
theorem mN_0 {p : Nat → Bool} : ∀ {n : Nat}, (∀ i, i < n → p i = false) → mN p n = 0
  | 0, _ => rfl
  | n + 1, h => by rw [mN, mN_0 (fun i hi => h i (by omega)), h n (by omega)]; simp
theorem mN_z {p : Nat → Bool} {N : Nat} (hN : N ≤ 10) : nI (mN p N) = 0 ↔ ∀ i, i < N → p i = false := by
  have lt := mN_1024 p hN
  constructor
  · intro h i hi
    have e := (nI_eq (a := mN p N) (b := 0) (by omega) (by omega)).mp h
    have b := mN_bit p hi
    rw [e] at b
    simpa using b.symm
  · intro h; rw [mN_0 h]; rfl
section CLS
variable {Y : mY} {G : mG} {h m x : Nat}
theorem L_lp (hP : PT Y G h) {N : Nat} (hN : N ≤ 10) {a : Nat → Int32} {p : Nat → Bool} (b1 : Int32) (hrow : ∀ i, i < N → RF (rc a i) ∧ okr (rc a i)) (hp : ∀ i, i < N → p i = true → GD (rc a i)) : ∀ (n i fuel : Nat) (V : mV) (M : Nat), i + n = N → n < fuel → V h 3 = nI N → stP V h a → V h 7 = a 2 → V h 8 = a 3 → (∀ j, i ≤ j → j < N → CM (V (h + 4 + j)) (rc a j)) → M ≤ 400 → allM a p i M → (∀ k, k < M → ¬ allM a p i k) → ∃ res V', lp_X2_daysUntilLawful_11 Y G fuel V h b1 (nI (mN p N)) (nI M) (nI i) = some (res, V') ∧ sO V' V h ∧ lwR a p N res
  | 0, i, fuel, V, M, hi, hf, h3, hst, h7, h8, hc, hM, hA, hn => by
      obtain ⟨f, rfl⟩ : ∃ f, fuel = f + 1 := ⟨fuel - 1, by omega⟩
      obtain rfl : i = N := by omega
      exact ⟨nI M, V, by rw [lp_X2_daysUntilLawful_11, if_pos hP.1, h3, if_pos (Int32.le_refl _)], sO_rf _ _, Or.inl ⟨M, hM, rfl, hA, hn⟩⟩
  | n + 1, i, fuel, V, M, hi, hf, h3, hst, h7, h8, hc, hM, hA, hn => by
      obtain ⟨f, rfl⟩ : ∃ f, fuel = f + 1 := ⟨fuel - 1, by omega⟩
      have hiN : i < N := by omega
      have lt : ¬ nI N ≤ nI i := le_nI (by omega) (by omega)
      cases ep : p i
      · obtain ⟨res, V', e, o, r⟩ := L_lp hP hN b1 hrow hp n (i + 1) f V M (by omega) (by omega) h3 hst h7 h8 (fun j h1 h2 => hc j (by omega) h2) hM (fun j hj q => by
          by_cases z : j = i
          · subst z; rw [ep] at q; cases q
          · exact hA j (by omega) q) (fun k hk q => hn k hk (fun j hj => q j (by omega)))
        exact ⟨res, V', by rw [lp_X2_daysUntilLawful_11, if_pos hP.1, h3, if_neg lt, if_pos ((mk_and hN hiN).mpr ep), ← nI_succ]; exact e, o, r⟩
      · have hg := hp i hiN ep
        have nb : ¬ (nI (mN p N) &&& ((1 : Int32) <<< (nI i &&& 31))) = 0 := fun q => by rw [(mk_and hN hiN).mp q] at ep; cases ep
        obtain ⟨V1, e1, s1, q3, q7, q8⟩ := C_until hP hN hiN (2 : Int32) h3 hst (hc i (by omega) hiN) (hrow i hiN).1 (hrow i hiN).2 h7 h8
        have o1 : sO V1 V h := fun b hb => s1 b (by omega) (by omega)
        rcases fw_spec a 2 401 0 (rc a i) with ⟨d, hd, ed, hs, hnd⟩ | ⟨ed, hnd⟩
        · rw [show 0 + d = d by omega] at ed
          rw [ed] at e1
          have md : met (rd a d (rc a i)) = true := (GD_st (GD_rd hg d)).mp hs
          have nmd : ∀ k, k < d → ¬ met (rd a k (rc a i)) = true := fun k hk q => hnd k hk ((GD_st (GD_rd hg k)).mpr q)
          have ne : ¬ nI d = -1000004 := fun z => absurd (show (0 : Int32) ≤ nI d from nI_pos' (by omega)) (by rw [z]; decide)
          have mx : (if nI M < nI d then nI d else nI M) = nI (if M < d then d else M) := by
            by_cases q : M < d
            · rw [if_pos q, if_pos ((nI_ltI (by omega) (by omega)).mpr q)]
            · rw [if_neg q, if_neg (fun z => q ((nI_ltI (by omega) (by omega)).mp z))]
          obtain ⟨res, V', e, o, r⟩ := L_lp hP hN b1 hrow hp n (i + 1) f V1 (if M < d then d else M) (by omega) (by omega) (q3.trans h3) (stP_of hst s1 (by omega) (by omega)) (q7.trans h7) (q8.trans h8) (fun j h1 h2 => by rw [s1 _ (by omega) (by omega)]; exact hc j (by omega) h2) (by split <;> omega) (fun j hj q => by
            by_cases z : j = i
            · subst z; exact GD_le hg md (by split <;> omega)
            · exact GD_le (hp j (by omega) q) (hA j (by omega) q) (by split <;> omega)) (fun k hk q => by
            by_cases z : k < M
            · exact hn k z (fun j hj => q j (by omega))
            · exact nmd k (by split at hk <;> omega) (q i (by omega) ep))
          refine ⟨res, V', ?_, sO_tr o o1, r⟩
          rw [lp_X2_daysUntilLawful_11, if_pos hP.1, h3, if_neg lt, if_neg nb, e1, Option.bind_some]
          dsimp only
          rw [if_neg ne, mx, ← nI_succ]
          exact e
        · rw [ed] at e1
          refine ⟨-1000004, V1, ?_, o1, Or.inr ⟨rfl, fun k hk q => hnd k (by omega) ((GD_st (GD_rd hg k)).mpr (q i hiN ep))⟩⟩
          rw [lp_X2_daysUntilLawful_11, if_pos hP.1, h3, if_neg lt, if_neg nb, e1, Option.bind_some]
          exact if_pos rfl
theorem ML_lp (hM : MT Y G m) {N : Nat} {a : Nat → Int32} {p : Nat → Bool} (b1 : Int32) (hp : ∀ i, i < N → p i = true → GD (rc a i)) (hpb : ∀ j b, AI N b → (∀ i, i < N → rc b i = rd a j (rc a i)) → ((∀ i, i < N → pUn b b1 i = false) ↔ allM a p N j)) : ∀ (n j fuel : Nat) (W : mV) (b : Nat → Int32), j + n = 400 → n < fuel → W (m + 1) = b → AI N b → b 2 = a 2 → b 3 = a 3 → (∀ j, 6 ≤ j → j < 16 → b j = a j) → (∀ i, i < N → rc b i = rd a j (rc a i)) → (∀ k, k < j → ¬ allM a p N k) → ∃ res W', lp_X4_lawful_34 Y G fuel W m b1 (nI j) = some (res, W') ∧ lwR a p N res ∧ (∀ c, c ≠ m + 1 → W' c = W c) ∧ ∀ k, k < 146 → W' (m + 1) k = W (m + 3) k
  | 0, j, fuel, W, b, hj, hf, hb, hA, h2, h3, hh, hr, hn => by
      obtain ⟨f, rfl⟩ : ∃ f, fuel = f + 1 := ⟨fuel - 1, by omega⟩
      obtain rfl : j = 400 := by omega
      obtain ⟨t1, t2, t3⟩ := MT_3 hM
      have uu : cf_X4_unmetAhead Y W G m b1 = some (nI (mN (pUn b b1) N)) := by
        have := M_unmet hM (V := W) (N := N) (by rw [hb]; exact hA) b1
        rwa [hb] at this
      have z := (mN_z (p := pUn b b1) hA.1).trans (hpb 400 b hA hr)
      by_cases e : nI (mN (pUn b b1) N) = 0
      · refine ⟨nI 400, va_up W (m + 1) (mix 146 (W (m + 3)) (W (m + 1))), ?_, Or.inl ⟨400, by omega, rfl, z.mp e, hn⟩, fun c hc => va_up_ne _ _ hc, fun k hk => by rw [va_up_s, mix_lt _ _ _ hk]⟩
        rw [lp_X4_lawful_34, if_pos (show (400 : Int32) ≤ nI 400 by decide), if_pos (MT_k hM), uu, Option.bind_some, if_pos e, t1, Option.bind_some, MT_g hM, Option.bind_some, M_copy t2 t3 (MT_k1 hM) (MT_l1 hM) (by omega), Option.bind_some]
      · refine ⟨-1000004, va_up W (m + 1) (mix 146 (W (m + 3)) (W (m + 1))), ?_, Or.inr ⟨rfl, fun k hk => ?_⟩, fun c hc => va_up_ne _ _ hc, fun k hk => by rw [va_up_s, mix_lt _ _ _ hk]⟩
        · rw [lp_X4_lawful_34, if_pos (show (400 : Int32) ≤ nI 400 by decide), if_pos (MT_k hM), uu, Option.bind_some, if_neg e, t1, Option.bind_some, MT_g hM, Option.bind_some, M_copy t2 t3 (MT_k1 hM) (MT_l1 hM) (by omega), Option.bind_some]
        · by_cases q : k = 400
          · subst q; exact fun w => e (z.mpr w)
          · exact hn k (by omega)
  | n + 1, j, fuel, W, b, hj, hf, hb, hA, h2, h3, hh, hr, hn => by
      obtain ⟨f, rfl⟩ : ∃ f, fuel = f + 1 := ⟨fuel - 1, by omega⟩
      obtain ⟨t1, t2, t3⟩ := MT_3 hM
      have lt : ¬ (400 : Int32) ≤ nI j := le_nI (a := 400) (b := j) (by omega) (by decide)
      have uu : cf_X4_unmetAhead Y W G m b1 = some (nI (mN (pUn b b1) N)) := by
        have := M_unmet hM (V := W) (N := N) (by rw [hb]; exact hA) b1
        rwa [hb] at this
      have z := (mN_z (p := pUn b b1) hA.1).trans (hpb j b hA hr)
      by_cases e : nI (mN (pUn b b1) N) = 0
      · refine ⟨nI j, va_up W (m + 1) (mix 146 (W (m + 3)) (W (m + 1))), ?_, Or.inl ⟨j, by omega, rfl, z.mp e, hn⟩, fun c hc => va_up_ne _ _ hc, fun k hk => by rw [va_up_s, mix_lt _ _ _ hk]⟩
        rw [lp_X4_lawful_34, if_neg lt, if_pos (MT_k hM), uu, Option.bind_some, if_pos e, Option.bind_some, if_pos e, t1, Option.bind_some, MT_g hM, Option.bind_some, M_copy t2 t3 (MT_k1 hM) (MT_l1 hM) (by omega), Option.bind_some]
      · obtain ⟨b', e1, A1, q2, q3, qh, qr⟩ := M_day hM hb hA h2 h3 hh
        obtain ⟨res, W', e2, r, o2, k2⟩ := ML_lp hM b1 hp hpb n (j + 1) f (va_up W (m + 1) b') b' (by omega) (by omega) (va_up_s _ _ _) A1 q2 q3 qh (fun i hi => by rw [qr i hi, hr i hi, rd_s]) (fun k hk => by
          by_cases q : k = j
          · subst q; exact fun w => e (z.mpr w)
          · exact hn k (by omega))
        refine ⟨res, W', ?_, r, fun c hc => by rw [o2 c hc, va_up_ne _ _ hc], fun k hk => by rw [k2 k hk, va_up_ne _ _ (by omega)]⟩
        rw [lp_X4_lawful_34, if_neg lt, if_pos (MT_k hM), uu, Option.bind_some, if_neg e, e1, Option.bind_some, ← nI_succ, e2]
theorem rd_low (a r : Nat → Int32) {k : Nat} (hk : k < 4) : ∀ j, rd a j r k = r k
  | 0 => rfl
  | j + 1 => by rw [rd_s, day_s _ _ hk]; exact rd_low a r hk j
theorem P_lawful {V : mV} (hGI : GI x Y V G) (b1 : Int32) : ∃ r V1 V2, cf_X3_lawful Y V G x b1 = some (r, V1) ∧ cf_X4_lawful Y V1 G (x + 103) b1 = some (r, V2) ∧ GI x Y V2 G := by
  obtain ⟨⟨⟨a0, a1, a2, a3, a4⟩, -, ⟨c1, c2, -⟩, -, hM⟩, -, ⟨N, hm, hs'⟩, hT⟩ := id hGI
  obtain ⟨hN, ha1, hrow⟩ := id hs'.1
  obtain ⟨m3, m4, m5, m6, m7, m8, mst, mc⟩ := id hm
  cases ev : wi b1 0 4
  · exact ⟨-1000001, V, V, by rw [cf_X3_lawful, C_in, ev]; rfl, by rw [cf_X4_lawful, M_isStage, ev]; rfl, hGI⟩
  · obtain ⟨t, -, ht, rfl⟩ := wi_num (lo := 0) (hi := 4) (by omega) (by omega) ev
    have ht5 : t < 5 := by omega
    have ct : (nI t).toNatClampNeg = t := nI_clamp (by omega)
    cases em : mayB (V (x + 104)) t
    · exact ⟨-1000002, V, V, by rw [cf_X3_lawful, C_in, ev, Option.bind_some, bi_1, if_neg (by decide), if_pos a0, a1, Option.bind_some, if_pos c1.1, C_canB c1 V mst ht5, em]; rfl, by rw [cf_X4_lawful, M_isStage, ev, Option.bind_some, bi_1, if_neg (by decide), if_pos (MT_k hM), M_mayB hM V ht5, show V (x + 103 + 1) = V (x + 104) from rfl, em]; rfl, hGI⟩
    · have un : V (x + 104) (6 + t) = -1 := by
        unfold mayB at em
        simp only [Bool.and_eq_true, decide_eq_true_eq] at em
        exact em.1
      have hgd : ∀ i, i < N → rc (V (x + 104)) i 0 = 0 → rc (V (x + 104)) i 1 = nI t → GD (rc (V (x + 104)) i) := by
        intro i hi k0 k1
        have li := (hs'.2.2.2.2 i hi).2 k0
        rw [k1, ct] at li
        exact ⟨(hs'.2.2.2.2 i hi).1, k0, fun z => li (Or.inl z) un, fun z => li (Or.inr z) un⟩
      have hp : ∀ i, i < N → pUn (V (x + 104)) (nI t) i = true → GD (rc (V (x + 104)) i) := by
        intro i hi q
        unfold pUn at q
        simp only [Bool.and_eq_true, decide_eq_true_eq] at q
        exact hgd i hi q.1 q.2.1
      have hpb : ∀ j b, AI N b → (∀ i, i < N → rc b i = rd (V (x + 104)) j (rc (V (x + 104)) i)) → ((∀ i, i < N → pUn b (nI t) i = false) ↔ allM (V (x + 104)) (pUn (V (x + 104)) (nI t)) N j) := by
        intro j b _ hr
        have key : ∀ i, i < N → (pUn b (nI t) i = false ↔ (pUn (V (x + 104)) (nI t) i = true → met (rd (V (x + 104)) j (rc (V (x + 104)) i)) = true)) := by
          intro i hi
          unfold pUn
          rw [hr i hi, rd_low _ _ (by omega), rd_low _ _ (by omega)]
          by_cases k0 : rc (V (x + 104)) i 0 = 0
          · by_cases k1 : rc (V (x + 104)) i 1 = nI t
            · simp only [k0, k1, decide_true, Bool.true_and]
              have g := hgd i hi k0 k1
              cases e0 : met (rc (V (x + 104)) i)
              · simp
              · have := GD_le (a := V (x + 104)) g (k := 0) (l := j) e0 (by omega)
                simp [this]
            · simp [k1]
          · simp [k0]
        exact ⟨fun h i hi => (key i hi).mp (h i hi), fun h i hi => (key i hi).mpr (h i hi)⟩
      obtain ⟨V1, e1, p1, o1⟩ := C_copy (g := x + 15) (h := x + 1) c2 c1 (by omega) hs'.1 hm
      obtain ⟨res, V2, e2, o2, r2⟩ := L_lp c2 hN (a := V (x + 104)) (p := pUn (V (x + 104)) (nI t)) (nI t) hrow hp N 0 fuB V1 0 (by omega) (fuB_gt (by omega)) p1.1 p1.2.2.2.2.2.2.1 p1.2.2.2.2.1 p1.2.2.2.2.2.1 (fun j _ hj => p1.2.2.2.2.2.2.2 j hj) (by omega) (fun j hj => absurd hj (by omega)) (fun k hk => absurd hk (by omega))
      have v2 : ∀ b, ¬ (x + 15 ≤ b ∧ b < x + 29) → V2 b = V b := fun b hb => by rw [o2 b (by omega), o1 b (by omega)]
      obtain ⟨t1, t2, t3⟩ := MT_3 hM
      have cpy : cf_X4_copy Y V2 G (x + 103 + 1) (x + 103 + 3) = some (va_up V2 (x + 106) (mix 146 (V2 (x + 104)) (V2 (x + 106)))) := M_copy (MT_k1 hM) (MT_l1 hM) t2 t3 (by omega) V2
      have w1 : va_up V2 (x + 106) (mix 146 (V2 (x + 104)) (V2 (x + 106))) (x + 103 + 1) = V (x + 104) := by rw [va_up_ne _ _ (by omega)]; exact v2 _ (by omega)
      obtain ⟨res2, W', e3, r3, o3, k3⟩ := ML_lp hM (a := V (x + 104)) (nI t) hp hpb 400 0 fuB (va_up V2 (x + 106) (mix 146 (V2 (x + 104)) (V2 (x + 106)))) (V (x + 104)) (by omega) (fuB_gt (by omega)) w1 hs'.1 rfl rfl (fun _ _ _ => rfl) (fun _ _ => rfl) (fun k hk => absurd hk (by omega))
      have er := lwR_eq r2 r3
      subst er
      have ob : ∀ b, ¬ (x + 15 ≤ b ∧ b < x + 29) → b ≠ x + 104 → b ≠ x + 106 → W' b = V b := fun b h1 h2 h3 => by rw [o3 b (by omega), va_up_ne _ _ h3, v2 b h1]
      refine ⟨res, V2, W', ?_, ?_, GI_up hGI (fun b hb => ob b (by omega) (by omega) (by omega)) (by rw [ob x (by omega) (by omega) (by omega)]) (by rw [ob _ (by omega) (by omega) (by omega)]) (ob _ (by omega) (by omega) (by omega)) (fun k hk => ?_) (TX_eq (by rw [ob _ (by omega) (by omega) (by omega)]) (by rw [ob _ (by omega) (by omega) (by omega)]) (ob _ (by omega) (by omega) (by omega)) (ob _ (by omega) (by omega) (by omega)) hT)⟩
      · have e2' : cf_X2_daysUntilLawful Y V1 G (x + 15) (nI t) = some (res, V2) := by
          rw [cf_X2_daysUntilLawful, if_pos c2.1, C_unmet c2 hs'.1 p1, Option.bind_some]
          exact e2
        rw [cf_X3_lawful, C_in, ev, Option.bind_some, bi_1, if_neg (by decide), if_pos a0, a1, Option.bind_some, if_pos c1.1, C_canB c1 V mst ht5, em, Option.bind_some, bi_1, if_neg (by decide), a2, Option.bind_some, if_pos c2.1, e1, Option.bind_some, e2', Option.bind_some]
      · rw [cf_X4_lawful, M_isStage, ev, Option.bind_some, bi_1, if_neg (by decide), if_pos (MT_k hM), M_mayB hM V2 ht5, show V2 (x + 103 + 1) = V (x + 104) from v2 _ (by omega), em, Option.bind_some, bi_1, if_neg (by decide), MT_g hM, Option.bind_some, t1, Option.bind_some, cpy, Option.bind_some]
        exact e3
      · have := k3 k hk
        rw [show x + 103 + 1 = x + 104 from rfl] at this
        rw [this, show x + 103 + 3 = x + 106 from rfl, va_up_s, mix_lt _ _ _ hk, v2 _ (by omega)]
end CLS
