-- forecasts: when
theorem RF_wait (s : Int32) {r : Nat → Int32} (h : RF r) : RF (rwait s r) := by
  obtain ⟨h8, h12, h0⟩ := h
  unfold rwait rappr rmend
  (try dsimp only); repeat' split
  all_goals first | exact ⟨h8, h12, h0⟩ | (unfold RF; simp [va_up]; first | exact h12 | (refine ⟨h8, h12, fun z => ?_⟩; exact h0 z) | exact ⟨h8, h12, h0⟩)
theorem RF_run (a : Nat → Int32) {r : Nat → Int32} (h : RF r) : RF (rrun a r) := by
  obtain ⟨h8, h12, h0⟩ := h
  unfold rrun rbrk
  repeat' split
  all_goals first | exact ⟨h8, h12, h0⟩ | (unfold RF; simp [va_up]; first | exact h12 | (refine ⟨h8, h12, fun z => ?_⟩; exact h0 z) | exact ⟨h8, h12, h0⟩)
theorem RF_age (s : Int32) {r : Nat → Int32} (h : RF r) (h1 : r 8 = 1) : RF (rage s r) := by
  obtain ⟨h8, h12, h0⟩ := h
  unfold rage rmend
  (try dsimp only); repeat' split
  all_goals (unfold RF; simp [va_up, h1]; try exact h12)
theorem RF_day {a r : Nat → Int32} (h : RF r) : RF (rday a r) := by
  have q : RF (rrun a (rwait (a 2) r)) := RF_run a (RF_wait _ h)
  unfold rday; try dsimp only
  split
  · next hc => exact RF_age _ q hc.2
  · exact q
theorem rday_hd {a b r : Nat → Int32} (h2 : b 2 = a 2) (h3 : b 3 = a 3) (h : ∀ j, 6 ≤ j → j < 16 → b j = a j) (hr : okr r) : rday b r = rday a r := by
  unfold rday; try dsimp only
  rw [h2, h3, rrun_hd h (okr_wait hr).1]
def rd (a : Nat → Int32) : Nat → (Nat → Int32) → (Nat → Int32)
  | 0, r => r
  | n + 1, r => rd a n (rday a r)
theorem rd_s (a : Nat → Int32) : ∀ (n : Nat) (r : Nat → Int32), rd a (n + 1) r = rday a (rd a n r)
  | 0, _ => rfl
  | n + 1, r => by rw [rd, rd_s a n (rday a r)]; rfl
def fw (a : Nat → Int32) (st : Int32) : Nat → Nat → (Nat → Int32) → Int32
  | 0, _, _ => -1000004
  | n + 1, j, r => if sst a r = st then nI j else fw a st n (j + 1) (rday a r)
theorem fw_spec (a : Nat → Int32) (st : Int32) : ∀ (n j : Nat) (r : Nat → Int32), (∃ k, k < n ∧ fw a st n j r = nI (j + k) ∧ sst a (rd a k r) = st ∧ ∀ k', k' < k → sst a (rd a k' r) ≠ st) ∨ (fw a st n j r = -1000004 ∧ ∀ k, k < n → sst a (rd a k r) ≠ st)
  | 0, j, r => Or.inr ⟨rfl, fun k hk => absurd hk (by omega)⟩
  | n + 1, j, r => by
      rw [fw]
      by_cases h : sst a r = st
      · rw [if_pos h]
        exact Or.inl ⟨0, by omega, rfl, h, fun k' hk => absurd hk (by omega)⟩
      · rw [if_neg h]
        rcases fw_spec a st n (j + 1) (rday a r) with ⟨k, hk, e, hs, hn⟩ | ⟨e, hn⟩
        · refine Or.inl ⟨k + 1, by omega, by rw [e]; congr 1; omega, hs, fun k' hk' => ?_⟩
          cases k' with
          | zero => exact h
          | succ k' => exact hn k' (by omega)
        · refine Or.inr ⟨e, fun k hk => ?_⟩
          cases k with
          | zero => exact h
          | succ k => exact hn k (by omega)
section CLS
variable {Y : mY} {G : mG} {h m x : Nat}
theorem W_lp (hP : PT Y G h) {i : Nat} (hi : i < 10) {a : Nat → Int32} (st : Int32) (j1 : Int32) : ∀ (n j fuel : Nat) (V : mV) (r : Nat → Int32), j + n = 401 → n < fuel → stP V h a → CM (V (h + 4 + i)) r → RF r → okr r → V h 7 = a 2 → V h 8 = a 3 → ∃ V', lp_X2_daysUntil_21 Y G fuel V h j1 st (h + 4 + i) (nI j) = some (fw a st n j r, V') ∧ sb2 V' V (h + 4 + i) h ∧ V' h 3 = V h 3 ∧ V' h 7 = V h 7 ∧ V' h 8 = V h 8
  | 0, j, fuel, V, r, hj, hf, hst, hc, hr, ho, h7, h8 => by
      obtain ⟨f, rfl⟩ : ∃ f, fuel = f + 1 := ⟨fuel - 1, by omega⟩
      obtain rfl : j = 401 := by omega
      exact ⟨V, by rw [lp_X2_daysUntil_21, if_pos (by decide)]; rfl, fun _ _ _ => rfl, rfl, rfl, rfl⟩
  | n + 1, j, fuel, V, r, hj, hf, hst, hc, hr, ho, h7, h8 => by
      obtain ⟨f, rfl⟩ : ∃ f, fuel = f + 1 := ⟨fuel - 1, by omega⟩
      have ki := (P_cell hP hi).2.2.2.2
      have lt : ¬ (400 : Int32) < nI j := Int32.not_lt.mpr (nI_le (b := 400) (by omega) (by decide))
      by_cases e : sst a r = st
      · exact ⟨V, by rw [lp_X2_daysUntil_21, if_neg lt, if_pos hP.1, C_state hP ki V hst hc hr ho.1, Option.bind_some, if_pos e, fw, if_pos e], fun _ _ _ => rfl, rfl, rfl, rfl⟩
      · obtain ⟨V1, e1, c1, r1, hh, s1⟩ := C_day hP ki (show h + 4 + i ≠ h by omega) (show h + 4 + i ≠ h + 2 by omega) (show h + 4 + i ≠ h + 3 by omega) V hst hc hr ho h7 h8
        have k3 : V1 h 3 = V h 3 := by rw [hh, un_ _ _ (by omega), un_ _ _ (by omega)]
        have k7 : V1 h 7 = V h 7 := by rw [hh, un_ _ _ (by omega), un_ _ _ (by omega)]
        have k8 : V1 h 8 = V h 8 := by rw [hh, un_ _ _ (by omega), un_ _ _ (by omega)]
        obtain ⟨V', e2, s2, q3, q7, q8⟩ := W_lp hP hi st j1 n (j + 1) f V1 (rday a r) (by omega) (by omega) (stP_of hst s1 (by omega) (by omega)) c1 r1 (okr_day ho) (k7.trans h7) (k8.trans h8)
        refine ⟨V', ?_, fun b h1 h2 => (s2 b h1 h2).trans (s1 b h1 h2), q3.trans k3, q7.trans k7, q8.trans k8⟩
        rw [lp_X2_daysUntil_21, if_neg lt, if_pos hP.1, C_state hP ki V hst hc hr ho.1, Option.bind_some, if_neg e, e1, Option.bind_some, ← nI_succ, e2, fw, if_neg e]
theorem C_until (hP : PT Y G h) {N i : Nat} (hN : N ≤ 10) (hi : i < N) {a : Nat → Int32} (st : Int32) {V : mV} {r : Nat → Int32} (h3 : V h 3 = nI N) (hst : stP V h a) (hc : CM (V (h + 4 + i)) r) (hr : RF r) (ho : okr r) (h7 : V h 7 = a 2) (h8 : V h 8 = a 3) : ∃ V', cf_X2_daysUntil Y V G h (nI i) st = some (fw a st 401 0 r, V') ∧ sb2 V' V (h + 4 + i) h ∧ V' h 3 = V h 3 ∧ V' h 7 = V h 7 ∧ V' h 8 = V h 8 := by
  obtain ⟨g0, k1, i1, g1, ki⟩ := P_cell hP (show i < 10 by omega)
  obtain ⟨V', e, q⟩ := W_lp hP (show i < 10 by omega) st (nI i) 401 0 fuB V r (by omega) (fuB_gt (by omega)) hst hc hr ho h7 h8
  refine ⟨V', ?_, q⟩
  rw [cf_X2_daysUntil, if_pos hP.1, C_has1 hP hN hi h3, Option.bind_some, if_neg (by decide), g0, Option.bind_some, if_pos k1, if_pos i1, g1, Option.bind_some]
  exact e
theorem M_day (hM : MT Y G m) {N : Nat} {W : mV} {a b : Nat → Int32} (hb : W (m + 1) = b) (hA : AI N b) (h2 : b 2 = a 2) (h3 : b 3 = a 3) (hh : ∀ j, 6 ≤ j → j < 16 → b j = a j) : ∃ b', cf_X4_passDay Y W G m = some (va_up W (m + 1) b') ∧ AI N b' ∧ b' 2 = a 2 ∧ b' 3 = a 3 ∧ (∀ j, 6 ≤ j → j < 16 → b' j = a j) ∧ ∀ i, i < N → rc b' i = rday a (rc b i) := by
  subst hb
  obtain ⟨b', e, hd⟩ := M_passDay hM hA.1 W hA.2.1 (fun i hi => (hA.2.2 i hi).2) (fun i hi => (hA.2.2 i hi).1.1)
  refine ⟨b', e, AI_day hA hd (fun i hi => RF_day (hA.2.2 i hi).1), ?_, ?_, fun j h6 h16 => ?_, fun i hi => ?_⟩
  · rw [hd.2.2.2.1 2 (by omega) (by omega) (by omega) (by omega)]; exact h2
  · rw [hd.2.2.2.1 3 (by omega) (by omega) (by omega) (by omega)]; exact h3
  · rw [hd.2.2.2.1 j h16 (by omega) (by omega) (by omega)]; exact hh j h6 h16
  · rw [hd.2.2.2.2 i (by have := hA.1; omega), if_pos hi]
    exact rday_hd h2 h3 hh (hA.2.2 i hi).2
theorem MW_lp (hM : MT Y G m) {N i : Nat} (hi : i < N) {a : Nat → Int32} (st : Int32) : ∀ (n j fuel : Nat) (W : mV) (b : Nat → Int32), j + n = 400 → n < fuel → W (m + 1) = b → AI N b → b 2 = a 2 → b 3 = a 3 → (∀ j, 6 ≤ j → j < 16 → b j = a j) → ∃ W', lp_X4_when_36 Y G fuel W m (nI i) st (nI j) = some (fw a st (n + 1) j (rc b i), W') ∧ (∀ c, c ≠ m + 1 → W' c = W c) ∧ ∀ k, k < 146 → W' (m + 1) k = W (m + 3) k
  | 0, j, fuel, W, b, hj, hf, hb, hA, h2, h3, hh => by
      obtain ⟨f, rfl⟩ : ∃ f, fuel = f + 1 := ⟨fuel - 1, by omega⟩
      obtain rfl : j = 400 := by omega
      obtain ⟨t1, t2, t3⟩ := MT_3 hM
      have hN := hA.1
      have ss : cf_X4_stateOf Y W G m (nI i) = some (sst a (rc b i)) := by
        rw [M_state hM (by omega) W (by rw [hb]; exact (hA.2.2 i hi).2.1), hb, show sst b (ro b i) = sst b (rc b i) from rfl, sst_hd hh (hA.2.2 i hi).2.1]
      refine ⟨va_up W (m + 1) (mix 146 (W (m + 3)) (W (m + 1))), ?_, fun c hc => va_up_ne _ _ hc, fun k hk => by rw [va_up_s, mix_lt _ _ _ hk]⟩
      by_cases e : sst a (rc b i) = st
      · rw [lp_X4_when_36, if_pos (show (400 : Int32) ≤ nI 400 by decide), if_pos (MT_k hM), ss, Option.bind_some, if_pos e, t1, Option.bind_some, MT_g hM, Option.bind_some, M_copy t2 t3 (MT_k1 hM) (MT_l1 hM) (by omega), Option.bind_some, fw, if_pos e]
      · rw [lp_X4_when_36, if_pos (show (400 : Int32) ≤ nI 400 by decide), if_pos (MT_k hM), ss, Option.bind_some, if_neg e, t1, Option.bind_some, MT_g hM, Option.bind_some, M_copy t2 t3 (MT_k1 hM) (MT_l1 hM) (by omega), Option.bind_some, fw, if_neg e]; rfl
  | n + 1, j, fuel, W, b, hj, hf, hb, hA, h2, h3, hh => by
      obtain ⟨f, rfl⟩ : ∃ f, fuel = f + 1 := ⟨fuel - 1, by omega⟩
      obtain ⟨t1, t2, t3⟩ := MT_3 hM
      have hN := hA.1
      have lt : ¬ (400 : Int32) ≤ nI j := le_nI (a := 400) (b := j) (by omega) (by decide)
      have ss : cf_X4_stateOf Y W G m (nI i) = some (sst a (rc b i)) := by
        rw [M_state hM (by omega) W (by rw [hb]; exact (hA.2.2 i hi).2.1), hb, show sst b (ro b i) = sst b (rc b i) from rfl, sst_hd hh (hA.2.2 i hi).2.1]
      by_cases e : sst a (rc b i) = st
      · refine ⟨va_up W (m + 1) (mix 146 (W (m + 3)) (W (m + 1))), ?_, fun c hc => va_up_ne _ _ hc, fun k hk => by rw [va_up_s, mix_lt _ _ _ hk]⟩
        rw [lp_X4_when_36, if_neg lt, if_pos (MT_k hM), ss, Option.bind_some, if_pos e, Option.bind_some, if_pos e, t1, Option.bind_some, MT_g hM, Option.bind_some, M_copy t2 t3 (MT_k1 hM) (MT_l1 hM) (by omega), Option.bind_some, fw, if_pos e]
      · obtain ⟨b', e1, A1, q2, q3, qh, qr⟩ := M_day hM hb hA h2 h3 hh
        obtain ⟨W', e2, o2, k2⟩ := MW_lp hM hi st n (j + 1) f (va_up W (m + 1) b') b' (by omega) (by omega) (va_up_s _ _ _) A1 q2 q3 qh
        refine ⟨W', ?_, fun c hc => by rw [o2 c hc, va_up_ne _ _ hc], fun k hk => by rw [k2 k hk, va_up_ne _ _ (by omega)]⟩
        rw [lp_X4_when_36, if_neg lt, if_pos (MT_k hM), ss, Option.bind_some, if_neg e, e1, Option.bind_some, ← nI_succ, e2, qr i hi]
        show _ = some ((if sst a (rc b i) = st then nI j else fw a st (n + 1) (j + 1) (rday a (rc b i))), W')
        rw [if_neg e]
theorem GI_up {V V' : mV} (hG : GI x Y V G) (h1 : ∀ b, (x + 1 ≤ b ∧ b < x + 15) ∨ (x + 33 ≤ b ∧ b < x + 103) → V' b = V b) (h5 : V' x 5 = V x 5) (h4 : V' (x + 103) 4 = V (x + 103) 4) (h7 : V' (x + 107) = V (x + 107)) (ha : ∀ k, k < 146 → V' (x + 104) k = V (x + 104) k) (hT : TX x V') : GI x Y V' G := by
  obtain ⟨hX, ⟨q, hq, hR, t, ht, g5, g4, hH⟩, ⟨N, hm, hs'⟩, -⟩ := hG
  refine ⟨hX, ⟨q, hq, hR, t, ht, h5.trans g5, h4.trans g4, fun j hj => ?_⟩, ⟨N, PM_eq hs'.1.1 ha (PM_bl hs'.1.1 (fun i hi => h1 _ (by omega)) hm), SI_eq ha hs'⟩, hT⟩
  obtain ⟨Nj, pj, sj⟩ := hH j hj
  have e : hs V' (x + 103) j = hs V (x + 103) j := by unfold hs; rw [show x + 103 + 4 = x + 107 from rfl, h7]
  have := hq.1 j (by omega)
  exact ⟨Nj, by rw [e]; exact PM_bl sj.1.1 (fun i hi => h1 _ (by omega)) pj, by rw [e]; exact sj⟩
theorem P_when {V : mV} (hGI : GI x Y V G) (b1 b2 : Int32) : ∃ r V1 V2, cf_X3_when Y V G x b1 b2 = some (r, V1) ∧ cf_X4_when Y V1 G (x + 103) b1 b2 = some (r, V2) ∧ GI x Y V2 G := by
  obtain ⟨⟨⟨a0, a1, a2, a3, a4⟩, -, ⟨c1, c2, -⟩, -, hM⟩, -, ⟨N, hm, hs'⟩, hT⟩ := id hGI
  obtain ⟨hN, ha1, hrow⟩ := id hs'.1
  obtain ⟨m3, m4, m5, m6, m7, m8, mst, mc⟩ := id hm
  have q0 : cf_X4_in (b2.toInt64) (0 : Int64) (4 : Int64) = some (bi (wi b2 0 4)) := M_in b2 0 4
  rcases num_cases b1 (show N < 2 ^ 31 by omega) with ⟨i, hi, rfl⟩ | hx
  · cases ev : wi b2 0 4
    · exact ⟨-1000001, V, V, by rw [cf_X3_when, if_pos a0, a1, Option.bind_some, if_pos c1.1, C_has1 c1 hN hi m3, Option.bind_some, if_neg (by decide), C_in, ev]; rfl, by rw [cf_X4_when, if_pos (MT_k hM), M_has1 hM hN hi ha1, Option.bind_some, if_neg (by decide), q0, ev]; rfl, hGI⟩
    · obtain ⟨V1, e1, p1, o1⟩ := C_copy (g := x + 15) (h := x + 1) c2 c1 (by omega) hs'.1 hm
      obtain ⟨V2, e2, s2, -⟩ := C_until c2 hN hi b2 p1.1 p1.2.2.2.2.2.2.1 (p1.2.2.2.2.2.2.2 i hi) (hrow i hi).1 (hrow i hi).2 p1.2.2.2.2.1 p1.2.2.2.2.2.1
      have v2 : ∀ b, ¬ (x + 15 ≤ b ∧ b < x + 29) → V2 b = V b := fun b hb => by rw [s2 b (by omega) (by omega), o1 b (by omega)]
      obtain ⟨t1, t2, t3⟩ := MT_3 hM
      have cpy : cf_X4_copy Y V2 G (x + 103 + 1) (x + 103 + 3) = some (va_up V2 (x + 106) (mix 146 (V2 (x + 104)) (V2 (x + 106)))) := M_copy (MT_k1 hM) (MT_l1 hM) t2 t3 (by omega) V2
      have w1 : va_up V2 (x + 106) (mix 146 (V2 (x + 104)) (V2 (x + 106))) (x + 103 + 1) = V (x + 104) := by rw [va_up_ne _ _ (by omega)]; exact v2 _ (by omega)
      obtain ⟨W', e3, o3, k3⟩ := MW_lp hM hi (a := V (x + 104)) b2 400 0 fuB (va_up V2 (x + 106) (mix 146 (V2 (x + 104)) (V2 (x + 106)))) (V (x + 104)) (by omega) (fuB_gt (by omega)) w1 hs'.1 rfl rfl (fun _ _ _ => rfl)
      have ob : ∀ b, ¬ (x + 15 ≤ b ∧ b < x + 29) → b ≠ x + 104 → b ≠ x + 106 → W' b = V b := fun b h1 h2 h3 => by rw [o3 b (by omega), va_up_ne _ _ h3, v2 b h1]
      refine ⟨fw (V (x + 104)) b2 401 0 (rc (V (x + 104)) i), V2, W', ?_, ?_, GI_up hGI (fun b hb => ob b (by omega) (by omega) (by omega)) (by rw [ob x (by omega) (by omega) (by omega)]) (by rw [ob _ (by omega) (by omega) (by omega)]) (ob _ (by omega) (by omega) (by omega)) (fun k hk => ?_) (TX_eq (by rw [ob _ (by omega) (by omega) (by omega)]) (by rw [ob _ (by omega) (by omega) (by omega)]) (ob _ (by omega) (by omega) (by omega)) (ob _ (by omega) (by omega) (by omega)) hT)⟩
      · rw [cf_X3_when, if_pos a0, a1, Option.bind_some, if_pos c1.1, C_has1 c1 hN hi m3, Option.bind_some, if_neg (by decide), C_in, ev, Option.bind_some, bi_1, if_neg (by decide), a2, Option.bind_some, if_pos c2.1, e1, Option.bind_some, e2, Option.bind_some]
      · rw [cf_X4_when, if_pos (MT_k hM), M_has1 hM hN hi (by rw [show x + 103 + 1 = x + 104 from rfl, v2 _ (by omega)]; exact ha1), Option.bind_some, if_neg (by decide), q0, ev, Option.bind_some, bi_1, if_neg (by decide), MT_g hM, Option.bind_some, t1, Option.bind_some, cpy, Option.bind_some]
        exact e3
      · have := k3 k hk
        rw [show x + 103 + 1 = x + 104 from rfl] at this
        rw [this, show x + 103 + 3 = x + 106 from rfl, va_up_s, mix_lt _ _ _ hk, v2 _ (by omega)]
  · exact ⟨-1000001, V, V, by rw [cf_X3_when, if_pos a0, a1, Option.bind_some, if_pos c1.1, C_has0 c1 m3 hx]; rfl, by rw [cf_X4_when, if_pos (MT_k hM), M_has0 hM hN ha1 hx]; rfl, hGI⟩
end CLS
