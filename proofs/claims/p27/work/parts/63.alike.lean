-- both are alike
theorem nI_and (a b : Nat) : nI a &&& nI b = nI (a &&& b) := by
  apply Int32.toBitVec_inj.mp
  simp only [nI, Int32.ofNat, Int32.toBitVec_and, Int32.toBitVec_ofNat', BitVec.ofNat_and]
  rfl
theorem mN_hi (p : Nat → Bool) {n i : Nat} (h : n ≤ i) : (mN p n).testBit i = false :=
  Nat.testBit_lt_two_pow (Nat.lt_of_lt_of_le (mN_lt p n) (Nat.pow_le_pow_right (by omega) h))
theorem mN_or (p p' q : Nat → Bool) (n : Nat) (h : ∀ i, i < n → (p i || p' i) = q i) : mN p n ||| mN p' n = mN q n := by
  refine Nat.eq_of_testBit_eq fun i => ?_
  rw [Nat.testBit_or]
  by_cases hi : i < n
  · rw [mN_bit p hi, mN_bit p' hi, mN_bit q hi, h i hi]
  · rw [mN_hi p (by omega), mN_hi p' (by omega), mN_hi q (by omega)]; rfl
theorem mN_and (p p' : Nat → Bool) (n : Nat) (h : ∀ i, i < n → (p i && p' i) = false) : mN p n &&& mN p' n = 0 := by
  refine Nat.eq_of_testBit_eq fun i => ?_
  rw [Nat.testBit_and, Nat.zero_testBit]
  by_cases hi : i < n
  · rw [mN_bit p hi, mN_bit p' hi, h i hi]
  · rw [mN_hi p (by omega)]; rfl
theorem sst_n (a r : Nat → Int32) : ∃ s, s < 5 ∧ sst a r = nI s := by
  rcases sst_v a r with h | h | h | h | h
  · exact ⟨0, by omega, h⟩
  · exact ⟨1, by omega, h⟩
  · exact ⟨2, by omega, h⟩
  · exact ⟨3, by omega, h⟩
  · exact ⟨4, by omega, h⟩
set_option maxRecDepth 1000000 in
theorem bc_turn : ∀ M, M < 32 → bc (nI (mN (fun i => M.testBit (4 - i)) 5)) = bc (nI M) := by decide +kernel
theorem bc_sw {p p' : Nat → Bool} (h : ∀ i, i < 5 → p' i = p (4 - i)) : bc (nI (mN p' 5)) = bc (nI (mN p 5)) := by
  rw [← bc_turn _ (mN_lt p 5)]
  congr 2
  refine mN_cong fun i hi => ?_
  rw [mN_bit p (by omega), h i hi]
theorem cO_hd {a b : Nat → Int32} (h : hds a b) {r : Nat → Int32} (hs : isSt (r 1)) (w : Int32) : cO b r w = cO a r w := by
  unfold cO; rw [hds_sst h hs]
theorem cnt_s {a b : Nat → Int32} (h : Sw a b) (k : Nat) : cnt 5 b k = cnt 5 a k := by
  unfold cnt
  rw [h.1 0 (by omega), h.1 4 (by omega), h.1 5 (by omega), sm5 (fun i => rc a i 3) (fun i => rc b i 3) (fun i hi => by rw [h.2 i hi]), sm5 (fun i => bc (rc a i 4)) (fun i => bc (rc b i 4)) (fun i hi => by rw [h.2 i hi])]
theorem lg_self (r : Int64) : lg_cmp r r = 0 := by simp [lg_cmp]
section CLS
variable {Y : mY} {G : mG} {x y : Nat} {V : mV} {a b : Nat → Int32} {d : Nat}
theorem L26 (hT : TW x y Y V G a b d) : ∀ (n k fuel : Nat), k + n = 6 → n < fuel → lp_L_areAlike_26 Y G fuel V x y (nI 5) 1 (nI k) = lp_L_areAlike_70 Y G fuB V x y (nI 5) 1 0 0
  | 0, k, fuel, hk, hf => by
      obtain ⟨f, rfl⟩ : ∃ f, fuel = f + 1 := ⟨fuel - 1, by omega⟩
      obtain rfl : k = 6 := by omega
      rw [lp_L_areAlike_26, if_pos (show (6 : Int32) ≤ nI 6 by decide)]
  | n + 1, k, fuel, hk, hf => by
      obtain ⟨f, rfl⟩ : ∃ f, fuel = f + 1 := ⟨fuel - 1, by omega⟩
      obtain ⟨ta, ha, tb, hb, ho, hp, hs, hd, hx⟩ := id hT
      have lt : ¬ (6 : Int32) ≤ nI k := le_nI (a := 6) (b := k) (by omega) (by decide)
      rw [lp_L_areAlike_26, if_neg lt, if_neg (by decide), if_pos ho.1.1.1, P_count ho (k := k) (by omega), Option.bind_some, if_pos hp.1.1.1, P_count hp (k := k) (by omega), Option.bind_some, cnt_s hs, if_pos rfl, ← nI_succ]
      exact L26 hT n (k + 1) f (by omega) (by omega)
theorem L70 (hT : TW x y Y V G a b d) : ∀ (n k fuel : Nat), k + n = 5 → n < fuel → ∀ q : Nat → Bool, (∀ i, i < 5 → (q i = true ↔ ∃ s, s < k ∧ sst a (rc a i) = nI s)) → ∃ j4, lp_L_areAlike_70 Y G fuel V x y (nI 5) 1 (nI (mN q 5)) (nI k) = lp_L_areAlike_157 Y G fuB V x y (nI 5) 1 j4 0
  | 0, k, fuel, hk, hf, q, hq => by
      obtain ⟨f, rfl⟩ : ∃ f, fuel = f + 1 := ⟨fuel - 1, by omega⟩
      obtain rfl : k = 5 := by omega
      have e : mN q 5 = mN (fun _ => true) 5 := mN_cong fun i hi => (hq i hi).mpr (sst_n a (rc a i))
      refine ⟨nI (mN q 5), ?_⟩
      rw [lp_L_areAlike_70, if_pos (show (5 : Int32) ≤ nI 5 by decide), if_neg (by decide), e, if_pos (by decide)]
  | n + 1, k, fuel, hk, hf, q, hq => by
      obtain ⟨f, rfl⟩ : ∃ f, fuel = f + 1 := ⟨fuel - 1, by omega⟩
      obtain ⟨ta, ha, tb, hb, ho, hp, hs, hd, hx⟩ := id hT
      have hok : ∀ i, i < 5 → okr (rc a i) := fun i hi => (ho.2.2.2.1.2.2 i hi).2
      have lt : ¬ (5 : Int32) ≤ nI k := le_nI (a := 5) (b := k) (by omega) (by decide)
      have inj : ∀ i s, i < 5 → s < 5 → sst a (rc a i) = nI s → (pSt a (nI k) i = true ↔ s = k) := by
        intro i s hi hs5 e
        unfold pSt
        rw [e, decide_eq_true_eq]
        exact nI_eq (by omega) (by omega)
      have dis : ∀ i, i < 5 → (q i && pSt a (nI k) i) = false := by
        intro i hi
        obtain ⟨s, hs5, es⟩ := sst_n a (rc a i)
        cases eq : q i
        · rfl
        · obtain ⟨s', h1, h2⟩ := (hq i hi).mp eq
          have e := (nI_eq (by omega) (by omega)).mp (es.symm.trans h2)
          cases ep : pSt a (nI k) i
          · rfl
          · have := (inj i s hi hs5 es).mp ep; omega
      obtain ⟨j4, ih⟩ := L70 hT n (k + 1) f (by omega) (by omega) (fun i => q i || pSt a (nI k) i) (by
        intro i hi
        obtain ⟨s, hs5, es⟩ := sst_n a (rc a i)
        rw [Bool.or_eq_true, hq i hi, inj i s hi hs5 es]
        constructor
        · rintro (⟨s', h1, h2⟩ | rfl)
          · exact ⟨s', by omega, h2⟩
          · exact ⟨s, by omega, es⟩
        · rintro ⟨s', h1, h2⟩
          have e := (nI_eq (by omega) (by omega)).mp (es.symm.trans h2)
          by_cases h : s' < k
          · exact Or.inl ⟨s', h, h2⟩
          · exact Or.inr (by omega))
      refine ⟨j4, ?_⟩
      have ew := P_which ho (k := k) (by omega)
      rw [lp_L_areAlike_70, if_neg lt, if_neg (by decide), if_pos ho.1.1.1, ew, Option.bind_some, if_pos hp.1.1.1, P_which hp (k := k) (by omega), Option.bind_some, turn_s (Sw_st hs hok (nI k)), Option.bind_some, if_pos rfl, Option.bind_some, nI_and, mN_and _ _ _ dis, if_pos (show nI 0 = 0 from rfl), Option.bind_some, nI_or, mN_or _ _ _ _ (fun i _ => rfl), ← nI_succ]
      exact ih
theorem L166 (hT : TW x y Y V G a b d) (j4 : Int32) {c : Nat} (hc : c < 5) : ∀ (n w fuel : Nat), w + n = 12 → n < fuel → lp_L_areAlike_166 Y G fuel V x y (nI 5) 1 j4 (nI c) (nI w) = some (V, nI 5, 1, j4, nI c, nI 12)
  | 0, w, fuel, hk, hf => by
      obtain ⟨f, rfl⟩ : ∃ f, fuel = f + 1 := ⟨fuel - 1, by omega⟩
      obtain rfl : w = 12 := by omega
      rw [lp_L_areAlike_166, if_pos (show (12 : Int32) ≤ nI 12 by decide)]
  | n + 1, w, fuel, hk, hf => by
      obtain ⟨f, rfl⟩ : ∃ f, fuel = f + 1 := ⟨fuel - 1, by omega⟩
      obtain ⟨ta, ha, tb, hb, ho, hp, hs, hd, hx⟩ := id hT
      have lt : ¬ (12 : Int32) ≤ nI w := le_nI (a := 12) (b := w) (by omega) (by decide)
      rw [lp_L_areAlike_166, if_neg lt, if_neg (by decide), if_pos ho.1.1.1, P_conditionOf ho hc, Option.bind_some, there_s (N := 5) ho hc, Option.bind_some, if_pos hp.1.1.1, P_conditionOf hp (i := 4 - c) (by omega), Option.bind_some, Sw_tw hs hc, cO_hd hs.1 (ho.2.2.2.1.2.2 c hc).2.1, if_pos rfl, ← nI_succ]
      exact L166 hT j4 hc n (w + 1) f (by omega) (by omega)
theorem FIN {β : Type} (A B : Option β) {t : Nat} {ha : Nat → Nat → Int32} (hO : OB x Y V G 5 a t ha) {c u : Nat} (hc : c < 5) (hu : u ≤ 400) (e : rc a c 11 = nI u) : ((cf_X3_fine Y V G x (nI c) (3 : Int64)).bind (fun x141 => (cf_X3_conditionOf Y V G x (nI c) (11 : Int32)).bind (fun x142 => (cf_X3_conditionOf Y V G x (nI c) (11 : Int32)).bind (fun x143 => if (lg_cmp x141 (((3 : Int64) * (x142).toInt64) * (x143).toInt64)) = 0 then A else B)))) = A := by
  have e11 : cf_X3_conditionOf Y V G x (nI c) (11 : Int32) = some (nI u) := by
    rw [P_conditionOf hO hc, ← e]; rfl
  rw [P_fine hO hc hu e, Option.bind_some, e11, Option.bind_some, Option.bind_some, lg_self, if_pos rfl]
set_option maxHeartbeats 4000000 in
theorem B157 (hT : TW x y Y V G a b d) (hxy : x + 103 ≤ y) (hd4 : d ≤ 400) (j4 : Int32) {c : Nat} (hc : c < 5) (f : Nat) : ∃ V1, lp_L_areAlike_157 Y G (f + 1) V x y (nI 5) 1 j4 (nI c) = lp_L_areAlike_157 Y G f V1 x y (nI 5) 1 j4 (nI c + 1) ∧ TW x y Y V1 G a b d := by
  obtain ⟨ta, ha, tb, hb, ho, hp, hs, hd, hx⟩ := id hT
  obtain ⟨s, hs5, es⟩ := sst_n a (rc a c)
  obtain ⟨x1, x2, x3, u, hu, x4⟩ := hx c hc
  obtain ⟨f8, f12, -⟩ := (ho.2.2.2.1.2.2 c hc).1
  obtain ⟨g, hg, eg⟩ := hd.2.2.2 c hc
  obtain ⟨V1, e1, o1, fr1⟩ := P_when ho hc (k := s) hs5
  have ew : fw a (nI s) 401 0 (rc a c) = nI 0 := by
    show (if sst a (rc a c) = nI s then nI 0 else _) = _
    rw [if_pos es]
  rw [ew] at e1
  refine ⟨V1, ?_, ta, ha, tb, hb, o1, OB_fr (Or.inl hxy) fr1 hp, hs, hd, hx⟩
  have lt : ¬ nI 5 ≤ nI c := le_nI (by omega) (by omega)
  have kx : Y.1 x = 3 := ho.1.1.1
  have q4 : cf_X3_conditionOf Y V G x (nI c) (4 : Int32) = some (nI s) := by rw [P_conditionOf ho hc, ← es]; rfl
  have q5 : cf_X3_conditionOf Y V G x (nI c) (5 : Int32) = some (rc a c 4) := by rw [P_conditionOf ho hc]; rfl
  have q3 : cf_X3_conditionOf Y V G x (nI c) (3 : Int32) = some (rc a c 3) := by rw [P_conditionOf ho hc]; rfl
  have q6 : cf_X3_conditionOf Y V G x (nI c) (6 : Int32) = some (rc a c 5) := by rw [P_conditionOf ho hc]; rfl
  have q9 : cf_X3_conditionOf Y V G x (nI c) (9 : Int32) = some (if rc a c 8 = 0 then -1000004 else rc a c 9) := by rw [P_conditionOf ho hc]; rfl
  have q0 : cf_X3_conditionOf Y V1 G x (nI c) (0 : Int32) = some (rc a c 0) := by rw [P_conditionOf o1 hc]; rfl
  have hm : rc a c 0 ≠ 2 → (met (rc a c) = true ↔ rc a c 4 = ((1 : Int32) <<< (rc a c 3 &&& 31)) - 1) := by
    intro n2
    unfold met
    rw [if_neg n2, decide_eq_true_eq]
  have e166 : lp_L_areAlike_166 Y G fuB V x y (nI 5) 1 j4 (nI c) 0 = some (V, nI 5, 1, j4, nI c, nI 12) := L166 hT j4 hc 12 0 fuB (by omega) (fuB_gt (by omega))
  rw [lp_L_areAlike_157, if_neg lt, e166, Option.bind_some]
  dsimp only
  rw [if_pos kx, q4, Option.bind_some, q5, Option.bind_some, q3, Option.bind_some, q6, q9]
  by_cases s3 : s = 3
  · subst s3
    obtain ⟨n12, e8⟩ := sst_3 (es.trans (show nI 3 = 3 from rfl))
    have n80 : ¬ rc a c 8 = 0 := by rw [e8]; decide
    have g0 : ¬ nI g < 0 := nI_pos (by have := hd.1; omega)
    have mf : rc a c 0 ≠ 2 → met (rc a c) = false := x3 e8
    rw [if_neg n80, eg]
    by_cases hall : rc a c 4 = ((1 : Int32) <<< (rc a c 3 &&& 31)) - 1
    · rw [if_pos hall, if_neg (by decide), Option.bind_some, Option.bind_some, if_pos x1, if_pos (show nI 3 = 3 from rfl), Option.bind_some, if_neg g0, e1, Option.bind_some]
      dsimp only
      rw [if_pos (show nI 0 = 0 from rfl), q0, Option.bind_some]
      by_cases k2 : rc a c 0 = 2
      · rw [if_pos k2, FIN _ _ o1 hc (by omega) x4]
      · have h1 := (hm k2).mpr hall
        rw [mf k2] at h1; cases h1
    · rw [if_neg hall, if_neg (by decide), Option.bind_some, Option.bind_some, if_pos x1, if_pos (show nI 3 = 3 from rfl), Option.bind_some, if_neg g0, e1, Option.bind_some]
      dsimp only
      rw [if_pos (show nI 0 = 0 from rfl), q0, Option.bind_some]
      by_cases k2 : rc a c 0 = 2
      · rw [if_pos k2, FIN _ _ o1 hc (by omega) x4]
      · rw [if_neg k2, if_neg (by decide), if_neg (by decide), FIN _ _ o1 hc (by omega) x4]
  · have n3 : ¬ nI s = 3 := fun q => s3 ((nI_eq (b := 3) (by omega) (by omega)).mp q)
    have e8 : rc a c 8 = 0 := by
      refine f8.resolve_right fun e8 => n3 ?_
      have n12 : ¬ rc a c 12 = 1 := fun q => by rw [x2 q] at e8; cases e8
      rw [← es]
      unfold sst
      rw [if_neg n12, if_pos e8]
    have st2 : s = 2 → met (rc a c) = true := by
      intro e
      have es := es
      rw [e] at es
      unfold sst at es
      by_cases h12 : rc a c 12 = 1
      · rw [if_pos h12] at es; exact absurd es (by decide)
      · rw [if_neg h12, if_neg (by rw [e8]; decide)] at es
        cases em : met (rc a c)
        · rw [em, if_neg (by decide)] at es
          by_cases z : slp a (rc a c) = true
          · rw [if_pos z] at es; exact absurd es (by decide)
          · rw [if_neg z] at es; exact absurd es (by decide)
        · rfl
    have st01 : s ≠ 4 → s ≠ 2 → met (rc a c) = false := by
      intro h4 h2
      refine (sst_lt (a := a) ?_).2.2
      rw [es]
      rcases (show s = 0 ∨ s = 1 by omega) with rfl | rfl
      · exact Or.inl rfl
      · exact Or.inr rfl
    rw [if_pos e8]
    by_cases hall : rc a c 4 = ((1 : Int32) <<< (rc a c 3 &&& 31)) - 1
    · rw [if_pos hall, if_neg (by decide), Option.bind_some, Option.bind_some, if_pos x1, if_neg n3, Option.bind_some, if_pos (by decide), e1, Option.bind_some]
      dsimp only
      rw [if_pos (show nI 0 = 0 from rfl), q0, Option.bind_some]
      by_cases k2 : rc a c 0 = 2
      · rw [if_pos k2, FIN _ _ o1 hc (by omega) x4]
      · rw [if_neg k2]
        by_cases s4 : s = 4
        · rw [if_pos (show nI s = 4 by rw [s4]; rfl), FIN _ _ o1 hc (by omega) x4]
        · rw [if_neg (show ¬ nI s = 4 from fun q => s4 ((nI_eq (b := 4) (by omega) (by omega)).mp q))]
          by_cases s2 : s = 2
          · rw [if_pos (show nI s = 2 by rw [s2]; rfl), FIN _ _ o1 hc (by omega) x4]
          · have h1 := (hm k2).mpr hall
            rw [st01 s4 s2] at h1; cases h1
    · rw [if_neg hall, if_neg (by decide), Option.bind_some, Option.bind_some, if_pos x1, if_neg n3, Option.bind_some, if_pos (by decide), e1, Option.bind_some]
      dsimp only
      rw [if_pos (show nI 0 = 0 from rfl), q0, Option.bind_some]
      by_cases k2 : rc a c 0 = 2
      · rw [if_pos k2, FIN _ _ o1 hc (by omega) x4]
      · rw [if_neg k2]
        by_cases s4 : s = 4
        · rw [if_pos (show nI s = 4 by rw [s4]; rfl), FIN _ _ o1 hc (by omega) x4]
        · rw [if_neg (show ¬ nI s = 4 from fun q => s4 ((nI_eq (b := 4) (by omega) (by omega)).mp q))]
          by_cases s2 : s = 2
          · exact absurd ((hm k2).mp (st2 s2)) hall
          · rw [if_neg (show ¬ nI s = 2 from fun q => s2 ((nI_eq (b := 2) (by omega) (by omega)).mp q)), FIN _ _ o1 hc (by omega) x4]
theorem L157 (hxy : x + 103 ≤ y) (hd4 : d ≤ 400) (j4 : Int32) : ∀ (n c fuel : Nat) (V : mV), c + n = 5 → n < fuel → TW x y Y V G a b d → ∃ V', lp_L_areAlike_157 Y G fuel V x y (nI 5) 1 j4 (nI c) = some (1, V') ∧ TW x y Y V' G a b d
  | 0, c, fuel, V, hk, hf, hT => by
      obtain ⟨f, rfl⟩ : ∃ f, fuel = f + 1 := ⟨fuel - 1, by omega⟩
      obtain rfl : c = 5 := by omega
      exact ⟨V, by rw [lp_L_areAlike_157, if_pos (Int32.le_refl _), if_pos (Or.inr rfl)], hT⟩
  | n + 1, c, fuel, V, hk, hf, hT => by
      obtain ⟨f, rfl⟩ : ∃ f, fuel = f + 1 := ⟨fuel - 1, by omega⟩
      obtain ⟨V1, e1, hT1⟩ := B157 hT hxy hd4 j4 (c := c) (by omega) f
      obtain ⟨V', e2, hT2⟩ := L157 hxy hd4 j4 n (c + 1) f V1 (by omega) (by omega) hT1
      exact ⟨V', by rw [e1, ← nI_succ]; exact e2, hT2⟩
theorem alike_s (hT : TW x y Y V G a b d) (hxy : x + 103 ≤ y) (hd4 : d ≤ 400) : ∃ V', cf_L_areAlike Y V G x y = some (1, V') ∧ TW x y Y V' G a b d := by
  obtain ⟨ta, ha, tb, hb, ho, hp, hs, hd, hx⟩ := id hT
  have hok : ∀ i, i < 5 → okr (rc a i) := fun i hi => (ho.2.2.2.1.2.2 i hi).2
  have c5 : cf_X3_count Y V G x 0 = some (nI 5) := P_count ho (k := 0) (by omega)
  have sa := P_share ho
  have sb := P_share hp
  rw [bc_sw (Sw_st hs hok 2)] at sb
  obtain ⟨z, ez⟩ : ∃ z, shO (bc (nI (mN (pSt a 2) 5))) = some z := by
    cases e : shO (bc (nI (mN (pSt a 2) 5))) with
    | none => exact absurd e (shO_s _ (mN_lt _ 5))
    | some z => exact ⟨z, rfl⟩
  rw [ez] at sa sb
  obtain ⟨j4, e70⟩ := L70 hT 5 0 fuB (by omega) (fuB_gt (by omega)) (fun _ => false) (fun i hi => ⟨fun q => (by cases q), fun ⟨s, h1, _⟩ => absurd h1 (by omega)⟩)
  obtain ⟨V', e157, hT2⟩ := L157 hxy hd4 j4 5 0 fuB V (by omega) (fuB_gt (by omega)) hT
  refine ⟨V', ?_, hT2⟩
  rw [cf_L_areAlike, if_pos ho.1.1.1, c5, Option.bind_some, sa, Option.bind_some, if_pos hp.1.1.1, sb, Option.bind_some, if_pos rfl]
  have e26 := L26 hT 6 0 fuB (by omega) (fuB_gt (by omega))
  have e70 : lp_L_areAlike_70 Y G fuB V x y (nI 5) 1 0 0 = lp_L_areAlike_157 Y G fuB V x y (nI 5) 1 j4 0 := e70
  have e26 : lp_L_areAlike_26 Y G fuB V x y (nI 5) 1 0 = lp_L_areAlike_70 Y G fuB V x y (nI 5) 1 0 0 := e26
  rw [e26, e70]
  exact e157
end CLS
