-- both permissions, one with the conditions in the other order
def TW (x y : Nat) (Y : mY) (V : mV) (G : mG) (a b : Nat → Int32) (d : Nat) : Prop := ∃ ta ha tb hb, OB x Y V G 5 a ta ha ∧ OB y Y V G 5 b tb hb ∧ Sw a b ∧ DY 5 a d ∧ ∀ i, i < 5 → XI d (rc a i)
theorem DY_of {N d : Nat} {a : Nat → Int32} (hs : SI N a) (h0 : a 0 = nI d) (hd : d ≤ 9999) : DY N a d := by
  obtain ⟨d', h⟩ := hs.2.1
  have e := (nI_eq (by have := h.1; omega) (by omega)).mp (h.2.1.symm.trans h0)
  subst e
  exact h
theorem Sw_may {a b : Nat → Int32} (h : hds a b) {u : Nat} (hu : u < 5) : mayB b u = mayB a u := by
  unfold mayB; rw [h (6 + u) (by omega), h (6 + (u - 1)) (by omega)]
theorem Sw_un {a b : Nat → Int32} (h : Sw a b) (st : Int32) : ∀ i, i < 5 → pUn b st i = pUn a st (4 - i) := by
  intro i hi; unfold pUn; rw [h.2 i hi]
theorem Sw_st {a b : Nat → Int32} (h : Sw a b) (hok : ∀ i, i < 5 → okr (rc a i)) (st : Int32) : ∀ i, i < 5 → pSt b st i = pSt a st (4 - i) := by
  intro i hi; unfold pSt; rw [h.2 i hi, hds_sst h.1 (hok _ (by omega)).1]
set_option maxRecDepth 1000000 in
theorem turn_0 : ∀ M, M < 32 → cf_L_turned (nI M) (nI 5) = some (nI (mN (fun i => M.testBit (4 - i)) 5)) := by decide +kernel
theorem turn_s {p p' : Nat → Bool} (h : ∀ i, i < 5 → p' i = p (4 - i)) : cf_L_turned (nI (mN p' 5)) (nI 5) = some (nI (mN p 5)) := by
  rw [turn_0 _ (mN_lt p' 5), mN_cong (p' := p)]
  intro i hi
  rw [mN_bit p' (by omega), h _ (by omega)]
  congr 1; omega
theorem turn_e : cf_L_turned (-1000002) (nI 5) = some (-1000002) := by decide +kernel
theorem up_s (v : Int32) {n : Nat} {m : Int32} (hm : m = nI n) (h0 : 0 < n) (hn : n < 1000) : ∃ k, k < n ∧ cf_L_up v m = some (nI k) := by
  subst hm
  obtain ⟨j, hj, ej⟩ := pk_andE v (m := 2147483647) 31 (by decide)
  refine ⟨j % n, Nat.mod_lt _ h0, ?_⟩
  rw [cf_L_up, if_pos (nI_ne0 h0 (by omega)), ej, pk_rem (by omega) h0 (by omega)]
section CLS
variable {Y : mY} {G : mG} {x y : Nat} {V : mV} {a b : Nat → Int32} {d : Nat}
theorem TW_k (hT : TW x y Y V G a b d) : Y.1 x = 3 ∧ Y.1 y = 3 := by
  obtain ⟨ta, ha, tb, hb, ho, hp, -⟩ := hT
  exact ⟨ho.1.1.1, hp.1.1.1⟩
theorem there_s {N t : Nat} {ha : Nat → Nat → Int32} (hO : OB x Y V G 5 a t ha) {c : Nat} (hc : c < 5) : cf_L_there Y V G x (nI c) = some (nI (4 - c)) := by
  have e : cf_X3_count Y V G x 0 = some (nI 5) := P_count hO (k := 0) (by omega)
  rw [cf_L_there, if_pos hO.1.1.1, e, Option.bind_some, show nI 5 - 1 = nI 4 from rfl, nI_sb (by omega)]
theorem pair {F : rF} {cf : mV → mG → Nat → Nat → Option (Int32 × mV × mG)} (hcf : ∀ (x : Nat) (V : mV) (G : mG) (a : Nat → Int32) (t : Nat) (ha : Nat → Nat → Int32) (i : Nat), OB x Y V G 5 a t ha → i < 5 → RES x Y V G a (F a (rc a i)).1 (fun N' a' => N' = 5 ∧ AppR 5 a a' i (F a (rc a i)).2.1 (F a (rc a i)).2.2) (cf V G x i)) (hF : ∀ (a b r : Nat → Int32), hds a b → isSt (r 1) → F b r = F a r) (hX : ∀ (d : Nat) (a r : Nat → Int32), XI d r → XI d (F a r).2.2) (hT : TW x y Y V G a b d) (hxy : x + 103 ≤ y) {c : Nat} (hc : c < 5) : ∃ r V1 G1 V2 G2 a' b', cf V G x c = some (r, V1, G1) ∧ cf V1 G1 y (4 - c) = some (r, V2, G2) ∧ TW x y Y V2 G2 a' b' d := by
  obtain ⟨ta, ha, tb, hb, ho, hp, hs, hd, hx⟩ := hT
  obtain ⟨V1, G1, t1, h1, N1, a1, e1, o1, f1, ⟨rfl, p1⟩, -⟩ := hcf x V G a ta ha c ho hc
  have hp1 := OB_fr (Or.inl hxy) f1 hp
  obtain ⟨V2, G2, t2, h2, N2, b1, e2, o2, f2, ⟨rfl, p2⟩, -⟩ := hcf y V1 G1 b tb hb (4 - c) hp1 (by omega)
  have er : rc b (4 - c) = rc a c := Sw_tw hs hc
  have eF : F b (rc b (4 - c)) = F a (rc a c) := by rw [er]; exact hF a b _ hs.1 (ho.2.2.2.1.2.2 c hc).2.1
  rw [eF] at e2 p2
  refine ⟨_, V1, G1, V2, G2, a1, b1, e1, e2, t1, h1, t2, h2, OB_fr (Or.inr hxy) f2 o1, o2, Sw_row hs hc p1 p2, DY_of o1.2.2.2 (by rw [p1.1 0 (by omega) (by omega)]; exact hd.2.1) hd.1, fun i hi => ?_⟩
  rw [p1.2.2 i hi]
  by_cases e : i = c
  · rw [if_pos e]; exact hX d a _ (hx c hc)
  · rw [if_neg e]; exact hx i hi
theorem pair_begin (hT : TW x y Y V G a b d) (hxy : x + 103 ≤ y) {u : Nat} (hu : u < 5) : ∃ r V1 G1 r2 V2 G2 a' b', cf_X3_begin Y V G x (nI u) = some (r, V1, G1) ∧ cf_X3_begin Y V1 G1 y (nI u) = some (r2, V2, G2) ∧ cf_L_turned r2 (nI 5) = some r ∧ TW x y Y V2 G2 a' b' d := by
  obtain ⟨ta, ha, tb, hb, ho, hp, hs, hd, hx⟩ := hT
  have eb := Sw_may hs.1 hu
  cases em : mayB a u
  · rw [em] at eb
    obtain ⟨V1, G1, t1, h1, N1, a1, e1, o1, f1, ⟨rfl, rfl⟩, -⟩ := P_begin0 ho hu em
    have hp1 := OB_fr (Or.inl hxy) f1 hp
    obtain ⟨V2, G2, t2, h2, N2, b1, e2, o2, f2, ⟨rfl, rfl⟩, -⟩ := P_begin0 hp1 hu eb
    exact ⟨_, V1, G1, _, V2, G2, _, _, e1, e2, turn_e, t1, h1, t2, h2, OB_fr (Or.inr hxy) f2 o1, o2, hs, hd, hx⟩
  · rw [em] at eb
    obtain ⟨V1, G1, t1, h1, N1, a1, e1, o1, f1, ⟨rfl, p1, p2, p3⟩, -⟩ := P_begin1 ho hu em
    have hp1 := OB_fr (Or.inl hxy) f1 hp
    obtain ⟨V2, G2, t2, h2, N2, b1, e2, o2, f2, ⟨rfl, q1, q2, q3⟩, -⟩ := P_begin1 hp1 hu eb
    have hun := Sw_un hs (nI u)
    have hg := gd_pUn ho.2.2.2 hu em
    refine ⟨_, V1, G1, _, V2, G2, _, _, e1, e2, turn_s hun, t1, h1, t2, h2, OB_fr (Or.inr hxy) f2 o1, o2, ⟨fun j hj => ?_, fun i hi => ?_⟩, DY_of o1.2.2.2 (by rw [p1 0 (by omega) (by omega), un_ _ _ (by omega)]; exact hd.2.1) hd.1, fun i hi => ?_⟩
    · by_cases e : j = 4
      · subst e; rw [q2, p2, hs.1 4 (by omega), sg5 _ _ hun]
      · rw [q1 j hj e, p1 j hj e]
        by_cases e6 : j = 6 + u
        · subst e6; rw [va_up_s, va_up_s, hs.1 0 (by omega)]
        · rw [un_ _ _ e6, un_ _ _ e6, hs.1 j hj]
    · rw [q3 i hi, p3 (4 - i) (by omega), hun i hi, hs.2 i hi]
    · rw [p3 i hi]
      obtain ⟨x1, x2, x3, w, hw, x4⟩ := id (hx i hi)
      by_cases e : pUn a (nI u) i = true
      · rw [if_pos e]
        have hgi := hg i hi e
        refine ⟨by simpa [va_up, rbrk] using x1, fun q => absurd (by simpa [va_up, rbrk] using q) hgi.2.2.2, fun _ _ => ?_, w, hw, by simpa [va_up, rbrk] using x4⟩
        unfold rbrk
        rw [met_up _ (by omega), met_up _ (by omega), met_up _ (by omega)]
        unfold pUn at e
        simp only [Bool.and_eq_true, Bool.not_eq_true'] at e
        exact e.2.2
      · rw [if_neg e]; exact hx i hi
theorem fFin_s {a b : Nat → Int32} (h : Sw a b) {u : Nat} (hu : u < 5) : (fFin u b).1 = (fFin u a).1 ∧ Sw (fFin u a).2 (fFin u b).2 ∧ (∀ i, rc (fFin u a).2 i = rc a i) ∧ (fFin u a).2 0 = a 0 := by
  unfold fFin
  rw [h.1 (6 + u) (by omega), h.1 (11 + u) (by omega), h.1 0 (by omega)]
  by_cases q : a (6 + u) = -1
  · rw [if_pos q, if_pos q]; exact ⟨rfl, h, fun _ => rfl, rfl⟩
  · rw [if_neg q, if_neg q]
    by_cases q2 : a (11 + u) = -1
    · rw [if_pos q2, if_pos q2]
      refine ⟨rfl, ⟨fun j hj => ?_, fun i hi => ?_⟩, fun i => rc_hd a (by omega) _ _, un_ _ _ (by omega)⟩
      · dsimp only
        by_cases e : j = 11 + u
        · subst e; rw [va_up_s, va_up_s]
        · rw [un_ _ _ e, un_ _ _ e]; exact h.1 j hj
      · dsimp only
        rw [rc_hd a (by omega), rc_hd b (by omega)]; exact h.2 i hi
    · rw [if_neg q2, if_neg q2]; exact ⟨rfl, h, fun _ => rfl, rfl⟩
theorem pair_finish (hT : TW x y Y V G a b d) (hxy : x + 103 ≤ y) {u : Nat} (hu : u < 5) : ∃ r V1 G1 V2 G2 a' b', cf_X3_finish Y V G x (nI u) = some (r, V1, G1) ∧ cf_X3_finish Y V1 G1 y (nI u) = some (r, V2, G2) ∧ TW x y Y V2 G2 a' b' d := by
  obtain ⟨ta, ha, tb, hb, ho, hp, hs, hd, hx⟩ := hT
  obtain ⟨V1, G1, t1, h1, N1, a1, e1, o1, f1, ⟨rfl, rfl⟩, -⟩ := P_finish ho hu
  have hp1 := OB_fr (Or.inl hxy) f1 hp
  obtain ⟨V2, G2, t2, h2, N2, b1, e2, o2, f2, ⟨rfl, rfl⟩, -⟩ := P_finish hp1 hu
  obtain ⟨s1, s2, s3, s4⟩ := fFin_s hs hu
  rw [s1] at e2
  exact ⟨_, V1, G1, V2, G2, _, _, e1, e2, t1, h1, t2, h2, OB_fr (Or.inr hxy) f2 o1, o2, s2, DY_of o1.2.2.2 (by rw [s4]; exact hd.2.1) hd.1, fun i hi => by rw [s3]; exact hx i hi⟩
theorem pair_set (hT : TW x y Y V G a b d) (hxy : x + 103 ≤ y) {w k : Nat} (hw : w < 2) (hk1 : 1 ≤ k) (hk : k ≤ 99) : ∃ V1 G1 V2 G2 b', cf_X3_set Y V G x (nI w) (nI k) = some (a (2 + w), V1, G1) ∧ cf_X3_set Y V1 G1 y (nI w) (nI k) = some (a (2 + w), V2, G2) ∧ TW x y Y V2 G2 (va_up a (2 + w) (nI k)) b' d := by
  obtain ⟨ta, ha, tb, hb, ho, hp, hs, hd, hx⟩ := hT
  obtain ⟨V1, G1, t1, h1, N1, a1, e1, o1, f1, ⟨rfl, rfl⟩, -⟩ := P_set ho hw hk1 hk
  have hp1 := OB_fr (Or.inl hxy) f1 hp
  obtain ⟨V2, G2, t2, h2, N2, b1, e2, o2, f2, ⟨rfl, rfl⟩, -⟩ := P_set hp1 hw hk1 hk
  rw [hs.1 (2 + w) (by omega)] at e2
  refine ⟨V1, G1, V2, G2, _, e1, e2, t1, h1, t2, h2, OB_fr (Or.inr hxy) f2 o1, o2, ⟨fun j hj => ?_, fun i hi => ?_⟩, DY_of o1.2.2.2 (by rw [un_ _ _ (by omega)]; exact hd.2.1) hd.1, fun i hi => by rw [rc_hd a (by omega)]; exact hx i hi⟩
  · by_cases e : j = 2 + w
    · subst e; rw [va_up_s, va_up_s]
    · rw [un_ _ _ e, un_ _ _ e]; exact hs.1 j hj
  · rw [rc_hd a (by omega), rc_hd b (by omega)]; exact hs.2 i hi
theorem Sw_dN : ∀ (n : Nat) (a b : Nat → Int32), Sw a b → (∀ i, i < 5 → okr (rc a i)) → Sw (dN 5 n a) (dN 5 n b)
  | 0, _, _, h, _ => h
  | n + 1, a, b, h, hok => Sw_dN n _ _ (Sw_day h hok) (fun i hi => by rw [dayF_row hi]; exact okr_day (hok i hi))
theorem XI_rd (a : Nat → Int32) : ∀ (n d : Nat) (r : Nat → Int32), XI d r → XI (d + n) (rd a n r)
  | 0, _, _, h => h
  | n + 1, d, r, h => by
      have := XI_rd a n (d + 1) _ (XI_day a h)
      rwa [show d + 1 + n = d + (n + 1) by omega] at this
theorem PL {D : Nat} {a' : Nat → Int32} (hxy : x + 103 ≤ y) (hdD : d + D ≤ 9000) : ∀ (n j fuel : Nat) (V : mV) (G : mG) (b : Nat → Int32) (ta : Nat) (ha : Nat → Nat → Int32) (tb : Nat) (hb : Nat → Nat → Int32), j + n = D → n < fuel → OB x Y V G 5 a' ta ha → a' 0 = nI (d + D) → OB y Y V G 5 b tb hb → DY 5 b (d + j) → ∃ V' G', lp_L_passes_12 Y fuel V G x y (nI D) (nI (d + D)) 1 (nI j) = some (1, V', G') ∧ OB x Y V' G' 5 a' ta ha ∧ ∃ tb hb, OB y Y V' G' 5 (dN 5 n b) tb hb
  | 0, j, fuel, V, G, b, ta, ha, tb, hb, hj, hf, ho, h0, hp, hd => by
      obtain ⟨f, rfl⟩ : ∃ f, fuel = f + 1 := ⟨fuel - 1, by omega⟩
      obtain rfl : j = D := by omega
      have e1 : cf_X3_count Y V G x 1 = some (nI (d + j)) := (P_count ho (k := 1) (by omega)).trans (congrArg some h0)
      have e2 : cf_X3_count Y V G y 1 = some (nI (d + j)) := (P_count hp (k := 1) (by omega)).trans (congrArg some hd.2.1)
      refine ⟨V, G, ?_, ho, tb, hb, hp⟩
      rw [lp_L_passes_12, if_pos (Int32.le_refl _), if_neg (by decide), if_pos ho.1.1.1, e1, Option.bind_some, if_pos rfl, if_pos hp.1.1.1, e2, Option.bind_some, if_pos rfl]
  | n + 1, j, fuel, V, G, b, ta, ha, tb, hb, hj, hf, ho, h0, hp, hd => by
      obtain ⟨f, rfl⟩ : ∃ f, fuel = f + 1 := ⟨fuel - 1, by omega⟩
      have lt : ¬ nI D ≤ nI j := le_nI (by omega) (by omega)
      obtain ⟨V1, G1, t1, h1, N1, b1, e1, o1, f1, ⟨rfl, rfl, dd⟩, -⟩ := P_pass hp (D := 1) (by omega) (by omega) hd (by omega)
      have ho1 := OB_fr (Or.inr hxy) f1 ho
      obtain ⟨V', G', e2, o2, tb', hb', p2⟩ := PL hxy hdD n (j + 1) f V1 G1 (dayF 5 b) ta ha t1 h1 (by omega) (by omega) ho1 h0 o1 dd
      refine ⟨V', G', ?_, o2, tb', hb', p2⟩
      have e1' : cf_X3_pass Y V G y 1 = some (nI (d + j + 1), V1, G1) := e1
      rw [lp_L_passes_12, if_neg lt, if_neg (by decide), if_pos hp.1.1.1, e1', Option.bind_some]
      dsimp only
      rw [if_neg (nI_nle (by omega) (by omega)), ← nI_succ]
      exact e2
theorem passes_s (hT : TW x y Y V G a b d) (hxy : x + 103 ≤ y) {D : Nat} (hD1 : 1 ≤ D) (hD : D ≤ 400) (hdD : d + D ≤ 9000) : ∃ V' G', cf_L_passes Y V G x y (nI D) = some (1, V', G') ∧ TW x y Y V' G' (dN 5 D a) (dN 5 D b) (d + D) := by
  obtain ⟨ta, ha, tb, hb, ho, hp, hs, hd, hx⟩ := hT
  have hok : ∀ i, i < 5 → okr (rc a i) := fun i hi => (ho.2.2.2.1.2.2 i hi).2
  obtain ⟨V1, G1, t1, h1, N1, a1, e1, o1, f1, ⟨rfl, rfl, dd⟩, -⟩ := P_pass ho hD1 hD hd (by omega)
  have hp1 := OB_fr (Or.inl hxy) f1 hp
  have hdb : DY 5 b d := DY_of hp.2.2.2 (by rw [hs.1 0 (by omega)]; exact hd.2.1) hd.1
  obtain ⟨V', G', e2, o2, tb', hb', p2⟩ := PL (Y := Y) (d := d) (D := D) hxy hdD D 0 fuB V1 G1 b t1 h1 tb hb (by omega) (fuB_gt (by omega)) o1 dd.2.1 hp1 hdb
  refine ⟨V', G', ?_, t1, h1, tb', hb', o2, p2, Sw_dN D a b hs hok, dd, fun i hi => ?_⟩
  · rw [cf_L_passes, if_pos ho.1.1.1, e1, Option.bind_some]
    exact e2
  · rw [(dN_row D a hok).1 i hi]
    exact XI_rd a D d _ (hx i hi)
end CLS
