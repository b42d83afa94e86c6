-- what is foreseen comes just then
theorem fw_hd {a b : Nat → Int32} (h : hds a b) (st : Int32) : ∀ (n j : Nat) (r : Nat → Int32), okr r → fw b st n j r = fw a st n j r
  | 0, _, _, _ => rfl
  | n + 1, j, r, hr => by
      rw [fw, fw, hds_sst h hr.1, rday_hd (h 2 (by omega)) (h 3 (by omega)) (fun j _ h16 => h j h16) hr, fw_hd h st n (j + 1) _ (okr_day hr)]
theorem allM_sw {a b : Nat → Int32} (h : Sw a b) (hok : ∀ i, i < 5 → okr (rc a i)) (st : Int32) (k : Nat) : allM b (pUn b st) 5 k ↔ allM a (pUn a st) 5 k := by
  have e : ∀ i, i < 5 → rd b k (rc b i) = rd a k (rc a (4 - i)) := fun i hi => by
    rw [h.2 i hi, rd_hd (h.1 2 (by omega)) (h.1 3 (by omega)) (fun j _ h16 => h.1 j h16) k (hok _ (by omega))]
  constructor
  · intro q i hi hp
    have := q (4 - i) (by omega) (by rw [Sw_un h st _ (by omega), show 4 - (4 - i) = i by omega]; exact hp)
    rwa [e _ (by omega), show 4 - (4 - i) = i by omega] at this
  · intro q i hi hp
    rw [e i hi]
    exact q (4 - i) (by omega) (by rw [← Sw_un h st i hi]; exact hp)
theorem lwR_sw {a b : Nat → Int32} (h : Sw a b) (hok : ∀ i, i < 5 → okr (rc a i)) {st r : Int32} (q : lwR b (pUn b st) 5 r) : lwR a (pUn a st) 5 r := by
  rcases q with ⟨M, hM, e, h1, h2⟩ | ⟨e, h1⟩
  · exact Or.inl ⟨M, hM, e, (allM_sw h hok st M).mp h1, fun k hk z => h2 k hk ((allM_sw h hok st k).mpr z)⟩
  · exact Or.inr ⟨e, fun k hk z => h1 k hk ((allM_sw h hok st k).mpr z)⟩
section CLS
variable {Y : mY} {x y : Nat} {a b : Nat → Int32} {d : Nat}
theorem UND {V : mV} {G : mG} {N' : Nat} {a' : Nat → Int32} {t' : Nat} {ha' : Nat → Nat → Int32} (hO : OB x Y V G N' a' t' ha') (h0 : 0 < t') (hh : ha' (t' - 1) = a) (h1 : a 1 = nI 5) : ∃ V1 w, cf_X3_undo Y V G x = some (nI w, V1) ∧ w < 4 ∧ OB x Y V1 G 5 a (t' - 1) ha' := by
  obtain ⟨V1, N2, e, o, -, lt⟩ := P_undo hO h0
  rw [hh] at o
  have hs := o.2.2.2.1
  have en : N2 = 5 := (nI_eq (by have := hs.1; omega) (by omega)).mp (hs.2.1.symm.trans h1)
  subst en
  exact ⟨V1, t' - 1, e, lt, o⟩
theorem ST {V : mV} {G : mG} {t : Nat} {ha : Nat → Nat → Int32} (hO : OB x Y V G 5 a t ha) {u : Nat} (hu : u < 5) (em : mayB a u = true) (hz : ∀ i, i < 5 → pUn a (nI u) i = false) : ∃ V' G', ((cf_X3_stageOf Y V G x (nI u) (3 : Int32)).bind (fun x32 => if x32 = 0 then ((cf_X3_begin Y V G x (nI u)).bind (fun x34 => if x34.1 = 0 then ((cf_X3_undo Y x34.2.1 x34.2.2 x).bind (fun x36 => if x36.1 < 0 then (some ((0 : Int32), x36.2, x34.2.2)) else (some ((1 : Int32), x36.2, x34.2.2)))) else (some ((0 : Int32), x34.2.1, x34.2.2)))) else (some ((0 : Int32), V, G)))) = some (1, V', G') := by
  have z := (mN_z (p := pUn a (nI u)) (N := 5) (by omega)).mpr hz
  obtain ⟨V1, G1, t1, h1, N1, a1, e1, o1, f1, ⟨rfl, p1⟩, hh⟩ := P_begin1 hO hu em
  rw [z] at e1 hh
  obtain ⟨h0, hha⟩ := hh (by decide)
  obtain ⟨V2, w, e2, hw, o2⟩ := UND (a := a) o1 h0 hha hO.2.2.2.1.2.1
  refine ⟨V2, G1, ?_⟩
  rw [P_stage3 hO hu, Option.bind_some, if_pos z, e1, Option.bind_some]
  dsimp only
  rw [if_pos rfl, e2, Option.bind_some]
  dsimp only
  rw [if_neg (nI_pos (by omega))]
/-- what the call of lawful answers -/
def LW (a : Nat → Int32) (u : Nat) (l : Int32) : Prop := (mayB a u = false ∧ l = -1000002) ∨ (mayB a u = true ∧ lwR a (pUn a (nI u)) 5 l)
theorem may_dN {a : Nat → Int32} (hok : ∀ i, i < 5 → okr (rc a i)) (n : Nat) {u : Nat} (hu : u < 5) : mayB (dN 5 n a) u = mayB a u := by
  have h := (dN_row n a hok).2.1
  unfold mayB
  rw [h (6 + u) (by omega) (by omega), h (6 + (u - 1)) (by omega) (by omega)]
theorem LAWP {V : mV} {G : mG} {t : Nat} {ha : Nat → Nat → Int32} (hO : OB x Y V G 5 a t ha) (hd : DY 5 a d) (hd4 : d ≤ 400) {u : Nat} (hu : u < 5) {l : Int32} (hl : LW a u l) : ∃ V' G', (if l < 0 then (some ((1 : Int32), V, G)) else (if l = 0 then ((cf_X3_stageOf Y V G x (nI u) (3 : Int32)).bind (fun x32 => if x32 = 0 then ((cf_X3_begin Y V G x (nI u)).bind (fun x34 => if x34.1 = 0 then ((cf_X3_undo Y x34.2.1 x34.2.2 x).bind (fun x36 => if x36.1 < 0 then (some ((0 : Int32), x36.2, x34.2.2)) else (some ((1 : Int32), x36.2, x34.2.2)))) else (some ((0 : Int32), x34.2.1, x34.2.2)))) else (some ((0 : Int32), V, G)))) else ((cf_X3_pass Y V G x l).bind (fun x38 => if x38.1 ≤ 0 then (some ((0 : Int32), x38.2.1, x38.2.2)) else ((cf_X3_stageOf Y x38.2.1 x38.2.2 x (nI u) (3 : Int32)).bind (fun x40 => if x40 = 0 then ((cf_X3_begin Y x38.2.1 x38.2.2 x (nI u)).bind (fun x42 => if x42.1 = 0 then ((cf_X3_undo Y x42.2.1 x42.2.2 x).bind (fun x44 => if x44.1 < 0 then (some ((0 : Int32), x44.2, x42.2.2)) else (some ((1 : Int32), x44.2, x42.2.2)))) else (some ((0 : Int32), x42.2.1, x42.2.2)))) else (some ((0 : Int32), x38.2.1, x38.2.2)))))))) = some (1, V', G') := by
  have hok : ∀ i, i < 5 → okr (rc a i) := fun i hi => (hO.2.2.2.1.2.2 i hi).2
  rcases hl with ⟨-, rfl⟩ | ⟨em, ⟨M, hM, rfl, hA, -⟩ | ⟨rfl, -⟩⟩
  · exact ⟨V, G, by rw [if_pos (by decide)]⟩
  · have hz : ∀ i, i < 5 → pUn (dN 5 M a) (nI u) i = false := by
      intro i hi
      obtain ⟨er, -⟩ := dN_row M a hok
      unfold pUn
      rw [er i hi, rd_low _ _ (by omega), rd_low _ _ (by omega)]
      by_cases k0 : rc a i 0 = 0
      · by_cases k1 : rc a i 1 = nI u
        · have hg := gd_row hO.2.2.2 hu em i hi k0 k1
          have hmM : met (rd a M (rc a i)) = true := by
            cases e0 : met (rc a i)
            · exact hA i hi (by unfold pUn; rw [k0, k1, e0]; simp)
            · exact GD_le (a := a) hg (k := 0) (l := M) e0 (by omega)
          rw [hmM]; simp
        · simp [k1]
      · simp [k0]
    by_cases hM0 : M = 0
    · subst hM0
      obtain ⟨V', G', e⟩ := ST hO hu em hz
      exact ⟨V', G', by rw [if_neg (by decide), if_pos (show nI 0 = 0 from rfl)]; exact e⟩
    · obtain ⟨V1, G1, t1, h1, N1, a1, e1, o1, f1, ⟨rfl, rfl, dd⟩, -⟩ := P_pass hO (D := M) (by omega) hM hd (by omega)
      obtain ⟨V', G', e⟩ := ST o1 hu (by rw [may_dN hok M hu]; exact em) hz
      refine ⟨V', G', ?_⟩
      rw [if_neg (nI_pos (by omega)), if_neg (nI_ne0 (by omega) (by omega)), e1, Option.bind_some]
      dsimp only
      rw [if_neg (nI_nle (by omega) (by omega))]
      exact e
  · exact ⟨V, G, by rw [if_pos (by decide)]⟩
set_option maxHeartbeats 4000000 in
theorem comes_s {V : mV} {G : mG} (hT : TW x y Y V G a b d) (hxy : x + 103 ≤ y) (hd4 : d ≤ 400) (v : Int32) : ∃ V' G', cf_L_comes Y V G x y v = some (1, V', G') := by
  obtain ⟨ta, ha, tb, hb, ho, hp, hs, hd, hx⟩ := id hT
  obtain ⟨kx, ky⟩ := TW_k hT
  have hok : ∀ i, i < 5 → okr (rc a i) := fun i hi => (ho.2.2.2.1.2.2 i hi).2
  have ha1 : a 1 = nI 5 := ho.2.2.2.1.2.1
  have c5 : cf_X3_count Y V G x 0 = some (nI 5) := P_count ho (k := 0) (by omega)
  obtain ⟨c, hc, ec⟩ := up_s v (n := 5) (m := nI 5) rfl (by omega) (by omega)
  obtain ⟨s', hs', es⟩ := up_s (v >>> ((3 : Int32) &&& 31)) (n := 4) (m := 4) rfl (by omega) (by omega)
  obtain ⟨u, hu, eu⟩ := up_s (v >>> ((5 : Int32) &&& 31)) (n := 3) (m := 3) rfl (by omega) (by omega)
  have e1s : (1 : Int32) + nI s' = nI (1 + s') := nI_add 1 s'
  have h5 : 1 + s' < 5 := by omega
  generalize hst : 1 + s' = st at e1s h5
  have hu5 : u < 5 := by omega
  obtain ⟨V1, e1, o1, f1⟩ := P_when ho hc (k := st) h5
  have p1 := OB_fr (Or.inl hxy) f1 hp
  -- lawful of the first
  obtain ⟨l, V2, e2, hl, o2, f2⟩ : ∃ l V2, cf_X3_lawful Y V1 G x (nI u) = some (l, V2) ∧ LW a u l ∧ OB x Y V2 G 5 a ta ha ∧ FRm x V1 V2 G G := by
    cases em : mayB a u
    · exact ⟨-1000002, V1, P_lawful0 o1 hu5 em, Or.inl ⟨em, rfl⟩, o1, FRm_rf _ _ _⟩
    · obtain ⟨res, V2, e, r, o, f⟩ := P_lawful1 o1 hu5 em
      exact ⟨res, V2, e, Or.inr ⟨em, r⟩, o, f⟩
  have p2 := OB_fr (Or.inl hxy) f2 p1
  obtain ⟨V3, e3, p3, f3⟩ := P_when p2 (i := 4 - c) (by omega) (k := st) h5
  rw [Sw_tw hs hc, fw_hd hs.1 (nI st) 401 0 _ (hok c hc)] at e3
  have o3 := OB_fr (Or.inr hxy) f3 o2
  obtain ⟨V4, e4, o4⟩ : ∃ V4, cf_X3_lawful Y V3 G y (nI u) = some (l, V4) ∧ OB x Y V4 G 5 a ta ha := by
    have eb := Sw_may hs.1 hu5
    rcases hl with ⟨em, rfl⟩ | ⟨em, hl⟩
    · rw [em] at eb
      exact ⟨V3, P_lawful0 p3 hu5 eb, o3⟩
    · rw [em] at eb
      obtain ⟨res, V4, e, r, o, f⟩ := P_lawful1 p3 hu5 eb
      have := lwR_eq (lwR_sw hs hok r) hl
      subst this
      exact ⟨V4, e, OB_fr (Or.inr hxy) f o3⟩
  rw [cf_L_comes, if_pos kx, c5, Option.bind_some, ec, Option.bind_some, es, Option.bind_some, eu, Option.bind_some, e1s, e1, Option.bind_some]
  dsimp only
  rw [e2, Option.bind_some]
  dsimp only
  rw [there_s (N := 5) o2 hc, Option.bind_some, if_pos ky, e3, Option.bind_some]
  dsimp only
  rw [if_pos rfl, e4, Option.bind_some]
  dsimp only
  rw [if_pos rfl]
  rcases fw_spec a (nI st) 401 0 (rc a c) with ⟨k, hk, ew, hat, hbf⟩ | ⟨ew, -⟩
  · rw [show 0 + k = k by omega] at ew
    rw [ew]
    -- behind k days, and back
    have GO : ∀ (V : mV) (G : mG) (t : Nat) (ha : Nat → Nat → Int32), OB x Y V G 5 a t ha → 1 ≤ k → ∃ V5 G5 V6 w t6 ha6, cf_X3_pass Y V G x (nI k) = some (nI (d + k), V5, G5) ∧ cf_X3_conditionOf Y V5 G5 x (nI c) (4 : Int32) = some (nI st) ∧ cf_X3_undo Y V5 G5 x = some (nI w, V6) ∧ w < 4 ∧ OB x Y V6 G5 5 a t6 ha6 := by
      intro V G t ha hO hk1
      obtain ⟨V5, G5, t5, h5', N5, a5, e5, o5, f5, ⟨rfl, rfl, dd⟩, hh⟩ := P_pass hO (D := k) hk1 (by omega) hd (by omega)
      obtain ⟨h0, hha⟩ := hh (nI_pos' (by omega))
      obtain ⟨V6, w, e6, hw, o6⟩ := UND o5 h0 hha ha1
      obtain ⟨er, eh, -⟩ := dN_row k a hok
      refine ⟨V5, G5, V6, w, _, _, e5, ?_, e6, hw, o6⟩
      rw [P_conditionOf o5 hc]
      show some (sst (dN 5 k a) (rc (dN 5 k a) c)) = _
      rw [sst_hd eh (o5.2.2.2.1.2.2 c hc).2.1, er c hc, hat]
    by_cases k0 : k = 0
    · subst k0
      rw [if_pos (show nI 0 ≤ 0 by decide)]
      exact LAWP o4 hd hd4 hu5 hl
    · rw [if_neg (nI_nle (by omega) (by omega))]
      by_cases k1 : k = 1
      · subst k1
        obtain ⟨V5, G5, V6, w, t6, ha6, e5, e5c, e6, hw, o6⟩ := GO V4 G ta ha o4 (by omega)
        obtain ⟨V7, G7, e7⟩ := LAWP o6 hd hd4 hu5 hl
        refine ⟨V7, G7, ?_⟩
        rw [if_pos (show nI 1 = 1 from rfl), e5, Option.bind_some]
        dsimp only
        rw [if_neg (nI_nle (by omega) (by omega)), e5c, Option.bind_some, if_pos rfl, e6, Option.bind_some]
        dsimp only
        rw [if_neg (nI_pos (by omega))]
        exact e7
      · rw [if_neg (show ¬ nI k = 1 from fun q => k1 ((nI_eq (b := 1) (by omega) (by omega)).mp q)), show nI k - 1 = nI (k - 1) from nI_sb (b := 1) (by omega)]
        obtain ⟨V5, G5, t5, h5', N5, a5, e5, o5, f5, ⟨rfl, rfl, dd⟩, hh⟩ := P_pass o4 (D := k - 1) (by omega) (by omega) hd (by omega)
        obtain ⟨h0, hha⟩ := hh (nI_pos' (by omega))
        obtain ⟨er, eh, eh2, eh3⟩ := dN_row (k - 1) a hok
        have hs5 : isSt (rc (dN 5 (k - 1) a) c 1) := (o5.2.2.2.1.2.2 c hc).2.1
        have e5c : cf_X3_conditionOf Y V5 G5 x (nI c) (4 : Int32) = some (sst a (rd a (k - 1) (rc a c))) := by
          rw [P_conditionOf o5 hc]
          show some (sst (dN 5 (k - 1) a) (rc (dN 5 (k - 1) a) c)) = _
          rw [sst_hd eh hs5, er c hc]
        have nst : ¬ sst a (rd a (k - 1) (rc a c)) = nI st := hbf (k - 1) (by omega)
        obtain ⟨V6, e6, o6, -⟩ := P_when o5 hc (k := st) h5
        have ew6 : fw (dN 5 (k - 1) a) (nI st) 401 0 (rc (dN 5 (k - 1) a) c) = nI 1 := by
          have ok6 := (o5.2.2.2.1.2.2 c hc).2
          have st0 : sst (dN 5 (k - 1) a) (rc (dN 5 (k - 1) a) c) = sst a (rd a (k - 1) (rc a c)) := by rw [sst_hd eh hs5, er c hc]
          have st1 : sst (dN 5 (k - 1) a) (rday (dN 5 (k - 1) a) (rc (dN 5 (k - 1) a) c)) = nI st := by
            rw [sst_hd eh (okr_day ok6).1, rday_hd eh2 eh3 eh ok6, er c hc, ← rd_s, show k - 1 + 1 = k by omega, hat]
          show (if sst (dN 5 (k - 1) a) (rc (dN 5 (k - 1) a) c) = nI st then nI 0 else (if sst (dN 5 (k - 1) a) (rday (dN 5 (k - 1) a) (rc (dN 5 (k - 1) a) c)) = nI st then nI 1 else _)) = _
          rw [st0, if_neg nst, if_pos st1]
        rw [ew6] at e6
        obtain ⟨V7, w, e7, hw, o7⟩ := UND o6 h0 hha ha1
        obtain ⟨V8, G8, V9, w9, t9, ha9, e8, e8c, e9, hw9, o9⟩ := GO V7 G5 _ _ o7 (by omega)
        obtain ⟨V10, G10, e10⟩ := LAWP o9 hd hd4 hu5 hl
        refine ⟨V10, G10, ?_⟩
        rw [e5, Option.bind_some]
        dsimp only
        rw [if_neg (nI_nle (by omega) (by omega)), e5c, Option.bind_some, if_neg nst, e6, Option.bind_some]
        dsimp only
        rw [if_pos (show nI 1 = 1 from rfl), e7, Option.bind_some]
        dsimp only
        rw [if_neg (nI_pos (by omega)), e8, Option.bind_some]
        dsimp only
        rw [if_neg (nI_nle (by omega) (by omega)), e8c, Option.bind_some, if_pos rfl, e9, Option.bind_some]
        dsimp only
        rw [if_neg (nI_pos (by omega))]
        exact e10
  · rw [ew, if_pos (by decide)]
    exact LAWP o4 hd hd4 hu5 hl
end CLS
