-- the law's own loops
theorem cell_s {L : Nat} {xs : Nat → Int32} (hL : L ≤ 260) {i : Nat} (hi : i < 1000) : ∃ v, cf_L_cell L xs (nI i) = some v := by
  rw [cf_L_cell]
  by_cases h : Int32.ofNat L ≤ nI i
  · exact ⟨_, if_pos h⟩
  · have lt : i < L := by
      rcases Nat.lt_or_ge i L with q | q
      · exact q
      · exact absurd (show Int32.ofNat L ≤ nI i from nI_le q (by omega)) h
    exact ⟨_, by rw [if_neg h, if_pos (nx_in lt (by omega))]⟩
def cvl_ (L : Nat) (xs : Nat → Int32) (i : Nat) : Int32 := (cf_L_cell L xs (nI i)).getD 0
def up0 (v m : Int32) : Int32 := (cf_L_up v m).getD 0
def Rw (v : Int32) : Nat → Int32 := nw (up0 v 3) (up0 (v >>> ((3 : Int32) &&& 31)) 3) ((1 : Int32) + up0 (v >>> ((6 : Int32) &&& 31)) 12) ((1 : Int32) + up0 (v >>> ((12 : Int32) &&& 31)) 3)
def a0_ : Nat → Int32 := fun k => if k = 2 then 56 else if k = 3 then 100 else if 6 ≤ k ∧ k < 16 then -1 else 0
section CLS
variable {L : Nat} {xs : Nat → Int32} {Y : mY} {x y : Nat}
set_option maxHeartbeats 4000000 in
theorem L214 (hL : L ≤ 260) (hxy : x + 103 ≤ y) : ∀ (n i fuel : Nat) (V : mV) (G : mG) (a b : Nat → Int32) (d : Nat), i + n = 50 → 5 ≤ i → n < fuel → TW x y Y V G a b d → d + 30 ≤ 6 * i → lp_L_law_214 L xs Y fuel V G x y 1 (nI i) = some 1
  | 0, i, fuel, V, G, a, b, d, hi, hi5, hf, hT, hd => by
      obtain ⟨f, rfl⟩ : ∃ f, fuel = f + 1 := ⟨fuel - 1, by omega⟩
      obtain rfl : i = 50 := by omega
      obtain ⟨v, ev⟩ := cell_s (xs := xs) hL (i := 50) (by omega)
      have ev : cf_L_cell L xs 50 = some v := ev
      obtain ⟨V', G', e⟩ := comes_s hT hxy (by omega) v
      rw [lp_L_law_214, if_pos (show (50 : Int32) ≤ nI 50 by decide), if_neg (by decide), ev, Option.bind_some, e, Option.bind_some]
      dsimp only
      rw [if_neg (by decide)]
  | n + 1, i, fuel, V, G, a, b, d, hi, hi5, hf, hT, hd => by
      obtain ⟨f, rfl⟩ : ∃ f, fuel = f + 1 := ⟨fuel - 1, by omega⟩
      have lt : ¬ (50 : Int32) ≤ nI i := le_nI (a := 50) (b := i) (by omega) (by decide)
      obtain ⟨v, ev⟩ := cell_s (xs := xs) hL (i := i) (by omega)
      obtain ⟨V1, G1, a1, b1, d1, e1, hT1, hd1⟩ := step_s hT hxy (by omega) v
      obtain ⟨V2, e2, hT2⟩ := alike_s hT1 hxy (by omega)
      rw [lp_L_law_214, if_neg lt, if_neg (by decide), ev, Option.bind_some, e1, Option.bind_some]
      dsimp only
      rw [if_neg (by decide), e2, Option.bind_some]
      dsimp only
      rw [if_neg (by decide), ← nI_succ]
      exact L214 hL hxy n (i + 1) f V2 G1 a1 b1 d1 (by omega) (by omega) (by omega) hT2 (by omega)
/-- k conditions are there -/
def BS (L : Nat) (xs : Nat → Int32) (k : Nat) (a : Nat → Int32) (o : Nat → Nat) : Prop := (∀ j, j < 16 → j ≠ 1 → a j = a0_ j) ∧ ∀ j, j < k → rc a j = Rw (cvl_ L xs (o j))
theorem cond_s {V : mV} {G : mG} {k : Nat} {a : Nat → Int32} {t : Nat} {ha : Nat → Nat → Int32} (hO : OB x Y V G k a t ha) (hk : k < 5) (o : Nat → Nat) (hB : BS L xs k a o) {v : Int32} (hv : cvl_ L xs (o k) = v) : ∃ k1 k2 k3 k4 V1 G1 a1 t1 ha1, cf_L_up v 3 = some (nI k1) ∧ cf_L_up (v >>> ((3 : Int32) &&& 31)) 3 = some (nI k2) ∧ cf_L_up (v >>> ((6 : Int32) &&& 31)) 12 = some (nI k3) ∧ cf_L_up (v >>> ((12 : Int32) &&& 31)) 3 = some (nI k4) ∧ cf_X3_condition Y V G x (nI k1) (nI k2) ((1 : Int32) + nI k3) ((1 : Int32) + nI k4) = some (nI k, V1, G1) ∧ OB x Y V1 G1 (k + 1) a1 t1 ha1 ∧ FRm x V V1 G G1 ∧ BS L xs (k + 1) a1 o := by
  obtain ⟨k1, h1, e1⟩ := up_s v (n := 3) (m := 3) rfl (by omega) (by omega)
  obtain ⟨k2, h2, e2⟩ := up_s (v >>> ((3 : Int32) &&& 31)) (n := 3) (m := 3) rfl (by omega) (by omega)
  obtain ⟨k3, h3, e3⟩ := up_s (v >>> ((6 : Int32) &&& 31)) (n := 12) (m := 12) rfl (by omega) (by omega)
  obtain ⟨k4, h4, e4⟩ := up_s (v >>> ((12 : Int32) &&& 31)) (n := 3) (m := 3) rfl (by omega) (by omega)
  have hb : a (6 + k2) = -1 := by
    rw [hB.1 (6 + k2) (by omega) (by omega)]
    unfold a0_
    rw [if_neg (by omega), if_neg (by omega), if_pos (by omega)]
  obtain ⟨V1, G1, t1, ha1, N1, a1, e, o1, f1, ⟨rfl, b1, b2, b3⟩, -⟩ := P_cond hO (by omega) (kd := k1) (u := k2) (y := 1 + k3) (p := 1 + k4) (by omega) (by omega) (by omega) (by omega) (by omega) (by omega) hb
  rw [← nI_add, ← nI_add] at e b3
  refine ⟨k1, k2, k3, k4, V1, G1, a1, t1, ha1, e1, e2, e3, e4, e, o1, f1, fun j hj h1 => (b1 j hj h1).trans (hB.1 j hj h1), fun j hj => ?_⟩
  by_cases q : j = k
  · subst q
    rw [b3, hv]
    unfold Rw up0
    rw [e1, e2, e3, e4]
    rfl
  · rw [b2 j (by omega)]; exact hB.2 j (by omega)
theorem XI_R (v : Int32) : XI 0 (Rw v) := by
  unfold Rw nw
  refine ⟨by simp [va_up], fun _ => by simp [va_up], fun q => ?_, 0, by omega, ?_⟩
  · simp [va_up] at q
  · simp [va_up]; rfl
theorem pair_set0 {V : mV} {G : mG} {a b : Nat → Int32} (hT : TW x y Y V G a b 0) (hxy : x + 103 ≤ y) (h2 : a 2 = 56) (h3 : a 3 = 100) : ∃ V1 G1 V2 G2 V3 G3 V4 G4 a' b', cf_X3_set Y V G x 0 6 = some (56, V1, G1) ∧ cf_X3_set Y V1 G1 y 0 6 = some (56, V2, G2) ∧ cf_X3_set Y V2 G2 x 1 9 = some (100, V3, G3) ∧ cf_X3_set Y V3 G3 y 1 9 = some (100, V4, G4) ∧ TW x y Y V4 G4 a' b' 0 := by
  obtain ⟨V1, G1, V2, G2, b', e1, e2, hT2⟩ := pair_set hT hxy (w := 0) (k := 6) (by omega) (by omega) (by omega)
  obtain ⟨V3, G3, V4, G4, b'', e3, e4, hT4⟩ := pair_set hT2 hxy (w := 1) (k := 9) (by omega) (by omega) (by omega)
  rw [show 2 + 0 = 2 from rfl, h2] at e1 e2
  rw [un_ _ _ (show 2 + 1 ≠ 2 + 0 by omega), show 2 + 1 = 3 from rfl, h3] at e3 e4
  exact ⟨V1, G1, V2, G2, V3, G3, V4, G4, _, _, e1, e2, e3, e4, hT4⟩
set_option maxHeartbeats 4000000 in
theorem L21 (hL : L ≤ 260) (hxy : x + 103 ≤ y) : ∀ (n k fuel : Nat) (V : mV) (G : mG) (a b : Nat → Int32) (ta : Nat) (ha : Nat → Nat → Int32) (tb : Nat) (hb : Nat → Nat → Int32), k + n = 5 → n < fuel → OB x Y V G k a ta ha → OB y Y V G k b tb hb → BS L xs k a (fun j => j) → BS L xs k b (fun j => 4 - j) → lp_L_law_21 L xs Y fuel V G x y 1 (nI k) = some 1
  | 0, k, fuel, V, G, a, b, ta, ha, tb, hb, hk, hf, ho, hp, hA, hB => by
      obtain ⟨f, rfl⟩ : ∃ f, fuel = f + 1 := ⟨fuel - 1, by omega⟩
      obtain rfl : k = 5 := by omega
      have hT : TW x y Y V G a b 0 := by
        refine ⟨ta, ha, tb, hb, ho, hp, ⟨fun j hj => ?_, fun i hi => ?_⟩, DY_of ho.2.2.2 (by rw [hA.1 0 (by omega) (by omega)]; rfl) (by omega), fun i hi => by rw [hA.2 i hi]; exact XI_R _⟩
        · by_cases q : j = 1
          · subst q; rw [ho.2.2.2.1.2.1, hp.2.2.2.1.2.1]
          · rw [hA.1 j hj q, hB.1 j hj q]
        · rw [hB.2 i hi, hA.2 (4 - i) (by omega)]
      obtain ⟨V1, G1, V2, G2, V3, G3, V4, G4, a', b', e1, e2, e3, e4, hT4⟩ := pair_set0 hT hxy (by rw [hA.1 2 (by omega) (by omega)]; rfl) (by rw [hA.1 3 (by omega) (by omega)]; rfl)
      rw [lp_L_law_21, if_pos (show (5 : Int32) ≤ nI 5 by decide), if_neg (by decide), if_pos ho.1.1.1, e1, Option.bind_some]
      dsimp only
      rw [if_pos rfl, if_pos hp.1.1.1, e2, Option.bind_some]
      dsimp only
      rw [if_pos rfl, e3, Option.bind_some]
      dsimp only
      rw [if_pos rfl, e4, Option.bind_some]
      dsimp only
      rw [if_pos rfl]
      exact L214 hL hxy 45 5 fuB V4 G4 a' b' 0 (by omega) (by omega) (fuB_gt (by omega)) hT4 (by omega)
  | n + 1, k, fuel, V, G, a, b, ta, ha, tb, hb, hk, hf, ho, hp, hA, hB => by
      obtain ⟨f, rfl⟩ : ∃ f, fuel = f + 1 := ⟨fuel - 1, by omega⟩
      have lt : ¬ (5 : Int32) ≤ nI k := le_nI (a := 5) (b := k) (by omega) (by decide)
      obtain ⟨v, ev⟩ := cell_s (xs := xs) hL (i := k) (by omega)
      obtain ⟨w, ew⟩ := cell_s (xs := xs) hL (i := 4 - k) (by omega)
      obtain ⟨k1, k2, k3, k4, V1, G1, a1, t1, ha1, u1, u2, u3, u4, e1, o1, f1, A1⟩ := cond_s ho (by omega) (fun j => j) hA (v := v) (by unfold cvl_; rw [ev]; rfl)
      have hp1 := OB_fr (Or.inl hxy) f1 hp
      obtain ⟨l1, l2, l3, l4, V2, G2, b1, t2, hb1, w1, w2, w3, w4, e2, o2, f2, B1⟩ := cond_s hp1 (by omega) (fun j => 4 - j) hB (v := w) (by unfold cvl_; rw [ew]; rfl)
      rw [lp_L_law_21, if_neg lt, ev, Option.bind_some, show (4 : Int32) - nI k = nI (4 - k) from nI_sb (a := 4) (by omega), ew, Option.bind_some, if_neg (by decide), u1, Option.bind_some, u2, Option.bind_some, u3, Option.bind_some, u4, Option.bind_some, if_pos ho.1.1.1, e1, Option.bind_some]
      dsimp only
      rw [if_pos rfl, w1, Option.bind_some, w2, Option.bind_some, w3, Option.bind_some, w4, Option.bind_some, if_pos hp.1.1.1, e2, Option.bind_some]
      dsimp only
      rw [if_pos rfl, ← nI_succ]
      exact L21 hL hxy n (k + 1) f V2 G2 a1 b1 t1 ha1 t2 hb1 (by omega) (by omega) (OB_fr (Or.inr hxy) f2 o1) o2 A1 B1
end CLS
