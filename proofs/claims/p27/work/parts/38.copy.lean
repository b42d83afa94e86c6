-- a permission, copied
theorem CM_ext {cl cl' r : Nat → Int32} (h : ∀ k, k < 14 → cl' k = cl k) (hc : CM cl r) : CM cl' r := by
  unfold CM at *
  rw [h 0 (by omega), h 1 (by omega), h 2 (by omega), h 3 (by omega), h 4 (by omega), h 5 (by omega), h 6 (by omega), h 7 (by omega), h 8 (by omega), h 9 (by omega), h 10 (by omega), h 11 (by omega), h 12 (by omega), h 13 (by omega)]
  exact hc
theorem lt14 {k : Nat} (h : k < 14) : k = 0 ∨ k = 1 ∨ k = 2 ∨ k = 3 ∨ k = 4 ∨ k = 5 ∨ k = 6 ∨ k = 7 ∨ k = 8 ∨ k = 9 ∨ k = 10 ∨ k = 11 ∨ k = 12 ∨ k = 13 := by omega
section CLS
variable {Y : mY} {G : mG} {g h : Nat}
theorem C_ccopy {c e : Nat} (hc : Y.1 c = 0) (he : Y.1 e = 0) (hne : e ≠ c) (W : mV) (b8 : W e 8 = 0 ∨ W e 8 = 1) (b9 : W e 9 = 0 ∨ W e 9 = 1) (b11 : W e 11 = 0 ∨ W e 11 = 1) : ∃ W', cf_X0_copyFrom Y W G c e = some W' ∧ (∀ k, k < 14 → W' c k = W e k) ∧ ∀ b, b ≠ c → W' b = W b := by
  have q : ∀ (V : mV) (k : Nat) (v : Int32), up2 V c k v e = V e := fun V k v => up2_n V k v hne
  refine ⟨up2 (up2 (up2 (up2 (up2 (up2 (up2 (up2 (up2 (up2 (up2 (up2 (up2 (up2 W c 0 (W e 0)) c 1 (W e 1)) c 2 (W e 2)) c 3 (W e 3)) c 4 (W e 4)) c 5 (W e 5)) c 6 (W e 6)) c 7 (W e 7)) c 8 (W e 8)) c 9 (W e 9)) c 10 (W e 10)) c 11 (W e 11)) c 12 (W e 12)) c 13 (W e 13), ?_, ?_, fun b hb => by simp only [up2_n _ _ _ hb]⟩
  · rw [cf_X0_copyFrom, if_pos he, if_pos hc]
    simp only [Option.bind_some, q]
    rw [if_pos b8, if_pos b9, if_pos b11]
  · intro k hk
    rcases lt14 hk with e | e | e | e | e | e | e | e | e | e | e | e | e | e <;> subst e <;> simp [up2_s, va_up]
theorem CP41 (hPg : PT Y G g) (hPh : PT Y G h) (hd : g + 14 ≤ h ∨ h + 14 ≤ g) : ∀ (n i fuel : Nat) (V : mV), i + n = 5 → n < fuel → ∃ V', lp_X2_copyFrom_41 Y G fuel V g h (nI i) = some V' ∧ (∀ k, i ≤ k → k < 5 → V' (g + 2) k = V (h + 2) k ∧ V' (g + 3) k = V (h + 3) k) ∧ (∀ k, k < i → V' (g + 2) k = V (g + 2) k ∧ V' (g + 3) k = V (g + 3) k) ∧ (∀ k, 4 ≤ k → k ≤ 8 → V' g k = V h k) ∧ V' g 3 = V g 3 ∧ ∀ b, b ≠ g → b ≠ g + 2 → b ≠ g + 3 → V' b = V b
  | 0, i, fuel, V, hi, hf => by
      obtain ⟨f, rfl⟩ : ∃ f, fuel = f + 1 := ⟨fuel - 1, by omega⟩
      obtain rfl : i = 5 := by omega
      have q : ∀ (V : mV) (k : Nat) (v : Int32), up2 V g k v h = V h := fun V k v => up2_n V k v (by omega)
      refine ⟨up2 (up2 (up2 (up2 (up2 V g 4 (V h 4)) g 5 (V h 5)) g 6 (V h 6)) g 7 (V h 7)) g 8 (V h 8), ?_, fun k h1 h2 => absurd h1 (by omega), fun k hk => ?_, fun k h1 h2 => ?_, by simp [up2_s, va_up], fun b h1 h2 h3 => by simp only [up2_n _ _ _ h1]⟩
      · rw [lp_X2_copyFrom_41, if_pos (show (5 : Int32) ≤ nI 5 by decide), if_pos hPh.1, if_pos hPg.1, Option.bind_some]
        simp only [q]
      · simp only [up2_n _ _ _ (show g + 2 ≠ g by omega), up2_n _ _ _ (show g + 3 ≠ g by omega), and_self]
      · rcases (show k = 4 ∨ k = 5 ∨ k = 6 ∨ k = 7 ∨ k = 8 by omega) with e | e | e | e | e <;> subst e <;> simp [up2_s, va_up]
  | n + 1, i, fuel, V, hi, hf => by
      obtain ⟨f, rfl⟩ : ∃ f, fuel = f + 1 := ⟨fuel - 1, by omega⟩
      have lt : ¬ (5 : Int32) ≤ nI i := le_nI (a := 5) (b := i) (by omega) (by decide)
      have ci : (nI i).toNatClampNeg = i := nI_clamp (by omega)
      obtain ⟨V', e1, e2, e3, e4, e5, e6⟩ := CP41 hPg hPh hd n (i + 1) f (up2 (up2 V (g + 2) i (V (h + 2) i)) (g + 3) i (V (h + 3) i)) (by omega) (by omega)
      have bg := P_b hPg (show i < 5 by omega)
      have bh := P_b hPh (show i < 5 by omega)
      obtain ⟨a0, a1, a2, a3, a4, a5, a6, a7, a8, a9, a10⟩ := id hPg
      obtain ⟨c0, c1, c2, c3, c4, c5, c6, c7, c8, c9, c10⟩ := id hPh
      refine ⟨V', ?_, fun k h1 h2 => ?_, fun k hk => ?_, fun k h1 h2 => ?_, ?_, fun b h1 h2 h3 => ?_⟩
      · rw [lp_X2_copyFrom_41, if_neg lt, if_pos a0, a2, Option.bind_some, if_pos c0, c2, Option.bind_some, if_pos c6, if_pos bh.1, if_pos a6, if_pos bg.1, a3, Option.bind_some, c3, Option.bind_some, if_pos c8, if_pos bh.2, if_pos a8, if_pos bg.2, Option.bind_some, ci, up2_n _ _ _ (show h + 3 ≠ g + 2 by omega), ← nI_succ]
        exact e1
      · by_cases e : k = i
        · subst e
          rw [(e3 k (by omega)).1, (e3 k (by omega)).2, up2_ss, up2_n _ _ _ (by omega), up2_ss]
          exact ⟨rfl, rfl⟩
        · rw [(e2 k (by omega) h2).1, (e2 k (by omega) h2).2, up2_n _ _ _ (show h + 2 ≠ g + 3 by omega), up2_n _ _ _ (show h + 2 ≠ g + 2 by omega), up2_n _ _ _ (show h + 3 ≠ g + 3 by omega), up2_n _ _ _ (show h + 3 ≠ g + 2 by omega)]
          exact ⟨rfl, rfl⟩
      · rw [(e3 k (by omega)).1, (e3 k (by omega)).2, up2_sn _ _ _ (show k ≠ i by omega), up2_n _ _ _ (show g + 2 ≠ g + 3 by omega), up2_sn _ _ _ (show k ≠ i by omega), up2_n _ _ _ (show g + 3 ≠ g + 2 by omega)]
        exact ⟨rfl, rfl⟩
      · rw [e4 k h1 h2, up2_n _ _ _ (by omega), up2_n _ _ _ (by omega)]
      · rw [e5, up2_n _ _ _ (by omega), up2_n _ _ _ (by omega)]
      · rw [e6 b h1 h2 h3, up2_n _ _ _ h3, up2_n _ _ _ h2]
theorem CP10 (hPg : PT Y G g) (hPh : PT Y G h) (hd : g + 14 ≤ h ∨ h + 14 ≤ g) {N : Nat} (hN : N ≤ 10) : ∀ (n i fuel : Nat) (V : mV), i + n = N → n < fuel → V g 3 = nI N → (∀ j, j < N → (V (h + 4 + j) 8 = 0 ∨ V (h + 4 + j) 8 = 1) ∧ (V (h + 4 + j) 9 = 0 ∨ V (h + 4 + j) 9 = 1) ∧ (V (h + 4 + j) 11 = 0 ∨ V (h + 4 + j) 11 = 1)) → ∃ V', lp_X2_copyFrom_10 Y G fuel V g h (nI i) = some V' ∧ (∀ j, i ≤ j → j < N → ∀ k, k < 14 → V' (g + 4 + j) k = V (h + 4 + j) k) ∧ (∀ j, j < i → V' (g + 4 + j) = V (g + 4 + j)) ∧ (∀ k, k < 5 → V' (g + 2) k = V (h + 2) k ∧ V' (g + 3) k = V (h + 3) k) ∧ (∀ k, 4 ≤ k → k ≤ 8 → V' g k = V h k) ∧ V' g 3 = V g 3 ∧ sO V' V g
  | 0, i, fuel, V, hi, hf, h3, hb => by
      obtain ⟨f, rfl⟩ : ∃ f, fuel = f + 1 := ⟨fuel - 1, by omega⟩
      obtain rfl : i = N := by omega
      obtain ⟨V', e1, e2, e3, e4, e5, e6⟩ := CP41 hPg hPh hd 5 0 fuB V (by omega) (fuB_gt (by omega))
      refine ⟨V', ?_, fun j h1 h2 => absurd h1 (by omega), fun j hj => e6 _ (by omega) (by omega) (by omega), fun k hk => e2 k (by omega) hk, e4, e5, fun b hb => e6 b (by omega) (by omega) (by omega)⟩
      rw [lp_X2_copyFrom_10, if_pos hPg.1, h3, if_pos (Int32.le_refl _)]
      exact e1
  | n + 1, i, fuel, V, hi, hf, h3, hb => by
      obtain ⟨f, rfl⟩ : ∃ f, fuel = f + 1 := ⟨fuel - 1, by omega⟩
      have lt : ¬ nI N ≤ nI i := le_nI (by omega) (by omega)
      obtain ⟨a0, a1, a2, a3, a4⟩ := P_cell hPg (show i < 10 by omega)
      obtain ⟨c0, c1, c2, c3, c4⟩ := P_cell hPh (show i < 10 by omega)
      obtain ⟨b8, b9, b11⟩ := hb i (by omega)
      obtain ⟨V1, q1, q2, q3⟩ := C_ccopy (G := G) a4 c4 (show h + 4 + i ≠ g + 4 + i by omega) V b8 b9 b11
      obtain ⟨V', e1, e2, e3, e4, e5, e6, e7⟩ := CP10 hPg hPh hd hN n (i + 1) f V1 (by omega) (by omega) (by rw [q3 _ (by omega)]; exact h3) (fun j hj => by rw [q3 _ (by omega)]; exact hb j hj)
      refine ⟨V', ?_, fun j h1 h2 k hk => ?_, fun j hj => ?_, fun k hk => ?_, fun k h1 h2 => ?_, ?_, fun b hb => ?_⟩
      · rw [lp_X2_copyFrom_10, if_pos hPg.1, h3, if_neg lt, a0, Option.bind_some, if_pos a1, if_pos a2, a3, Option.bind_some, if_pos hPh.1, c0, Option.bind_some, if_pos c1, if_pos c2, c3, Option.bind_some, if_pos a4, q1, Option.bind_some, ← nI_succ]
        exact e1
      · by_cases e : j = i
        · subst e; rw [e3 j (by omega)]; exact q2 k hk
        · rw [e2 j (by omega) h2 k hk, q3 _ (by omega)]
      · rw [e3 j (by omega), q3 _ (by omega)]
      · rw [(e4 k hk).1, (e4 k hk).2, q3 _ (by omega), q3 _ (by omega)]; exact ⟨rfl, rfl⟩
      · rw [e5 k h1 h2, q3 _ (by omega)]
      · rw [e6, q3 _ (by omega)]
      · rw [e7 b hb, q3 _ (by omega)]
theorem C_copy (hPg : PT Y G g) (hPh : PT Y G h) (hd : g + 14 ≤ h ∨ h + 14 ≤ g) {N : Nat} {V : mV} {a : Nat → Int32} (hA : AI N a) (hm : PM V h N a) : ∃ V', cf_X2_copyFrom Y V G g h = some V' ∧ PM V' g N a ∧ sO V' V g := by
  obtain ⟨m3, m4, m5, m6, m7, m8, mst, mc⟩ := id hm
  have nh : ∀ b, b ≠ g → up2 V g 3 (nI N) b = V b := fun b hb => up2_n V 3 (nI N) hb
  have nhc : ∀ j, j < N → up2 V g 3 (nI N) (h + 4 + j) = V (h + 4 + j) := fun j hj => nh _ (by have := hA.1; omega)
  obtain ⟨V', e1, e2, -, e4, e5, e6, e7⟩ := CP10 hPg hPh hd hA.1 N 0 fuB (up2 V g 3 (nI N)) (by omega) (fuB_gt (by have := hA.1; omega)) (up2_ss _ _ _ _) (fun j hj => by
    rw [nhc j hj]
    obtain ⟨c0, c1, c2, c3, c4, c5, c6, c7, c8, c9, c10, c13, cn⟩ := mc j hj
    obtain ⟨f8, f12, -⟩ := (hA.2.2 j hj).1
    refine ⟨by rw [c8]; exact f8, by rw [c9]; exact f12, ?_⟩
    rcases cn with ⟨q, -⟩ | ⟨q, -⟩
    · exact Or.inl q
    · exact Or.inr q)
  have hN := hA.1
  refine ⟨V', by rw [cf_X2_copyFrom, if_pos hPh.1, if_pos hPg.1, m3]; exact e1, ⟨by rw [e6]; exact up2_ss _ _ _ _, ?_, ?_, ?_, ?_, ?_, fun k hk => ?_, fun i hi => ?_⟩, fun b hb => by rw [e7 b hb, nh b (by omega)]⟩
  · rw [e5 4 (by omega) (by omega), nh _ (by omega)]; exact m4
  · rw [e5 5 (by omega) (by omega), nh _ (by omega)]; exact m5
  · rw [e5 6 (by omega) (by omega), nh _ (by omega)]; exact m6
  · rw [e5 7 (by omega) (by omega), nh _ (by omega)]; exact m7
  · rw [e5 8 (by omega) (by omega), nh _ (by omega)]; exact m8
  · rw [(e4 k hk).1, (e4 k hk).2, nh _ (by omega), nh _ (by omega)]; exact mst k hk
  · refine CM_ext (cl := V (h + 4 + i)) (fun k hk => ?_) (mc i hi)
    rw [e2 i (by omega) hi k hk, nhc i hi]
end CLS

