-- orders, read by both
def OT (Y : mY) (G : mG) (o : Nat) : Prop := Y.1 o = 1 ∧ G o 0 = some (o + 1) ∧ G o 1 = some (o + 2) ∧ Y.1 (o + 1) = 5 ∧ Y.2 (o + 1) = 80 ∧ Y.1 (o + 2) = 6 ∧ Y.2 (o + 2) = 4
def TR (o m L : Nat) (T : Nat → Nat) (V W : mV) : Prop := L ≤ 80 ∧ V o 2 = nI L ∧ W m 6 = nI L ∧ ∀ k, k < L → 32 ≤ T k ∧ T k ≤ 126 ∧ V (o + 1) k = nI (T k) ∧ W (m + 5) k = nI (T k)
def FV (o : Nat) (V V' : mV) : Prop := (∀ b, b ≠ o → b ≠ o + 2 → V' b = V b) ∧ ∀ k, k ≠ 4 → V' o k = V o k
def FW (m : Nat) (W W' : mV) : Prop := (∀ b, b ≠ m → b ≠ m + 6 → W' b = W b) ∧ ∀ k, k ≠ 8 → W' m k = W m k
theorem FV_rf (o : Nat) (V : mV) : FV o V V := ⟨fun _ _ _ => rfl, fun _ _ => rfl⟩
theorem FW_rf (m : Nat) (W : mV) : FW m W W := ⟨fun _ _ _ => rfl, fun _ _ => rfl⟩
theorem FV_tr {o : Nat} {V V' V2 : mV} (h1 : FV o V V') (h2 : FV o V' V2) : FV o V V2 := ⟨fun b a c => (h2.1 b a c).trans (h1.1 b a c), fun k a => (h2.2 k a).trans (h1.2 k a)⟩
theorem FW_tr {m : Nat} {W W' W2 : mV} (h1 : FW m W W') (h2 : FW m W' W2) : FW m W W2 := ⟨fun b a c => (h2.1 b a c).trans (h1.1 b a c), fun k a => (h2.2 k a).trans (h1.2 k a)⟩
theorem FV_4 (o : Nat) (V : mV) (v : Int32) : FV o V (up2 V o 4 v) := ⟨fun b a _ => up2_n _ _ _ a, fun k a => up2_sn _ _ _ a⟩
theorem FW_8 (m : Nat) (W : mV) (v : Int32) : FW m W (up2 W m 8 v) := ⟨fun b a _ => up2_n _ _ _ a, fun k a => up2_sn _ _ _ a⟩
theorem FV_n (o : Nat) (V : mV) (i : Nat) (v : Int32) : FV o V (up2 V (o + 2) i v) := ⟨fun b _ a => up2_n _ _ _ a, fun k _ => by rw [up2_n _ _ _ (by omega)]⟩
theorem FW_n (m : Nat) (W : mV) (i : Nat) (v : Int32) : FW m W (up2 W (m + 6) i v) := ⟨fun b _ a => up2_n _ _ _ a, fun k _ => by rw [up2_n _ _ _ (by omega)]⟩
theorem TR_f {o m L : Nat} {T : Nat → Nat} {V W V' W' : mV} (hv : FV o V V') (hw : FW m W W') (h : TR o m L T V W) : TR o m L T V' W' := by
  obtain ⟨h1, h2, h3, h4⟩ := h
  refine ⟨h1, by rw [hv.2 2 (by omega)]; exact h2, by rw [hw.2 6 (by omega)]; exact h3, fun k hk => ?_⟩
  rw [hv.1 _ (by omega) (by omega), hw.1 _ (by omega) (by omega)]
  exact h4 k hk
section CLS
variable {Y : mY} {G H : mG} {o m L : Nat} {T : Nat → Nat}
theorem MT_5 (hM : MT Y H m) : H m 5 = some (m + 5) ∧ Y.1 (m + 5) = 6 ∧ Y.2 (m + 5) = 80 ∧ H m 9 = some (m + 6) ∧ Y.1 (m + 6) = 6 ∧ Y.2 (m + 6) = 4 := by
  obtain ⟨-, -, -, -, -, q6, q7, -, -, -, -, q12, q13, -, -, -, -, q18, q19⟩ := hM
  exact ⟨q6, q12, q18, q7, q13, q19⟩
theorem R_sign (hO : OT Y G o) (hM : MT Y H m) {V W : mV} (hT : TR o m L T V W) {q : Nat} (hq : q ≤ L) (h4 : V o 4 = nI q) (h8 : W m 8 = nI q) {b : Nat} (hb : b < 200) : ∃ ok q' V' W', cf_X1_readSign Y V G o (nI b) = some (bi ok, V') ∧ cf_X4_takes Y W H m (nI b) = some (bi ok, W') ∧ q ≤ q' ∧ q' ≤ L ∧ V' o 4 = nI q' ∧ W' m 8 = nI q' ∧ FV o V V' ∧ FW m W W' ∧ V' (o + 2) = V (o + 2) ∧ W' (m + 6) = W (m + 6) := by
  obtain ⟨o1, o2, o3, o4, o5, o6, o7⟩ := hO
  obtain ⟨hL, t2, t6, tk⟩ := id hT
  obtain ⟨m1, m2, m3, -⟩ := MT_5 hM
  by_cases e : q = L
  · subst e
    refine ⟨false, q, V, up2 W m 8 (nI q + 0), ?_, ?_, Nat.le_refl _, Nat.le_refl _, h4, ?_, FV_rf _ _, FW_8 _ _ _, rfl, up2_n _ _ _ (by omega)⟩
    · rw [cf_X1_readSign, if_pos o1, t2, h4, if_pos (Int32.le_refl _)]; rfl
    · rw [cf_X4_takes, if_pos (MT_k hM), t6, h8, if_pos (Int32.le_refl _), if_pos rfl]; rfl
    · rw [up2_ss, Int32.add_zero]
  · have lt : ¬ nI L ≤ nI q := le_nI (by omega) (by omega)
    obtain ⟨c1, c2, cv, cw⟩ := tk q (by omega)
    have i1 : ¬ (nI q < 0 ∨ Y.2 (o + 1) ≤ (nI q).toNatClampNeg) := by rw [o5]; exact nx_in (by omega) (by decide)
    have i2 : ¬ (nI q < 0 ∨ Y.2 (m + 5) ≤ (nI q).toNatClampNeg) := by rw [m3]; exact nx_in (by omega) (by decide)
    have cq : (nI q).toNatClampNeg = q := nI_clamp (by omega)
    by_cases z : T q = b
    · have zz : nI (T q) = nI b := by rw [z]
      refine ⟨true, q + 1, up2 V o 4 (nI q + 1), up2 W m 8 (nI q + 1), ?_, ?_, by omega, by omega, by rw [up2_ss, nI_succ], by rw [up2_ss, nI_succ], FV_4 _ _ _, FW_8 _ _ _, up2_n _ _ _ (by omega), up2_n _ _ _ (by omega)⟩
      · rw [cf_X1_readSign, if_pos o1, t2, h4, if_neg lt, o2, Option.bind_some, if_pos o4, if_pos i1, cq, cv, if_pos zz]; rfl
      · rw [cf_X4_takes, if_pos (MT_k hM), t6, h8, if_neg lt, m1, Option.bind_some, if_pos m2, if_pos i2, cq, cw, if_pos zz, if_neg (by decide)]; rfl
    · have zz : ¬ nI (T q) = nI b := fun w => z ((nI_eq (by omega) (by omega)).mp w)
      refine ⟨false, q, V, up2 W m 8 (nI q + 0), ?_, ?_, Nat.le_refl _, hq, h4, by rw [up2_ss, Int32.add_zero], FV_rf _ _, FW_8 _ _ _, rfl, up2_n _ _ _ (by omega)⟩
      · rw [cf_X1_readSign, if_pos o1, t2, h4, if_neg lt, o2, Option.bind_some, if_pos o4, if_pos i1, cq, cv, if_neg zz]; rfl
      · rw [cf_X4_takes, if_pos (MT_k hM), t6, h8, if_neg lt, m1, Option.bind_some, if_pos m2, if_pos i2, cq, cw, if_neg zz, if_pos rfl]; rfl
def RN (o m L i q : Nat) (V W : mV) (cls mdl : Option (Int32 × mV)) : Prop := ∃ ok q' V' W', cls = some (bi ok, V') ∧ mdl = some (bi ok, W') ∧ q ≤ q' ∧ q' ≤ L ∧ V' o 4 = nI q' ∧ W' m 8 = nI q' ∧ FV o V V' ∧ FW m W W' ∧ (∀ k, k ≠ i → V' (o + 2) k = V (o + 2) k) ∧ (∀ k, k ≠ i → W' (m + 6) k = W (m + 6) k) ∧ (ok = true → V' (o + 2) i = W' (m + 6) i)
theorem R_stop (hO : OT Y G o) {V W : mV} {q i j s acc : Nat} {cls mdl : Option (Int32 × mV)} (hi : i < 4) (hj : j ≤ 3) (hq : q ≤ L) (hL : L ≤ 80) (h4 : V o 4 = nI q) (h8 : W m 8 = nI q) (ha : W (m + 6) i = nI acc) (hs : q = s + j) (hc : cls = (if nI j = 0 then (some ((0 : Int32), V)) else (if nI i < 0 then (some ((0 : Int32), V)) else (if nI i < (4 : Int32) then ((G o 1).bind (fun r6 => if Y.1 r6 = 6 then if ¬ (nI i < 0 ∨ Y.2 r6 ≤ (nI i).toNatClampNeg) then some ((1 : Int32), (up2 V r6 (nI i).toNatClampNeg (nI acc))) else none else none)) else (some ((0 : Int32), V)))))) (hm : mdl = if W m 8 ≤ nI s then some ((0 : Int32), W) else some ((1 : Int32), W)) : RN o m L i q V W cls mdl := by
  obtain ⟨o1, o2, o3, o4, o5, o6, o7⟩ := hO
  by_cases e : j = 0
  · subst e
    refine ⟨false, q, V, W, by rw [hc, if_pos (show nI 0 = 0 from rfl)]; rfl, ?_, Nat.le_refl _, hq, h4, h8, FV_rf _ _, FW_rf _ _, fun _ _ => rfl, fun _ _ => rfl, fun z => by cases z⟩
    rw [hm, h8, hs, if_pos (by exact Int32.le_refl _)]; rfl
  · have nz : ¬ nI j = 0 := nI_ne0 (by omega) (by omega)
    have ix : ¬ (nI i < 0 ∨ Y.2 (o + 2) ≤ (nI i).toNatClampNeg) := by rw [o7]; exact nx_in hi (by decide)
    refine ⟨true, q, up2 V (o + 2) i (nI acc), W, ?_, ?_, Nat.le_refl _, hq, by rw [up2_n _ _ _ (by omega)]; exact h4, h8, FV_n _ _ _ _, FW_rf _ _, fun k hk => up2_sn _ _ _ hk, fun _ _ => rfl, fun _ => by rw [up2_ss, ha]⟩
    · rw [hc, if_neg nz, if_neg (nI_pos (by omega)), if_pos (show nI i < 4 from nI_lt (b := 4) hi (by decide)), o3, Option.bind_some, if_pos o6, if_pos ix, nI_clamp (show i < _ by omega)]; rfl
    · have : ¬ nI q ≤ nI s := le_nI (by omega) (by omega)
      rw [hm, h8, if_neg this]; rfl
theorem R_num_lp (hO : OT Y G o) (hM : MT Y H m) {i : Nat} (hi : i < 4) : ∀ (f j q acc f1 f2 s : Nat) (V W : mV), f + j = 3 → f < f1 → f < f2 → TR o m L T V W → q ≤ L → V o 4 = nI q → W m 8 = nI q → W (m + 6) i = nI acc → q = s + j → RN o m L i q V W (lp_X1_readNumber_4 Y G f1 V o (nI i) (nI acc) (nI j)) (lp_X4_takesNumber_12 Y H f2 W m (nI i) (nI s))
  | 0, j, q, acc, f1, f2, s, V, W, hj, hf1, hf2, hT, hq, h4, h8, ha, hs => by
      obtain ⟨g1, rfl⟩ : ∃ g, f1 = g + 1 := ⟨f1 - 1, by omega⟩
      obtain ⟨g2, rfl⟩ : ∃ g, f2 = g + 1 := ⟨f2 - 1, by omega⟩
      obtain rfl : j = 3 := by omega
      have e3 : nI s + 3 = nI (s + 3) := nI_add s 3
      refine R_stop (G := G) hO hi (by omega) hq hT.1 h4 h8 ha hs ?_ ?_
      · rw [lp_X1_readNumber_4, if_pos (show (3 : Int32) ≤ nI 3 by decide), if_pos hO.1]
      · rw [lp_X4_takesNumber_12, if_pos (MT_k hM), e3, h8, hs, if_pos (show nI (s + 3) ≤ nI (s + 3) from Int32.le_refl _)]
        split <;> rfl
  | f + 1, j, q, acc, f1, f2, s, V, W, hj, hf1, hf2, hT, hq, h4, h8, ha, hs => by
      obtain ⟨g1, rfl⟩ : ∃ g, f1 = g + 1 := ⟨f1 - 1, by omega⟩
      obtain ⟨g2, rfl⟩ : ∃ g, f2 = g + 1 := ⟨f2 - 1, by omega⟩
      obtain ⟨o1, o2, o3, o4, o5, o6, o7⟩ := id hO
      obtain ⟨hL, t2, t6, tk⟩ := id hT
      obtain ⟨m1, m2, m3, m4, m5, m6⟩ := MT_5 hM
      have l3 : ¬ (3 : Int32) ≤ nI j := le_nI (a := 3) (b := j) (by omega) (by decide)
      have e3 : nI s + 3 = nI (s + 3) := nI_add s 3
      have ls : ¬ nI (s + 3) ≤ nI q := le_nI (by omega) (by omega)
      by_cases e : q = L
      · subst e
        refine R_stop (G := G) hO hi (by omega) hq hL h4 h8 ha hs ?_ ?_
        · rw [lp_X1_readNumber_4, if_neg l3, if_pos o1, t2, h4, if_pos (Int32.le_refl _)]
        · rw [lp_X4_takesNumber_12, if_pos (MT_k hM), t6, h8, if_pos (show nI q ≤ nI q from Int32.le_refl _)]
      · have lt : ¬ nI L ≤ nI q := le_nI (by omega) (by omega)
        obtain ⟨c1, c2, cv, cw⟩ := tk q (by omega)
        have i1 : ¬ (nI q < 0 ∨ Y.2 (o + 1) ≤ (nI q).toNatClampNeg) := by rw [o5]; exact nx_in (by omega) (by decide)
        have i2 : ¬ (nI q < 0 ∨ Y.2 (m + 5) ≤ (nI q).toNatClampNeg) := by rw [m3]; exact nx_in (by omega) (by decide)
        have i3 : ¬ (nI i < 0 ∨ Y.2 (m + 6) ≤ (nI i).toNatClampNeg) := by rw [m6]; exact nx_in hi (by decide)
        have cq : (nI q).toNatClampNeg = q := nI_clamp (by omega)
        have ci : (nI i).toNatClampNeg = i := nI_clamp (by omega)
        rw [cq] at i1 i2
        rw [ci] at i3
        have qi : cf_X4_in ((nI (T q)).toInt64) (48 : Int64) (57 : Int64) = some (bi (wi (nI (T q)) 48 57)) := M_in (nI (T q)) 48 57
        have wd : wi (nI (T q)) 48 57 = (decide (48 ≤ T q) && decide (T q ≤ 57)) := wi_nI (i := T q) (lo := 48) (hi := 57) (by omega) (by omega) (by omega)
        by_cases dg : 48 ≤ T q ∧ T q ≤ 57
        · have w1 : wi (nI (T q)) 48 57 = true := by rw [wd]; simp [dg.1, dg.2]
          have d1 : cf_X1_isDigit (nI (T q)) = some 1 := by
            rw [cf_X1_isDigit, if_neg (show ¬ nI (T q) < 48 from nI_nlt (b := 48) dg.1 (by omega)), if_neg (show ¬ (57 : Int32) < nI (T q) from nI_nlt (a := 57) dg.2 (by decide))]
          have a1 : nI acc * 10 + (nI (T q) - 48) = nI (10 * acc + (T q - 48)) := by
            rw [show nI (T q) - 48 = nI (T q - 48) from nI_sb (b := 48) dg.1, show (10 : Int32) = nI 10 from rfl, pk_mul, nI_add, Nat.mul_comm]
          have a2 : 10 * nI acc + nI (T q) - 48 = nI (10 * acc + (T q - 48)) := by
            rw [show (10 : Int32) = nI 10 from rfl, pk_mul, nI_add, show nI (10 * acc + T q) - 48 = nI (10 * acc + T q - 48) from nI_sb (b := 48) (by omega)]
            congr 1; omega
          have FVq := FV_4 o V (nI q + 1)
          have FW1 : FW m W (up2 (up2 W (m + 6) i (nI (10 * acc + (T q - 48)))) m 8 (nI q + 1)) := FW_tr (FW_n _ _ _ _) (FW_8 _ _ _)
          obtain ⟨ok, q', V', W', z1, z2, z3, z4, z5, z6, z7, z8, z9, z10, z11⟩ := R_num_lp hO hM hi f (j + 1) (q + 1) (10 * acc + (T q - 48)) g1 g2 s (up2 V o 4 (nI q + 1)) (up2 (up2 W (m + 6) i (nI (10 * acc + (T q - 48)))) m 8 (nI q + 1)) (by omega) (by omega) (by omega) (TR_f FVq FW1 hT) (by omega) (by rw [up2_ss, nI_succ]) (by rw [up2_ss, nI_succ]) (by rw [up2_n _ _ _ (by omega), up2_ss]) (by omega)
          refine ⟨ok, q', V', W', ?_, ?_, by omega, z4, z5, z6, FV_tr FVq z7, FW_tr FW1 z8, fun k hk => by rw [z9 k hk, up2_n _ _ _ (by omega)], fun k hk => by rw [z10 k hk, up2_n _ _ _ (by omega), up2_sn _ _ _ hk], z11⟩
          · rw [lp_X1_readNumber_4, if_neg l3, if_pos o1, t2, h4, if_neg lt, o2, Option.bind_some, if_pos o4, cq, if_pos i1, cv, d1, Option.bind_some, if_neg (by decide), if_pos i1, a1, ← nI_succ, ← nI_succ]
            rw [← nI_succ] at z1
            exact z1
          · rw [lp_X4_takesNumber_12, if_pos (MT_k hM), t6, h8, if_neg lt, e3, if_neg ls, m1, Option.bind_some, if_pos m2, cq, if_pos i2, cw, qi, w1, Option.bind_some, bi_1, if_neg (by decide), m4, Option.bind_some, if_pos m5, ci, if_pos i3, if_pos i2, if_pos i3, ha, a2, Option.bind_some, up2_n _ _ _ (show m ≠ m + 6 by omega), h8]
            exact z2
        · have w0 : wi (nI (T q)) 48 57 = false := by
            rw [wd]
            by_cases u : 48 ≤ T q
            · simp [u]; omega
            · simp [u]
          have d0 : cf_X1_isDigit (nI (T q)) = some 0 := by
            rw [cf_X1_isDigit]
            by_cases u : 48 ≤ T q
            · rw [if_neg (show ¬ nI (T q) < 48 from nI_nlt (b := 48) u (by omega)), if_pos (show (57 : Int32) < nI (T q) from nI_lt (a := 57) (by omega) (by omega))]
            · rw [if_pos (show nI (T q) < 48 from nI_lt (b := 48) (by omega) (by decide))]
          refine R_stop (G := G) hO hi (by omega) hq hL h4 h8 ha hs ?_ ?_
          · rw [lp_X1_readNumber_4, if_neg l3, if_pos o1, t2, h4, if_neg lt, o2, Option.bind_some, if_pos o4, cq, if_pos i1, cv, d0, Option.bind_some, if_pos rfl]
          · rw [lp_X4_takesNumber_12, if_pos (MT_k hM), t6, h8, if_neg lt, e3, if_neg ls, m1, Option.bind_some, if_pos m2, cq, if_pos i2, cw, qi, w0, Option.bind_some, bi_0, if_pos rfl]
theorem R_num (hO : OT Y G o) (hM : MT Y H m) {i : Nat} (hi : i < 4) {V W : mV} (hT : TR o m L T V W) {q : Nat} (hq : q ≤ L) (h4 : V o 4 = nI q) (h8 : W m 8 = nI q) : RN o m L i q V W (cf_X1_readNumber Y V G o (nI i)) (cf_X4_takesNumber Y W H m (nI i)) := by
  obtain ⟨m1, m2, m3, m4, m5, m6⟩ := MT_5 hM
  have i3 : ¬ (nI i < 0 ∨ Y.2 (m + 6) ≤ (nI i).toNatClampNeg) := by rw [m6]; exact nx_in hi (by decide)
  have ci : (nI i).toNatClampNeg = i := nI_clamp (by omega)
  rw [ci] at i3
  have F1 := FW_n m W i 0
  have mm : cf_X4_takesNumber Y W H m (nI i) = lp_X4_takesNumber_12 Y H fuB (up2 W (m + 6) i 0) m (nI i) (nI q) := by
    rw [cf_X4_takesNumber, if_pos (MT_k hM), m4, Option.bind_some, if_pos m5, ci, if_pos i3, h8]
  rw [mm]
  obtain ⟨ok, q', V', W', z1, z2, z3, z4, z5, z6, z7, z8, z9, z10, z11⟩ := R_num_lp hO hM hi 3 0 q 0 fuB fuB q V (up2 W (m + 6) i 0) (by omega) (fuB_gt (by omega)) (fuB_gt (by omega)) (TR_f (FV_rf _ _) F1 hT) hq h4 (by rw [up2_n _ _ _ (by omega)]; exact h8) (up2_ss _ _ _ _) (by omega)
  exact ⟨ok, q', V', W', z1, z2, z3, z4, z5, z6, z7, FW_tr F1 z8, z9, fun k hk => by rw [z10 k hk, up2_sn _ _ _ hk], z11⟩
end CLS
