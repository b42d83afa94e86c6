-- orders, done by both
def kn (c : Nat) : Nat := if c = 97 then 2 else if c = 98 then 1 else if c = 99 then 4 else if c = 100 then 2 else if c = 102 then 1 else if c = 112 then 1 else 0
theorem kn_c : ∀ c, c < 127 → cf_X1_numbersBehind (nI c) = some (nI (kn c)) ∧ cf_X4_numbersOf (nI c) = some (nI (kn c)) ∧ kn c ≤ 4 := by decide +kernel
def RQ (o m L K q : Nat) (V W : mV) (cls mdl : Option (Int32 × mV)) : Prop := ∃ ok q' V' W', cls = some (bi ok, V') ∧ mdl = some (bi ok, W') ∧ q ≤ q' ∧ q' ≤ L ∧ V' o 4 = nI q' ∧ W' m 8 = nI q' ∧ FV o V V' ∧ FW m W W' ∧ (ok = true → ∀ j, j < K → V' (o + 2) j = W' (m + 6) j)
section CLS
variable {Y : mY} {G H : mG} {o m L h : Nat} {T : Nat → Nat}
theorem n1_ (v : mV) : ¬ ((1 : Int32), v).1 = 0 := show ¬ (1 : Int32) = 0 by decide
theorem R_ord_lp (hO : OT Y G o) (hM : MT Y H m) {K : Nat} (hK : K ≤ 4) : ∀ (n i f1 f2 q : Nat) (V W : mV), i + n + 1 = K → n + 1 < f1 → n < f2 → TR o m L T V W → q ≤ L → V o 4 = nI q → W m 8 = nI q → (∀ j, j < i → V (o + 2) j = W (m + 6) j) → RQ o m L K q V W (lp_X1_readOrder_46 Y G f1 V o (nI K) (nI i)) ((cf_X4_takesNumber Y W H m (nI i)).bind (fun x13 => if x13.1 = 0 then (some ((0 : Int32), x13.2)) else (lp_X4_readsOrder_39 Y H f2 x13.2 m (nI K) (nI i + 1))))
  | 0, i, f1, f2, q, V, W, hi, hf1, hf2, hT, hq, h4, h8, hb => by
      obtain ⟨g1, rfl⟩ : ∃ g, f1 = g + 2 := ⟨f1 - 2, by omega⟩
      obtain ⟨g2, rfl⟩ : ∃ g, f2 = g + 1 := ⟨f2 - 1, by omega⟩
      have lK : ¬ nI K ≤ nI i := le_nI (by omega) (by omega)
      have eK : nI K - 1 = nI (K - 1) := nI_m1 (by omega)
      have lK1 : nI (K - 1) ≤ nI i := nI_le (by omega) (by omega)
      obtain ⟨ok, q1, V1, W1, z1, z2, z3, z4, z5, z6, z7, z8, z9, z10, z11⟩ := R_num hO hM (show i < 4 by omega) hT hq h4 h8
      have hT1 := TR_f z7 z8 hT
      cases ok
      · refine ⟨false, q1, V1, W1, ?_, ?_, z3, z4, z5, z6, z7, z8, fun w => by cases w⟩
        · rw [lp_X1_readOrder_46, if_neg lK, eK, if_pos lK1, if_pos hO.1, z1, Option.bind_some]; rfl
        · rw [z2, Option.bind_some]; rfl
      · obtain ⟨ok2, q2, V2, W2, y1, y2, y3, y4, y5, y6, y7, y8, y9, y10⟩ := R_sign hO hM hT1 z4 z5 z6 (show 59 < 200 by omega)
        have nb : ∀ j, j < i + 1 → V2 (o + 2) j = W2 (m + 6) j := fun j hj => by
          rw [y9, y10]
          by_cases e : j = i
          · subst e; exact z11 rfl
          · rw [z9 j e, z10 j e]; exact hb j (by omega)
        have FVa := FV_tr z7 y7
        have FWa := FW_tr z8 y8
        have y1 : cf_X1_readSign Y V1 G o 59 = some (bi ok2, V2) := y1
        have y2 : cf_X4_takes Y W1 H m 59 = some (bi ok2, W2) := y2
        have pK : nI K ≤ nI i + 1 := by rw [← nI_succ]; exact nI_le (by omega) (by omega)
        refine ⟨ok2, q2, V2, W2, ?_, ?_, by omega, y4, y5, y6, FVa, FWa, fun _ j hj => nb j (by omega)⟩
        · rw [lp_X1_readOrder_46, if_neg lK, eK, if_pos lK1, if_pos hO.1, z1, Option.bind_some, bi_1, if_neg (n1_ _), y1, Option.bind_some]
          cases ok2
          · rfl
          · rw [bi_1, if_neg (n1_ _), lp_X1_readOrder_46, if_pos pK]
        · rw [z2, Option.bind_some, bi_1, if_neg (n1_ _), lp_X4_readsOrder_39, if_pos pK, if_pos (MT_k hM), y2, Option.bind_some, if_pos (bi_or ok2)]
  | n + 1, i, f1, f2, q, V, W, hi, hf1, hf2, hT, hq, h4, h8, hb => by
      obtain ⟨g1, rfl⟩ : ∃ g, f1 = g + 2 := ⟨f1 - 2, by omega⟩
      obtain ⟨g2, rfl⟩ : ∃ g, f2 = g + 1 := ⟨f2 - 1, by omega⟩
      have lK : ¬ nI K ≤ nI i := le_nI (by omega) (by omega)
      have eK : nI K - 1 = nI (K - 1) := nI_m1 (by omega)
      have lK1 : ¬ nI (K - 1) ≤ nI i := le_nI (by omega) (by omega)
      obtain ⟨ok, q1, V1, W1, z1, z2, z3, z4, z5, z6, z7, z8, z9, z10, z11⟩ := R_num hO hM (show i < 4 by omega) hT hq h4 h8
      have hT1 := TR_f z7 z8 hT
      cases ok
      · refine ⟨false, q1, V1, W1, ?_, ?_, z3, z4, z5, z6, z7, z8, fun w => by cases w⟩
        · rw [lp_X1_readOrder_46, if_neg lK, eK, if_neg lK1, if_pos hO.1, z1, Option.bind_some]; rfl
        · rw [z2, Option.bind_some]; rfl
      · obtain ⟨ok2, q2, V2, W2, y1, y2, y3, y4, y5, y6, y7, y8, y9, y10⟩ := R_sign hO hM hT1 z4 z5 z6 (show 44 < 200 by omega)
        have nb : ∀ j, j < i + 1 → V2 (o + 2) j = W2 (m + 6) j := fun j hj => by
          rw [y9, y10]
          by_cases e : j = i
          · subst e; exact z11 rfl
          · rw [z9 j e, z10 j e]; exact hb j (by omega)
        have FVa := FV_tr z7 y7
        have FWa := FW_tr z8 y8
        have y1 : cf_X1_readSign Y V1 G o 44 = some (bi ok2, V2) := y1
        have y2 : cf_X4_takes Y W1 H m 44 = some (bi ok2, W2) := y2
        have nK : ¬ nI K ≤ nI i + 1 := by rw [← nI_succ]; exact le_nI (by omega) (by omega)
        have n0 : ¬ nI i + 1 ≤ 0 := by rw [← nI_succ]; exact nI_nle (by omega) (by omega)
        cases ok2
        · refine ⟨false, q2, V2, W2, ?_, ?_, by omega, y4, y5, y6, FVa, FWa, fun w => by cases w⟩
          · rw [lp_X1_readOrder_46, if_neg lK, eK, if_neg lK1, if_pos hO.1, z1, Option.bind_some, bi_1, if_neg (n1_ _), y1, Option.bind_some]; rfl
          · rw [z2, Option.bind_some, bi_1, if_neg (n1_ _), lp_X4_readsOrder_39, if_neg nK, if_neg n0, if_pos (MT_k hM), y2, Option.bind_some]; rfl
        · obtain ⟨ok3, q3, V3, W3, w1, w2, w3, w4, w5, w6, w7, w8, w9⟩ := R_ord_lp hO hM hK n (i + 1) (g1 + 1) g2 q2 V2 W2 (by omega) (by omega) (by omega) (TR_f y7 y8 hT1) y4 y5 y6 nb
          refine ⟨ok3, q3, V3, W3, ?_, ?_, by omega, w4, w5, w6, FV_tr FVa w7, FW_tr FWa w8, w9⟩
          · rw [lp_X1_readOrder_46, if_neg lK, eK, if_neg lK1, if_pos hO.1, z1, Option.bind_some, bi_1, if_neg (n1_ _), y1, Option.bind_some, bi_1, if_neg (n1_ _), ← nI_succ]
            exact w1
          · rw [z2, Option.bind_some, bi_1, if_neg (n1_ _), lp_X4_readsOrder_39, if_neg nK, if_neg n0, if_pos (MT_k hM), y2, Option.bind_some, bi_1, if_neg (n1_ _), ← nI_succ]
            exact w2
theorem R_ord (hO : OT Y G o) (hM : MT Y H m) {V W : mV} (hT : TR o m L T V W) {q : Nat} (hq : q < L) (h4 : V o 4 = nI q) (h7 : W m 7 = nI q) : ∃ ok q' V' W', cf_X1_readOrder Y V G o = some (bi ok, V') ∧ cf_X4_readsOrder Y W H m = some (bi ok, W') ∧ q ≤ q' ∧ q' ≤ L ∧ V' o 4 = nI q' ∧ W' m 8 = nI q' ∧ FV o V V' ∧ FW m W W' ∧ (ok = true → q < q' ∧ 0 < kn (T q) ∧ ∀ j, j < kn (T q) → V' (o + 2) j = W' (m + 6) j) := by
  obtain ⟨o1, o2, o3, o4, o5, o6, o7⟩ := id hO
  obtain ⟨hL, t2, t6, tk⟩ := id hT
  obtain ⟨m1, m2, m3, m4, m5, m6⟩ := MT_5 hM
  have lt : ¬ nI L ≤ nI q := le_nI (by omega) (by omega)
  obtain ⟨c1, c2, cv, cw⟩ := tk q hq
  have i1 : ¬ (nI q < 0 ∨ Y.2 (o + 1) ≤ (nI q).toNatClampNeg) := by rw [o5]; exact nx_in (by omega) (by decide)
  have i2 : ¬ (nI q < 0 ∨ Y.2 (m + 5) ≤ (nI q).toNatClampNeg) := by rw [m3]; exact nx_in (by omega) (by decide)
  have cq : (nI q).toNatClampNeg = q := nI_clamp (by omega)
  rw [cq] at i1 i2
  obtain ⟨k1, k2, k4⟩ := kn_c (T q) (by omega)
  have e7 : up2 W m 8 (nI q) m 7 = nI q := by rw [up2_sn _ _ _ (by omega)]; exact h7
  have ew : up2 W m 8 (nI q) (m + 5) q = nI (T q) := by rw [up2_n _ _ _ (by omega)]; exact cw
  by_cases z : kn (T q) = 0
  · refine ⟨false, q, V, up2 W m 8 (nI q), ?_, ?_, Nat.le_refl _, by omega, h4, up2_ss _ _ _ _, FV_rf _ _, FW_8 _ _ _, fun w => by cases w⟩
    · rw [cf_X1_readOrder, if_pos o1, t2, h4, if_neg lt, o2, Option.bind_some, if_pos o4, cq, if_pos i1, cv, k1, Option.bind_some, z, if_pos (show nI 0 = 0 from rfl)]; rfl
    · rw [cf_X4_readsOrder, if_pos (MT_k hM), m1, Option.bind_some, if_pos m2, h7, e7, cq, if_pos i2, ew, k2, Option.bind_some, z, if_pos (show nI 0 = 0 from rfl)]; rfl
  · have nz : ¬ nI (kn (T q)) = 0 := nI_ne0 (by omega) (by omega)
    have nl : ¬ nI (kn (T q)) ≤ 0 := nI_nle (by omega) (by omega)
    have F1 := FV_4 o V (nI q + 1)
    have F2 : FW m W (up2 (up2 W m 8 (nI q)) m 8 (nI q + 1)) := FW_tr (FW_8 _ _ _) (FW_8 _ _ _)
    obtain ⟨f, hf⟩ : ∃ f, fuB = f + 1 := ⟨fuB - 1, by have := fuB_gt (n := 4) (by omega); omega⟩
    have f4 : 8 < f := by have := fuB_gt (n := 10) (by omega); omega
    obtain ⟨ok, q', V', W', z1, z2, z3, z4, z5, z6, z7, z8, z9⟩ := R_ord_lp hO hM k4 (kn (T q) - 1) 0 fuB f (q + 1) (up2 V o 4 (nI q + 1)) (up2 (up2 W m 8 (nI q)) m 8 (nI q + 1)) (by omega) (by omega) (by omega) (TR_f F1 F2 hT) (by omega) (by rw [up2_ss, nI_succ]) (by rw [up2_ss, nI_succ]) (fun j hj => absurd hj (by omega))
    refine ⟨ok, q', V', W', ?_, ?_, by omega, z4, z5, z6, FV_tr F1 z7, FW_tr F2 z8, fun w => ⟨by omega, by omega, z9 w⟩⟩
    · rw [cf_X1_readOrder, if_pos o1, t2, h4, if_neg lt, o2, Option.bind_some, if_pos o4, cq, if_pos i1, cv, k1, Option.bind_some, if_neg nz]
      exact z1
    · rw [cf_X4_readsOrder, if_pos (MT_k hM), m1, Option.bind_some, if_pos m2, h7, e7, cq, if_pos i2, ew, k2, Option.bind_some, if_neg nz, up2_ss, hf, lp_X4_readsOrder_39, if_neg nl, if_pos (by decide), if_pos (MT_k hM)]
      exact z2
theorem D_ord (hO : OT Y G o) (hP : PT Y G h) (hM : MT Y H m) {V W : mV} (hT : TR o m L T V W) {s N : Nat} (hs : s < L) (h3 : V o 3 = nI s) (h7 : W m 7 = nI s) (hk : 0 < kn (T s)) (hb : ∀ j, j < kn (T s) → V (o + 2) j = W (m + 6) j) (hm : PM V h N (W (m + 1))) (hsi : SI N (W (m + 1))) : ∃ r V2 N' a', cf_X1_doOrder Y V G o h = some (r, V2) ∧ sO V2 V h ∧ (r < -1000000 ∨ 0 ≤ r) ∧ cf_X4_doesOrder Y W H m = some (r, va_up W (m + 1) a') ∧ PM V2 h N' a' ∧ SI N' a' := by
  obtain ⟨o1, o2, o3, o4, o5, o6, o7⟩ := id hO
  obtain ⟨hL, t2, t6, tk⟩ := id hT
  obtain ⟨m1, m2, m3, m4, m5, m6⟩ := MT_5 hM
  obtain ⟨c1, c2, cv, cw⟩ := tk s hs
  have i1 : ¬ (nI s < 0 ∨ Y.2 (o + 1) ≤ (nI s).toNatClampNeg) := by rw [o5]; exact nx_in (by omega) (by decide)
  have i2 : ¬ (nI s < 0 ∨ Y.2 (m + 5) ≤ (nI s).toNatClampNeg) := by rw [m3]; exact nx_in (by omega) (by decide)
  have cs : (nI s).toNatClampNeg = s := nI_clamp (by omega)
  rw [cs] at i1 i2
  have a0 : ¬ ((0 : Int32) < 0 ∨ Y.2 (o + 2) ≤ (0 : Int32).toNatClampNeg) := by rw [o7]; decide
  have a1 : ¬ ((1 : Int32) < 0 ∨ Y.2 (o + 2) ≤ (1 : Int32).toNatClampNeg) := by rw [o7]; decide
  have a2 : ¬ ((2 : Int32) < 0 ∨ Y.2 (o + 2) ≤ (2 : Int32).toNatClampNeg) := by rw [o7]; decide
  have a3 : ¬ ((3 : Int32) < 0 ∨ Y.2 (o + 2) ≤ (3 : Int32).toNatClampNeg) := by rw [o7]; decide
  have b0 : ¬ ((0 : Int32) < 0 ∨ Y.2 (m + 6) ≤ (0 : Int32).toNatClampNeg) := by rw [m6]; decide
  have b1 : ¬ ((1 : Int32) < 0 ∨ Y.2 (m + 6) ≤ (1 : Int32).toNatClampNeg) := by rw [m6]; decide
  have b2 : ¬ ((2 : Int32) < 0 ∨ Y.2 (m + 6) ≤ (2 : Int32).toNatClampNeg) := by rw [m6]; decide
  have b3 : ¬ ((3 : Int32) < 0 ∨ Y.2 (m + 6) ≤ (3 : Int32).toNatClampNeg) := by rw [m6]; decide
  have fin : ∀ {cls : Option (Int32 × mV)} {mdl : mV → Option (Int32 × mV)}, OK2 V h m N (W (m + 1)) cls mdl → ∃ r V2 N' a', cls = some (r, V2) ∧ sO V2 V h ∧ (r < -1000000 ∨ 0 ≤ r) ∧ mdl W = some (r, va_up W (m + 1) a') ∧ PM V2 h N' a' ∧ SI N' a' := by
    rintro cls mdl ⟨r, V2, N', e1, q1, hr, hall⟩
    obtain ⟨a', e2, p2, s2, -⟩ := hall W rfl
    exact ⟨r, V2, N', a', e1, q1, hr.imp (fun z => z.1) id, e2, p2, s2⟩
  have six : T s = 97 ∨ T s = 98 ∨ T s = 99 ∨ T s = 100 ∨ T s = 102 ∨ T s = 112 := by
    unfold kn at hk
    by_cases z97 : T s = 97
    · exact Or.inl z97
    · by_cases z98 : T s = 98
      · exact Or.inr (Or.inl z98)
      · by_cases z99 : T s = 99
        · exact Or.inr (Or.inr (Or.inl z99))
        · by_cases z100 : T s = 100
          · exact Or.inr (Or.inr (Or.inr (Or.inl z100)))
          · by_cases z102 : T s = 102
            · exact Or.inr (Or.inr (Or.inr (Or.inr (Or.inl z102))))
            · by_cases z112 : T s = 112
              · exact Or.inr (Or.inr (Or.inr (Or.inr (Or.inr z112))))
              · rw [if_neg z97, if_neg z98, if_neg z99, if_neg z100, if_neg z102, if_neg z112] at hk; exact absurd hk (by omega)
  rcases six with e | e | e | e | e | e
  · obtain ⟨r, V2, N', a', e1, q1, hr, e2, p2, s2⟩ := fin (OK_2 (S_apply hP hM hm hsi (W (m + 6) 0) (W (m + 6) 1)))
    refine ⟨r, V2, N', a', ?_, q1, hr, ?_, p2, s2⟩
    · rw [cf_X1_doOrder, if_pos o1, o2, Option.bind_some, if_pos o4, h3, cs, if_pos i1, cv, e, if_pos (show nI 97 = 97 from rfl), o3, Option.bind_some, if_pos o6, if_pos a0, if_pos a1, if_pos hP.1, tn_0, tn_1, hb 0 (by rw [e]; decide), hb 1 (by rw [e]; decide), e1, Option.bind_some]
    · rw [cf_X4_doesOrder, if_pos (MT_k hM), m1, Option.bind_some, if_pos m2, h7, cs, if_pos i2, cw, e, if_pos (show nI 97 = 97 from rfl), m4, Option.bind_some, if_pos m5, if_pos b0, if_pos b1, tn_0, tn_1, e2, Option.bind_some]
  · obtain ⟨r, V2, N', a', e1, q1, hr, e2, p2, s2⟩ := fin (S_begin hP hM hm hsi (W (m + 6) 0))
    refine ⟨r, V2, N', a', ?_, q1, hr, ?_, p2, s2⟩
    · rw [cf_X1_doOrder, if_pos o1, o2, Option.bind_some, if_pos o4, h3, cs, if_pos i1, cv, e, if_neg (show ¬ nI 98 = 97 by decide), if_pos (show nI 98 = 98 from rfl), o3, Option.bind_some, if_pos o6, if_pos a0, if_pos hP.1, tn_0, hb 0 (by rw [e]; decide), e1, Option.bind_some]
    · rw [cf_X4_doesOrder, if_pos (MT_k hM), m1, Option.bind_some, if_pos m2, h7, cs, if_pos i2, cw, e, if_neg (show ¬ nI 98 = 97 by decide), if_pos (show nI 98 = 98 from rfl), m4, Option.bind_some, if_pos m5, if_pos b0, tn_0, e2, Option.bind_some]
  · obtain ⟨r, V2, N', a', e1, q1, hr, e2, p2, s2⟩ := fin (S_condition hP hM hm hsi (W (m + 6) 0) (W (m + 6) 1) (W (m + 6) 2) (W (m + 6) 3))
    refine ⟨r, V2, N', a', ?_, q1, hr, ?_, p2, s2⟩
    · rw [cf_X1_doOrder, if_pos o1, o2, Option.bind_some, if_pos o4, h3, cs, if_pos i1, cv, e, if_neg (show ¬ nI 99 = 97 by decide), if_neg (show ¬ nI 99 = 98 by decide), if_pos (show nI 99 = 99 from rfl), o3, Option.bind_some, if_pos o6, if_pos a0, if_pos a1, if_pos a2, if_pos a3, if_pos hP.1, tn_0, tn_1, tn_2, tn_3, hb 0 (by rw [e]; decide), hb 1 (by rw [e]; decide), hb 2 (by rw [e]; decide), hb 3 (by rw [e]; decide), e1, Option.bind_some]
    · rw [cf_X4_doesOrder, if_pos (MT_k hM), m1, Option.bind_some, if_pos m2, h7, cs, if_pos i2, cw, e, if_neg (show ¬ nI 99 = 97 by decide), if_neg (show ¬ nI 99 = 98 by decide), if_pos (show nI 99 = 99 from rfl), m4, Option.bind_some, if_pos m5, if_pos b0, if_pos b1, if_pos b2, if_pos b3, tn_0, tn_1, tn_2, tn_3, e2, Option.bind_some]
  · obtain ⟨r, V2, N', a', e1, q1, hr, e2, p2, s2⟩ := fin (OK_2 (S_decide hP hM hm hsi (W (m + 6) 0) (W (m + 6) 1)))
    refine ⟨r, V2, N', a', ?_, q1, hr, ?_, p2, s2⟩
    · rw [cf_X1_doOrder, if_pos o1, o2, Option.bind_some, if_pos o4, h3, cs, if_pos i1, cv, e, if_neg (show ¬ nI 100 = 97 by decide), if_neg (show ¬ nI 100 = 98 by decide), if_neg (show ¬ nI 100 = 99 by decide), if_pos (show nI 100 = 100 from rfl), o3, Option.bind_some, if_pos o6, if_pos a0, if_pos a1, if_pos hP.1, tn_0, tn_1, hb 0 (by rw [e]; decide), hb 1 (by rw [e]; decide), e1, Option.bind_some]
    · rw [cf_X4_doesOrder, if_pos (MT_k hM), m1, Option.bind_some, if_pos m2, h7, cs, if_pos i2, cw, e, if_neg (show ¬ nI 100 = 97 by decide), if_neg (show ¬ nI 100 = 98 by decide), if_neg (show ¬ nI 100 = 99 by decide), if_pos (show nI 100 = 100 from rfl), m4, Option.bind_some, if_pos m5, if_pos b0, if_pos b1, tn_0, tn_1, e2, Option.bind_some]
  · obtain ⟨r, V2, N', a', e1, q1, hr, e2, p2, s2⟩ := fin (OK_2 (S_finish hP hM hm hsi (W (m + 6) 0)))
    refine ⟨r, V2, N', a', ?_, q1, hr, ?_, p2, s2⟩
    · rw [cf_X1_doOrder, if_pos o1, o2, Option.bind_some, if_pos o4, h3, cs, if_pos i1, cv, e, if_neg (show ¬ nI 102 = 97 by decide), if_neg (show ¬ nI 102 = 98 by decide), if_neg (show ¬ nI 102 = 99 by decide), if_neg (show ¬ nI 102 = 100 by decide), if_pos (show nI 102 = 102 from rfl), o3, Option.bind_some, if_pos o6, if_pos a0, if_pos hP.1, tn_0, hb 0 (by rw [e]; decide), e1, Option.bind_some]
    · rw [cf_X4_doesOrder, if_pos (MT_k hM), m1, Option.bind_some, if_pos m2, h7, cs, if_pos i2, cw, e, if_neg (show ¬ nI 102 = 97 by decide), if_neg (show ¬ nI 102 = 98 by decide), if_neg (show ¬ nI 102 = 99 by decide), if_neg (show ¬ nI 102 = 100 by decide), if_pos (show nI 102 = 102 from rfl), m4, Option.bind_some, if_pos m5, if_pos b0, tn_0, e2, Option.bind_some]
  · obtain ⟨r, V2, N', a', e1, q1, hr, e2, p2, s2⟩ := fin (S_pass hP hM hm hsi (W (m + 6) 0))
    refine ⟨r, V2, N', a', ?_, q1, hr, ?_, p2, s2⟩
    · rw [cf_X1_doOrder, if_pos o1, o2, Option.bind_some, if_pos o4, h3, cs, if_pos i1, cv, e, if_neg (show ¬ nI 112 = 97 by decide), if_neg (show ¬ nI 112 = 98 by decide), if_neg (show ¬ nI 112 = 99 by decide), if_neg (show ¬ nI 112 = 100 by decide), if_neg (show ¬ nI 112 = 102 by decide), o3, Option.bind_some, if_pos o6, if_pos a0, if_pos hP.1, tn_0, hb 0 (by rw [e]; decide), e1, Option.bind_some]
    · rw [cf_X4_doesOrder, if_pos (MT_k hM), m1, Option.bind_some, if_pos m2, h7, cs, if_pos i2, cw, e, if_neg (show ¬ nI 112 = 97 by decide), if_neg (show ¬ nI 112 = 98 by decide), if_neg (show ¬ nI 112 = 99 by decide), if_neg (show ¬ nI 112 = 100 by decide), if_neg (show ¬ nI 112 = 102 by decide), m4, Option.bind_some, if_pos m5, if_pos b0, tn_0, e2, Option.bind_some]
end CLS
