-- a text of orders, done by both
def FA (o h : Nat) (V V2 : mV) : Prop := (∀ b, b ≠ o → b ≠ o + 2 → ¬ (h ≤ b ∧ b < h + 14) → V2 b = V b) ∧ V2 o 2 = V o 2
def FB (m : Nat) (W W2 : mV) : Prop := (∀ b, b ≠ m → b ≠ m + 6 → b ≠ m + 1 → W2 b = W b) ∧ W2 m 6 = W m 6 ∧ W2 m 4 = W m 4
theorem FA_tr {o h : Nat} {V V1 V2 : mV} (h1 : FA o h V V1) (h2 : FA o h V1 V2) : FA o h V V2 := ⟨fun b a c d => (h2.1 b a c d).trans (h1.1 b a c d), h2.2.trans h1.2⟩
theorem FB_tr {m : Nat} {W W1 W2 : mV} (h1 : FB m W W1) (h2 : FB m W1 W2) : FB m W W2 := ⟨fun b a c d => (h2.1 b a c d).trans (h1.1 b a c d), h2.2.1.trans h1.2.1, h2.2.2.trans h1.2.2⟩
theorem FA_rf (o h : Nat) (V : mV) : FA o h V V := ⟨fun _ _ _ _ => rfl, rfl⟩
theorem FB_rf (m : Nat) (W : mV) : FB m W W := ⟨fun _ _ _ _ => rfl, rfl, rfl⟩
theorem FA_up (o h : Nat) (V : mV) {k : Nat} (hk : k ≠ 2) (v : Int32) : FA o h V (up2 V o k v) := ⟨fun b a _ _ => up2_n _ _ _ a, up2_sn _ _ _ (by omega)⟩
theorem FB_up (m : Nat) (W : mV) {k : Nat} (h6 : k ≠ 6) (h4 : k ≠ 4) (v : Int32) : FB m W (up2 W m k v) := ⟨fun b a _ _ => up2_n _ _ _ a, up2_sn _ _ _ (by omega), up2_sn _ _ _ (by omega)⟩
theorem FA_v {o h : Nat} {V V1 : mV} (q : FV o V V1) : FA o h V V1 := ⟨fun b a c _ => q.1 b a c, q.2 2 (by omega)⟩
theorem FB_w {m : Nat} {W W1 : mV} (q : FW m W W1) : FB m W W1 := ⟨fun b a c _ => q.1 b a c, q.2 6 (by omega), q.2 4 (by omega)⟩
theorem FA_s {o h : Nat} (hd : h + 14 ≤ o) {V V1 : mV} (q : sO V1 V h) : FA o h V V1 := ⟨fun b _ _ d => q b d, by rw [q o (by omega)]⟩
theorem FB_a (m : Nat) (W : mV) (a : Nat → Int32) : FB m W (va_up W (m + 1) a) := ⟨fun b _ _ d => va_up_ne _ _ d, by rw [va_up_ne _ _ (by omega)], by rw [va_up_ne _ _ (by omega)]⟩
theorem TR_b {o h m L : Nat} {T : Nat → Nat} {V W V' W' : mV} (hd : h + 14 ≤ o) (hv : FA o h V V') (hw : FB m W W') (q : TR o m L T V W) : TR o m L T V' W' := by
  obtain ⟨h1, h2, h3, h4⟩ := q
  refine ⟨h1, hv.2.trans h2, hw.2.1.trans h3, fun k hk => ?_⟩
  rw [hv.1 _ (by omega) (by omega) (by omega), hw.1 _ (by omega) (by omega) (by omega)]
  exact h4 k hk
def DA (o m h : Nat) (V W : mV) (cls mdl : Option (Int32 × mV)) : Prop := ∃ d y V2 W2, cls = some (d, V2) ∧ mdl = some (y, W2) ∧ FA o h V V2 ∧ FB m W W2 ∧ ((V2 o 5 = 0 ∧ y = 1 ∧ d = W2 m 12 ∧ 0 ≤ d ∧ ∃ N, PM V2 h N (W2 (m + 1)) ∧ SI N (W2 (m + 1))) ∨ (y = 0 ∧ V2 o 5 = W2 m 10 ∧ ¬ V2 o 5 = 0 ∧ V2 o 3 = W2 m 7 ∧ V2 o 6 = W2 m 11))
section CLS
variable {Y : mY} {G H : mG} {o m L h x : Nat} {T : Nat → Nat}
theorem PM_FA {V V' : mV} {N : Nat} {a : Nat → Int32} (hd : h + 14 ≤ o) (hN : N ≤ 10) (hv : ∀ b, h ≤ b → b < h + 14 → V' b = V b) (hm : PM V h N a) : PM V' h N a := PM_bl hN (fun i hi => hv _ (by omega) (by omega)) hm
theorem D_lp (hO : OT Y G o) (hP : PT Y G h) (hM : MT Y H m) (hd : h + 14 ≤ o) : ∀ (b cnt q f1 f2 N : Nat) (V W : mV), L ≤ q + b → q ≤ L → cnt ≤ q → b < f1 → b < f2 → TR o m L T V W → V o 4 = nI q → W m 7 = nI q → V o 5 = 0 → W m 12 = nI cnt → PM V h N (W (m + 1)) → SI N (W (m + 1)) → DA o m h V W (lp_X1_doAll_22 Y G f1 V o h (nI cnt)) (lp_X4_doesAll_10 Y H f2 W m)
  | b, cnt, q, f1, f2, N, V, W, hb, hq, hc, hf1, hf2, hT, h4, h7, h5, h12, hm, hsi => by
      obtain ⟨g1, rfl⟩ : ∃ g, f1 = g + 1 := ⟨f1 - 1, by omega⟩
      obtain ⟨g2, rfl⟩ : ∃ g, f2 = g + 1 := ⟨f2 - 1, by omega⟩
      obtain ⟨hL, t2, t6, tk⟩ := id hT
      by_cases e : q = L
      · subst e
        refine ⟨nI cnt, 1, V, W, ?_, ?_, FA_rf _ _ _, FB_rf _ _, Or.inl ⟨h5, rfl, h12.symm, nI_pos' (by omega), N, hm, hsi⟩⟩
        · rw [lp_X1_doAll_22]
          by_cases z : (80 : Int32) ≤ nI cnt
          · rw [if_pos z]
          · rw [if_neg z, if_pos hO.1, t2, h4, if_pos (Int32.le_refl _)]
        · rw [lp_X4_doesAll_10, if_pos (MT_k hM), t6, h7, if_pos (Int32.le_refl _)]
      · have hql : q < L := by omega
        have l80 : ¬ (80 : Int32) ≤ nI cnt := le_nI (a := 80) (b := cnt) (by omega) (by decide)
        have lt : ¬ nI L ≤ nI q := le_nI (by omega) (by omega)
        have hT0 : TR o m L T (up2 V o 3 (nI q)) W := TR_b hd (FA_up o h V (k := 3) (by omega) _) (FB_rf m W) hT
        obtain ⟨ok, q', V1, W1, z1, z2, z3, z4, z5, z6, z7, z8, z9⟩ := R_ord hO hM hT0 hql (by rw [up2_sn _ _ _ (by omega)]; exact h4) h7
        have A1 : FA o h V V1 := FA_tr (FA_up o h V (k := 3) (by omega) _) (FA_v z7)
        have B1 : FB m W W1 := FB_w z8
        have s3 : V1 o 3 = nI q := by rw [z7.2 3 (by omega), up2_ss]
        have s5 : V1 o 5 = 0 := by rw [z7.2 5 (by omega), up2_sn _ _ _ (by omega)]; exact h5
        have s7 : W1 m 7 = nI q := by rw [z8.2 7 (by omega)]; exact h7
        cases ok
        · refine ⟨nI cnt, 0, up2 (up2 V1 o 5 1) o 6 (nI q' - nI q), up2 (up2 W1 m 10 1) m 11 (nI q' - nI q), ?_, ?_, FA_tr A1 (FA_tr (FA_up _ _ _ (by omega) _) (FA_up _ _ _ (by omega) _)), FB_tr B1 (FB_tr (FB_up _ _ (by omega) (by omega) _) (FB_up _ _ (by omega) (by omega) _)), Or.inr ⟨rfl, ?_, ?_, ?_, ?_⟩⟩
          · rw [lp_X1_doAll_22, if_neg l80, if_pos hO.1, t2, h4, if_neg lt, z1, Option.bind_some]
            rw [if_pos (show (bi false, V1).1 = 0 from rfl), Option.bind_some]
            dsimp only
            rw [up2_sn _ _ _ (show 4 ≠ 5 by omega), up2_sn _ _ _ (show 3 ≠ 5 by omega), z5, s3]
          · rw [lp_X4_doesAll_10, if_pos (MT_k hM), t6, h7, if_neg lt, z2, Option.bind_some]
            rw [if_pos (show (bi false, W1).1 = 0 from rfl), Option.bind_some]
            dsimp only
            rw [up2_sn _ _ _ (show 8 ≠ 10 by omega), up2_sn _ _ _ (show 7 ≠ 10 by omega), z6, s7]
          · rw [up2_sn _ _ _ (show 5 ≠ 6 by omega), up2_ss, up2_sn _ _ _ (show 10 ≠ 11 by omega), up2_ss]
          · rw [up2_sn _ _ _ (show 5 ≠ 6 by omega), up2_ss]; decide
          · rw [up2_sn _ _ _ (show 3 ≠ 6 by omega), up2_sn _ _ _ (show 3 ≠ 5 by omega), s3, up2_sn _ _ _ (show 7 ≠ 11 by omega), up2_sn _ _ _ (show 7 ≠ 10 by omega), s7]
          · rw [up2_ss, up2_ss]
        · obtain ⟨y1, y2, y3⟩ := z9 rfl
          have hm1 : PM V1 h N (W1 (m + 1)) := by
            rw [z8.1 (m + 1) (by omega) (by omega)]
            exact PM_FA hd hsi.1.1 (fun b h1 h2 => by rw [z7.1 b (by omega) (by omega), up2_n _ _ _ (by omega)]) hm
          have hs1 : SI N (W1 (m + 1)) := by rw [z8.1 (m + 1) (by omega) (by omega)]; exact hsi
          have hT1 : TR o m L T V1 W1 := TR_b hd A1 B1 hT
          obtain ⟨r, V2, N', a', e1, q1, hr, e2, p2, s2⟩ := D_ord hO hP hM hT1 hql s3 s7 y2 y3 hm1 hs1
          have A2 : FA o h V V2 := FA_tr A1 (FA_s hd q1)
          have vo : V2 o = V1 o := q1 o (by omega)
          have pre1 : lp_X1_doAll_22 Y G (g1 + 1) V o h (nI cnt) = if 0 ≤ r then lp_X1_doAll_22 Y G g1 V2 o h (nI cnt + 1) else some (nI cnt, up2 (up2 V2 o 5 2) o 6 r) := by
            rw [lp_X1_doAll_22, if_neg l80, if_pos hO.1, t2, h4, if_neg lt, z1, Option.bind_some, bi_1, if_neg (n1_ _), e1, Option.bind_some]
          have pre2 : lp_X4_doesAll_10 Y H (g2 + 1) W m = if (-1000000 : Int32) ≤ r then lp_X4_doesAll_10 Y H g2 (up2 (up2 (va_up W1 (m + 1) a') m 12 (va_up W1 (m + 1) a' m 12 + 1)) m 7 (nI q')) m else some (0, up2 (up2 (va_up W1 (m + 1) a') m 10 2) m 11 r) := by
            rw [lp_X4_doesAll_10, if_pos (MT_k hM), t6, h7, if_neg lt, z2, Option.bind_some, bi_1, if_neg (n1_ _), e2, Option.bind_some, cf_X4_isError]
            dsimp only
            rw [z6]
            by_cases u : (-1000000 : Int32) ≤ r
            · rw [if_pos u, if_pos u]; rfl
            · rw [if_neg u, if_neg u]; rfl
          rcases hr with lt0 | ge0
          · have ng : ¬ 0 ≤ r := fun z => absurd (Int32.lt_of_lt_of_le lt0 (show (-1000000 : Int32) ≤ 0 by decide)) (Int32.not_lt.mpr z)
            refine ⟨nI cnt, 0, up2 (up2 V2 o 5 2) o 6 r, up2 (up2 (va_up W1 (m + 1) a') m 10 2) m 11 r, by rw [pre1, if_neg ng], by rw [pre2, if_neg (Int32.not_le.mpr lt0)], FA_tr A2 (FA_tr (FA_up _ _ _ (by omega) _) (FA_up _ _ _ (by omega) _)), FB_tr B1 (FB_tr (FB_a _ _ _) (FB_tr (FB_up _ _ (by omega) (by omega) _) (FB_up _ _ (by omega) (by omega) _))), Or.inr ⟨rfl, ?_, ?_, ?_, ?_⟩⟩
            · rw [up2_sn _ _ _ (show 5 ≠ 6 by omega), up2_ss, up2_sn _ _ _ (show 10 ≠ 11 by omega), up2_ss]
            · rw [up2_sn _ _ _ (show 5 ≠ 6 by omega), up2_ss]; decide
            · rw [up2_sn _ _ _ (show 3 ≠ 6 by omega), up2_sn _ _ _ (show 3 ≠ 5 by omega), vo, s3, up2_sn _ _ _ (show 7 ≠ 11 by omega), up2_sn _ _ _ (show 7 ≠ 10 by omega), va_up_ne _ _ (by omega), s7]
            · rw [up2_ss, up2_ss]
          · have n2 : (-1000000 : Int32) ≤ r := Int32.le_trans (by decide) ge0
            cases b with
            | zero => omega
            | succ b =>
              have w12 : va_up W1 (m + 1) a' m 12 = nI cnt := by rw [va_up_ne _ _ (by omega), z8.2 12 (by omega)]; exact h12
              have B2 : FB m W (up2 (up2 (va_up W1 (m + 1) a') m 12 (va_up W1 (m + 1) a' m 12 + 1)) m 7 (nI q')) := FB_tr B1 (FB_tr (FB_a _ _ _) (FB_tr (FB_up _ _ (by omega) (by omega) _) (FB_up _ _ (by omega) (by omega) _)))
              have wa : up2 (up2 (va_up W1 (m + 1) a') m 12 (va_up W1 (m + 1) a' m 12 + 1)) m 7 (nI q') (m + 1) = a' := by rw [up2_n _ _ _ (by omega), up2_n _ _ _ (by omega), va_up_s]
              obtain ⟨d, y, V3, W3, w1, w2, w3, w4, w5⟩ := D_lp hO hP hM hd b (cnt + 1) q' g1 g2 N' V2 (up2 (up2 (va_up W1 (m + 1) a') m 12 (va_up W1 (m + 1) a' m 12 + 1)) m 7 (nI q')) (by omega) z4 (by omega) (by omega) (by omega) (TR_b hd A2 B2 hT) (by rw [vo]; exact z5) (up2_ss _ _ _ _) (by rw [vo]; exact s5) (by rw [up2_sn _ _ _ (by omega), up2_ss, w12, nI_succ]) (by rw [wa]; exact p2) (by rw [wa]; exact s2)
              exact ⟨d, y, V3, W3, by rw [pre1, if_pos ge0, ← nI_succ]; exact w1, by rw [pre2, if_pos n2]; exact w2, FA_tr A2 w3, FB_tr B2 w4, w5⟩
theorem D_all (hO : OT Y G o) (hP : PT Y G h) (hM : MT Y H m) (hd : h + 14 ≤ o) {V W : mV} {N : Nat} (hT : TR o m L T V W) (hm : PM V h N (W (m + 1))) (hsi : SI N (W (m + 1))) : DA o m h V W (cf_X1_doAll Y V G o h) (cf_X4_doesAll Y W H m) := by
  have A : FA o h V (up2 (up2 (up2 (up2 V o 5 0) o 6 0) o 3 0) o 4 0) := FA_tr (FA_up _ _ _ (by omega) _) (FA_tr (FA_up _ _ _ (by omega) _) (FA_tr (FA_up _ _ _ (by omega) _) (FA_up _ _ _ (by omega) _)))
  have B : FB m W (up2 (up2 W m 7 0) m 12 0) := FB_tr (FB_up _ _ (by omega) (by omega) _) (FB_up _ _ (by omega) (by omega) _)
  have wa : up2 (up2 W m 7 0) m 12 0 (m + 1) = W (m + 1) := by rw [up2_n _ _ _ (by omega), up2_n _ _ _ (by omega)]
  obtain ⟨d, y, V2, W2, w1, w2, w3, w4, w5⟩ := D_lp hO hP hM hd 80 0 0 fuB fuB N (up2 (up2 (up2 (up2 V o 5 0) o 6 0) o 3 0) o 4 0) (up2 (up2 W m 7 0) m 12 0) (by have := hT.1; omega) (by omega) (by omega) (fuB_gt (by omega)) (fuB_gt (by omega)) (TR_b hd A B hT) (up2_ss _ _ _ _) (by rw [up2_sn _ _ _ (by omega), up2_ss]; rfl) (by rw [up2_sn _ _ _ (by omega), up2_sn _ _ _ (by omega), up2_sn _ _ _ (by omega), up2_ss]) (by rw [up2_ss]; rfl) (by rw [wa]; exact PM_FA hd hsi.1.1 (fun b h1 h2 => by rw [up2_n _ _ _ (by omega), up2_n _ _ _ (by omega), up2_n _ _ _ (by omega), up2_n _ _ _ (by omega)]) hm) (by rw [wa]; exact hsi)
  exact ⟨d, y, V2, W2, by rw [cf_X1_doAll, if_pos hO.1]; exact w1, by rw [cf_X4_doesAll, if_pos (MT_k hM)]; exact w2, FA_tr A w3, FB_tr B w4, w5⟩
end CLS
