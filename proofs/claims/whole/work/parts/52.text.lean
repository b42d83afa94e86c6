-- texts
theorem nar_c : ∀ c, c < 127 → vp_nar .char (((nI c).toUInt32 % 65536).toInt32) = nI c := by decide +kernel
section CLS
variable {Y : mY} {G : mG} {x : Nat}
theorem XT_O (hX : XT x Y G) : OT Y G (x + 30) := hX.2.2.2.1
theorem TX_TR {V : mV} (h : TX x V) : ∃ L T, L ≤ 80 ∧ ∀ V1 W : mV, V1 (x + 30) 2 = V (x + 30) 2 → V1 (x + 31) = V (x + 31) → W (x + 103) 6 = V (x + 103) 6 → W (x + 108) = V (x + 108) → TR (x + 30) (x + 103) L T V1 W := by
  obtain ⟨L, hL, l1, l2, hc⟩ := h
  refine ⟨L, fun k => (V (x + 31) k).toNatClampNeg, hL, fun V1 W e1 e2 e3 e4 => ⟨hL, e1.trans l1, e3.trans l2, fun k hk => ?_⟩⟩
  obtain ⟨c, c1, c2, c3, c4⟩ := hc k hk
  have e : (V (x + 31) k).toNatClampNeg = c := by rw [c3]; exact nI_clamp (by omega)
  rw [show x + 30 + 1 = x + 31 from rfl, show x + 103 + 5 = x + 108 from rfl, e2, e4]
  dsimp only
  rw [e]
  exact ⟨c1, c2, c3, c4⟩
theorem P_type {V : mV} (hGI : GI x Y V G) (b1 : Int32) : ∃ r V1 V2, cf_X3_type Y V G x b1 = some (r, V1) ∧ cf_X4_type Y V1 G (x + 103) b1 = some (r, V2) ∧ GI x Y V2 G := by
  obtain ⟨hX, -, -, ⟨L, hL, l1, l2, hc⟩⟩ := id hGI
  obtain ⟨⟨a0, a1, a2, a3, a4⟩, -, -, -, hM⟩ := id hX
  obtain ⟨o1, o2, o3, o4, o5, o6, o7⟩ := XT_O hX
  obtain ⟨m1, m2, m3, -⟩ := MT_5 hM
  have q0 : cf_X4_in (b1.toInt64) (32 : Int64) (126 : Int64) = some (bi (wi b1 32 126)) := M_in b1 32 126
  cases ev : wi b1 32 126
  · exact ⟨-1000001, V, V, by rw [cf_X3_type, C_in, ev]; rfl, by rw [cf_X4_type, q0, ev]; rfl, hGI⟩
  · obtain ⟨c, c1, c2, rfl⟩ := wi_num (lo := 32) (hi := 126) (by omega) (by omega) ev
    by_cases e : L = 80
    · subst e
      exact ⟨-1000003, V, V, by rw [cf_X3_type, C_in, ev, Option.bind_some, bi_1, if_neg (by decide), if_pos a0, a4, Option.bind_some, if_pos o1, cf_X1_append, if_pos o1, l1, if_neg (by decide)]; rfl, by rw [cf_X4_type, q0, ev, Option.bind_some, bi_1, if_neg (by decide), if_pos (MT_k hM), l2, if_pos (by rfl)], hGI⟩
    · have lt : nI L < 80 := nI_lt (b := 80) (by omega) (by decide)
      have ne : ¬ nI L = 80 := fun z => e ((nI_eq (b := 80) (by omega) (by omega)).mp z)
      have i1 : ¬ (nI L < 0 ∨ Y.2 (x + 30 + 1) ≤ (nI L).toNatClampNeg) := by rw [o5]; exact nx_in (by omega) (by decide)
      have i2 : ¬ (nI L < 0 ∨ Y.2 (x + 103 + 5) ≤ (nI L).toNatClampNeg) := by rw [m3]; exact nx_in (by omega) (by decide)
      have cL : (nI L).toNatClampNeg = L := nI_clamp (by omega)
      rw [cL] at i1 i2
      have ob : ∀ b, b ≠ x + 30 → b ≠ x + 31 → up2 (up2 V (x + 31) L (nI c)) (x + 30) 2 (nI L + 1) b = V b := fun b h1 h2 => by rw [up2_n _ _ _ h1, up2_n _ _ _ h2]
      have o2b : ∀ b, b ≠ x + 30 → b ≠ x + 31 → b ≠ x + 103 → b ≠ x + 108 → up2 (up2 (up2 (up2 V (x + 31) L (nI c)) (x + 30) 2 (nI L + 1)) (x + 108) L (nI c)) (x + 103) 6 (nI L + 1) b = V b := fun b h1 h2 h3 h4 => by rw [up2_n _ _ _ h3, up2_n _ _ _ h4, ob b h1 h2]
      refine ⟨nI L + 1, up2 (up2 V (x + 31) L (nI c)) (x + 30) 2 (nI L + 1), up2 (up2 (up2 (up2 V (x + 31) L (nI c)) (x + 30) 2 (nI L + 1)) (x + 108) L (nI c)) (x + 103) 6 (nI L + 1), ?_, ?_, GI_up hGI (fun b hb => o2b b (by omega) (by omega) (by omega) (by omega)) (by rw [o2b x (by omega) (by omega) (by omega) (by omega)]) (by rw [up2_sn _ _ _ (by omega), up2_n _ _ _ (by omega), ob _ (by omega) (by omega)]) (o2b _ (by omega) (by omega) (by omega) (by omega)) (fun k _ => by rw [o2b _ (by omega) (by omega) (by omega) (by omega)]) ⟨L + 1, by omega, ?_, ?_, fun k hk => ?_⟩⟩
      · rw [cf_X3_type, C_in, ev, Option.bind_some, bi_1, if_neg (by decide), if_pos a0, a4, Option.bind_some, if_pos o1, cf_X1_append, if_pos o1, l1, if_pos lt, o2, Option.bind_some, if_pos o4, cL, if_pos i1, nar_c c (by omega), Option.bind_some, up2_n _ _ _ (show x + 30 ≠ x + 30 + 1 by omega), l1, up2_ss, Option.bind_some]
      · have l2' : up2 (up2 V (x + 31) L (nI c)) (x + 30) 2 (nI L + 1) (x + 103) 6 = nI L := by rw [ob _ (by omega) (by omega)]; exact l2
        rw [cf_X4_type, q0, ev, Option.bind_some, bi_1, if_neg (by decide), if_pos (MT_k hM), l2', if_neg ne, m1, Option.bind_some, if_pos m2, cL, if_pos i2, Option.bind_some, up2_n _ _ _ (show x + 103 ≠ x + 103 + 5 by omega), l2', up2_ss]
      · rw [up2_n _ _ _ (by omega), up2_n _ _ _ (by omega), up2_ss, nI_succ]
      · rw [up2_ss, nI_succ]
      · by_cases ek : k = L
        · subst ek
          refine ⟨c, c1, c2, ?_, ?_⟩
          · rw [up2_n _ _ _ (by omega), up2_n _ _ _ (by omega), up2_n _ _ _ (by omega), up2_ss]
          · rw [up2_n _ _ _ (by omega), up2_ss]
        · obtain ⟨d, d1, d2, d3, d4⟩ := hc k (by omega)
          refine ⟨d, d1, d2, ?_, ?_⟩
          · rw [up2_n _ _ _ (by omega), up2_n _ _ _ (by omega), up2_n _ _ _ (by omega), up2_sn _ _ _ ek]; exact d3
          · rw [up2_n _ _ _ (by omega), up2_sn _ _ _ ek, ob _ (by omega) (by omega)]; exact d4
theorem P_clearText {V : mV} (hGI : GI x Y V G) : ∃ r V1 V2, cf_X3_clearText Y V G x = some (r, V1) ∧ cf_X4_clearText Y V1 G (x + 103) = some (r, V2) ∧ GI x Y V2 G := by
  obtain ⟨hX, -, -, ⟨L, hL, l1, l2, hc⟩⟩ := id hGI
  obtain ⟨⟨a0, a1, a2, a3, a4⟩, -, -, -, hM⟩ := id hX
  have o1 := (XT_O hX).1
  have ob : ∀ b, b ≠ x + 30 → b ≠ x + 103 → up2 (up2 V (x + 30) 2 0) (x + 103) 6 0 b = V b := fun b h1 h2 => by rw [up2_n _ _ _ h2, up2_n _ _ _ h1]
  refine ⟨nI L, up2 V (x + 30) 2 0, up2 (up2 V (x + 30) 2 0) (x + 103) 6 0, by rw [cf_X3_clearText, if_pos a0, a4, Option.bind_some, if_pos o1, cf_X1_empty, if_pos o1, l1, Option.bind_some], by rw [cf_X4_clearText, if_pos (MT_k hM), up2_n _ _ _ (by omega), l2], GI_up hGI (fun b hb => ob b (by omega) (by omega)) (by rw [ob x (by omega) (by omega)]) (by rw [up2_sn _ _ _ (by omega), up2_n _ _ _ (by omega)]) (ob _ (by omega) (by omega)) (fun k _ => by rw [ob _ (by omega) (by omega)]) ⟨0, by omega, by rw [up2_n _ _ _ (by omega), up2_ss]; rfl, by rw [up2_ss]; rfl, fun k hk => absurd hk (by omega)⟩⟩
theorem P_fault {V : mV} (hGI : GI x Y V G) (b1 : Int32) : ∃ r V1 V2, cf_X3_fault Y V G x b1 = some (r, V1) ∧ cf_X4_fault Y V1 G (x + 103) b1 = some (r, V2) ∧ GI x Y V2 G := by
  obtain ⟨hX, -, ⟨N, hm, hs'⟩, hT⟩ := id hGI
  obtain ⟨⟨a0, a1, a2, a3, a4⟩, -, ⟨c1, c2, -⟩, -, hM⟩ := id hX
  have hO := XT_O hX
  have q0 : cf_X4_in (b1.toInt64) (0 : Int64) (2 : Int64) = some (bi (wi b1 0 2)) := M_in b1 0 2
  cases ev : wi b1 0 2
  · exact ⟨-1000001, V, V, by rw [cf_X3_fault, C_in, ev]; rfl, by rw [cf_X4_fault, q0, ev]; rfl, hGI⟩
  · obtain ⟨L, T, hL, hTR⟩ := TX_TR hT
    obtain ⟨V1, e1, p1, o1⟩ := C_copy (g := x + 15) (h := x + 1) c2 c1 (by omega) hs'.1 hm
    have v1 : ∀ b, ¬ (x + 15 ≤ b ∧ b < x + 29) → V1 b = V b := fun b hb => o1 b (by omega)
    have hd : x + 15 + 14 ≤ x + 30 := by omega
    obtain ⟨d, -, V2, -, f1, -, f3, -, -⟩ := D_all (W := V1) hO c2 hM hd (hTR V1 V1 (by rw [v1 _ (by omega)]) (v1 _ (by omega)) (by rw [v1 _ (by omega)]) (v1 _ (by omega))) (N := N) (by rw [show V1 (x + 103 + 1) = V (x + 104) from v1 _ (by omega)]; exact p1) (by rw [show V1 (x + 103 + 1) = V (x + 104) from v1 _ (by omega)]; exact hs')
    have v2 : ∀ b, b ≠ x + 30 → b ≠ x + 32 → ¬ (x + 15 ≤ b ∧ b < x + 29) → V2 b = V b := fun b h1 h2 h3 => by rw [f3.1 b h1 h2 (by omega), v1 b h3]
    obtain ⟨t1, t2, t3⟩ := MT_2 hM
    have cpy : cf_X4_copy Y V2 G (x + 103 + 1) (x + 103 + 2) = some (va_up V2 (x + 105) (mix 146 (V2 (x + 104)) (V2 (x + 105)))) := M_copy (MT_k1 hM) (MT_l1 hM) t2 t3 (by omega) V2
    have wn : ∀ b, b ≠ x + 105 → va_up V2 (x + 105) (mix 146 (V2 (x + 104)) (V2 (x + 105))) b = V2 b := fun b hb => va_up_ne _ _ hb
    have w1 : va_up V2 (x + 105) (mix 146 (V2 (x + 104)) (V2 (x + 105))) (x + 103 + 1) = V (x + 104) := by rw [wn _ (by omega)]; exact v2 _ (by omega) (by omega) (by omega)
    obtain ⟨d', y, V2', W2, g1, g2, -, g4, g5⟩ := D_all (W := va_up V2 (x + 105) (mix 146 (V2 (x + 104)) (V2 (x + 105)))) hO c2 hM hd (hTR V1 _ (by rw [v1 _ (by omega)]) (v1 _ (by omega)) (by rw [wn _ (by omega), v2 _ (by omega) (by omega) (by omega)]) (by rw [wn _ (by omega), v2 _ (by omega) (by omega) (by omega)])) (N := N) (by rw [w1]; exact p1) (by rw [w1]; exact hs')
    have ee := f1.symm.trans g1
    simp only [Option.some.injEq, Prod.mk.injEq] at ee
    obtain ⟨rfl, rfl⟩ := ee
    have cpy2 : cf_X4_copy Y W2 G (x + 103 + 2) (x + 103 + 1) = some (va_up W2 (x + 104) (mix 146 (W2 (x + 105)) (W2 (x + 104)))) := M_copy t2 t3 (MT_k1 hM) (MT_l1 hM) (by omega) W2
    have xn : ∀ b, b ≠ x + 104 → va_up W2 (x + 104) (mix 146 (W2 (x + 105)) (W2 (x + 104))) b = W2 b := fun b hb => va_up_ne _ _ hb
    have w2 : ∀ b, b ≠ x + 103 → b ≠ x + 109 → b ≠ x + 104 → b ≠ x + 105 → W2 b = V2 b := fun b h1 h2 h3 h4 => by rw [g4.1 b h1 (by omega) (by omega), wn b h4]
    have hg : GI x Y (va_up W2 (x + 104) (mix 146 (W2 (x + 105)) (W2 (x + 104)))) G := by
      refine GI_up hGI (fun b hb => ?_) ?_ ?_ ?_ (fun k hk => ?_) (TX_eq ?_ ?_ ?_ ?_ hT)
      · rw [xn _ (by omega), w2 _ (by omega) (by omega) (by omega) (by omega), v2 _ (by omega) (by omega) (by omega)]
      · rw [xn _ (by omega), w2 _ (by omega) (by omega) (by omega) (by omega), v2 _ (by omega) (by omega) (by omega)]
      · rw [xn _ (by omega), g4.2.2, wn _ (by omega), v2 _ (by omega) (by omega) (by omega)]
      · rw [xn _ (by omega), w2 _ (by omega) (by omega) (by omega) (by omega), v2 _ (by omega) (by omega) (by omega)]
      · rw [va_up_s, mix_lt _ _ _ hk, g4.1 (x + 105) (by omega) (by omega) (by omega), va_up_s, mix_lt _ _ _ hk, v2 _ (by omega) (by omega) (by omega)]
      · rw [xn _ (by omega), w2 _ (by omega) (by omega) (by omega) (by omega), f3.2, v1 _ (by omega)]
      · rw [xn _ (by omega), g4.2.1, wn _ (by omega), v2 _ (by omega) (by omega) (by omega)]
      · rw [xn _ (by omega), w2 _ (by omega) (by omega) (by omega) (by omega), v2 _ (by omega) (by omega) (by omega)]
      · rw [xn _ (by omega), w2 _ (by omega) (by omega) (by omega) (by omega), v2 _ (by omega) (by omega) (by omega)]
    have clsE : cf_X3_fault Y V G x b1 = if V2 (x + 30) 5 = 0 then some (-1000004, V2) else if b1 = 0 then some (V2 (x + 30) 3, V2) else if b1 = 1 then some (V2 (x + 30) 5, V2) else some (V2 (x + 30) 6, V2) := by
      rw [cf_X3_fault, C_in, ev, Option.bind_some, bi_1, if_neg (by decide), if_pos a0, a2, Option.bind_some, a1, Option.bind_some, if_pos c2.1, e1, Option.bind_some, a4, Option.bind_some, if_pos hO.1, f1, Option.bind_some]
    have mdlE : cf_X4_fault Y V2 G (x + 103) b1 = if y = 0 then (if b1 = 0 then some (va_up W2 (x + 104) (mix 146 (W2 (x + 105)) (W2 (x + 104))) (x + 103) 7, va_up W2 (x + 104) (mix 146 (W2 (x + 105)) (W2 (x + 104)))) else if b1 = 1 then some (va_up W2 (x + 104) (mix 146 (W2 (x + 105)) (W2 (x + 104))) (x + 103) 10, va_up W2 (x + 104) (mix 146 (W2 (x + 105)) (W2 (x + 104)))) else some (va_up W2 (x + 104) (mix 146 (W2 (x + 105)) (W2 (x + 104))) (x + 103) 11, va_up W2 (x + 104) (mix 146 (W2 (x + 105)) (W2 (x + 104))))) else some (-1000004, va_up W2 (x + 104) (mix 146 (W2 (x + 105)) (W2 (x + 104)))) := by
      rw [cf_X4_fault, q0, ev, Option.bind_some, bi_1, if_neg (by decide), if_pos (MT_k hM), MT_g hM, Option.bind_some, t1, Option.bind_some, cpy, Option.bind_some, g2, Option.bind_some, cpy2, Option.bind_some]
    rw [xn (x + 103) (by omega)] at mdlE
    rcases g5 with ⟨h1, rfl, -, -, -⟩ | ⟨rfl, h2, h3, h4, h5⟩
    · exact ⟨-1000004, V2, _, by rw [clsE, if_pos h1], by rw [mdlE, if_neg (by decide)], hg⟩
    · rw [if_pos rfl] at mdlE
      rw [if_neg h3] at clsE
      by_cases z0 : b1 = 0
      · exact ⟨_, V2, _, by rw [clsE, if_pos z0, h4], by rw [mdlE, if_pos z0], hg⟩
      · by_cases z1 : b1 = 1
        · exact ⟨_, V2, _, by rw [clsE, if_neg z0, if_pos z1, h2], by rw [mdlE, if_neg z0, if_pos z1], hg⟩
        · exact ⟨_, V2, _, by rw [clsE, if_neg z0, if_neg z1, h5], by rw [mdlE, if_neg z0, if_neg z1], hg⟩
end CLS
