-- what there is, read by both
def cO (a r : Nat → Int32) (b2 : Int32) : Int32 := if b2 = 0 then r 0 else if b2 = 1 then r 1 else if b2 = 2 then r 2 else if b2 = 3 then r 3 else if b2 = 4 then sst a r else if b2 = 5 then r 4 else if b2 = 6 then r 5 else if b2 = 7 then (if r 5 = 0 then -1000004 else r 6) else if b2 = 8 then r 7 else if b2 = 9 then (if r 8 = 0 then -1000004 else r 9) else if b2 = 10 then (if r 10 = -1 then -1000004 else r 10) else if b2 = 11 then r 11 else -1000001
theorem wi_no {x : Int32} {n : Nat} (hn : n + 1 < 2 ^ 31) (hx : x < 0 ∨ nI (n + 1) ≤ x) : wi x 0 (nI n) = false := by
  cases e : wi x 0 (nI n)
  · rfl
  · obtain ⟨j, -, j2, rfl⟩ := wi_num (lo := 0) (by omega) (by omega) e
    rcases hx with q | q
    · exact absurd q (nI_pos (by omega))
    · exact absurd q (nI_ge (by omega) (by omega))
theorem no_lit {x : Int32} {n k : Nat} (hn : n < 2 ^ 31) (hk : k < n) (hx : x < 0 ∨ nI n ≤ x) : ¬ x = nI k := by
  rintro rfl
  rcases hx with q | q
  · exact absurd q (nI_pos (by omega))
  · exact absurd q (nI_ge (by omega) (by omega))
section CLS
variable {Y : mY} {G : mG} {x : Nat}
theorem P_conditionOf {V : mV} (hGI : GI x Y V G) (b1 b2 : Int32) : ∃ r, cf_X3_conditionOf Y V G x b1 b2 = some r ∧ cf_X4_conditionOf Y V G (x + 103) b1 b2 = some r := by
  obtain ⟨⟨⟨a0, a1, a2, a3, a4⟩, -, ⟨c1, -, -⟩, -, hM⟩, -, ⟨N, hm, hs'⟩, -⟩ := hGI
  obtain ⟨hN, ha1, hrow⟩ := id hs'.1
  obtain ⟨m3, m4, m5, m6, m7, m8, mst, mc⟩ := id hm
  rcases num_cases b1 (show N < 2 ^ 31 by omega) with ⟨i, hi, rfl⟩ | hx
  · obtain ⟨g0, k1, i1, g1, ki⟩ := P_cell c1 (show i < 10 by omega)
    have hc := mc i hi
    obtain ⟨d0, d1, d2, d3, d4, d5, d6, d7, d8, d9, d10, d13, cn⟩ := id hc
    have hcls : cf_X3_conditionOf Y V G x (nI i) b2 = some (cO (V (x + 104)) (rc (V (x + 104)) i) b2) := by
      have n11 : (if V (x + 1 + 4 + i) 11 = 0 then some (-1000004 : Int32) else some (V (x + 1 + 4 + i) 12)) = if rc (V (x + 104)) i 10 = -1 then some (-1000004) else some (rc (V (x + 104)) i 10) := by
        rcases cn with ⟨q, q2⟩ | ⟨q, q2, q3⟩
        · rw [if_pos q, if_pos q2]
        · rw [if_neg (by rw [q]; decide), if_neg (fun z => by rw [z] at q3; exact absurd q3 (by decide)), q2]
      have n5 : (if rc (V (x + 104)) i 5 = 0 then some (-1000004 : Int32) else some (V (x + 1 + 4 + i) 6)) = if rc (V (x + 104)) i 5 = 0 then some (-1000004) else some (rc (V (x + 104)) i 6) := by
        by_cases q : rc (V (x + 104)) i 5 = 0
        · rw [if_pos q, if_pos q]
        · rw [if_neg q, if_neg q, d6 q]
      rw [cf_X3_conditionOf, if_pos a0, a1, Option.bind_some, if_pos c1.1, C_has1 c1 hN hi m3, Option.bind_some, if_neg (by decide), g0, Option.bind_some, if_pos k1, if_pos i1, g1, Option.bind_some]
      simp only [if_pos ki, n11, n5, C_state c1 ki V mst hc (hrow i hi).1 (hrow i hi).2.1, Option.bind_some, d0, d1, d2, d3, d4, d5, d7, d8, d10, d13]
      unfold cO
      simp only [apply_ite some]
    refine ⟨_, hcls, ?_⟩
    have q0 : cf_X4_in (b2.toInt64) (0 : Int64) (11 : Int64) = some (bi (wi b2 0 11)) := M_in b2 0 11
    rcases num_cases b2 (show 12 < 2 ^ 31 by decide) with ⟨k, hk, rfl⟩ | hx
    · have w : wi (nI k) 0 11 = true := by
        have := wi_nI (i := k) (lo := 0) (hi := 11) (by omega) (by omega) (by omega)
        rw [show wi (nI k) 0 11 = wi (nI k) (nI 0) (nI 11) from rfl, this]; simp; omega
      rw [cf_X4_conditionOf, if_pos (MT_k hM), M_has1 hM hN hi ha1, Option.bind_some, if_neg (by decide), q0, w, Option.bind_some, bi_1, if_neg (by decide)]
      have e : ro (V (x + 103 + 1)) i = ro (V (x + 104)) i := rfl
      have st : isSt (ro (V (x + 103 + 1)) i 1) := (hrow i hi).2.1
      have hi10 : i < 10 := by omega
      rcases (show k = 0 ∨ k = 1 ∨ k = 2 ∨ k = 3 ∨ k = 4 ∨ k = 5 ∨ k = 6 ∨ k = 7 ∨ k = 8 ∨ k = 9 ∨ k = 10 ∨ k = 11 by omega) with rfl | rfl | rfl | rfl | rfl | rfl | rfl | rfl | rfl | rfl | rfl | rfl
      · rw [if_neg (show ¬ nI 0 = 4 by decide), if_neg (show ¬ nI 0 = 5 by decide), if_neg (show ¬ nI 0 = 6 by decide), if_neg (show ¬ nI 0 = 7 by decide), if_neg (show ¬ nI 0 = 8 by decide), if_neg (show ¬ nI 0 = 9 by decide), if_neg (show ¬ nI 0 = 10 by decide), if_neg (show ¬ nI 0 = 11 by decide), M_get hM hi10 V (show 0 < 13 by omega) (rfl : nI 0 = nI 0), Option.bind_some]; unfold cO; rw [if_pos (show nI 0 = 0 from rfl)]; rfl
      · rw [if_neg (show ¬ nI 1 = 4 by decide), if_neg (show ¬ nI 1 = 5 by decide), if_neg (show ¬ nI 1 = 6 by decide), if_neg (show ¬ nI 1 = 7 by decide), if_neg (show ¬ nI 1 = 8 by decide), if_neg (show ¬ nI 1 = 9 by decide), if_neg (show ¬ nI 1 = 10 by decide), if_neg (show ¬ nI 1 = 11 by decide), M_get hM hi10 V (show 1 < 13 by omega) (rfl : nI 1 = nI 1), Option.bind_some]; unfold cO; rw [if_neg (show ¬ nI 1 = 0 by decide), if_pos (show nI 1 = 1 from rfl)]; rfl
      · rw [if_neg (show ¬ nI 2 = 4 by decide), if_neg (show ¬ nI 2 = 5 by decide), if_neg (show ¬ nI 2 = 6 by decide), if_neg (show ¬ nI 2 = 7 by decide), if_neg (show ¬ nI 2 = 8 by decide), if_neg (show ¬ nI 2 = 9 by decide), if_neg (show ¬ nI 2 = 10 by decide), if_neg (show ¬ nI 2 = 11 by decide), M_get hM hi10 V (show 2 < 13 by omega) (rfl : nI 2 = nI 2), Option.bind_some]; unfold cO; rw [if_neg (show ¬ nI 2 = 0 by decide), if_neg (show ¬ nI 2 = 1 by decide), if_pos (show nI 2 = 2 from rfl)]; rfl
      · rw [if_neg (show ¬ nI 3 = 4 by decide), if_neg (show ¬ nI 3 = 5 by decide), if_neg (show ¬ nI 3 = 6 by decide), if_neg (show ¬ nI 3 = 7 by decide), if_neg (show ¬ nI 3 = 8 by decide), if_neg (show ¬ nI 3 = 9 by decide), if_neg (show ¬ nI 3 = 10 by decide), if_neg (show ¬ nI 3 = 11 by decide), M_get hM hi10 V (show 3 < 13 by omega) (rfl : nI 3 = nI 3), Option.bind_some]; unfold cO; rw [if_neg (show ¬ nI 3 = 0 by decide), if_neg (show ¬ nI 3 = 1 by decide), if_neg (show ¬ nI 3 = 2 by decide), if_pos (show nI 3 = 3 from rfl)]; rfl
      · rw [if_pos (show nI 4 = 4 from rfl), M_state hM hi10 V st, Option.bind_some]; unfold cO; rw [if_neg (show ¬ nI 4 = 0 by decide), if_neg (show ¬ nI 4 = 1 by decide), if_neg (show ¬ nI 4 = 2 by decide), if_neg (show ¬ nI 4 = 3 by decide), if_pos (show nI 4 = 4 from rfl)]; rfl
      · rw [if_neg (show ¬ nI 5 = 4 by decide), if_pos (show nI 5 = 5 from rfl), M_g4 hM hi10, Option.bind_some]; unfold cO; rw [if_neg (show ¬ nI 5 = 0 by decide), if_neg (show ¬ nI 5 = 1 by decide), if_neg (show ¬ nI 5 = 2 by decide), if_neg (show ¬ nI 5 = 3 by decide), if_neg (show ¬ nI 5 = 4 by decide), if_pos (show nI 5 = 5 from rfl)]; rfl
      · rw [if_neg (show ¬ nI 6 = 4 by decide), if_neg (show ¬ nI 6 = 5 by decide), if_pos (show nI 6 = 6 from rfl), M_g5 hM hi10, Option.bind_some]; unfold cO; rw [if_neg (show ¬ nI 6 = 0 by decide), if_neg (show ¬ nI 6 = 1 by decide), if_neg (show ¬ nI 6 = 2 by decide), if_neg (show ¬ nI 6 = 3 by decide), if_neg (show ¬ nI 6 = 4 by decide), if_neg (show ¬ nI 6 = 5 by decide), if_pos (show nI 6 = 6 from rfl)]; rfl
      · rw [if_neg (show ¬ nI 7 = 4 by decide), if_neg (show ¬ nI 7 = 5 by decide), if_neg (show ¬ nI 7 = 6 by decide), if_pos (show nI 7 = 7 from rfl), M_g5 hM hi10, Option.bind_some, M_g6 hM hi10, Option.bind_some]; unfold cO; rw [if_neg (show ¬ nI 7 = 0 by decide), if_neg (show ¬ nI 7 = 1 by decide), if_neg (show ¬ nI 7 = 2 by decide), if_neg (show ¬ nI 7 = 3 by decide), if_neg (show ¬ nI 7 = 4 by decide), if_neg (show ¬ nI 7 = 5 by decide), if_neg (show ¬ nI 7 = 6 by decide), if_pos (show nI 7 = 7 from rfl)]; show (if rc (V (x + 104)) i 5 = 0 then some (-1000004 : Int32) else some (rc (V (x + 104)) i 6)) = _; rw [apply_ite some]
      · rw [if_neg (show ¬ nI 8 = 4 by decide), if_neg (show ¬ nI 8 = 5 by decide), if_neg (show ¬ nI 8 = 6 by decide), if_neg (show ¬ nI 8 = 7 by decide), if_pos (show nI 8 = 8 from rfl), M_g7 hM hi10, Option.bind_some]; unfold cO; rw [if_neg (show ¬ nI 8 = 0 by decide), if_neg (show ¬ nI 8 = 1 by decide), if_neg (show ¬ nI 8 = 2 by decide), if_neg (show ¬ nI 8 = 3 by decide), if_neg (show ¬ nI 8 = 4 by decide), if_neg (show ¬ nI 8 = 5 by decide), if_neg (show ¬ nI 8 = 6 by decide), if_neg (show ¬ nI 8 = 7 by decide), if_pos (show nI 8 = 8 from rfl)]; rfl
      · rw [if_neg (show ¬ nI 9 = 4 by decide), if_neg (show ¬ nI 9 = 5 by decide), if_neg (show ¬ nI 9 = 6 by decide), if_neg (show ¬ nI 9 = 7 by decide), if_neg (show ¬ nI 9 = 8 by decide), if_pos (show nI 9 = 9 from rfl), M_g8 hM hi10, Option.bind_some, M_g9 hM hi10, Option.bind_some]; unfold cO; rw [if_neg (show ¬ nI 9 = 0 by decide), if_neg (show ¬ nI 9 = 1 by decide), if_neg (show ¬ nI 9 = 2 by decide), if_neg (show ¬ nI 9 = 3 by decide), if_neg (show ¬ nI 9 = 4 by decide), if_neg (show ¬ nI 9 = 5 by decide), if_neg (show ¬ nI 9 = 6 by decide), if_neg (show ¬ nI 9 = 7 by decide), if_neg (show ¬ nI 9 = 8 by decide), if_pos (show nI 9 = 9 from rfl)]; show (if rc (V (x + 104)) i 8 = 0 then some (-1000004 : Int32) else some (rc (V (x + 104)) i 9)) = _; rw [apply_ite some]
      · rw [if_neg (show ¬ nI 10 = 4 by decide), if_neg (show ¬ nI 10 = 5 by decide), if_neg (show ¬ nI 10 = 6 by decide), if_neg (show ¬ nI 10 = 7 by decide), if_neg (show ¬ nI 10 = 8 by decide), if_neg (show ¬ nI 10 = 9 by decide), if_pos (show nI 10 = 10 from rfl), M_g10 hM hi10, Option.bind_some]; unfold cO; rw [if_neg (show ¬ nI 10 = 0 by decide), if_neg (show ¬ nI 10 = 1 by decide), if_neg (show ¬ nI 10 = 2 by decide), if_neg (show ¬ nI 10 = 3 by decide), if_neg (show ¬ nI 10 = 4 by decide), if_neg (show ¬ nI 10 = 5 by decide), if_neg (show ¬ nI 10 = 6 by decide), if_neg (show ¬ nI 10 = 7 by decide), if_neg (show ¬ nI 10 = 8 by decide), if_neg (show ¬ nI 10 = 9 by decide), if_pos (show nI 10 = 10 from rfl)]; show (if rc (V (x + 104)) i 10 = -1 then some (-1000004 : Int32) else some (rc (V (x + 104)) i 10)) = _; rw [apply_ite some]
      · rw [if_neg (show ¬ nI 11 = 4 by decide), if_neg (show ¬ nI 11 = 5 by decide), if_neg (show ¬ nI 11 = 6 by decide), if_neg (show ¬ nI 11 = 7 by decide), if_neg (show ¬ nI 11 = 8 by decide), if_neg (show ¬ nI 11 = 9 by decide), if_neg (show ¬ nI 11 = 10 by decide), if_pos (show nI 11 = 11 from rfl), M_g11 hM hi10, Option.bind_some]; unfold cO; rw [if_neg (show ¬ nI 11 = 0 by decide), if_neg (show ¬ nI 11 = 1 by decide), if_neg (show ¬ nI 11 = 2 by decide), if_neg (show ¬ nI 11 = 3 by decide), if_neg (show ¬ nI 11 = 4 by decide), if_neg (show ¬ nI 11 = 5 by decide), if_neg (show ¬ nI 11 = 6 by decide), if_neg (show ¬ nI 11 = 7 by decide), if_neg (show ¬ nI 11 = 8 by decide), if_neg (show ¬ nI 11 = 9 by decide), if_neg (show ¬ nI 11 = 10 by decide), if_pos (show nI 11 = 11 from rfl)]; rfl
    · have w : wi b2 0 11 = false := wi_no (n := 11) (by decide) hx
      rw [cf_X4_conditionOf, if_pos (MT_k hM), M_has1 hM hN hi ha1, Option.bind_some, if_neg (by decide), q0, w, Option.bind_some, bi_0, if_pos rfl]
      unfold cO
      rw [if_neg (show ¬ b2 = 0 from no_lit (n := 12) (k := 0) (by decide) (by decide) hx), if_neg (show ¬ b2 = 1 from no_lit (n := 12) (k := 1) (by decide) (by decide) hx), if_neg (show ¬ b2 = 2 from no_lit (n := 12) (k := 2) (by decide) (by decide) hx), if_neg (show ¬ b2 = 3 from no_lit (n := 12) (k := 3) (by decide) (by decide) hx), if_neg (show ¬ b2 = 4 from no_lit (n := 12) (k := 4) (by decide) (by decide) hx), if_neg (show ¬ b2 = 5 from no_lit (n := 12) (k := 5) (by decide) (by decide) hx), if_neg (show ¬ b2 = 6 from no_lit (n := 12) (k := 6) (by decide) (by decide) hx), if_neg (show ¬ b2 = 7 from no_lit (n := 12) (k := 7) (by decide) (by decide) hx), if_neg (show ¬ b2 = 8 from no_lit (n := 12) (k := 8) (by decide) (by decide) hx), if_neg (show ¬ b2 = 9 from no_lit (n := 12) (k := 9) (by decide) (by decide) hx), if_neg (show ¬ b2 = 10 from no_lit (n := 12) (k := 10) (by decide) (by decide) hx), if_neg (show ¬ b2 = 11 from no_lit (n := 12) (k := 11) (by decide) (by decide) hx)]
  · exact ⟨-1000001, by rw [cf_X3_conditionOf, if_pos a0, a1, Option.bind_some, if_pos c1.1, C_has0 c1 m3 hx]; rfl, by rw [cf_X4_conditionOf, if_pos (MT_k hM), M_has0 hM hN ha1 hx]; rfl⟩
theorem P_which {V : mV} (hGI : GI x Y V G) (b1 : Int32) : ∃ r, cf_X3_which Y V G x b1 = some r ∧ cf_X4_which Y V G (x + 103) b1 = some r := by
  obtain ⟨⟨⟨a0, a1, a2, a3, a4⟩, -, ⟨c1, -, -⟩, -, hM⟩, -, ⟨N, hm, hs'⟩, -⟩ := hGI
  have q0 : cf_X4_in (b1.toInt64) (0 : Int64) (4 : Int64) = some (bi (wi b1 0 4)) := M_in b1 0 4
  cases ev : wi b1 0 4
  · exact ⟨-1000001, by rw [cf_X3_which, C_in, ev]; rfl, by rw [cf_X4_which, q0, ev]; rfl⟩
  · exact ⟨_, by rw [cf_X3_which, C_in, ev, Option.bind_some, bi_1, if_neg (by decide), if_pos a0, a1, Option.bind_some, if_pos c1.1, C_with c1 hs'.1 hm, Option.bind_some], by rw [cf_X4_which, q0, ev, Option.bind_some, bi_1, if_neg (by decide), if_pos (MT_k hM), M_with hM hs'.1, Option.bind_some]⟩
theorem P_stageOf {V : mV} (hGI : GI x Y V G) (b1 b2 : Int32) : ∃ r, cf_X3_stageOf Y V G x b1 b2 = some r ∧ cf_X4_stageOf Y V G (x + 103) b1 b2 = some r := by
  obtain ⟨⟨⟨a0, a1, a2, a3, a4⟩, -, ⟨c1, -, -⟩, -, hM⟩, -, ⟨N, hm, hs'⟩, -⟩ := hGI
  obtain ⟨m3, m4, m5, m6, m7, m8, mst, mc⟩ := id hm
  obtain ⟨d, hd⟩ := hs'.2.1
  cases ev : wi b1 0 4
  · exact ⟨-1000001, by rw [cf_X3_stageOf, C_in, ev]; rfl, by rw [cf_X4_stageOf, M_isStage, ev]; rfl⟩
  · obtain ⟨t, -, ht, rfl⟩ := wi_num (lo := 0) (hi := 4) (by omega) (by omega) ev
    have ht5 : t < 5 := by omega
    have ct : (nI t).toNatClampNeg = t := nI_clamp (by omega)
    have q0 : cf_X4_in (b2.toInt64) (0 : Int64) (3 : Int64) = some (bi (wi b2 0 3)) := M_in b2 0 3
    obtain ⟨pG0, pG1, pG2, pG3, pk1, pl1, pk2, pl2, pk3, pl3, pc⟩ := id c1
    have pb := P_b c1 ht5
    rw [ct] at pb
    have st : ∃ B F : Int32, cf_X2_isBegun Y V G (x + 1) (nI t) = some B ∧ cf_X2_isFinished Y V G (x + 1) (nI t) = some F ∧ cf_X4_hasBegun Y V G (x + 103) (nI t) = some B ∧ cf_X4_isFinished Y V G (x + 103) (nI t) = some F ∧ ((B = 0 ∧ F = 0) ∨ (B = 1 ∧ F = 0) ∨ (B = 1 ∧ F = 1)) := by
      rw [C_begun c1 V ht5, C_fin c1 V ht5, M_begun hM V ht5, M_fin hM V ht5, (mst t ht5).1, (mst t ht5).2]
      refine ⟨_, _, rfl, rfl, rfl, rfl, ?_⟩
      rcases hd.2.2.1 t ht5 with ⟨z1, z2⟩ | ⟨u, hu, e⟩
      · left; rw [if_pos z1, if_pos z2]; exact ⟨rfl, rfl⟩
      · right
        have hu9 : u ≤ 9999 := Nat.le_trans hu hd.1
        have z : ¬ V (x + 104) (6 + t) = -1 := fun z => absurd (show (0 : Int32) ≤ nI u from nI_pos' (by omega)) (by rw [← e, z]; decide)
        rw [if_neg z]
        by_cases z2 : V (x + 104) (11 + t) = -1
        · left; rw [if_pos z2]; exact ⟨rfl, rfl⟩
        · right; rw [if_neg z2]; exact ⟨rfl, rfl⟩
    obtain ⟨B, F, hb, hf, mb, mf, hBF⟩ := st
    rcases num_cases b2 (show 4 < 2 ^ 31 by decide) with ⟨k, hk, rfl⟩ | hx
    · have w : wi (nI k) 0 3 = true := by
        have := wi_nI (i := k) (lo := 0) (hi := 3) (by omega) (by omega) (by omega)
        rw [show wi (nI k) 0 3 = wi (nI k) (nI 0) (nI 3) from rfl, this]; simp; omega
      rw [cf_X3_stageOf, C_in, ev, Option.bind_some, bi_1, if_neg (show ¬ (1 : Int32) = 0 by decide), cf_X4_stageOf, M_isStage, ev, Option.bind_some, bi_1, if_neg (show ¬ (1 : Int32) = 0 by decide), q0, w, Option.bind_some, bi_1, if_neg (show ¬ (1 : Int32) = 0 by decide)]
      rcases (show k = 0 ∨ k = 1 ∨ k = 2 ∨ k = 3 by omega) with rfl | rfl | rfl | rfl
      · rw [if_pos (show nI 0 = 0 from rfl), if_pos (show nI 0 = 0 from rfl), if_pos a0, a1, Option.bind_some, if_pos c1.1, cf_X2_progressOf, if_pos c1.1, hf, Option.bind_some, hb, Option.bind_some, if_pos (MT_k hM), mb, Option.bind_some, mf, Option.bind_some]
        rcases hBF with ⟨rfl, rfl⟩ | ⟨rfl, rfl⟩ | ⟨rfl, rfl⟩
        · exact ⟨0, rfl, rfl⟩
        · exact ⟨1, rfl, rfl⟩
        · exact ⟨2, rfl, rfl⟩
      · rw [if_neg (show ¬ nI 1 = 0 by decide), if_pos (show nI 1 = 1 from rfl), if_neg (show ¬ nI 1 = 0 by decide), if_pos (show nI 1 = 1 from rfl), if_pos a0, a1, Option.bind_some, if_pos c1.1, hb, Option.bind_some, if_pos (MT_k hM), mb, Option.bind_some, pG2, Option.bind_some, if_pos pk2, ct, if_pos pb.1, MT_g hM, Option.bind_some, if_pos (MT_k1 hM), hx_ix (cc := (6 : Int32)) (c := 6) (by omega) ht5 rfl, if_pos (ix_h (by omega) (MT_l1 hM)), nI_clamp (show 6 + t < _ by omega), (mst t ht5).1]
        rcases (show B = 0 ∨ B = 1 by rcases hBF with h | h | h <;> simp [h.1]) with rfl | rfl
        · exact ⟨_, rfl, rfl⟩
        · exact ⟨_, rfl, rfl⟩
      · rw [if_neg (show ¬ nI 2 = 0 by decide), if_neg (show ¬ nI 2 = 1 by decide), if_pos (show nI 2 = 2 from rfl), if_neg (show ¬ nI 2 = 0 by decide), if_neg (show ¬ nI 2 = 1 by decide), if_pos (show nI 2 = 2 from rfl), if_pos a0, a1, Option.bind_some, if_pos c1.1, hf, Option.bind_some, if_pos (MT_k hM), mf, Option.bind_some, pG3, Option.bind_some, if_pos pk3, ct, if_pos pb.2, MT_g hM, Option.bind_some, if_pos (MT_k1 hM), hx_ix (cc := (11 : Int32)) (c := 11) (by omega) ht5 rfl, if_pos (ix_h (by omega) (MT_l1 hM)), nI_clamp (show 11 + t < _ by omega), (mst t ht5).2]
        rcases (show F = 0 ∨ F = 1 by rcases hBF with h | h | h <;> simp [h.2]) with rfl | rfl
        · exact ⟨_, rfl, rfl⟩
        · exact ⟨_, rfl, rfl⟩
      · rw [if_neg (show ¬ nI 3 = 0 by decide), if_neg (show ¬ nI 3 = 1 by decide), if_neg (show ¬ nI 3 = 2 by decide), if_pos (show nI 3 = 3 from rfl), if_neg (show ¬ nI 3 = 0 by decide), if_neg (show ¬ nI 3 = 1 by decide), if_neg (show ¬ nI 3 = 2 by decide), if_pos a0, a1, Option.bind_some, if_pos c1.1, C_unmet c1 hs'.1 hm, Option.bind_some, if_pos (MT_k hM), M_unmet hM hs'.1, Option.bind_some]
        exact ⟨_, rfl, rfl⟩
    · have w : wi b2 0 3 = false := wi_no (n := 3) (by decide) hx
      have n : ∀ k, k < 4 → ¬ b2 = nI k := fun k hk => no_lit (n := 4) (by decide) hk hx
      exact ⟨-1000001, by rw [cf_X3_stageOf, C_in, ev, Option.bind_some, bi_1, if_neg (by decide), if_neg (show ¬ b2 = 0 from n 0 (by omega)), if_neg (show ¬ b2 = 1 from n 1 (by omega)), if_neg (show ¬ b2 = 2 from n 2 (by omega)), if_neg (show ¬ b2 = 3 from n 3 (by omega))], by rw [cf_X4_stageOf, M_isStage, ev, Option.bind_some, bi_1, if_neg (by decide), q0, w, Option.bind_some, bi_0, if_pos rfl]⟩
theorem P_count {V : mV} (hGI : GI x Y V G) (b1 : Int32) : ∃ r, cf_X3_count Y V G x b1 = some r ∧ cf_X4_count Y V G (x + 103) b1 = some r := by
  obtain ⟨⟨⟨a0, a1, a2, a3, a4⟩, -, ⟨c1, -, -⟩, ⟨t1, -⟩, hM⟩, ⟨-, -, -, t, -, h5, h4, -⟩, ⟨N, hm, hs'⟩, ⟨L, -, l1, l2, -⟩⟩ := hGI
  obtain ⟨m3, m4, m5, m6, m7, m8, mst, mc⟩ := id hm
  have i2 := MT_i2 hM
  have ha : cf_X4_partsOf Y V G (x + 103) 1 = some (sm (fun i => bc (rc (V (x + 104)) i 4)) N) := M_appr hM hs'.1 (fun i hi => (RS_64 (hs'.2.2.2.2 i hi).1).1)
  by_cases e0 : b1 = 0
  · exact ⟨_, by rw [cf_X3_count, if_pos e0, if_pos a0, a1, Option.bind_some, if_pos c1.1, m3], by rw [cf_X4_count, if_pos e0, if_pos (MT_k hM), MT_g hM, Option.bind_some, if_pos (MT_k1 hM), if_pos (MT_i1 hM), tn_1, show V (x + 103 + 1) 1 = nI N from hs'.1.2.1]; try rfl⟩
  by_cases e1 : b1 = 1
  · exact ⟨_, by rw [cf_X3_count, if_neg e0, if_pos e1, if_pos a0, a1, Option.bind_some, if_pos c1.1, m4], by rw [cf_X4_count, if_neg e0, if_pos e1, if_pos (MT_k hM), MT_g hM, Option.bind_some, if_pos (MT_k1 hM), if_pos (MT_i0 hM)]; try rfl⟩
  by_cases e2 : b1 = 2
  · exact ⟨_, by rw [cf_X3_count, if_neg e0, if_neg e1, if_pos e2, if_pos a0, a1, Option.bind_some, if_pos c1.1, C_parts c1 hs'.1 hm, Option.bind_some], by rw [cf_X4_count, if_neg e0, if_neg e1, if_pos e2, if_pos (MT_k hM), M_parts hM hs'.1, Option.bind_some]; try rfl⟩
  by_cases e3 : b1 = 3
  · exact ⟨_, by rw [cf_X3_count, if_neg e0, if_neg e1, if_neg e2, if_pos e3, if_pos a0, a1, Option.bind_some, if_pos c1.1, C_appr c1 hs'.1 hm, Option.bind_some], by rw [cf_X4_count, if_neg e0, if_neg e1, if_neg e2, if_pos e3, if_pos (MT_k hM), ha, Option.bind_some]; try rfl⟩
  by_cases e4 : b1 = 4
  · exact ⟨_, by rw [cf_X3_count, if_neg e0, if_neg e1, if_neg e2, if_neg e3, if_pos e4, if_pos a0, a1, Option.bind_some, if_pos c1.1, m5], by rw [cf_X4_count, if_neg e0, if_neg e1, if_neg e2, if_neg e3, if_pos e4, if_pos (MT_k hM), MT_g hM, Option.bind_some, if_pos (MT_k1 hM), if_pos (MT_i4 hM)]; try rfl⟩
  by_cases e5 : b1 = 5
  · exact ⟨_, by rw [cf_X3_count, if_neg e0, if_neg e1, if_neg e2, if_neg e3, if_neg e4, if_pos e5, if_pos a0, a1, Option.bind_some, if_pos c1.1, m6], by rw [cf_X4_count, if_neg e0, if_neg e1, if_neg e2, if_neg e3, if_neg e4, if_pos e5, if_pos (MT_k hM), MT_g hM, Option.bind_some, if_pos (MT_k1 hM), if_pos (MT_i5 hM)]; try rfl⟩
  by_cases e6 : b1 = 6
  · exact ⟨_, by rw [cf_X3_count, if_neg e0, if_neg e1, if_neg e2, if_neg e3, if_neg e4, if_neg e5, if_pos e6, if_pos a0, h5], by rw [cf_X4_count, if_neg e0, if_neg e1, if_neg e2, if_neg e3, if_neg e4, if_neg e5, if_pos e6, if_pos (MT_k hM), h4]; try rfl⟩
  by_cases e7 : b1 = 7
  · exact ⟨_, by rw [cf_X3_count, if_neg e0, if_neg e1, if_neg e2, if_neg e3, if_neg e4, if_neg e5, if_neg e6, if_pos e7, if_pos a0, a4, Option.bind_some, if_pos t1, l1], by rw [cf_X4_count, if_neg e0, if_neg e1, if_neg e2, if_neg e3, if_neg e4, if_neg e5, if_neg e6, if_pos e7, if_pos (MT_k hM), l2]; try rfl⟩
  by_cases e20 : b1 = 20
  · exact ⟨_, by rw [cf_X3_count, if_neg e0, if_neg e1, if_neg e2, if_neg e3, if_neg e4, if_neg e5, if_neg e6, if_neg e7, if_pos e20, if_pos a0, a1, Option.bind_some, if_pos c1.1, m7], by rw [cf_X4_count, if_neg e0, if_neg e1, if_neg e2, if_neg e3, if_neg e4, if_neg e5, if_neg e6, if_neg e7, if_pos e20, if_pos (MT_k hM), MT_g hM, Option.bind_some, if_pos (MT_k1 hM), if_pos (MT_i2 hM)]; try rfl⟩
  by_cases e21 : b1 = 21
  · exact ⟨_, by rw [cf_X3_count, if_neg e0, if_neg e1, if_neg e2, if_neg e3, if_neg e4, if_neg e5, if_neg e6, if_neg e7, if_neg e20, if_pos e21, if_pos a0, a1, Option.bind_some, if_pos c1.1, m8], by rw [cf_X4_count, if_neg e0, if_neg e1, if_neg e2, if_neg e3, if_neg e4, if_neg e5, if_neg e6, if_neg e7, if_neg e20, if_pos e21, if_pos (MT_k hM), MT_g hM, Option.bind_some, if_pos (MT_k1 hM), if_pos (MT_i3 hM)]; try rfl⟩
  exact ⟨-1000001, by rw [cf_X3_count, if_neg e0, if_neg e1, if_neg e2, if_neg e3, if_neg e4, if_neg e5, if_neg e6, if_neg e7, if_neg e20, if_neg e21], by rw [cf_X4_count, if_neg e0, if_neg e1, if_neg e2, if_neg e3, if_neg e4, if_neg e5, if_neg e6, if_neg e7, if_neg e20, if_neg e21]⟩
theorem P_fine {V : mV} (hGI : GI x Y V G) (b1 : Int32) (b2 : Int64) : ∃ r, cf_X3_fine Y V G x b1 b2 = some r ∧ cf_X4_fine Y V G (x + 103) b1 b2 = some r := by
  obtain ⟨⟨⟨a0, a1, a2, a3, a4⟩, -, ⟨c1, -, -⟩, -, hM⟩, -, ⟨N, hm, hs'⟩, -⟩ := hGI
  obtain ⟨hN, ha1, hrow⟩ := id hs'.1
  obtain ⟨m3, m4, m5, m6, m7, m8, mst, mc⟩ := id hm
  rcases num_cases b1 (show N < 2 ^ 31 by omega) with ⟨i, hi, rfl⟩ | hx
  · obtain ⟨g0, k1, i1, g1, ki⟩ := P_cell c1 (show i < 10 by omega)
    obtain ⟨d0, d1, d2, d3, d4, d5, d6, d7, d8, d9, d10, d13, cn⟩ := id (mc i hi)
    by_cases h1 : lg_cmp b2 1 < 0
    · exact ⟨-1000001, by rw [cf_X3_fine, if_pos a0, a1, Option.bind_some, if_pos c1.1, C_has1 c1 hN hi m3, Option.bind_some, if_neg (by decide), if_pos h1], by rw [cf_X4_fine, if_pos (MT_k hM), M_has1 hM hN hi ha1, Option.bind_some, if_neg (by decide), cf_X4_in, if_pos h1]; rfl⟩
    · by_cases h2 : lg_cmp b2 1000000000000000 ≤ 0
      · have h3 : ¬ 0 < lg_cmp b2 1000000000000000 := Int32.not_lt.mpr h2
        have e : ro (V (x + 103 + 1)) i 11 = rc (V (x + 104)) i 11 := rfl
        have cl : cf_X3_fine Y V G x (nI i) b2 = if (lg_cmp ((rc (V (x + 104)) i 11).toInt64 * (rc (V (x + 104)) i 11).toInt64) (0 : Int64)) ≤ 0 then (some (b2 * ((rc (V (x + 104)) i 11).toInt64 * (rc (V (x + 104)) i 11).toInt64))) else (if ¬ ((rc (V (x + 104)) i 11).toInt64 * (rc (V (x + 104)) i 11).toInt64) = 0 then if (lg_cmp b2 ((9223372036854775807 : Int64) / ((rc (V (x + 104)) i 11).toInt64 * (rc (V (x + 104)) i 11).toInt64))) ≤ 0 then (some (b2 * ((rc (V (x + 104)) i 11).toInt64 * (rc (V (x + 104)) i 11).toInt64))) else (some (-1000003 : Int64)) else none) := by
          rw [cf_X3_fine, if_pos a0, a1, Option.bind_some, if_pos c1.1, C_has1 c1 hN hi m3, Option.bind_some, if_neg (by decide), if_neg h1, if_pos h2, g0, Option.bind_some, if_pos k1, if_pos i1, g1, Option.bind_some, if_pos ki, d13]
        have ml : cf_X4_fine Y V G (x + 103) (nI i) b2 = if (lg_cmp ((rc (V (x + 104)) i 11).toInt64 * (rc (V (x + 104)) i 11).toInt64) (0 : Int64)) ≤ 0 then (some (b2 * ((rc (V (x + 104)) i 11).toInt64 * (rc (V (x + 104)) i 11).toInt64))) else (if ¬ ((rc (V (x + 104)) i 11).toInt64 * (rc (V (x + 104)) i 11).toInt64) = 0 then if (lg_cmp b2 ((9223372036854775807 : Int64) / ((rc (V (x + 104)) i 11).toInt64 * (rc (V (x + 104)) i 11).toInt64))) ≤ 0 then (some (b2 * ((rc (V (x + 104)) i 11).toInt64 * (rc (V (x + 104)) i 11).toInt64))) else (some (-1000003 : Int64)) else none) := by
          rw [cf_X4_fine, if_pos (MT_k hM), M_has1 hM hN hi ha1, Option.bind_some, if_neg (by decide), cf_X4_in, if_neg h1, if_neg h3, Option.bind_some, if_neg (by decide), M_g11 hM (by omega), Option.bind_some, e]
        rw [cl, ml]
        generalize (rc (V (x + 104)) i 11).toInt64 * (rc (V (x + 104)) i 11).toInt64 = sq
        by_cases z : lg_cmp sq 0 ≤ 0
        · rw [if_pos z]; exact ⟨_, rfl, rfl⟩
        · have nz : ¬ sq = 0 := fun q => z (by rw [q]; decide)
          rw [if_neg z, if_pos nz]
          by_cases z2 : lg_cmp b2 (9223372036854775807 / sq) ≤ 0
          · rw [if_pos z2]; exact ⟨_, rfl, rfl⟩
          · rw [if_neg z2]; exact ⟨_, rfl, rfl⟩
      · have h3 : 0 < lg_cmp b2 1000000000000000 := Int32.not_le.mp h2
        exact ⟨-1000001, by rw [cf_X3_fine, if_pos a0, a1, Option.bind_some, if_pos c1.1, C_has1 c1 hN hi m3, Option.bind_some, if_neg (by decide), if_neg h1, if_neg h2], by rw [cf_X4_fine, if_pos (MT_k hM), M_has1 hM hN hi ha1, Option.bind_some, if_neg (by decide), cf_X4_in, if_neg h1, if_pos h3]; rfl⟩
  · exact ⟨-1000001, by rw [cf_X3_fine, if_pos a0, a1, Option.bind_some, if_pos c1.1, C_has0 c1 m3 hx]; rfl, by rw [cf_X4_fine, if_pos (MT_k hM), M_has0 hM hN ha1 hx]; rfl⟩
end CLS
