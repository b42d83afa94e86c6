-- vary, set, finish
def vv (kd b2 b3 : Int32) : Bool := if b2 = 0 then wi b3 (if kd = 2 then 1 else 0) 365 else if b2 = 1 then wi b3 1 6 else if b2 = 2 then wi b3 0 4 else false
def mv_ (a r : Nat → Int32) (b2 b3 : Int32) : Bool := if b2 = 0 then (if r 0 = 2 then decide (r 7 < b3) else decide (r 7 ≤ b3)) else if b2 = 1 then decide (r 3 < b3) else decide (a (6 + b3.toNatClampNeg) = -1)
theorem sst_v (a r : Nat → Int32) : sst a r = 0 ∨ sst a r = 1 ∨ sst a r = 2 ∨ sst a r = 3 ∨ sst a r = 4 := by
  unfold sst
  by_cases h12 : r 12 = 1
  · simp [h12]
  · by_cases h8 : r 8 = 1
    · simp [h12, h8]
    · cases met r <;> cases slp a r <;> simp [h12, h8]
theorem C_var (kd b2 b3 : Int32) : cf_X2_isVariation kd b2 b3 = some (bi (vv kd b2 b3)) := by
  rw [cf_X2_isVariation, cf_X2_leastDays]
  unfold vv
  by_cases h0 : b2 = 0
  · rw [if_pos h0, if_pos h0]
    by_cases k : kd = 2
    · rw [if_pos k, if_pos k, Option.bind_some, C_in, Option.bind_some, if_pos (bi_or _)]
    · rw [if_neg k, if_neg k, Option.bind_some, C_in, Option.bind_some, if_pos (bi_or _)]
  · rw [if_neg h0, if_neg h0]
    by_cases h1 : b2 = 1
    · rw [if_pos h1, if_pos h1, C_in, Option.bind_some, if_pos (bi_or _)]
    · rw [if_neg h1, if_neg h1]
      by_cases h2 : b2 = 2
      · rw [if_pos h2, if_pos h2, C_in, Option.bind_some, if_pos (bi_or _)]
      · rw [if_neg h2, if_neg h2]; rfl
theorem M_days (kd x : Int32) : cf_X4_areDays kd x = some (bi (wi x (if kd = 2 then 1 else 0) 365)) := by
  rw [cf_X4_areDays]
  by_cases k : kd = 2
  · rw [if_pos k, if_pos k, show (1 : Int64) = (1 : Int32).toInt64 from rfl, show (365 : Int64) = (365 : Int32).toInt64 from rfl, M_in, Option.bind_some, if_pos (bi_or _)]
  · rw [if_neg k, if_neg k, show (0 : Int64) = (0 : Int32).toInt64 from rfl, show (365 : Int64) = (365 : Int32).toInt64 from rfl, M_in, Option.bind_some, if_pos (bi_or _)]
section CLS
variable {Y : mY} {G H : mG} {h m : Nat}
theorem M_val (hM : MT Y H m) {i : Nat} (hi : i < 10) (W : mV) (b2 b3 : Int32) : cf_X4_isValue Y W H m (nI i) b2 b3 = some (bi (vv (ro (W (m + 1)) i 0) b2 b3)) := by
  rw [cf_X4_isValue, if_pos (MT_k hM), M_g0 hM hi, Option.bind_some, M_days, Option.bind_some, if_pos (bi_or _)]
  unfold vv
  by_cases h0 : b2 = 0
  · rw [if_pos h0, if_pos h0]
  · rw [if_neg h0, if_neg h0]
    by_cases h1 : b2 = 1
    · rw [if_pos h1, if_pos h1, show (1 : Int64) = (1 : Int32).toInt64 from rfl, show (6 : Int64) = (6 : Int32).toInt64 from rfl, M_in, Option.bind_some, if_pos (bi_or _)]
    · rw [if_neg h1, if_neg h1]
      by_cases h2 : b2 = 2
      · rw [if_pos h2, if_pos h2, M_isStage, Option.bind_some]
        cases wi b3 0 4 <;> rfl
      · rw [if_neg h2, if_neg h2]; rfl
theorem bi_d (c : Prop) [Decidable c] : (if c then some (1 : Int32) else some 0) = some (bi (decide c)) := by by_cases h : c <;> simp [h, bi]
theorem bi_n (c : Prop) [Decidable c] : (if c then some (0 : Int32) else some 1) = some (bi (!decide c)) := by by_cases h : c <;> simp [h, bi]
theorem C_can (hP : PT Y G h) {c : Nat} (hc : Y.1 c = 0) (V : mV) {a r : Nat → Int32} (hst : stP V h a) (hr : CM (V c) r) (hf : RF r) (hs : isSt (r 1)) {b2 b3 : Int32} (hb : ¬ b2 = 0 → ¬ b2 = 1 → isSt b3) : cf_X2_canVary Y V G h c b2 b3 = some (bi ((decide (sst a r = 0) || decide (sst a r = 1)) && (decide (r 5 = 0) && mv_ a r b2 b3))) := by
  obtain ⟨c0, c1, c2, c3, c4, c5, c6, c7, c8, c9, c10, c13, cn⟩ := id hr
  have core : (if Y.1 c = 0 then if V c 5 = 0 then (if b2 = 0 then (if V c 0 = 2 then (if b3 ≤ V c 7 then some 0 else some 1) else (if b3 < V c 7 then some 0 else some 1)) else (if b2 = 1 then (if b3 ≤ V c 3 then some 0 else some 1) else ((cf_X2_isBegun Y V G h b3).bind (fun x12 => if x12 = 0 then some 1 else some 0)))) else some 0 else none) = some (bi (decide (r 5 = 0) && mv_ a r b2 b3)) := by
    rw [if_pos hc, c5, c0, c7, c3]
    unfold mv_
    by_cases z5 : r 5 = 0
    · rw [if_pos z5]
      by_cases h0 : b2 = 0
      · rw [if_pos h0, if_pos h0]
        by_cases k : r 0 = 2
        · rw [if_pos k, if_pos k]
          by_cases q : b3 ≤ r 7
          · have : ¬ r 7 < b3 := Int32.not_lt.mpr q
            simp [q, z5, this, bi]
          · have : r 7 < b3 := Int32.not_le.mp q
            simp [q, z5, this, bi]
        · rw [if_neg k, if_neg k]
          by_cases q : b3 < r 7
          · have : ¬ r 7 ≤ b3 := Int32.not_le.mpr q
            simp [q, z5, this, bi]
          · have : r 7 ≤ b3 := Int32.not_lt.mp q
            simp [q, z5, this, bi]
      · rw [if_neg h0, if_neg h0]
        by_cases h1 : b2 = 1
        · rw [if_pos h1, if_pos h1]
          by_cases q : b3 ≤ r 3
          · have : ¬ r 3 < b3 := Int32.not_lt.mpr q
            simp [q, z5, this, bi]
          · have : r 3 < b3 := Int32.not_le.mp q
            simp [q, z5, this, bi]
        · rw [if_neg h1, if_neg h1, (C_bst hP V hst (hb h0 h1)).1, Option.bind_some]
          by_cases q : a (6 + b3.toNatClampNeg) = -1 <;> simp [q, z5, bi]
    · rw [if_neg z5]; simp [z5, bi]
  rw [cf_X2_canVary, if_pos hP.1, C_state hP hc V hst hr hf hs, Option.bind_some, core]
  by_cases s0 : sst a r = 0
  · rw [if_pos s0]; simp [s0]
  · rw [if_neg s0]
    by_cases s1 : sst a r = 1
    · rw [if_pos s1]; simp [s1]
    · rw [if_neg s1]; simp [s0, s1, bi]
theorem M_may (hM : MT Y H m) {i : Nat} (hi : i < 10) (W : mV) {b2 b3 : Int32} (hb : ¬ b2 = 0 → ¬ b2 = 1 → isSt b3) : cf_X4_mayVary Y W H m (nI i) b2 b3 = some (bi (mv_ (W (m + 1)) (ro (W (m + 1)) i) b2 b3)) := by
  rw [cf_X4_mayVary, if_pos (MT_k hM), M_g7 hM hi, Option.bind_some, M_g0 hM hi, Option.bind_some, if_pos (MT_k hM), M_g3 hM hi, Option.bind_some, if_pos (MT_k hM)]
  generalize ro (W (m + 1)) i = r
  unfold mv_
  by_cases h0 : b2 = 0
  · rw [if_pos h0, if_pos h0]
    by_cases k : r 0 = 2
    · rw [if_pos k, if_pos k]
      by_cases q : b3 ≤ r 7
      · have : ¬ r 7 < b3 := Int32.not_lt.mpr q
        simp [q, this, bi]
      · have : r 7 < b3 := Int32.not_le.mp q
        simp [q, this, bi]
    · rw [if_neg k, if_neg k]
      by_cases q : b3 < r 7
      · have : ¬ r 7 ≤ b3 := Int32.not_le.mpr q
        simp [q, this, bi]
      · have : r 7 ≤ b3 := Int32.not_lt.mp q
        simp [q, this, bi]
  · rw [if_neg h0, if_neg h0]
    by_cases h1 : b2 = 1
    · rw [if_pos h1, if_pos h1]
      by_cases q : b3 ≤ r 3
      · have : ¬ r 3 < b3 := Int32.not_lt.mpr q
        simp [q, this, bi]
      · have : r 3 < b3 := Int32.not_le.mp q
        simp [q, this, bi]
    · rw [if_neg h1, if_neg h1]
      obtain ⟨t, ht, rfl⟩ := hb h0 h1
      rw [M_begun hM W ht, Option.bind_some, nI_clamp (by omega)]
      by_cases q : W (m + 1) (6 + t) = -1 <;> simp [q, bi]
theorem S_vary (hP : PT Y G h) (hM : MT Y H m) {N : Nat} {V : mV} {a : Nat → Int32} (hm : PM V h N a) (hs : SI N a) (b1 b2 b3 : Int32) : OK V h m N a (cf_X2_varyTo Y V G h b1 b2 b3) (fun W => cf_X4_doVary Y W H m b1 b2 b3) := by
  obtain ⟨⟨hN, ha1, hrow⟩, ⟨d, hd⟩, ⟨s0, hs0, e0⟩, ⟨s1, hs1, e1⟩, hrs⟩ := id hs
  obtain ⟨m3, m4, m5, m6, m7, m8, mst, mc⟩ := id hm
  rcases num_cases b1 (show N < 2 ^ 31 by omega) with ⟨i, hi, rfl⟩ | hx
  · obtain ⟨g0, k1, i1, g1, ki⟩ := P_cell hP (show i < 10 by omega)
    have hc := mc i hi
    obtain ⟨c0, c1, c2, c3, c4, c5, c6, c7, c8, c9, c10, c13, cn⟩ := id hc
    obtain ⟨f8, f12, fz⟩ := (hrow i hi).1
    cases ev : vv (rc a i 0) b2 b3
    · refine OK_err hm hs (e := -1000001) (by decide) ?_ (fun W hW => ?_)
      · rw [cf_X2_varyTo, if_pos hP.1, C_has1 hP hN hi m3, Option.bind_some, if_neg (by decide), g0, Option.bind_some, if_pos k1, if_pos i1, g1, Option.bind_some, if_pos ki, c0, C_var, ev]; rfl
      · show cf_X4_doVary Y W H m _ _ _ = _
        rw [cf_X4_doVary, if_pos (MT_k hM), M_has1 hM hN hi (by rw [hW]; exact ha1), Option.bind_some, if_neg (by decide), M_val hM (by omega), hW, show ro a i 0 = rc a i 0 from rfl, ev]; rfl
    · have hb : ¬ b2 = 0 → ¬ b2 = 1 → isSt b3 := by
        intro h0 h1
        unfold vv at ev
        rw [if_neg h0, if_neg h1] at ev
        by_cases h2 : b2 = 2
        · rw [if_pos h2] at ev
          obtain ⟨t, -, ht, e⟩ := wi_num (lo := 0) (hi := 4) (by omega) (by omega) ev
          exact ⟨t, by omega, e⟩
        · rw [if_neg h2] at ev; cases ev
      cases ec : ((decide (sst a (rc a i) = 0) || decide (sst a (rc a i) = 1)) && (decide (rc a i 5 = 0) && mv_ a (rc a i) b2 b3))
      · refine OK_err hm hs (e := -1000002) (by decide) ?_ (fun W hW => ?_)
        · rw [cf_X2_varyTo, if_pos hP.1, C_has1 hP hN hi m3, Option.bind_some, if_neg (by decide), g0, Option.bind_some, if_pos k1, if_pos i1, g1, Option.bind_some, if_pos ki, c0, C_var, ev, Option.bind_some, bi_1, if_neg (by decide), C_can hP ki V mst hc (hrow i hi).1 (hrow i hi).2.1 hb, ec]; rfl
        · show cf_X4_doVary Y W H m _ _ _ = _
          rw [cf_X4_doVary, if_pos (MT_k hM), M_has1 hM hN hi (by rw [hW]; exact ha1), Option.bind_some, if_neg (by decide), M_val hM (by omega), hW, show ro a i 0 = rc a i 0 from rfl, ev, Option.bind_some, bi_1, if_neg (by decide), M_state hM (by omega) W (by rw [hW]; exact (hrow i hi).2.1), Option.bind_some, M_g5 hM (by omega), Option.bind_some, M_may hM (by omega) W hb, Option.bind_some, hW, show sst a (ro a i) = sst a (rc a i) from rfl, show mv_ a (ro a i) b2 b3 = mv_ a (rc a i) b2 b3 from rfl, show ro a i 5 = rc a i 5 from rfl]
          by_cases gt : 1 < sst a (rc a i)
          · rw [if_pos gt]
          · rw [if_neg gt]
            by_cases z5 : rc a i 5 = 0
            · rw [if_pos z5]
              have sl : sst a (rc a i) = 0 ∨ sst a (rc a i) = 1 := by
                rcases sst_v a (rc a i) with q | q | q | q | q
                · exact Or.inl q
                · exact Or.inr q
                · rw [q] at gt; exact absurd (by decide) gt
                · rw [q] at gt; exact absurd (by decide) gt
                · rw [q] at gt; exact absurd (by decide) gt
              have e0 : mv_ a (rc a i) b2 b3 = false := by
                rcases sl with q | q <;> simpa [q, z5] using ec
              rw [e0]; rfl
            · rw [if_neg z5]
      · simp only [Bool.and_eq_true, Bool.or_eq_true, decide_eq_true_eq] at ec
        obtain ⟨sl, z5, em⟩ := ec
        have gt : ¬ 1 < sst a (rc a i) := by rcases sl with q | q <;> rw [q] <;> decide
        obtain ⟨n12, n8, nm⟩ := sst_lt sl
        have e8 : rc a i 8 = 0 := f8.resolve_right n8
        have e12 : rc a i 12 = 0 := f12.resolve_right n12
        have clsE : cf_X2_varyTo Y V G h (nI i) b2 b3 = if b2 = 0 then some (rc a i 2, up2 V (h + 4 + i) 2 b3) else if b2 = 1 then some (rc a i 3, up2 V (h + 4 + i) 3 b3) else some (rc a i 1, up2 (up2 V (h + 4 + i) 1 b3) (h + 4 + i) 7 0) := by
          rw [cf_X2_varyTo, if_pos hP.1, C_has1 hP hN hi m3, Option.bind_some, if_neg (by decide), g0, Option.bind_some, if_pos k1, if_pos i1, g1, Option.bind_some, if_pos ki, c0, C_var, ev, Option.bind_some, bi_1, if_neg (by decide), C_can hP ki V mst hc (hrow i hi).1 (hrow i hi).2.1 hb, show ((decide (sst a (rc a i) = 0) || decide (sst a (rc a i) = 1)) && (decide (rc a i 5 = 0) && mv_ a (rc a i) b2 b3)) = true by simp [sl, z5, em], Option.bind_some, bi_1, if_neg (by decide), c1, c2, c3]
        have mdlE : ∀ W : mV, W (m + 1) = a → cf_X4_doVary Y W H m (nI i) b2 b3 = if b2 = 0 then some (rc a i 2, va_up W (m + 1) (so a i (va_up (ro a i) 2 b3))) else if b2 = 1 then some (rc a i 3, va_up W (m + 1) (so a i (va_up (ro a i) 3 b3))) else if b2 = 2 then some (rc a i 1, va_up W (m + 1) (so a i (va_up (va_up (ro a i) 1 b3) 7 0))) else some (rc a i 1, va_up W (m + 1) (so a i (va_up (ro a i) 1 b3))) := by
          intro W hW
          rw [cf_X4_doVary, if_pos (MT_k hM), M_has1 hM hN hi (by rw [hW]; exact ha1), Option.bind_some, if_neg (by decide), M_val hM (by omega), hW, show ro a i 0 = rc a i 0 from rfl, ev, Option.bind_some, bi_1, if_neg (by decide), M_state hM (by omega) W (by rw [hW]; exact (hrow i hi).2.1), Option.bind_some, M_g5 hM (by omega), Option.bind_some, M_may hM (by omega) W hb, Option.bind_some, hW, show sst a (ro a i) = sst a (rc a i) from rfl, show mv_ a (ro a i) b2 b3 = mv_ a (rc a i) b2 b3 from rfl, show ro a i 5 = rc a i 5 from rfl, if_neg gt, if_pos z5, em, bi_1, if_neg (by decide), M_g2 hM (by omega), Option.bind_some, M_p2 hM (by omega), Option.bind_some, M_p7 hM (by omega), Option.bind_some, M_g3 hM (by omega), Option.bind_some, M_p3 hM (by omega), Option.bind_some, M_p7 hM (by omega), Option.bind_some, M_g1 hM (by omega), Option.bind_some, M_p1 hM (by omega), Option.bind_some, M_p7 hM (by omega), Option.bind_some]
          simp only [va_up_s, uu_, ro_so, so_so, hW]
          by_cases h0 : b2 = 0
          · have h2 : ¬ b2 = 2 := by rw [h0]; decide
            rw [if_pos h0, if_pos h0, if_neg h2]; rfl
          · rw [if_neg h0, if_neg h0]
            by_cases h1 : b2 = 1
            · have h2 : ¬ b2 = 2 := by rw [h1]; decide
              rw [if_pos h1, if_pos h1, if_neg h2]; rfl
            · rw [if_neg h1, if_neg h1]; rfl
        obtain ⟨⟨p, p1, p6, r3, ⟨x4, hx4, r4⟩, ⟨x5, hx5, r5⟩⟩, ⟨y, hy, ry⟩, rk⟩ := (hrs i hi).1
        by_cases h0 : b2 = 0
        · have ev0 : wi b3 (if rc a i 0 = 2 then 1 else 0) 365 = true := by unfold vv at ev; rwa [if_pos h0] at ev
          have hy3 : ∃ y3, y3 ≤ 365 ∧ b3 = nI y3 := by
            by_cases k : rc a i 0 = 2
            · rw [if_pos k] at ev0
              obtain ⟨q, -, q2, e⟩ := wi_num (lo := 1) (hi := 365) (by omega) (by omega) ev0
              exact ⟨q, q2, e⟩
            · rw [if_neg k] at ev0
              obtain ⟨q, -, q2, e⟩ := wi_num (lo := 0) (hi := 365) (by omega) (by omega) ev0
              exact ⟨q, q2, e⟩
          refine OK_row hm hs hi (r' := va_up (ro a i) 2 b3) (rx := va_up (rc a i) 2 b3) (by rw [clsE, if_pos h0]) (fun W hW => by show cf_X4_doVary Y W H m _ _ _ = _; rw [mdlE W hW, if_pos h0]) (fun _ _ _ _ => rfl) (fun _ => rfl) rfl (by rw [up2_n _ _ _ (by omega)]) (by rw [up2_n _ _ _ (by omega)]) (by rw [up2_n _ _ _ (by omega)]; exact m5) (by rw [up2_n _ _ _ (by omega)]; exact m6) (by rw [up2_n _ _ _ (by omega)]) (by rw [up2_n _ _ _ (by omega)]) (fun b hb1 _ => up2_n _ _ _ hb1) (cut_up _ (by omega) _) (tl_up (tl_rf _) (by omega) _) ?_ ?_ ?_ ?_ ?_ ?_ (by rw [ry]; exact nI_pos' (by omega))
          · rw [up2_s]; simp [CM, va_up, c0, c1, c3, c4, c5, c7, c8, c9, c10, c13]; exact ⟨c6, cn⟩
          · have := (hrow i hi).1; simpa [RF, va_up] using this
          · exact ⟨⟨p, p1, p6, by simpa [va_up] using r3, ⟨x4, hx4, by simpa [va_up] using r4⟩, ⟨x5, hx5, by simpa [va_up] using r5⟩⟩, by simpa [va_up] using hy3, by simpa [va_up] using rk⟩
          · have := (hrow i hi).2.1; simpa [va_up] using this
          · have := (hrs i hi).2; simpa [LI, va_up] using this
          · intro d' hd'; have := hd'.2.2.2 i hi; simpa [va_up] using this
        · by_cases h1 : b2 = 1
          · have ev0 : wi b3 1 6 = true := by unfold vv at ev; rwa [if_neg h0, if_pos h1] at ev
            obtain ⟨q, q1, q6, e⟩ := wi_num (lo := 1) (hi := 6) (by omega) (by omega) ev0
            have lt : p < q := by
              unfold mv_ at em
              rw [if_neg h0, if_pos h1, r3, e] at em
              exact (nI_ltI (by omega) (by omega)).mp (of_decide_eq_true em)
            have pw : 2 ^ p ≤ 2 ^ q := Nat.pow_le_pow_right (n := 2) (by omega) (by omega)
            refine OK_row hm hs hi (r' := va_up (ro a i) 3 b3) (rx := va_up (rc a i) 3 b3) (by rw [clsE, if_neg h0, if_pos h1]) (fun W hW => by show cf_X4_doVary Y W H m _ _ _ = _; rw [mdlE W hW, if_neg h0, if_pos h1]) (fun _ _ _ _ => rfl) (fun _ => rfl) rfl (by rw [up2_n _ _ _ (by omega)]) (by rw [up2_n _ _ _ (by omega)]) (by rw [up2_n _ _ _ (by omega)]; exact m5) (by rw [up2_n _ _ _ (by omega)]; exact m6) (by rw [up2_n _ _ _ (by omega)]) (by rw [up2_n _ _ _ (by omega)]) (fun b hb1 _ => up2_n _ _ _ hb1) (cut_up _ (by omega) _) (tl_up (tl_rf _) (by omega) _) ?_ ?_ ?_ ?_ ?_ ?_ (by rw [r3]; exact nI_pos' (by omega))
            · rw [up2_s]; simp [CM, va_up, c0, c1, c2, c4, c5, c7, c8, c9, c10, c13]; exact ⟨c6, cn⟩
            · have := (hrow i hi).1; simpa [RF, va_up] using this
            · exact ⟨⟨q, q1, q6, by simpa [va_up] using e, ⟨x4, by omega, by simpa [va_up] using r4⟩, ⟨x5, by omega, by simpa [va_up] using r5⟩⟩, ⟨y, hy, by simpa [va_up] using ry⟩, by simpa [va_up] using rk⟩
            · have := (hrow i hi).2.1; simpa [va_up] using this
            · have := (hrs i hi).2; simpa [LI, va_up] using this
            · intro d' hd'; have := hd'.2.2.2 i hi; simpa [va_up] using this
          · have h2 : b2 = 2 := by
              unfold vv at ev
              rw [if_neg h0, if_neg h1] at ev
              by_cases h2 : b2 = 2
              · exact h2
              · rw [if_neg h2] at ev; cases ev
            obtain ⟨t, ht, rt⟩ := (hrow i hi).2.1
            have hb3 := hb h0 h1
            refine OK_row hm hs hi (r' := va_up (va_up (ro a i) 1 b3) 7 0) (rx := va_up (va_up (rc a i) 1 b3) 7 0) (by rw [clsE, if_neg h0, if_neg h1]) (fun W hW => by show cf_X4_doVary Y W H m _ _ _ = _; rw [mdlE W hW, if_neg h0, if_neg h1, if_pos h2]) (fun _ _ _ _ => rfl) (fun _ => rfl) rfl (by rw [up2_n _ _ _ (by omega), up2_n _ _ _ (by omega)]) (by rw [up2_n _ _ _ (by omega), up2_n _ _ _ (by omega)]) (by rw [up2_n _ _ _ (by omega), up2_n _ _ _ (by omega)]; exact m5) (by rw [up2_n _ _ _ (by omega), up2_n _ _ _ (by omega)]; exact m6) (by rw [up2_n _ _ _ (by omega), up2_n _ _ _ (by omega)]) (by rw [up2_n _ _ _ (by omega), up2_n _ _ _ (by omega)]) (fun b hb1 _ => by rw [up2_n _ _ _ hb1, up2_n _ _ _ hb1]) (by rw [cut_up _ (by omega), cut_up _ (by omega)]; rfl) (tl_up (tl_up (tl_rf _) (by omega) _) (by omega) _) ?_ ?_ ?_ ?_ ?_ ?_ (by rw [show rc a i 1 = nI t from rt]; exact nI_pos' (by omega))
            · rw [up2_s, up2_s]; simp [CM, va_up, c0, c2, c3, c4, c5, c8, c9, c10, c13]; exact ⟨c6, cn⟩
            · have := (hrow i hi).1; simpa [RF, va_up] using this
            · exact ⟨⟨p, p1, p6, by simpa [va_up] using r3, ⟨x4, hx4, by simpa [va_up] using r4⟩, ⟨x5, hx5, by simpa [va_up] using r5⟩⟩, ⟨y, hy, by simpa [va_up] using ry⟩, fun _ => ⟨0, by omega, by simp [va_up]; rfl⟩⟩
            · simpa [va_up] using hb3
            · unfold LI
              intro _ q
              simp [va_up, e8, e12] at q
            · intro d' hd'; have := hd'.2.2.2 i hi; simpa [va_up] using this
  · exact OK_err hm hs (e := -1000001) (by decide) (by rw [cf_X2_varyTo, if_pos hP.1, C_has0 hP m3 hx]; rfl) (fun W hW => by show cf_X4_doVary Y W H m _ _ _ = _; rw [cf_X4_doVary, if_pos (MT_k hM), M_has0 hM hN (by rw [hW]; exact ha1) hx]; rfl)
end CLS
