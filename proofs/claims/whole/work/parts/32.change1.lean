-- decide, lapse, cure, serve
theorem sst_lt {a r : Nat → Int32} (h : sst a r = 0 ∨ sst a r = 1) : ¬ r 12 = 1 ∧ ¬ r 8 = 1 ∧ met r = false := by
  unfold sst at h
  by_cases h12 : r 12 = 1
  · rw [if_pos h12] at h; exact absurd h (by decide)
  · by_cases h8 : r 8 = 1
    · rw [if_neg h12, if_pos h8] at h; exact absurd h (by decide)
    · cases em : met r
      · exact ⟨h12, h8, rfl⟩
      · rw [if_neg h12, if_neg h8, em, if_pos rfl] at h; exact absurd h (by decide)
theorem sst_3 {a r : Nat → Int32} (h : sst a r = 3) : ¬ r 12 = 1 ∧ r 8 = 1 := by
  unfold sst at h
  by_cases h12 : r 12 = 1
  · rw [if_pos h12] at h; exact absurd h (by decide)
  · by_cases h8 : r 8 = 1
    · exact ⟨h12, h8⟩
    · exfalso
      rw [if_neg h12, if_neg h8] at h
      revert h
      cases met r <;> cases slp a r <;> decide
set_option maxRecDepth 100000 in
theorem bc_le : ∀ p, p < 7 → ∀ y, y < 2 ^ p → (0 : Int32) ≤ nI p - bc (nI y) := by decide +kernel
section CLS
variable {Y : mY} {G H : mG} {h m : Nat}
theorem S_decide (hP : PT Y G h) (hM : MT Y H m) {N : Nat} {V : mV} {a : Nat → Int32} (hm : PM V h N a) (hs : SI N a) (b1 b2 : Int32) : OK V h m N a (cf_X2_decideOn Y V G h b1 b2) (fun W => cf_X4_doDecide Y W H m b1 b2) := by
  obtain ⟨⟨hN, ha1, hrow⟩, ⟨d, hd⟩, ⟨s0, hs0, e0⟩, ⟨s1, hs1, e1⟩, hrs⟩ := id hs
  obtain ⟨m3, m4, m5, m6, m7, m8, mst, mc⟩ := id hm
  rcases num_cases b1 (show N < 2 ^ 31 by omega) with ⟨i, hi, rfl⟩ | hx
  · obtain ⟨g0, k1, i1, g1, ki⟩ := P_cell hP (show i < 10 by omega)
    obtain ⟨⟨p, p1, p6, r3, ⟨x4, hx4, r4⟩, ⟨x5, hx5, r5⟩⟩, ry, rk⟩ := (hrs i hi).1
    have hc := mc i hi
    obtain ⟨c0, c1, c2, c3, c4, c5, c6, c7, c8, c9, c10, c13, cn⟩ := id hc
    have q3 : V (h + 4 + i) 3 = nI p := c3.trans r3
    have hpl : 2 ^ p ≤ 64 := Nat.pow_le_pow_right (n := 2) (by omega) p6
    obtain ⟨cl, ea, ca, fa⟩ := C_approve (G := G) ki V hc (hrow i hi).1 b2
    have cls0 : cf_X2_decideOn Y V G h (nI i) b2 = (some (bi (decide (0 ≤ b2) && decide (b2 < nI (2 ^ p))))).bind fun x9 => if x9 = 0 then some (-1000001, V) else if rc a i 5 = 0 then some (-1000002, V) else if (b2 &&& (rc a i 5 ^^^ -1)) = 0 then some (nI p - bc (rc a i 4 ||| b2), va_up V (h + 4 + i) cl) else some (-1000002, V) := by
      have k3 : cl 3 = nI p := by rw [ca.2.2.2.1]; show (rappr (rc a i) b2) 3 = _; rw [← r3]; unfold rappr rmend; split <;> simp [va_up]
      have k4 : cl 4 = rc a i 4 ||| b2 := by rw [ca.2.2.2.2.1]; unfold rappr rmend; split <;> simp [va_up]
      rw [cf_X2_decideOn, if_pos hP.1, C_has1 hP hN hi m3, Option.bind_some, if_neg (by decide), g0, Option.bind_some, if_pos k1, if_pos i1, g1, Option.bind_some, if_pos ki, C_pset ki V p6 q3, c5, ea, Option.bind_some, Option.bind_some, va_up_s, bc_s, Option.bind_some, k3, k4]
      rfl
    have mdl0 : ∀ n, n < 2 ^ p → b2 = nI n → ∀ W : mV, W (m + 1) = a → cf_X4_doDecide Y W H m (nI i) b2 = if rc a i 5 = 0 then some (-1000002, W) else if (b2 &&& (rc a i 5 ^^^ -1)) = 0 then some (nI p - bc (rc a i 4 ||| b2), va_up W (m + 1) (so a i (rappr (ro a i) b2))) else some (-1000002, W) := by
      intro n hn hb W hW
      have w1 : wi b2 0 (nI (2 ^ p - 1)) = true := by
        rw [hb, show (0 : Int32) = nI 0 from rfl, wi_nI (by omega) (by omega) (by omega)]
        simp; omega
      have k3 : rappr (ro a i) b2 3 = nI p := by rw [← r3]; show _ = ro a i 3; unfold rappr rmend; split <;> simp [va_up]
      have k4 : rappr (ro a i) b2 4 = nI (x4 ||| n) := by rw [← nI_or, ← hb, ← r4]; show _ = ro a i 4 ||| b2; unfold rappr rmend; split <;> simp [va_up]
      have k4' : rc a i 4 ||| b2 = nI (x4 ||| n) := by rw [r4, hb, nI_or]
      have lt : x4 ||| n < 1024 := Nat.lt_of_lt_of_le (Nat.or_lt_two_pow hx4 hn) (by omega)
      rw [cf_X4_doDecide, if_pos (MT_k hM), M_has1 hM hN hi (by rw [hW]; exact ha1), Option.bind_some, if_neg (by decide), M_all hM (by omega) W p6 (by rw [hW]; exact r3), Option.bind_some, show (0 : Int64) = (0 : Int32).toInt64 from rfl, M_in, Option.bind_some, w1, bi_1, if_neg (by decide), M_g5 hM (by omega), Option.bind_some, Option.bind_some, M_approves hM (by omega), Option.bind_some, M_g3 hM (by omega), Option.bind_some, M_g4 hM (by omega), Option.bind_some, va_up_s, ro_so, hW, k3, k4, M_bits lt, Option.bind_some, k4']
      rfl
    rcases num_cases b2 (show 2 ^ p < 2 ^ 31 by omega) with ⟨x, hx, rfl⟩ | hx
    · have mdl1 := mdl0 x hx rfl
      have b0 : (decide ((0 : Int32) ≤ nI x) && decide (nI x < nI (2 ^ p))) = true := by
        have u1 : (0 : Int32) ≤ nI x := nI_pos' (by omega)
        have u2 : nI x < nI (2 ^ p) := nI_lt hx (by omega)
        simp [u1, u2]
      rw [b0, Option.bind_some, bi_1, if_neg (by decide)] at cls0
      by_cases z5 : rc a i 5 = 0
      · exact OK_err hm hs (e := -1000002) (by decide) (by rw [cls0, if_pos z5]) (fun W hW => by show cf_X4_doDecide Y W H m _ _ = _; rw [mdl1 W hW, if_pos z5])
      · by_cases z4 : (nI x &&& (rc a i 5 ^^^ -1)) = 0
        · rw [if_neg z5, if_pos z4] at cls0
          have k4' : rc a i 4 ||| nI x = nI (x4 ||| x) := by rw [r4, nI_or]
          have ap : ∀ k, k ≠ 4 → k ≠ 5 → k ≠ 6 → k ≠ 8 → k ≠ 9 → k ≠ 10 → rappr (rc a i) (nI x) k = rc a i k := by
            intro k h4 h5 h6 h8 h9 h10; unfold rappr rmend; split <;> simp [va_up, h4, h5, h6, h8, h9, h10]
          have ap4 : rappr (rc a i) (nI x) 4 = nI (x4 ||| x) := by rw [← k4']; unfold rappr rmend; split <;> simp [va_up]
          have ap5 : rappr (rc a i) (nI x) 5 = 0 := by unfold rappr rmend; split <;> simp [va_up]
          have ap9 : rappr (rc a i) (nI x) 9 = rc a i 9 ∨ rappr (rc a i) (nI x) 9 = 0 := by unfold rappr rmend; split <;> simp [va_up]
          have ap8 : rappr (rc a i) (nI x) 8 = 1 → rc a i 8 = 1 := by unfold rappr rmend; split <;> simp [va_up]
          refine OK_row hm hs hi cls0 (fun W hW => by show cf_X4_doDecide Y W H m _ _ = _; rw [mdl1 W hW, if_neg z5, if_pos z4]) (fun _ _ _ _ => rfl) (fun _ => rfl) rfl (by rw [va_up_ne _ _ (by omega)]) (by rw [va_up_ne _ _ (by omega)]) (by rw [va_up_ne _ _ (by omega)]; exact m5) (by rw [va_up_ne _ _ (by omega)]; exact m6) (by rw [va_up_ne _ _ (by omega)]) (by rw [va_up_ne _ _ (by omega)]) (fun b hb1 _ => va_up_ne _ _ hb1) (cut_appr _ _) (tl_appr (tl_rf _) _) (by rw [va_up_s]; exact ca) fa ?_ ?_ ?_ ?_ ?_
          · exact ⟨⟨p, p1, p6, by show rappr (rc a i) (nI x) 3 = _; rw [ap 3 (by omega) (by omega) (by omega) (by omega) (by omega) (by omega)]; exact r3, ⟨x4 ||| x, Nat.or_lt_two_pow hx4 hx, ap4⟩, ⟨0, Nat.two_pow_pos _, ap5⟩⟩, by show ∃ y, y ≤ 365 ∧ rappr (rc a i) (nI x) 2 = nI y; rw [ap 2 (by omega) (by omega) (by omega) (by omega) (by omega) (by omega)]; exact ry, by show rappr (rc a i) (nI x) 0 = 2 → ∃ k, k ≤ 365 ∧ rappr (rc a i) (nI x) 7 = nI k; rw [ap 0 (by omega) (by omega) (by omega) (by omega) (by omega) (by omega), ap 7 (by omega) (by omega) (by omega) (by omega) (by omega) (by omega)]; exact rk⟩
          · show isSt (rappr (rc a i) (nI x) 1)
            rw [ap 1 (by omega) (by omega) (by omega) (by omega) (by omega) (by omega)]; exact (hrow i hi).2.1
          · show LI a (rappr (rc a i) (nI x))
            unfold LI
            rw [ap 0 (by omega) (by omega) (by omega) (by omega) (by omega) (by omega), ap 1 (by omega) (by omega) (by omega) (by omega) (by omega) (by omega), ap 12 (by omega) (by omega) (by omega) (by omega) (by omega) (by omega)]
            exact fun u0 u1 => (hrs i hi).2 u0 (u1.imp ap8 id)
          · intro d' hd'
            show ∃ g, g ≤ d' ∧ rappr (rc a i) (nI x) 9 = nI g
            rcases ap9 with q | q
            · rw [q]; exact hd'.2.2.2 i hi
            · rw [q]; exact ⟨0, by omega, rfl⟩
          · rw [k4']
            exact bc_le p (by omega) _ (Nat.or_lt_two_pow hx4 hx)
        · exact OK_err hm hs (e := -1000002) (by decide) (by rw [cls0, if_neg z5, if_neg z4]) (fun W hW => by show cf_X4_doDecide Y W H m _ _ = _; rw [mdl1 W hW, if_neg z5, if_neg z4])
    · have b0 : (decide ((0 : Int32) ≤ b2) && decide (b2 < nI (2 ^ p))) = false := by
        rcases hx with q | q
        · have : ¬ (0 : Int32) ≤ b2 := Int32.not_le.mpr q
          simp [this]
        · have : ¬ b2 < nI (2 ^ p) := Int32.not_lt.mpr q
          simp [this]
      have w0 : wi b2 0 (nI (2 ^ p - 1)) = false := by
        cases e : wi b2 0 (nI (2 ^ p - 1))
        · rfl
        · obtain ⟨j, j1, j2, rfl⟩ := wi_num (lo := 0) (by omega) (by omega) e
          rcases hx with q | q
          · exact absurd q (nI_pos (by omega))
          · exact absurd q (nI_ge (by have := Nat.two_pow_pos p; omega) (by omega))
      refine OK_err hm hs (e := -1000001) (by decide) (by rw [cls0, b0]; rfl) (fun W hW => ?_)
      show cf_X4_doDecide Y W H m _ _ = _
      rw [cf_X4_doDecide, if_pos (MT_k hM), M_has1 hM hN hi (by rw [hW]; exact ha1), Option.bind_some, if_neg (by decide), M_all hM (by omega) W p6 (by rw [hW]; exact r3), Option.bind_some, show (0 : Int64) = (0 : Int32).toInt64 from rfl, M_in, Option.bind_some, w0]
      rfl
  · exact OK_err hm hs (e := -1000001) (by decide) (by rw [cf_X2_decideOn, if_pos hP.1, C_has0 hP m3 hx]; rfl) (fun W hW => by show cf_X4_doDecide Y W H m _ _ = _; rw [cf_X4_doDecide, if_pos (MT_k hM), M_has0 hM hN (by rw [hW]; exact ha1) hx]; rfl)
theorem S_lapse (hP : PT Y G h) (hM : MT Y H m) {N : Nat} {V : mV} {a : Nat → Int32} (hm : PM V h N a) (hs : SI N a) (b1 : Int32) : OK V h m N a (cf_X2_lapseOf Y V G h b1) (fun W => cf_X4_doLapse Y W H m b1) := by
  obtain ⟨⟨hN, ha1, hrow⟩, ⟨d, hd⟩, ⟨s0, hs0, e0⟩, ⟨s1, hs1, e1⟩, hrs⟩ := id hs
  obtain ⟨m3, m4, m5, m6, m7, m8, mst, mc⟩ := id hm
  rcases num_cases b1 (show N < 2 ^ 31 by omega) with ⟨i, hi, rfl⟩ | hx
  · obtain ⟨g0, k1, i1, g1, ki⟩ := P_cell hP (show i < 10 by omega)
    have hc := mc i hi
    obtain ⟨c0, c1, c2, c3, c4, c5, c6, c7, c8, c9, c10, c13, cn⟩ := id hc
    obtain ⟨f8, f12, fz⟩ := (hrow i hi).1
    have mdl0 : ∀ W : mV, W (m + 1) = a → cf_X4_doLapse Y W H m (nI i) = if rc a i 0 = 2 then (if sst a (rc a i) = 1 then some (rc a i 7, va_up W (m + 1) (so (va_up a 4 (a 4 + 1)) i (rbrk (ro a i)))) else some (-1000002, W)) else some (-1000002, W) := by
      intro W hW
      rw [cf_X4_doLapse, if_pos (MT_k hM), M_has1 hM hN hi (by rw [hW]; exact ha1), Option.bind_some, if_neg (by decide), M_g0 hM (by omega), Option.bind_some, M_state hM (by omega) W (by rw [hW]; exact (hrow i hi).2.1), Option.bind_some, M_breaks hM (by omega), Option.bind_some, M_g7 hM (by omega), Option.bind_some, va_up_s, ro_so, hW]
      rfl
    rw [show cf_X2_lapseOf Y V G h (nI i) = if rc a i 0 = 2 then (if sst a (rc a i) = 1 then some (rc a i 7, up2 (up2 V (h + 4 + i) 8 1) h 5 (V h 5 + 1)) else some (-1000002, V)) else some (-1000002, V) by
      rw [cf_X2_lapseOf, if_pos hP.1, C_has1 hP hN hi m3, Option.bind_some, if_neg (by decide), g0, Option.bind_some, if_pos k1, if_pos i1, g1, Option.bind_some, if_pos ki, c0, C_state hP ki V mst hc (hrow i hi).1 (hrow i hi).2.1, Option.bind_some, cf_X2_startBreach, if_pos ki, if_pos hP.1, Option.bind_some, up2_n _ _ _ (show h + 4 + i ≠ h by omega), up2_sn _ _ _ (show 7 ≠ 8 by omega), c7, up2_n _ _ _ (show h ≠ h + 4 + i by omega)]]
    by_cases z0 : rc a i 0 = 2
    · by_cases z1 : sst a (rc a i) = 1
      · obtain ⟨n12, n8, -⟩ := sst_lt (Or.inr z1)
        have e8 : rc a i 8 = 0 := f8.resolve_right n8
        have e12 : rc a i 12 = 0 := f12.resolve_right n12
        obtain ⟨e9, e10⟩ := fz e8
        have n0 : V (h + 4 + i) 11 = 0 := by
          rcases cn with ⟨q, -⟩ | ⟨-, -, q⟩
          · exact q
          · rw [e10] at q; exact absurd q (by decide)
        obtain ⟨k, hk, rk⟩ := (hrs i hi).1.2.2 z0
        refine OK_row hm hs hi (r' := rbrk (ro a i)) (by rw [if_pos z0, if_pos z1]) (fun W hW => by show cf_X4_doLapse Y W H m _ = _; rw [mdl0 W hW, if_pos z0, if_pos z1]) (fun j _ h4 _ => va_up_ne _ _ h4) (fun j => rc_hd _ (by omega) _ _) (ro_hd _ (by omega) _ _) (by rw [up2_sn _ _ _ (by omega), up2_n _ _ _ (by omega)]) (by rw [up2_sn _ _ _ (by omega), up2_n _ _ _ (by omega)]) (by rw [up2_ss, va_up_s, m5]) (by rw [up2_sn _ _ _ (by omega), up2_n _ _ _ (by omega), va_up_ne _ _ (by omega)]; exact m6) (by rw [up2_sn _ _ _ (by omega), up2_n _ _ _ (by omega)]) (by rw [up2_sn _ _ _ (by omega), up2_n _ _ _ (by omega)]) (fun b hb1 hb2 => by rw [up2_n _ _ _ hb2, up2_n _ _ _ hb1]) (cut_brk _) (tl_brk (tl_rf _)) ?_ ?_ ?_ ?_ ?_ ?_ (by rw [rk]; exact nI_pos' (by omega))
        · show CM _ (rbrk (rc a i))
          rw [up2_n _ _ _ (show h + 4 + i ≠ h by omega), up2_s]
          simp [CM, va_up, rbrk, c0, c1, c2, c3, c4, c5, c7, c9, c10, c13, e9, n0]; exact c6
        · show RF (rbrk (rc a i))
          simp [RF, va_up, rbrk, e12]
        · show RS (rbrk (rc a i))
          have := (hrs i hi).1; simpa [RS, va_up, rbrk] using this
        · show isSt (rbrk (rc a i) 1)
          have := (hrow i hi).2.1; simpa [va_up, rbrk] using this
        · show LI a (rbrk (rc a i))
          unfold LI
          intro q; have q : rc a i 0 = 0 := by simpa [rbrk, va_up] using q
          rw [z0] at q; exact absurd q (by decide)
        · intro d' _; exact ⟨0, by omega, by show rbrk (rc a i) 9 = _; simp [rbrk, va_up]; rfl⟩
      · exact OK_err hm hs (e := -1000002) (by decide) (by rw [if_pos z0, if_neg z1]) (fun W hW => by show cf_X4_doLapse Y W H m _ = _; rw [mdl0 W hW, if_pos z0, if_neg z1])
    · exact OK_err hm hs (e := -1000002) (by decide) (by rw [if_neg z0]) (fun W hW => by show cf_X4_doLapse Y W H m _ = _; rw [mdl0 W hW, if_neg z0])
  · exact OK_err hm hs (e := -1000001) (by decide) (by rw [cf_X2_lapseOf, if_pos hP.1, C_has0 hP m3 hx]; rfl) (fun W hW => by show cf_X4_doLapse Y W H m _ = _; rw [cf_X4_doLapse, if_pos (MT_k hM), M_has0 hM hN (by rw [hW]; exact ha1) hx]; rfl)
theorem S_cure (hP : PT Y G h) (hM : MT Y H m) {N : Nat} {V : mV} {a : Nat → Int32} (hm : PM V h N a) (hs : SI N a) (b1 : Int32) : OK V h m N a (cf_X2_cureOf Y V G h b1) (fun W => cf_X4_doCure Y W H m b1) := by
  obtain ⟨⟨hN, ha1, hrow⟩, ⟨d, hd⟩, ⟨s0, hs0, e0⟩, ⟨s1, hs1, e1⟩, hrs⟩ := id hs
  obtain ⟨m3, m4, m5, m6, m7, m8, mst, mc⟩ := id hm
  rcases num_cases b1 (show N < 2 ^ 31 by omega) with ⟨i, hi, rfl⟩ | hx
  · obtain ⟨g0, k1, i1, g1, ki⟩ := P_cell hP (show i < 10 by omega)
    have hc := mc i hi
    obtain ⟨c0, c1, c2, c3, c4, c5, c6, c7, c8, c9, c10, c13, cn⟩ := id hc
    obtain ⟨f8, f12, fz⟩ := (hrow i hi).1
    have mdl0 : ∀ W : mV, W (m + 1) = a → cf_X4_doCure Y W H m (nI i) = if rc a i 0 = 2 then (if sst a (rc a i) = 3 then some (rc a i 9, va_up W (m + 1) (so a i (rmend (ro a i)))) else some (-1000002, W)) else some (-1000002, W) := by
      intro W hW
      rw [cf_X4_doCure, if_pos (MT_k hM), M_has1 hM hN hi (by rw [hW]; exact ha1), Option.bind_some, if_neg (by decide), M_g0 hM (by omega), Option.bind_some, M_state hM (by omega) W (by rw [hW]; exact (hrow i hi).2.1), Option.bind_some, M_g9 hM (by omega), Option.bind_some, M_mends hM (by omega), Option.bind_some, hW]
      rfl
    rw [show cf_X2_cureOf Y V G h (nI i) = if rc a i 0 = 2 then (if sst a (rc a i) = 3 then some (rc a i 9, va_up V (h + 4 + i) (va_up (va_up (va_up (V (h + 4 + i)) 8 0) 10 0) 11 0)) else some (-1000002, V)) else some (-1000002, V) by
      rw [cf_X2_cureOf, if_pos hP.1, C_has1 hP hN hi m3, Option.bind_some, if_neg (by decide), g0, Option.bind_some, if_pos k1, if_pos i1, g1, Option.bind_some, if_pos ki, c0, C_state hP ki V mst hc (hrow i hi).1 (hrow i hi).2.1, Option.bind_some, C_end ki, Option.bind_some, c10]]
    by_cases z0 : rc a i 0 = 2
    · by_cases z1 : sst a (rc a i) = 3
      · obtain ⟨n12, e8⟩ := sst_3 z1
        obtain ⟨g, hg, eg⟩ := hd.2.2.2 i hi
        refine OK_row hm hs hi (r' := rmend (ro a i)) (by rw [if_pos z0, if_pos z1]) (fun W hW => by show cf_X4_doCure Y W H m _ = _; rw [mdl0 W hW, if_pos z0, if_pos z1]) (fun _ _ _ _ => rfl) (fun _ => rfl) rfl (by rw [va_up_ne _ _ (by omega)]) (by rw [va_up_ne _ _ (by omega)]) (by rw [va_up_ne _ _ (by omega)]; exact m5) (by rw [va_up_ne _ _ (by omega)]; exact m6) (by rw [va_up_ne _ _ (by omega)]) (by rw [va_up_ne _ _ (by omega)]) (fun b hb1 _ => va_up_ne _ _ hb1) (cut_mend _) (tl_mend (tl_rf _)) ?_ ?_ ?_ ?_ ?_ ?_ (by rw [eg]; exact nI_pos' (by have := hd.1; omega))
        · show CM _ (rmend (rc a i))
          rw [va_up_s]
          simp [CM, va_up, rmend, c0, c1, c2, c3, c4, c5, c7, c9, c13]; exact c6
        · show RF (rmend (rc a i))
          simp [RF, va_up, rmend, f12]
        · show RS (rmend (rc a i))
          have := (hrs i hi).1; simpa [RS, va_up, rmend] using this
        · show isSt (rmend (rc a i) 1)
          have := (hrow i hi).2.1; simpa [va_up, rmend] using this
        · show LI a (rmend (rc a i))
          unfold LI
          intro q; have q : rc a i 0 = 0 := by simpa [rmend, va_up] using q
          rw [z0] at q; exact absurd q (by decide)
        · intro d' _; exact ⟨0, by omega, by show rmend (rc a i) 9 = _; simp [rmend, va_up]; rfl⟩
      · exact OK_err hm hs (e := -1000002) (by decide) (by rw [if_pos z0, if_neg z1]) (fun W hW => by show cf_X4_doCure Y W H m _ = _; rw [mdl0 W hW, if_pos z0, if_neg z1])
    · exact OK_err hm hs (e := -1000002) (by decide) (by rw [if_neg z0]) (fun W hW => by show cf_X4_doCure Y W H m _ = _; rw [mdl0 W hW, if_neg z0])
  · exact OK_err hm hs (e := -1000001) (by decide) (by rw [cf_X2_cureOf, if_pos hP.1, C_has0 hP m3 hx]; rfl) (fun W hW => by show cf_X4_doCure Y W H m _ = _; rw [cf_X4_doCure, if_pos (MT_k hM), M_has0 hM hN (by rw [hW]; exact ha1) hx]; rfl)
theorem S_serve (hP : PT Y G h) (hM : MT Y H m) {N : Nat} {V : mV} {a : Nat → Int32} (hm : PM V h N a) (hs : SI N a) (b1 b2 : Int32) : OK V h m N a (cf_X2_serveOn Y V G h b1 b2) (fun W => cf_X4_doServe Y W H m b1 b2) := by
  obtain ⟨⟨hN, ha1, hrow⟩, ⟨d, hd⟩, ⟨s0, hs0, e0⟩, ⟨s1, hs1, e1⟩, hrs⟩ := id hs
  obtain ⟨m3, m4, m5, m6, m7, m8, mst, mc⟩ := id hm
  rcases num_cases b1 (show N < 2 ^ 31 by omega) with ⟨i, hi, rfl⟩ | hx
  · obtain ⟨g0, k1, i1, g1, ki⟩ := P_cell hP (show i < 10 by omega)
    have hc := mc i hi
    obtain ⟨c0, c1, c2, c3, c4, c5, c6, c7, c8, c9, c10, c13, cn⟩ := id hc
    obtain ⟨f8, f12, fz⟩ := (hrow i hi).1
    have mdl0 : ∀ W : mV, W (m + 1) = a → cf_X4_doServe Y W H m (nI i) b2 = if bi (wi b2 1 99) = 0 then some (-1000001, W) else if sst a (rc a i) = 3 then some (rc a i 9, va_up W (m + 1) (so a i (va_up (ro a i) 10 b2))) else some (-1000002, W) := by
      intro W hW
      rw [cf_X4_doServe, if_pos (MT_k hM), M_has1 hM hN hi (by rw [hW]; exact ha1), Option.bind_some, if_neg (by decide), show (1 : Int64) = (1 : Int32).toInt64 from rfl, show (99 : Int64) = (99 : Int32).toInt64 from rfl, M_in, Option.bind_some, M_state hM (by omega) W (by rw [hW]; exact (hrow i hi).2.1), Option.bind_some, M_p10 hM (by omega), Option.bind_some, M_g9 hM (by omega), Option.bind_some, va_up_s, ro_so, hW, va_up_ne _ _ (show 9 ≠ 10 by omega)]
      rfl
    rw [show cf_X2_serveOn Y V G h (nI i) b2 = if bi (wi b2 1 99) = 0 then some (-1000001, V) else if sst a (rc a i) = 3 then some (rc a i 9, up2 (up2 V (h + 4 + i) 11 1) (h + 4 + i) 12 b2) else some (-1000002, V) by
      rw [cf_X2_serveOn, if_pos hP.1, C_has1 hP hN hi m3, Option.bind_some, if_neg (by decide), C_in, Option.bind_some, g0, Option.bind_some, if_pos k1, if_pos i1, g1, Option.bind_some, if_pos ki, C_state hP ki V mst hc (hrow i hi).1 (hrow i hi).2.1, Option.bind_some, up2_sn _ _ _ (show 10 ≠ 12 by omega), up2_sn _ _ _ (show 10 ≠ 11 by omega), c10]]
    cases ew : wi b2 1 99
    · exact OK_err hm hs (e := -1000001) (by decide) rfl (fun W hW => by show cf_X4_doServe Y W H m _ _ = _; rw [mdl0 W hW, ew]; rfl)
    · obtain ⟨y, y1, y2, rfl⟩ := wi_num (lo := 1) (hi := 99) (by omega) (by omega) ew
      by_cases z1 : sst a (rc a i) = 3
      · obtain ⟨n12, e8⟩ := sst_3 z1
        obtain ⟨g, hg, eg⟩ := hd.2.2.2 i hi
        refine OK_row hm hs hi (r' := va_up (ro a i) 10 (nI y)) (rx := va_up (rc a i) 10 (nI y)) (by rw [bi_1, if_neg (by decide), if_pos z1]) (fun W hW => by show cf_X4_doServe Y W H m _ _ = _; rw [mdl0 W hW, ew, bi_1, if_neg (by decide), if_pos z1]) (fun _ _ _ _ => rfl) (fun _ => rfl) rfl (by rw [up2_n _ _ _ (by omega), up2_n _ _ _ (by omega)]) (by rw [up2_n _ _ _ (by omega), up2_n _ _ _ (by omega)]) (by rw [up2_n _ _ _ (by omega), up2_n _ _ _ (by omega)]; exact m5) (by rw [up2_n _ _ _ (by omega), up2_n _ _ _ (by omega)]; exact m6) (by rw [up2_n _ _ _ (by omega), up2_n _ _ _ (by omega)]) (by rw [up2_n _ _ _ (by omega), up2_n _ _ _ (by omega)]) (fun b hb1 _ => by rw [up2_n _ _ _ hb1, up2_n _ _ _ hb1]) (cut_up _ (by omega) _) (tl_up (tl_rf _) (by omega) _) ?_ ?_ ?_ ?_ ?_ ?_ (by rw [eg]; exact nI_pos' (by have := hd.1; omega))
        · rw [up2_s, up2_s]
          have ny : (0 : Int32) ≤ nI y := nI_pos' (by omega)
          simp [CM, va_up, c0, c1, c2, c3, c4, c5, c7, c8, c9, c10, c13, ny]; exact c6
        · simp [RF, va_up, f12, e8]
        · have := (hrs i hi).1; simpa [RS, va_up] using this
        · have := (hrow i hi).2.1; simpa [va_up] using this
        · have := (hrs i hi).2; simpa [LI, va_up] using this
        · intro d' hd'; have := hd'.2.2.2 i hi; simpa [va_up] using this
      · exact OK_err hm hs (e := -1000002) (by decide) (by rw [bi_1, if_neg (by decide), if_neg z1]) (fun W hW => by show cf_X4_doServe Y W H m _ _ = _; rw [mdl0 W hW, ew, bi_1, if_neg (by decide), if_neg z1])
  · exact OK_err hm hs (e := -1000001) (by decide) (by rw [cf_X2_serveOn, if_pos hP.1, C_has0 hP m3 hx]; rfl) (fun W hW => by show cf_X4_doServe Y W H m _ _ = _; rw [cf_X4_doServe, if_pos (MT_k hM), M_has0 hM hN (by rw [hW]; exact ha1) hx]; rfl)
end CLS
