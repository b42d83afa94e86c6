-- a change of the head: settings, an end
theorem SI_hd {N : Nat} {a a' : Nat → Int32} (hs : SI N a) (hr : ∀ j, rc a' j = rc a j) (h1 : a' 1 = a 1) (h2 : ∃ s, s ≤ 99 ∧ a' 2 = nI s) (h3 : ∃ s, s ≤ 365 ∧ a' 3 = nI s) (hd : ∀ d, DY N a d → ∃ d', DY N a' d') (hL : ∀ k, k < 5 → a (6 + k) ≠ -1 → a' (6 + k) ≠ -1) : SI N a' := by
  obtain ⟨⟨hN, ha1, hrow⟩, ⟨d, hdd⟩, -, -, hrs⟩ := hs
  refine ⟨⟨hN, h1.trans ha1, fun i hi => by rw [hr]; exact hrow i hi⟩, hd d hdd, h2, h3, fun i hi => ?_⟩
  rw [hr]
  refine ⟨(hrs i hi).1, fun q1 q2 => ?_⟩
  have := st_lt (hrow i hi).2.1
  exact hL _ this ((hrs i hi).2 q1 q2)
theorem PM_hd {V V' : mV} {h N : Nat} {a a' : Nat → Int32} (hm : PM V h N a) (hN : N ≤ 10) (hr : ∀ j, rc a' j = rc a j) (ho : ∀ b, h + 4 ≤ b → b < h + 14 → V' b = V b) (h3 : V' h 3 = V h 3) (h4 : V' h 4 = a' 0) (h5 : V' h 5 = a' 4) (h6 : V' h 6 = a' 5) (h7 : V' h 7 = a' 2) (h8 : V' h 8 = a' 3) (hst : stP V' h a') : PM V' h N a' := by
  obtain ⟨m3, -, -, -, -, -, -, mc⟩ := hm
  refine ⟨h3.trans m3, h4, h5, h6, h7, h8, hst, fun i hi => ?_⟩
  rw [hr, ho _ (by omega) (by omega)]
  exact mc i hi
theorem nI_sb {a b : Nat} (h : b ≤ a) : nI a - nI b = nI (a - b) := by
  have e : nI a = nI (a - b) + nI b := by rw [nI_add]; congr 1; omega
  rw [e, Int32.add_sub_cancel]
section CLS
variable {Y : mY} {G H : mG} {h m : Nat}
theorem S_set (hP : PT Y G h) (hM : MT Y H m) {N : Nat} {V : mV} {a : Nat → Int32} (hm : PM V h N a) (hs : SI N a) (b1 b2 : Int32) : OK V h m N a (cf_X2_putSetting Y V G h b1 b2) (fun W => cf_X4_doSet Y W H m b1 b2) := by
  obtain ⟨⟨hN, ha1, hrow⟩, ⟨d, hd⟩, ⟨s0, hs0, e0⟩, ⟨s1, hs1, e1⟩, hrs⟩ := id hs
  obtain ⟨m3, m4, m5, m6, m7, m8, mst, mc⟩ := id hm
  have q0 : cf_X4_in (b1.toInt64) (0 : Int64) (1 : Int64) = some (bi (wi b1 0 1)) := M_in b1 0 1
  by_cases h0 : b1 = 0
  · subst h0
    have q1 : cf_X4_in (b2.toInt64) ((0 : Int32).toInt64) (99 : Int64) = some (bi (wi b2 0 99)) := M_in b2 0 99
    cases ev : wi b2 0 99
    · refine OK_err hm hs (e := -1000001) (by decide) (by rw [cf_X2_putSetting, if_pos rfl, C_in, ev, Option.bind_some, bi_0, if_pos rfl, if_neg (by decide)]) (fun W hW => ?_)
      show cf_X4_doSet Y W H m _ _ = _
      rw [cf_X4_doSet, q0, Option.bind_some, if_neg (by decide), if_pos rfl, q1, ev, Option.bind_some, bi_0, if_pos rfl]
    · obtain ⟨x, -, hx, rfl⟩ := wi_num (lo := 0) (hi := 99) (by omega) (by omega) ev
      refine ⟨a 2, up2 V h 7 (nI x), N, va_up a 2 (nI x), by rw [cf_X2_putSetting, if_pos rfl, C_in, ev, Option.bind_some, bi_1, if_neg (by decide), if_pos hP.1, m7], fun W hW => ?_, ?_, ?_, ?_, Or.inr (by rw [e0]; exact nI_pos' (by omega))⟩
      · show cf_X4_doSet Y W H m _ _ = _
        rw [cf_X4_doSet, q0, Option.bind_some, if_neg (by decide), if_pos rfl, q1, ev, Option.bind_some, bi_1, if_neg (by decide), if_pos (MT_k hM), MT_g hM, Option.bind_some, if_pos (MT_k1 hM), show (2 : Int32) + 0 = 2 from rfl, if_pos (MT_i2 hM), if_pos (MT_i2 hM), tn_2, hW]
        show some (a 2, va_up W (m + 1) (va_up (W (m + 1)) 2 (nI x))) = _
        rw [hW]
      · refine PM_hd hm hN (rc_hd a (by omega) _) (fun b hb1 hb2 => up2_n _ _ _ (by omega)) (by rw [up2_sn _ _ _ (by omega)]) (by rw [up2_sn _ _ _ (by omega), un_ _ _ (by omega)]; exact m4) (by rw [up2_sn _ _ _ (by omega), un_ _ _ (by omega)]; exact m5) (by rw [up2_sn _ _ _ (by omega), un_ _ _ (by omega)]; exact m6) (by rw [up2_ss, va_up_s]) (by rw [up2_sn _ _ _ (by omega), un_ _ _ (by omega)]; exact m8) (fun k hk => ?_)
        rw [up2_n _ _ _ (by omega), up2_n _ _ _ (by omega), un_ _ _ (by omega), un_ _ _ (by omega)]
        exact mst k hk
      · refine SI_hd hs (rc_hd a (by omega) _) (un_ _ _ (by omega)) ⟨x, hx, by rw [va_up_s]⟩ ⟨s1, hs1, by rw [un_ _ _ (by omega)]; exact e1⟩ (fun d hd => ⟨d, hd.1, by rw [un_ _ _ (by omega)]; exact hd.2.1, fun k hk => by rw [un_ _ _ (by omega), un_ _ _ (by omega)]; exact hd.2.2.1 k hk, fun i hi => by rw [rc_hd a (by omega)]; exact hd.2.2.2 i hi⟩) (fun k hk q => by rw [un_ _ _ (by omega)]; exact q)
      · exact fun b hb => up2_n _ _ _ (by omega)
  · by_cases h1 : b1 = 1
    · subst h1
      have q1 : cf_X4_in (b2.toInt64) ((1 : Int32).toInt64) (365 : Int64) = some (bi (wi b2 1 365)) := M_in b2 1 365
      cases ev : wi b2 1 365
      · refine OK_err hm hs (e := -1000001) (by decide) (by rw [cf_X2_putSetting, if_neg (by decide), if_pos rfl, C_in, ev, Option.bind_some, bi_0, if_pos rfl]) (fun W hW => ?_)
        show cf_X4_doSet Y W H m _ _ = _
        rw [cf_X4_doSet, q0, Option.bind_some, if_neg (by decide), if_neg (by decide), q1, ev, Option.bind_some, bi_0, if_pos rfl]
      · obtain ⟨x, -, hx, rfl⟩ := wi_num (lo := 1) (hi := 365) (by omega) (by omega) ev
        refine ⟨a 3, up2 V h 8 (nI x), N, va_up a 3 (nI x), by rw [cf_X2_putSetting, if_neg (by decide), if_pos rfl, C_in, ev, Option.bind_some, bi_1, if_neg (by decide), if_pos hP.1, m8], fun W hW => ?_, ?_, ?_, ?_, Or.inr (by rw [e1]; exact nI_pos' (by omega))⟩
        · show cf_X4_doSet Y W H m _ _ = _
          rw [cf_X4_doSet, q0, Option.bind_some, if_neg (by decide), if_neg (by decide), q1, ev, Option.bind_some, bi_1, if_neg (by decide), if_pos (MT_k hM), MT_g hM, Option.bind_some, if_pos (MT_k1 hM), show (2 : Int32) + 1 = 3 from rfl, if_pos (MT_i3 hM), if_pos (MT_i3 hM), tn_3, hW]
          show some (a 3, va_up W (m + 1) (va_up (W (m + 1)) 3 (nI x))) = _
          rw [hW]
        · refine PM_hd hm hN (rc_hd a (by omega) _) (fun b hb1 hb2 => up2_n _ _ _ (by omega)) (by rw [up2_sn _ _ _ (by omega)]) (by rw [up2_sn _ _ _ (by omega), un_ _ _ (by omega)]; exact m4) (by rw [up2_sn _ _ _ (by omega), un_ _ _ (by omega)]; exact m5) (by rw [up2_sn _ _ _ (by omega), un_ _ _ (by omega)]; exact m6) (by rw [up2_sn _ _ _ (by omega), un_ _ _ (by omega)]; exact m7) (by rw [up2_ss, va_up_s]) (fun k hk => ?_)
          rw [up2_n _ _ _ (by omega), up2_n _ _ _ (by omega), un_ _ _ (by omega), un_ _ _ (by omega)]
          exact mst k hk
        · refine SI_hd hs (rc_hd a (by omega) _) (un_ _ _ (by omega)) ⟨s0, hs0, by rw [un_ _ _ (by omega)]; exact e0⟩ ⟨x, hx, by rw [va_up_s]⟩ (fun d hd => ⟨d, hd.1, by rw [un_ _ _ (by omega)]; exact hd.2.1, fun k hk => by rw [un_ _ _ (by omega), un_ _ _ (by omega)]; exact hd.2.2.1 k hk, fun i hi => by rw [rc_hd a (by omega)]; exact hd.2.2.2 i hi⟩) (fun k hk q => by rw [un_ _ _ (by omega)]; exact q)
        · exact fun b hb => up2_n _ _ _ (by omega)
    · have w0 : wi b1 0 1 = false := by
        cases e : wi b1 0 1
        · rfl
        · obtain ⟨j, -, j2, rfl⟩ := wi_num (lo := 0) (hi := 1) (by omega) (by omega) e
          rcases (show j = 0 ∨ j = 1 by omega) with rfl | rfl
          · exact absurd rfl h0
          · exact absurd rfl h1
      exact OK_err hm hs (e := -1000001) (by decide) (by rw [cf_X2_putSetting, if_neg h0, if_neg h1]) (fun W hW => by show cf_X4_doSet Y W H m _ _ = _; rw [cf_X4_doSet, q0, Option.bind_some, w0]; rfl)
theorem P_b (hP : PT Y G h) {t : Nat} (ht : t < 5) : ¬ (nI t < 0 ∨ Y.2 (h + 2) ≤ (nI t).toNatClampNeg) ∧ ¬ (nI t < 0 ∨ Y.2 (h + 3) ≤ (nI t).toNatClampNeg) := by
  obtain ⟨-, -, -, -, -, -, -, l2, -, l3, -⟩ := hP
  rw [l2, l3]
  exact ⟨nx_in ht (by decide), nx_in ht (by decide)⟩
theorem hx_ix {c t : Nat} (hc : c < 100) (ht : t < 5) {cc : Int32} (e : cc = nI c) : cc + nI t = nI (c + t) := by
  subst e
  exact nI_add c t
theorem S_finish (hP : PT Y G h) (hM : MT Y H m) {N : Nat} {V : mV} {a : Nat → Int32} (hm : PM V h N a) (hs : SI N a) (b1 : Int32) : OK V h m N a (cf_X2_finishStage Y V G h b1) (fun W => cf_X4_doFinish Y W H m b1) := by
  obtain ⟨⟨hN, ha1, hrow⟩, ⟨d, hd⟩, ⟨s0, hs0, e0⟩, ⟨s1, hs1, e1⟩, hrs⟩ := id hs
  obtain ⟨m3, m4, m5, m6, m7, m8, mst, mc⟩ := id hm
  cases ev : wi b1 0 4
  · exact OK_err hm hs (e := -1000001) (by decide) (by rw [cf_X2_finishStage, C_in, ev]; rfl) (fun W hW => by show cf_X4_doFinish Y W H m _ = _; rw [cf_X4_doFinish, M_isStage, ev]; rfl)
  · obtain ⟨t, -, ht, rfl⟩ := wi_num (lo := 0) (hi := 4) (by omega) (by omega) ev
    have ht5 : t < 5 := by omega
    have ct : (nI t).toNatClampNeg = t := nI_clamp (by omega)
    obtain ⟨pG0, pG1, pG2, pG3, pk1, pl1, pk2, pl2, pk3, pl3, pc⟩ := id hP
    have kb := C_bst hP V mst (x := nI t) ⟨t, ht5, rfl⟩
    have pb := P_b hP ht5
    rw [ct] at pb
    have clsE : cf_X2_finishStage Y V G h (nI t) = if a (6 + t) = -1 then some (-1000002, V) else if a (11 + t) = -1 then some (a 0 - a (6 + t), up2 V (h + 3) t (a 0)) else some (-1000002, V) := by
      rw [cf_X2_finishStage, C_in, ev, Option.bind_some, bi_1, if_neg (by decide), if_pos hP.1, kb.1, Option.bind_some, kb.2, Option.bind_some, ct]
      by_cases q : a (6 + t) = -1
      · simp [q, bi]
      · by_cases q2 : a (11 + t) = -1
        · rw [if_neg q, if_pos q2]
          simp only [q, q2, decide_false, decide_true, Bool.not_false, Bool.not_true, bi_1, bi_0, if_true]
          rw [if_neg (by decide), pG3, Option.bind_some, if_pos pk3, if_pos pb.2, pG2, Option.bind_some, if_pos pk2, if_pos pb.1, up2_n _ _ _ (show h ≠ h + 3 by omega), up2_n _ _ _ (show h + 2 ≠ h + 3 by omega), m4, ((mst t ht5).1)]
        · simp [q, q2, bi]
    have mdlE : ∀ W : mV, W (m + 1) = a → cf_X4_doFinish Y W H m (nI t) = if a (6 + t) = -1 then some (-1000002, W) else if a (11 + t) = -1 then some (a 0 - a (6 + t), va_up W (m + 1) (va_up a (11 + t) (a 0))) else some (-1000002, W) := by
      intro W hW
      rw [cf_X4_doFinish, M_isStage, ev, Option.bind_some, bi_1, if_neg (by decide), if_pos (MT_k hM), M_begun hM W ht5, Option.bind_some, M_fin hM W ht5, Option.bind_some, hW]
      by_cases q : a (6 + t) = -1
      · simp [q, bi]
      · by_cases q2 : a (11 + t) = -1
        · rw [if_neg q, if_pos q2, if_neg q, if_neg (by decide), if_pos q2, if_pos rfl, MT_g hM, Option.bind_some, if_pos (MT_k1 hM), if_pos (MT_i0 hM), hx_ix (cc := (11 : Int32)) (c := 11) (by omega) ht5 rfl, if_pos (ix_h (by omega) (MT_l1 hM)), if_pos (MT_i0 hM), hx_ix (cc := (6 : Int32)) (c := 6) (by omega) ht5 rfl, if_pos (ix_h (by omega) (MT_l1 hM)), nI_clamp (by omega), nI_clamp (by omega), tn_0, up2_sn _ _ _ (by omega), up2_sn _ _ _ (by omega), hW]
          show some (_, va_up W (m + 1) (va_up (W (m + 1)) _ _)) = _
          rw [hW]
        · rw [if_neg q, if_neg q2, if_neg q, if_neg (by decide), if_neg q2, if_neg (by decide)]
    by_cases q : a (6 + t) = -1
    · exact OK_err hm hs (e := -1000002) (by decide) (by rw [clsE, if_pos q]) (fun W hW => by show cf_X4_doFinish Y W H m _ = _; rw [mdlE W hW, if_pos q])
    · by_cases q2 : a (11 + t) = -1
      · obtain ⟨d1, d2, d3, d4⟩ := id hd
        have hres : 0 ≤ a 0 - a (6 + t) := by
          rcases d3 t ht5 with z | ⟨u, hu, eu⟩
          · exact absurd z.1 q
          · rw [d2, eu, nI_sb hu]
            exact nI_pos' (by omega)
        refine ⟨a 0 - a (6 + t), up2 V (h + 3) t (a 0), N, va_up a (11 + t) (a 0), by rw [clsE, if_neg q, if_pos q2], fun W hW => by show cf_X4_doFinish Y W H m _ = _; rw [mdlE W hW, if_neg q, if_pos q2], ?_, ?_, fun b hb => up2_n _ _ _ (by omega), Or.inr hres⟩
        · refine PM_hd hm hN (rc_hd a (by omega) _) (fun b hb1 hb2 => up2_n _ _ _ (by omega)) (by rw [up2_n _ _ _ (by omega)]) (by rw [up2_n _ _ _ (by omega), un_ _ _ (by omega)]; exact m4) (by rw [up2_n _ _ _ (by omega), un_ _ _ (by omega)]; exact m5) (by rw [up2_n _ _ _ (by omega), un_ _ _ (by omega)]; exact m6) (by rw [up2_n _ _ _ (by omega), un_ _ _ (by omega)]; exact m7) (by rw [up2_n _ _ _ (by omega), un_ _ _ (by omega)]; exact m8) (fun k hk => ?_)
          rw [up2_n _ _ _ (by omega), un_ _ _ (by omega)]
          refine ⟨(mst k hk).1, ?_⟩
          rw [up2_s]
          by_cases e : k = t
          · subst e; rw [va_up_s, va_up_s]
          · rw [un_ _ _ e, un_ _ _ (by omega)]; exact (mst k hk).2
        · refine SI_hd hs (rc_hd a (by omega) _) (un_ _ _ (by omega)) ⟨s0, hs0, by rw [un_ _ _ (by omega)]; exact e0⟩ ⟨s1, hs1, by rw [un_ _ _ (by omega)]; exact e1⟩ (fun d hd => ⟨d, hd.1, by rw [un_ _ _ (by omega)]; exact hd.2.1, fun k hk => ?_, fun i hi => by rw [rc_hd a (by omega)]; exact hd.2.2.2 i hi⟩) (fun k hk z => by rw [un_ _ _ (by omega)]; exact z)
          rw [un_ _ _ (show 6 + k ≠ 11 + t by omega)]
          by_cases e : k = t
          · subst e; exact Or.inr ((hd.2.2.1 k hk).resolve_left (fun z => q z.1))
          · rw [un_ _ _ (show 11 + k ≠ 11 + t by omega)]; exact hd.2.2.1 k hk
      · exact OK_err hm hs (e := -1000002) (by decide) (by rw [clsE, if_neg q, if_neg q2]) (fun W hW => by show cf_X4_doFinish Y W H m _ = _; rw [mdlE W hW, if_neg q, if_neg q2])
end CLS
