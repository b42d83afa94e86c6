-- a stage is begun
def mayB (a : Nat → Int32) (t : Nat) : Bool := decide (a (6 + t) = -1) && (decide (t = 0) || !decide (a (6 + (t - 1)) = -1))
theorem nI_m1 {t : Nat} (h : t ≠ 0) : nI t - 1 = nI (t - 1) := nI_sb (b := 1) (by omega)
theorem rc_hdw (a : Nat → Int32) {k : Nat} (hk : k < 16) (v : Int32) (j : Nat) : rc (va_up a k v) j = rc a j := rc_hd a hk v j
theorem brk_step {V : mV} {h N i : Nat} {a : Nat → Int32} (hm : PM V h N a) (hs : SI N a) (hi : i < N) (e8 : rc a i 8 = 0) (e12 : rc a i 12 = 0) (hL : a (6 + (rc a i 1).toNatClampNeg) ≠ -1) : PM (up2 (up2 V (h + 4 + i) 8 1) h 5 (V h 5 + 1)) h N (so (va_up a 4 (a 4 + 1)) i (rbrk (ro a i))) ∧ SI N (so (va_up a 4 (a 4 + 1)) i (rbrk (ro a i))) := by
  obtain ⟨⟨hN, ha1, hrow⟩, -, -, -, hrs⟩ := id hs
  obtain ⟨m3, m4, m5, m6, m7, m8, mst, mc⟩ := id hm
  have hc := mc i hi
  obtain ⟨c0, c1, c2, c3, c4, c5, c6, c7, c8, c9, c10, c13, cn⟩ := id hc
  obtain ⟨f8, f12, fz⟩ := (hrow i hi).1
  obtain ⟨e9, e10⟩ := fz e8
  have n0 : V (h + 4 + i) 11 = 0 := by
    rcases cn with ⟨q, -⟩ | ⟨-, -, q⟩
    · exact q
    · rw [e10] at q; exact absurd q (by decide)
  have h2 : ∀ j, j < 16 → j ≠ 4 → j ≠ 5 → va_up a 4 (a 4 + 1) j = a j := fun j _ h4 _ => va_up_ne _ _ h4
  have h2r : ∀ j, rc (va_up a 4 (a 4 + 1)) j = rc a j := fun j => rc_hd _ (by omega) _ _
  have ht : tl (rbrk (ro a i)) (ro (va_up a 4 (a 4 + 1)) i) := by rw [ro_hd _ (by omega)]; exact tl_brk (tl_rf _)
  have hcut : cut (rbrk (ro a i)) = rbrk (rc a i) := cut_brk _
  constructor
  · refine PM_row hm hN hi h2 h2r (by rw [up2_sn _ _ _ (by omega), up2_n _ _ _ (by omega)]) (by rw [up2_sn _ _ _ (by omega), up2_n _ _ _ (by omega)]) (by rw [up2_ss, va_up_s, m5]) (by rw [up2_sn _ _ _ (by omega), up2_n _ _ _ (by omega), va_up_ne _ _ (by omega)]; exact m6) (by rw [up2_sn _ _ _ (by omega), up2_n _ _ _ (by omega)]) (by rw [up2_sn _ _ _ (by omega), up2_n _ _ _ (by omega)]) (fun b hb1 hb2 => by rw [up2_n _ _ _ hb2, up2_n _ _ _ hb1]) ?_ ht
    rw [hcut, up2_n _ _ _ (show h + 4 + i ≠ h by omega), up2_s]
    simp [CM, va_up, rbrk, c0, c1, c2, c3, c4, c5, c7, c9, c10, c13, e9, n0]; exact c6
  · refine SI_row hs hi h2 h2r ht ?_ ?_ ?_ ?_ ?_
    · rw [hcut]; simp [RF, va_up, rbrk, e12]
    · rw [hcut]; have := (hrs i hi).1; simpa [RS, va_up, rbrk] using this
    · rw [hcut]; have := (hrow i hi).2.1; simpa [va_up, rbrk] using this
    · rw [hcut]; intro _ _; simpa [va_up, rbrk] using hL
    · intro d' _; exact ⟨0, by omega, by rw [hcut]; simp [rbrk, va_up]; rfl⟩
section CLS
variable {Y : mY} {G H : mG} {h m : Nat}
theorem B_loop (hP : PT Y G h) (hM : MT Y H m) {N : Nat} (p : Nat → Bool) (b1 : Int32) : ∀ (n i fuel : Nat) (V W : mV), i + n = N → n < fuel → PM V h N (W (m + 1)) → SI N (W (m + 1)) → (∀ j, i ≤ j → j < N → p j = true → rc (W (m + 1)) j 8 = 0 ∧ rc (W (m + 1)) j 12 = 0 ∧ W (m + 1) (6 + (rc (W (m + 1)) j 1).toNatClampNeg) ≠ -1) → ∃ V' a', lp_X2_beginStage_41 Y G fuel V h b1 (nI (mN p N)) (nI i) = some (nI (mN p N), V') ∧ lp_X4_doBegin_44 Y H fuel W m b1 (nI (mN p N)) (nI i) = some (nI (mN p N), va_up W (m + 1) a') ∧ PM V' h N a' ∧ SI N a' ∧ sO V' V h
  | 0, i, fuel, V, W, hj, hf, hm, hs, hp => by
      obtain ⟨f, rfl⟩ : ∃ f, fuel = f + 1 := ⟨fuel - 1, by omega⟩
      obtain rfl : i = N := by omega
      refine ⟨V, W (m + 1), ?_, ?_, hm, hs, sO_rf _ _⟩
      · rw [lp_X2_beginStage_41, if_pos hP.1, hm.1, if_pos (Int32.le_refl _)]
      · rw [lp_X4_doBegin_44, if_pos (MT_k hM), MT_g hM, Option.bind_some, if_pos (MT_k1 hM), if_pos (MT_i1 hM), tn_1, hs.1.2.1, if_pos (Int32.le_refl _), us_]
  | n + 1, i, fuel, V, W, hj, hf, hm, hs, hp => by
      obtain ⟨f, rfl⟩ : ∃ f, fuel = f + 1 := ⟨fuel - 1, by omega⟩
      have hN := hs.1.1
      have hi : i < N := by omega
      have lt : ¬ nI N ≤ nI i := le_nI (by omega) (by omega)
      obtain ⟨g0, k1, i1, g1, ki⟩ := P_cell hP (show i < 10 by omega)
      cases ep : p i
      · obtain ⟨V', a', c1, c2, c3, c4, c5⟩ := B_loop (N := N) hP hM p b1 n (i + 1) f V W (by omega) (by omega) hm hs (fun j h1 h2 h3 => hp j (by omega) h2 h3)
        refine ⟨V', a', ?_, ?_, c3, c4, c5⟩
        · rw [lp_X2_beginStage_41, if_pos hP.1, hm.1, if_neg lt, if_pos ((mk_and hN hi).mpr ep), ← nI_succ, c1]
        · rw [lp_X4_doBegin_44, if_pos (MT_k hM), MT_g hM, Option.bind_some, if_pos (MT_k1 hM), if_pos (MT_i1 hM), tn_1, hs.1.2.1, if_neg lt, if_neg (fun q => by rw [(mk_test hN hi).mp q] at ep; cases ep), ← nI_succ, c2]
      · obtain ⟨q8, q12, qL⟩ := hp i (by omega) hi ep
        obtain ⟨p1, s1⟩ := brk_step hm hs hi q8 q12 qL
        have ht : tl (rbrk (ro (W (m + 1)) i)) (ro (va_up (W (m + 1)) 4 (W (m + 1) 4 + 1)) i) := by rw [ro_hd _ (by omega)]; exact tl_brk (tl_rf _)
        obtain ⟨V', a', c1, c2, c3, c4, c5⟩ := B_loop (N := N) hP hM p b1 n (i + 1) f _ (va_up W (m + 1) (so (va_up (W (m + 1)) 4 (W (m + 1) 4 + 1)) i (rbrk (ro (W (m + 1)) i)))) (by omega) (by omega) (by rw [va_up_s]; exact p1) (by rw [va_up_s]; exact s1) (by
          intro j h1 h2 h3
          have st := st_lt (hs.1.2.2 j h2).2.1
          rw [va_up_s, rc_so_o ht (by omega), rc_hd _ (by omega), so_h _ _ _ (by omega), un_ _ _ (by omega)]
          exact hp j (by omega) h2 h3)
        refine ⟨V', a', ?_, ?_, c3, c4, sO_tr c5 (fun b hb => by rw [up2_n _ _ _ (by omega), up2_n _ _ _ (by omega)])⟩
        · rw [lp_X2_beginStage_41, if_pos hP.1, hm.1, if_neg lt, if_neg (fun q => by rw [(mk_and hN hi).mp q] at ep; cases ep), g0, Option.bind_some, if_pos k1, if_pos i1, g1, Option.bind_some, cf_X2_startBreach, if_pos ki, if_pos hP.1, Option.bind_some, ← nI_succ, up2_n _ _ _ (show h ≠ h + 4 + i by omega), c1]
        · rw [lp_X4_doBegin_44, if_pos (MT_k hM), MT_g hM, Option.bind_some, if_pos (MT_k1 hM), if_pos (MT_i1 hM), tn_1, hs.1.2.1, if_neg lt, if_pos ((mk_test hN hi).mpr ep), M_breaks hM (by omega), Option.bind_some, ← nI_succ, c2, uu_]
theorem C_canB (hP : PT Y G h) (V : mV) {a : Nat → Int32} (hst : stP V h a) {t : Nat} (ht : t < 5) : cf_X2_canBegin Y V G h (nI t) = some (bi (mayB a t)) := by
  rw [cf_X2_canBegin, if_pos hP.1, (C_bst hP V hst ⟨t, ht, rfl⟩).1, Option.bind_some, nI_clamp (by omega)]
  unfold mayB
  by_cases q : a (6 + t) = -1
  · by_cases t0 : t = 0
    · subst t0; simp [q, bi, show nI 0 = 0 from rfl]
    · have n0 : ¬ nI t = 0 := nI_ne0 (by omega) (by omega)
      rw [nI_m1 t0, (C_bst hP V hst ⟨t - 1, by omega, rfl⟩).1, Option.bind_some, nI_clamp (by omega)]
      by_cases q2 : a (6 + (t - 1)) = -1 <;> simp [q, q2, n0, t0, bi]
  · simp [q, bi]
theorem M_mayB (hM : MT Y H m) (W : mV) {t : Nat} (ht : t < 5) : cf_X4_mayBegin Y W H m (nI t) = some (bi (mayB (W (m + 1)) t)) := by
  rw [cf_X4_mayBegin, if_pos (MT_k hM), M_begun hM W ht, Option.bind_some]
  unfold mayB
  by_cases q : W (m + 1) (6 + t) = -1
  · by_cases t0 : t = 0
    · subst t0; simp [q, bi, show nI 0 = 0 from rfl]
    · have n0 : ¬ nI t = 0 := nI_ne0 (by omega) (by omega)
      rw [nI_m1 t0, M_begun hM W (by omega), Option.bind_some]
      by_cases q2 : W (m + 1) (6 + (t - 1)) = -1 <;> simp [q, q2, n0, t0, bi]
  · simp [q, bi]
theorem PM_beg {V : mV} {N t : Nat} {a : Nat → Int32} (hm : PM V h N a) (hN : N ≤ 10) (ht : t < 5) : PM (up2 V (h + 2) t (a 0)) h N (va_up a (6 + t) (a 0)) := by
  obtain ⟨m3, m4, m5, m6, m7, m8, mst, mc⟩ := id hm
  refine PM_hd hm hN (rc_hd a (by omega) _) (fun b hb1 hb2 => up2_n _ _ _ (by omega)) (by rw [up2_n _ _ _ (by omega)]) (by rw [up2_n _ _ _ (by omega), un_ _ _ (by omega)]; exact m4) (by rw [up2_n _ _ _ (by omega), un_ _ _ (by omega)]; exact m5) (by rw [up2_n _ _ _ (by omega), un_ _ _ (by omega)]; exact m6) (by rw [up2_n _ _ _ (by omega), un_ _ _ (by omega)]; exact m7) (by rw [up2_n _ _ _ (by omega), un_ _ _ (by omega)]; exact m8) (fun k hk => ?_)
  rw [up2_n _ _ _ (show h + 3 ≠ h + 2 by omega), un_ _ _ (show 11 + k ≠ 6 + t by omega)]
  refine ⟨?_, (mst k hk).2⟩
  rw [up2_s]
  by_cases e : k = t
  · subst e; rw [va_up_s, va_up_s]
  · rw [un_ _ _ e, un_ _ _ (by omega)]; exact (mst k hk).1
theorem SI_beg {N t : Nat} {a : Nat → Int32} (hs : SI N a) (ht : t < 5) : SI N (va_up a (6 + t) (a 0)) := by
  obtain ⟨-, ⟨d, hd⟩, ⟨s0, hs0, e0⟩, ⟨s1, hs1, e1⟩, -⟩ := id hs
  refine SI_hd hs (rc_hd a (by omega) _) (un_ _ _ (by omega)) ⟨s0, hs0, by rw [un_ _ _ (by omega)]; exact e0⟩ ⟨s1, hs1, by rw [un_ _ _ (by omega)]; exact e1⟩ (fun d hd => ⟨d, hd.1, by rw [un_ _ _ (by omega)]; exact hd.2.1, fun k hk => ?_, fun i hi => by rw [rc_hd a (by omega)]; exact hd.2.2.2 i hi⟩) (fun k hk z => ?_)
  · by_cases e : k = t
    · subst e; rw [va_up_s]; exact Or.inr ⟨d, by omega, hd.2.1⟩
    · rw [un_ _ _ (show 6 + k ≠ 6 + t by omega), un_ _ _ (show 11 + k ≠ 6 + t by omega)]; exact hd.2.2.1 k hk
  · by_cases e : k = t
    · subst e; rw [va_up_s, hd.2.1]; exact fun q => absurd (show (0 : Int32) ≤ nI d from nI_pos' (by have := hd.1; omega)) (by rw [q]; decide)
    · rw [un_ _ _ (by omega)]; exact z
theorem S_begin (hP : PT Y G h) (hM : MT Y H m) {N : Nat} {V : mV} {a : Nat → Int32} (hm : PM V h N a) (hs : SI N a) (b1 : Int32) : OK2 V h m N a (cf_X2_beginStage Y V G h b1) (fun W => cf_X4_doBegin Y W H m b1) := by
  obtain ⟨⟨hN, ha1, hrow⟩, ⟨d, hd⟩, ⟨s0, hs0, e0⟩, ⟨s1, hs1, e1⟩, hrs⟩ := id hs
  obtain ⟨m3, m4, m5, m6, m7, m8, mst, mc⟩ := id hm
  cases ev : wi b1 0 4
  · exact OK_2 (OK_err hm hs (e := -1000001) (by decide) (by rw [cf_X2_beginStage, C_in, ev]; rfl) (fun W hW => by show cf_X4_doBegin Y W H m _ = _; rw [cf_X4_doBegin, M_isStage, ev]; rfl))
  · obtain ⟨t, -, ht, rfl⟩ := wi_num (lo := 0) (hi := 4) (by omega) (by omega) ev
    have ht5 : t < 5 := by omega
    have ct : (nI t).toNatClampNeg = t := nI_clamp (by omega)
    cases em : mayB a t
    · exact OK_2 (OK_err hm hs (e := -1000002) (by decide) (by rw [cf_X2_beginStage, C_in, ev, Option.bind_some, bi_1, if_neg (by decide), if_pos hP.1, C_canB hP V mst ht5, em]; rfl) (fun W hW => by show cf_X4_doBegin Y W H m _ = _; rw [cf_X4_doBegin, M_isStage, ev, Option.bind_some, bi_1, if_neg (by decide), if_pos (MT_k hM), M_mayB hM W ht5, hW, em]; rfl))
    · obtain ⟨pG0, pG1, pG2, pG3, pk1, pl1, pk2, pl2, pk3, pl3, pc⟩ := id hP
      have p1 := PM_beg hm hN ht5
      have s1 := SI_beg hs ht5
      have un : a (6 + t) = -1 := by
        unfold mayB at em
        simp only [Bool.and_eq_true, decide_eq_true_eq] at em
        exact em.1
      have cl : cf_X2_beginStage Y V G h (nI t) = lp_X2_beginStage_41 Y G fuB (up2 V (h + 2) t (a 0)) h (nI t) (nI (mN (pUn (va_up a (6 + t) (a 0)) (nI t)) N)) 0 := by
        have pb := (P_b hP ht5).1
        rw [cf_X2_beginStage, C_in, ev, Option.bind_some, bi_1, if_neg (by decide), if_pos hP.1, C_canB hP V mst ht5, em, Option.bind_some, bi_1, if_neg (by decide), pG2, Option.bind_some, if_pos pk2, if_pos pb, ct, m4, C_unmet hP s1.1 p1, Option.bind_some]
      have ml : ∀ W : mV, W (m + 1) = a → cf_X4_doBegin Y W H m (nI t) = lp_X4_doBegin_44 Y H fuB (va_up W (m + 1) (va_up a (6 + t) (a 0))) m (nI t) (nI (mN (pUn (va_up a (6 + t) (a 0)) (nI t)) N)) 0 := by
        intro W hW
        have eW : up2 W (m + 1) (6 + t) (a 0) = va_up W (m + 1) (va_up a (6 + t) (a 0)) := by rw [up2, hW]
        have mu := M_unmet hM (V := va_up W (m + 1) (va_up a (6 + t) (a 0))) (N := N) (by rw [va_up_s]; exact s1.1) (nI t)
        rw [va_up_s] at mu
        rw [cf_X4_doBegin, M_isStage, ev, Option.bind_some, bi_1, if_neg (by decide), if_pos (MT_k hM), M_mayB hM W ht5, hW, em, Option.bind_some, bi_1, if_neg (by decide), MT_g hM, Option.bind_some, if_pos (MT_k1 hM), if_pos (MT_i0 hM), hx_ix (cc := (6 : Int32)) (c := 6) (by omega) ht5 rfl, if_pos (ix_h (by omega) (MT_l1 hM)), nI_clamp (show 6 + t < _ by omega), tn_0, hW, eW, mu, Option.bind_some]
      have pre : ∀ j, 0 ≤ j → j < N → pUn (va_up a (6 + t) (a 0)) (nI t) j = true → rc (va_up a (6 + t) (a 0)) j 8 = 0 ∧ rc (va_up a (6 + t) (a 0)) j 12 = 0 ∧ va_up a (6 + t) (a 0) (6 + (rc (va_up a (6 + t) (a 0)) j 1).toNatClampNeg) ≠ -1 := by
        intro j _ hj q
        unfold pUn at q
        rw [rc_hd a (by omega)] at q ⊢
        simp only [Bool.and_eq_true, decide_eq_true_eq] at q
        obtain ⟨k0, k1, -⟩ := q
        have li := (hrs j hj).2 k0
        rw [k1, ct] at li ⊢
        obtain ⟨f8, f12, -⟩ := (hrow j hj).1
        refine ⟨f8.resolve_right (fun z => li (Or.inl z) un), f12.resolve_right (fun z => li (Or.inr z) un), ?_⟩
        rw [va_up_s, hd.2.1]
        exact fun q => absurd (show (0 : Int32) ≤ nI d from nI_pos' (by have := hd.1; omega)) (by rw [q]; decide)
      have w0 : (va_up (fun _ => a : mV) (m + 1) (va_up a (6 + t) (a 0)) : mV) (m + 1) = va_up a (6 + t) (a 0) := va_up_s _ _ _
      obtain ⟨V', a0, e1, -, q1, q2, o1⟩ := B_loop (N := N) hP hM (pUn (va_up a (6 + t) (a 0)) (nI t)) (nI t) N 0 fuB (up2 V (h + 2) t (a 0)) (va_up (fun _ => a : mV) (m + 1) (va_up a (6 + t) (a 0))) (by omega) (fuB_gt (by omega)) (by rw [w0]; exact p1) (by rw [w0]; exact s1) (by rw [w0]; exact pre)
      have hlt := mN_1024 (pUn (va_up a (6 + t) (a 0)) (nI t)) hN
      refine ⟨nI (mN (pUn (va_up a (6 + t) (a 0)) (nI t)) N), V', N, by rw [cl]; exact e1, sO_tr o1 (fun b hb => up2_n _ _ _ (by omega)), Or.inr (nI_pos' (by omega)), fun W hW => ?_⟩
      have w1 : (va_up W (m + 1) (va_up a (6 + t) (a 0)) : mV) (m + 1) = va_up a (6 + t) (a 0) := va_up_s _ _ _
      obtain ⟨V2, a2, e2, k2, r1, r2, o2⟩ := B_loop (N := N) hP hM (pUn (va_up a (6 + t) (a 0)) (nI t)) (nI t) N 0 fuB (up2 V (h + 2) t (a 0)) (va_up W (m + 1) (va_up a (6 + t) (a 0))) (by omega) (fuB_gt (by omega)) (by rw [w1]; exact p1) (by rw [w1]; exact s1) (by rw [w1]; exact pre)
      have ee := e1.symm.trans e2
      simp only [Option.some.injEq, Prod.mk.injEq, true_and] at ee
      subst ee
      rw [uu_] at k2
      exact ⟨a2, by show cf_X4_doBegin Y W H m _ = _; rw [ml W hW]; exact k2, r1, r2, fun lt => absurd lt (by rw [Int32.not_lt]; exact Int32.le_trans (by decide) (nI_pos' (by omega)))⟩
end CLS
