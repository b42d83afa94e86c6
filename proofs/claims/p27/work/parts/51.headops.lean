-- settings, an end, a begin, days, a new condition
section CLS
variable {Y : mY} {G : mG} {h : Nat}
theorem E_set (hP : PT Y G h) {N : Nat} {V : mV} {a : Nat → Int32} (hm : PM V h N a) (hs : SI N a) {w x : Nat} (hw : w < 2) (hx1 : 1 ≤ x) (hx : x ≤ 99) : ∃ V', cf_X2_putSetting Y V G h (nI w) (nI x) = some (a (2 + w), V') ∧ PM V' h N (va_up a (2 + w) (nI x)) ∧ SI N (va_up a (2 + w) (nI x)) ∧ sO V' V h ∧ 0 ≤ a (2 + w) := by
  obtain ⟨⟨hN, ha1, hrow⟩, ⟨d, hd⟩, ⟨s0, hs0, e0⟩, ⟨s1, hs1, e1⟩, hrs⟩ := id hs
  obtain ⟨m3, m4, m5, m6, m7, m8, mst, mc⟩ := id hm
  rcases (show w = 0 ∨ w = 1 by omega) with rfl | rfl
  · have ev : wi (nI x) 0 99 = true := by
      rw [show wi (nI x) 0 99 = wi (nI x) (nI 0) (nI 99) from rfl, wi_nI (by omega) (by omega) (by omega)]; simp; omega
    refine ⟨up2 V h 7 (nI x), by rw [cf_X2_putSetting, if_pos (show nI 0 = 0 from rfl), C_in, ev, Option.bind_some, bi_1, if_neg (by decide), if_pos hP.1, m7], ?_, ?_, fun b hb => up2_n _ _ _ (by omega), by rw [e0]; exact nI_pos' (by omega)⟩
    · refine PM_hd hm hN (rc_hd a (by omega) _) (fun b hb1 hb2 => up2_n _ _ _ (by omega)) (by rw [up2_sn _ _ _ (by omega)]) (by rw [up2_sn _ _ _ (by omega), un_ _ _ (by omega)]; exact m4) (by rw [up2_sn _ _ _ (by omega), un_ _ _ (by omega)]; exact m5) (by rw [up2_sn _ _ _ (by omega), un_ _ _ (by omega)]; exact m6) (by rw [up2_ss, va_up_s]) (by rw [up2_sn _ _ _ (by omega), un_ _ _ (by omega)]; exact m8) (fun k hk => ?_)
      rw [up2_n _ _ _ (by omega), up2_n _ _ _ (by omega), un_ _ _ (by omega), un_ _ _ (by omega)]
      exact mst k hk
    · exact SI_hd hs (rc_hd a (by omega) _) (un_ _ _ (by omega)) ⟨x, hx, by rw [va_up_s]⟩ ⟨s1, hs1, by rw [un_ _ _ (by omega)]; exact e1⟩ (fun d hd => ⟨d, hd.1, by rw [un_ _ _ (by omega)]; exact hd.2.1, fun k hk => by rw [un_ _ _ (by omega), un_ _ _ (by omega)]; exact hd.2.2.1 k hk, fun i hi => by rw [rc_hd a (by omega)]; exact hd.2.2.2 i hi⟩) (fun k hk q => by rw [un_ _ _ (by omega)]; exact q)
  · have ev : wi (nI x) 1 365 = true := by
      rw [show wi (nI x) 1 365 = wi (nI x) (nI 1) (nI 365) from rfl, wi_nI (by omega) (by omega) (by omega)]; simp; omega
    refine ⟨up2 V h 8 (nI x), by rw [cf_X2_putSetting, if_neg (by decide), if_pos (show nI 1 = 1 from rfl), C_in, ev, Option.bind_some, bi_1, if_neg (by decide), if_pos hP.1, m8], ?_, ?_, fun b hb => up2_n _ _ _ (by omega), by rw [e1]; exact nI_pos' (by omega)⟩
    · refine PM_hd hm hN (rc_hd a (by omega) _) (fun b hb1 hb2 => up2_n _ _ _ (by omega)) (by rw [up2_sn _ _ _ (by omega)]) (by rw [up2_sn _ _ _ (by omega), un_ _ _ (by omega)]; exact m4) (by rw [up2_sn _ _ _ (by omega), un_ _ _ (by omega)]; exact m5) (by rw [up2_sn _ _ _ (by omega), un_ _ _ (by omega)]; exact m6) (by rw [up2_sn _ _ _ (by omega), un_ _ _ (by omega)]; exact m7) (by rw [up2_ss, va_up_s]) (fun k hk => ?_)
      rw [up2_n _ _ _ (by omega), up2_n _ _ _ (by omega), un_ _ _ (by omega), un_ _ _ (by omega)]
      exact mst k hk
    · exact SI_hd hs (rc_hd a (by omega) _) (un_ _ _ (by omega)) ⟨s0, hs0, by rw [un_ _ _ (by omega)]; exact e0⟩ ⟨x, by omega, by rw [va_up_s]⟩ (fun d hd => ⟨d, hd.1, by rw [un_ _ _ (by omega)]; exact hd.2.1, fun k hk => by rw [un_ _ _ (by omega), un_ _ _ (by omega)]; exact hd.2.2.1 k hk, fun i hi => by rw [rc_hd a (by omega)]; exact hd.2.2.2 i hi⟩) (fun k hk q => by rw [un_ _ _ (by omega)]; exact q)
/-- the end of a stage: the answer, the array behind it -/
def fFin (t : Nat) (a : Nat → Int32) : Int32 × (Nat → Int32) := if a (6 + t) = -1 then (-1000002, a) else if a (11 + t) = -1 then (a 0 - a (6 + t), va_up a (11 + t) (a 0)) else (-1000002, a)
theorem E_finish (hP : PT Y G h) {N : Nat} {V : mV} {a : Nat → Int32} (hm : PM V h N a) (hs : SI N a) {t : Nat} (ht5 : t < 5) : ∃ V', cf_X2_finishStage Y V G h (nI t) = some ((fFin t a).1, V') ∧ PM V' h N (fFin t a).2 ∧ SI N (fFin t a).2 ∧ sO V' V h ∧ (((fFin t a).1 < -1000000 ∧ V' = V ∧ (fFin t a).2 = a) ∨ 0 ≤ (fFin t a).1) := by
  obtain ⟨⟨hN, ha1, hrow⟩, ⟨d, hd⟩, ⟨s0, hs0, e0⟩, ⟨s1, hs1, e1⟩, hrs⟩ := id hs
  obtain ⟨m3, m4, m5, m6, m7, m8, mst, mc⟩ := id hm
  have ev : wi (nI t) 0 4 = true := by
    rw [show wi (nI t) 0 4 = wi (nI t) (nI 0) (nI 4) from rfl, wi_nI (by omega) (by omega) (by omega)]; simp; omega
  have ct : (nI t).toNatClampNeg = t := nI_clamp (by omega)
  obtain ⟨pG0, pG1, pG2, pG3, pk1, pl1, pk2, pl2, pk3, pl3, pc⟩ := id hP
  have kb := C_bst hP V mst (x := nI t) ⟨t, ht5, rfl⟩
  have pb := P_b hP ht5
  rw [ct] at pb
  have clsE : cf_X2_finishStage Y V G h (nI t) = if a (6 + t) = -1 then some (-1000002, V) else if a (11 + t) = -1 then some (a 0 - a (6 + t), up2 V (h + 3) t (a 0)) else some (-1000002, V) := by
    rw [cf_X2_finishStage, C_in, ev, Option.bind_some, bi_1, if_neg (by decide), if_pos hP.1, kb.1, Option.bind_some, kb.2, Option.bind_some, ct]
    by_cases q : a (6 + t) = -1
    · simp [q, bi]
    · by_cases q2 : a (11 + t) = -1
      · rw [if_neg q, if_pos q2]
        simp only [q, q2, decide_false, decide_true, Bool.not_false, Bool.not_true, bi_1, bi_0, if_true]
        rw [if_neg (by decide), pG3, Option.bind_some, if_pos pk3, if_pos pb.2, pG2, Option.bind_some, if_pos pk2, if_pos pb.1, up2_n _ _ _ (show h ≠ h + 3 by omega), up2_n _ _ _ (show h + 2 ≠ h + 3 by omega), m4, ((mst t ht5).1)]
      · simp [q, q2, bi]
  unfold fFin
  by_cases q : a (6 + t) = -1
  · rw [if_pos q]
    dsimp only
    exact ⟨V, by rw [clsE, if_pos q], hm, hs, sO_rf _ _, Or.inl ⟨by decide, rfl, rfl⟩⟩
  · rw [if_neg q]
    by_cases q2 : a (11 + t) = -1
    · rw [if_pos q2]
      dsimp only
      obtain ⟨d1, d2, d3, d4⟩ := id hd
      have hres : 0 ≤ a 0 - a (6 + t) := by
        rcases d3 t ht5 with z | ⟨u, hu, eu⟩
        · exact absurd z.1 q
        · rw [d2, eu, nI_sb hu]
          exact nI_pos' (by omega)
      refine ⟨up2 V (h + 3) t (a 0), by rw [clsE, if_neg q, if_pos q2], ?_, ?_, fun b hb => up2_n _ _ _ (by omega), Or.inr hres⟩
      · refine PM_hd hm hN (rc_hd a (by omega) _) (fun b hb1 hb2 => up2_n _ _ _ (by omega)) (by rw [up2_n _ _ _ (by omega)]) (by rw [up2_n _ _ _ (by omega), un_ _ _ (by omega)]; exact m4) (by rw [up2_n _ _ _ (by omega), un_ _ _ (by omega)]; exact m5) (by rw [up2_n _ _ _ (by omega), un_ _ _ (by omega)]; exact m6) (by rw [up2_n _ _ _ (by omega), un_ _ _ (by omega)]; exact m7) (by rw [up2_n _ _ _ (by omega), un_ _ _ (by omega)]; exact m8) (fun k hk => ?_)
        rw [up2_n _ _ _ (by omega), un_ _ _ (by omega)]
        refine ⟨(mst k hk).1, ?_⟩
        rw [up2_s]
        by_cases e : k = t
        · subst e; rw [va_up_s, va_up_s]
        · rw [un_ _ _ e, un_ _ _ (by omega)]; exact (mst k hk).2
      · refine SI_hd hs (rc_hd a (by omega) _) (un_ _ _ (by omega)) ⟨s0, hs0, by rw [un_ _ _ (by omega)]; exact e0⟩ ⟨s1, hs1, by rw [un_ _ _ (by omega)]; exact e1⟩ (fun d hd => ⟨d, hd.1, by rw [un_ _ _ (by omega)]; exact hd.2.1, fun k hk => ?_, fun i hi => by rw [rc_hd a (by omega)]; exact hd.2.2.2 i hi⟩) (fun k hk z => by rw [un_ _ _ (by omega)]; exact z)
        rw [un_ _ _ (show 6 + k ≠ 11 + t by omega)]
        by_cases e : k = t
        · subst e; exact Or.inr ((hd.2.2.1 k hk).resolve_left (fun z => q z.1))
        · rw [un_ _ _ (show 11 + k ≠ 11 + t by omega)]; exact hd.2.2.1 k hk
    · rw [if_neg q2]
      dsimp only
      exact ⟨V, by rw [clsE, if_neg q, if_neg q2], hm, hs, sO_rf _ _, Or.inl ⟨by decide, rfl, rfl⟩⟩
def sg (p : Nat → Bool) (i : Nat) : Nat → Int32
  | 0 => 0
  | n + 1 => bi (p i) + sg p (i + 1) n
theorem B_loop (hP : PT Y G h) {N : Nat} (p : Nat → Bool) (b1 : Int32) : ∀ (n i fuel : Nat) (V : mV) (a : Nat → Int32), i + n = N → n < fuel → PM V h N a → SI N a → (∀ j, i ≤ j → j < N → p j = true → rc a j 8 = 0 ∧ rc a j 12 = 0 ∧ a (6 + (rc a j 1).toNatClampNeg) ≠ -1) → ∃ V' a', lp_X2_beginStage_41 Y G fuel V h b1 (nI (mN p N)) (nI i) = some (nI (mN p N), V') ∧ PM V' h N a' ∧ SI N a' ∧ sO V' V h ∧ (∀ j, j < 16 → j ≠ 4 → a' j = a j) ∧ a' 4 = a 4 + sg p i n ∧ ∀ j, j < N → rc a' j = if i ≤ j ∧ p j = true then rbrk (rc a j) else rc a j
  | 0, i, fuel, V, a, hj, hf, hm, hs, hp => by
      obtain ⟨f, rfl⟩ : ∃ f, fuel = f + 1 := ⟨fuel - 1, by omega⟩
      obtain rfl : i = N := by omega
      refine ⟨V, a, ?_, hm, hs, sO_rf _ _, fun _ _ _ => rfl, by simp [sg], fun j hj => by rw [if_neg (fun q => by omega)]⟩
      rw [lp_X2_beginStage_41, if_pos hP.1, hm.1, if_pos (Int32.le_refl _)]
  | n + 1, i, fuel, V, a, hj, hf, hm, hs, hp => by
      obtain ⟨f, rfl⟩ : ∃ f, fuel = f + 1 := ⟨fuel - 1, by omega⟩
      have hN := hs.1.1
      have hi : i < N := by omega
      have lt : ¬ nI N ≤ nI i := le_nI (by omega) (by omega)
      obtain ⟨g0, k1, i1, g1, ki⟩ := P_cell hP (show i < 10 by omega)
      cases ep : p i
      · obtain ⟨V', a', c1, c3, c4, c5, c6, c7, c8⟩ := B_loop (N := N) hP p b1 n (i + 1) f V a (by omega) (by omega) hm hs (fun j h1 h2 h3 => hp j (by omega) h2 h3)
        refine ⟨V', a', ?_, c3, c4, c5, c6, by rw [c7, sg, ep, bi_0, Int32.zero_add], fun j hj => ?_⟩
        · rw [lp_X2_beginStage_41, if_pos hP.1, hm.1, if_neg lt, if_pos ((mk_and hN hi).mpr ep), ← nI_succ, c1]
        · rw [c8 j hj]
          by_cases e : j = i
          · subst e; rw [if_neg (fun q => by omega), if_neg (fun q => by rw [ep] at q; exact absurd q.2 (by decide))]
          · by_cases q : i + 1 ≤ j ∧ p j = true
            · rw [if_pos q, if_pos ⟨by omega, q.2⟩]
            · rw [if_neg q, if_neg (fun z => q ⟨by omega, z.2⟩)]
      · obtain ⟨q8, q12, qL⟩ := hp i (by omega) hi ep
        obtain ⟨p1, s1⟩ := brk_step hm hs hi q8 q12 qL
        have ht : tl (rbrk (ro a i)) (ro (va_up a 4 (a 4 + 1)) i) := by rw [ro_hd _ (by omega)]; exact tl_brk (tl_rf _)
        have hrc : ∀ j, rc (so (va_up a 4 (a 4 + 1)) i (rbrk (ro a i))) j = if j = i then rbrk (rc a i) else rc a j := fun j => by
          rw [rc_so ht, rc_hd _ (by omega), cut_brk]; rfl
        obtain ⟨V', a', c1, c3, c4, c5, c6, c7, c8⟩ := B_loop (N := N) hP p b1 n (i + 1) f _ (so (va_up a 4 (a 4 + 1)) i (rbrk (ro a i))) (by omega) (by omega) p1 s1 (by
          intro j h1 h2 h3
          have st := st_lt (hs.1.2.2 j h2).2.1
          rw [hrc, if_neg (by omega), so_h _ _ _ (by omega), un_ _ _ (by omega)]
          exact hp j (by omega) h2 h3)
        refine ⟨V', a', ?_, c3, c4, sO_tr c5 (fun b hb => by rw [up2_n _ _ _ (by omega), up2_n _ _ _ (by omega)]), fun j h1 h2 => by rw [c6 j h1 h2, so_h _ _ _ h1, un_ _ _ h2], ?_, fun j hj => ?_⟩
        · rw [lp_X2_beginStage_41, if_pos hP.1, hm.1, if_neg lt, if_neg (fun q => by rw [(mk_and hN hi).mp q] at ep; cases ep), g0, Option.bind_some, if_pos k1, if_pos i1, g1, Option.bind_some, cf_X2_startBreach, if_pos ki, if_pos hP.1, Option.bind_some, ← nI_succ, up2_n _ _ _ (show h ≠ h + 4 + i by omega), c1]
        · rw [c7, so_h _ _ _ (by omega), va_up_s, sg, ep, bi_1, Int32.add_assoc]
        · rw [c8 j hj, hrc]
          by_cases e : j = i
          · subst e; rw [if_neg (fun q => by omega), if_pos rfl, if_pos ⟨Nat.le_refl _, ep⟩]
          · rw [if_neg e]
            by_cases q : i + 1 ≤ j ∧ p j = true
            · rw [if_pos q, if_pos ⟨by omega, q.2⟩]
            · rw [if_neg q, if_neg (fun z => q ⟨by omega, z.2⟩)]
/-- behind a begin -/
def BegP (N t : Nat) (a a' : Nat → Int32) : Prop := (∀ j, j < 16 → j ≠ 4 → a' j = va_up a (6 + t) (a 0) j) ∧ a' 4 = a 4 + sg (pUn a (nI t)) 0 N ∧ ∀ j, j < N → rc a' j = if pUn a (nI t) j = true then rbrk (rc a j) else rc a j
theorem E_begin0 (hP : PT Y G h) {N : Nat} {V : mV} {a : Nat → Int32} (hm : PM V h N a) (hs : SI N a) {t : Nat} (ht5 : t < 5) (em : mayB a t = false) : cf_X2_beginStage Y V G h (nI t) = some (-1000002, V) := by
  obtain ⟨m3, m4, m5, m6, m7, m8, mst, mc⟩ := id hm
  have ev : wi (nI t) 0 4 = true := by
    rw [show wi (nI t) 0 4 = wi (nI t) (nI 0) (nI 4) from rfl, wi_nI (by omega) (by omega) (by omega)]; simp; omega
  rw [cf_X2_beginStage, C_in, ev, Option.bind_some, bi_1, if_neg (by decide), if_pos hP.1, C_canB hP V mst ht5, em]; rfl
theorem E_begin1 (hP : PT Y G h) {N : Nat} {V : mV} {a : Nat → Int32} (hm : PM V h N a) (hs : SI N a) {t : Nat} (ht5 : t < 5) (em : mayB a t = true) : ∃ V' a', cf_X2_beginStage Y V G h (nI t) = some (nI (mN (pUn a (nI t)) N), V') ∧ PM V' h N a' ∧ SI N a' ∧ sO V' V h ∧ BegP N t a a' := by
  obtain ⟨⟨hN, ha1, hrow⟩, ⟨d, hd⟩, ⟨s0, hs0, e0⟩, ⟨s1, hs1, e1⟩, hrs⟩ := id hs
  obtain ⟨m3, m4, m5, m6, m7, m8, mst, mc⟩ := id hm
  have ev : wi (nI t) 0 4 = true := by
    rw [show wi (nI t) 0 4 = wi (nI t) (nI 0) (nI 4) from rfl, wi_nI (by omega) (by omega) (by omega)]; simp; omega
  have ct : (nI t).toNatClampNeg = t := nI_clamp (by omega)
  obtain ⟨pG0, pG1, pG2, pG3, pk1, pl1, pk2, pl2, pk3, pl3, pc⟩ := id hP
  have p1 := PM_beg hm hN ht5
  have s1 := SI_beg hs ht5
  have un : a (6 + t) = -1 := by
    unfold mayB at em
    simp only [Bool.and_eq_true, decide_eq_true_eq] at em
    exact em.1
  have ep : pUn (va_up a (6 + t) (a 0)) (nI t) = pUn a (nI t) := by
    funext j; unfold pUn; rw [rc_hd a (by omega)]
  have cl : cf_X2_beginStage Y V G h (nI t) = lp_X2_beginStage_41 Y G fuB (up2 V (h + 2) t (a 0)) h (nI t) (nI (mN (pUn a (nI t)) N)) 0 := by
    have pb := (P_b hP ht5).1
    rw [cf_X2_beginStage, C_in, ev, Option.bind_some, bi_1, if_neg (by decide), if_pos hP.1, C_canB hP V mst ht5, em, Option.bind_some, bi_1, if_neg (by decide), pG2, Option.bind_some, if_pos pk2, if_pos pb, ct, m4, C_unmet hP s1.1 p1, Option.bind_some, ep]
  have pre : ∀ j, 0 ≤ j → j < N → pUn a (nI t) j = true → rc (va_up a (6 + t) (a 0)) j 8 = 0 ∧ rc (va_up a (6 + t) (a 0)) j 12 = 0 ∧ va_up a (6 + t) (a 0) (6 + (rc (va_up a (6 + t) (a 0)) j 1).toNatClampNeg) ≠ -1 := by
    intro j _ hj q
    unfold pUn at q
    rw [rc_hd a (by omega)]
    simp only [Bool.and_eq_true, decide_eq_true_eq] at q
    obtain ⟨k0, k1, -⟩ := q
    have li := (hrs j hj).2 k0
    rw [k1, ct] at li ⊢
    obtain ⟨f8, f12, -⟩ := (hrow j hj).1
    refine ⟨f8.resolve_right (fun z => li (Or.inl z) un), f12.resolve_right (fun z => li (Or.inr z) un), ?_⟩
    rw [va_up_s, hd.2.1]
    exact fun q => absurd (show (0 : Int32) ≤ nI d from nI_pos' (by have := hd.1; omega)) (by rw [q]; decide)
  obtain ⟨V', a', e1, q1, q2, o1, u1, u2, u3⟩ := B_loop (N := N) hP (pUn a (nI t)) (nI t) N 0 fuB (up2 V (h + 2) t (a 0)) (va_up a (6 + t) (a 0)) (by omega) (fuB_gt (by omega)) p1 s1 pre
  refine ⟨V', a', by rw [cl]; exact e1, q1, q2, sO_tr o1 (fun b hb => up2_n _ _ _ (by omega)), u1, by rw [u2, un_ _ _ (by omega)], fun j hj => ?_⟩
  rw [u3 j hj, rc_hd a (by omega)]
  by_cases q : pUn a (nI t) j = true
  · rw [if_pos ⟨Nat.zero_le _, q⟩, if_pos q]
  · rw [if_neg (fun z => q z.2), if_neg q]
end CLS
-- days
theorem cut_day (a r : Nat → Int32) : cut (rday a r) = rday a (cut r) := by
  unfold rday
  dsimp only
  rw [cut_ite, cut_age, cut_run, cut_wait, ← cut_wait, ← cut_run, cut_lt r (show 8 < 13 by omega), cut_lt _ (show 8 < 13 by omega)]
def dayF (N : Nat) (a : Nat → Int32) : Nat → Int32 := fun k => if k = 0 then a 0 + 1 else if k = 4 then a 4 + sm (fun j => bi (rbr a (rwait (a 2) (rc a j)))) N else if k = 5 then a 5 + sm (fun j => wInc (a 2) (rc a j)) N else if k < 16 then a k else if (k - 16) / 13 < N then rday a (rc a ((k - 16) / 13)) ((k - 16) % 13) else a k
theorem dayF_P (N : Nat) (a : Nat → Int32) : dayP N a (dayF N a) := by
  refine ⟨rfl, rfl, rfl, fun j h16 h0 h4 h5 => by unfold dayF; rw [if_neg h0, if_neg h4, if_neg h5, if_pos h16], fun j hj => ?_⟩
  have key : ∀ k, k < 13 → ro (dayF N a) j k = if j < N then rday a (rc a j) k else ro a j k := by
    intro k hk
    show dayF N a (16 + 13 * j + k) = _
    have e1 : (16 + 13 * j + k - 16) / 13 = j := by omega
    have e2 : (16 + 13 * j + k - 16) % 13 = k := by omega
    unfold dayF
    rw [if_neg (by omega), if_neg (by omega), if_neg (by omega), if_neg (by omega), e1, e2]
    rfl
  funext k
  by_cases hk : k < 13
  · show cut (ro (dayF N a) j) k = _
    rw [cut_lt _ hk, key k hk]
    by_cases q : j < N
    · rw [if_pos q, if_pos q]
    · rw [if_neg q, if_neg q]; show _ = cut (ro a j) k; rw [cut_lt _ hk]
  · have z : ∀ r : Nat → Int32, cut r k = 0 := fun r => by simp [cut, hk]
    show cut (ro (dayF N a) j) k = _
    rw [z]
    by_cases q : j < N
    · rw [if_pos q]
      show 0 = rday a (cut (ro a j)) k
      rw [← cut_day, z]
    · rw [if_neg q]; exact (z _).symm
def dN (N : Nat) : Nat → (Nat → Int32) → (Nat → Int32)
  | 0, a => a
  | n + 1, a => dN N n (dayF N a)
section CLS
variable {Y : mY} {G : mG} {h : Nat}
theorem D_loop (hP : PT Y G h) {N D : Nat} (hD4 : D ≤ 400) : ∀ (n j fuel d : Nat) (V : mV) (a : Nat → Int32), j + n = D → n < fuel → PM V h N a → SI N a → DY N a d → d + n ≤ 9999 → ∃ V', lp_X2_passDays_31 Y G fuel V h (nI D) (nI j) = some (nI (d + n), V') ∧ PM V' h N (dN N n a) ∧ SI N (dN N n a) ∧ DY N (dN N n a) (d + n) ∧ sO V' V h
  | 0, j, fuel, d, V, a, hj, hf, hm, hs, hd, hdn => by
      obtain ⟨f, rfl⟩ : ∃ f, fuel = f + 1 := ⟨fuel - 1, by omega⟩
      obtain rfl : j = D := by omega
      refine ⟨V, ?_, hm, hs, hd, sO_rf _ _⟩
      rw [lp_X2_passDays_31, if_pos (Int32.le_refl _), if_pos hP.1, hm.2.1, hd.2.1]; rfl
  | n + 1, j, fuel, d, V, a, hj, hf, hm, hs, hd, hdn => by
      obtain ⟨f, rfl⟩ : ∃ f, fuel = f + 1 := ⟨fuel - 1, by omega⟩
      have lt : ¬ nI D ≤ nI j := le_nI (by omega) (by omega)
      obtain ⟨V1, e1, p1, f1, o1⟩ := C_loop48 hP V hs.1 hm (nI D) (nI j)
      have hb := dayF_P N a
      obtain ⟨s1, d1⟩ := SI_day hs hd (by omega) hb f1
      obtain ⟨V', c1, c3, c4, c6, c5⟩ := D_loop hP hD4 n (j + 1) f (d + 1) V1 (dayF N a) (by omega) (by omega) (p1 _ hb) s1 d1 (by omega)
      refine ⟨V', ?_, c3, c4, by rw [show d + (n + 1) = d + 1 + n by omega]; exact c6, sO_tr c5 o1⟩
      rw [lp_X2_passDays_31, if_neg lt, if_pos hP.1, e1, Option.bind_some]
      dsimp only
      rw [← nI_succ, c1]; congr 2; congr 1; omega
theorem E_pass (hP : PT Y G h) {N : Nat} {V : mV} {a : Nat → Int32} (hm : PM V h N a) (hs : SI N a) {D d : Nat} (hD1 : 1 ≤ D) (hD : D ≤ 400) (hd : DY N a d) (g : d + D ≤ 9999) : ∃ V', cf_X2_passDays Y V G h (nI D) = some (nI (d + D), V') ∧ PM V' h N (dN N D a) ∧ SI N (dN N D a) ∧ DY N (dN N D a) (d + D) ∧ sO V' V h := by
  have ev : wi (nI D) 1 400 = true := by
    rw [show wi (nI D) 1 400 = wi (nI D) (nI 1) (nI 400) from rfl, wi_nI (by omega) (by omega) (by omega)]; simp; omega
  have hg : a 0 + nI D ≤ 9999 := by
    rw [hd.2.1, nI_add]; exact nI_le (b := 9999) g (by decide)
  obtain ⟨V', e1, p1, s1, d1, o1⟩ := D_loop hP hD D 0 fuB d V a (by omega) (fuB_gt (by omega)) hm hs hd g
  refine ⟨V', ?_, p1, s1, d1, o1⟩
  rw [cf_X2_passDays, C_in, ev, Option.bind_some, bi_1, if_neg (by decide), if_pos hP.1, hm.2.1, if_pos hg]
  exact e1
end CLS
