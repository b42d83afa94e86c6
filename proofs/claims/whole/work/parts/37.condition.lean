-- a new condition
def zr (k : Nat) (r : Nat → Int32) : Nat → Int32 := fun q => if q < k then 0 else r q
theorem zr_step (k : Nat) (r : Nat → Int32) : va_up (zr k r) k 0 = zr (k + 1) r := by
  funext q
  by_cases e : q = k
  · subst e; rw [va_up_s]; simp [zr]
  · rw [un_ _ _ e]; simp only [zr]
    by_cases l : q < k
    · rw [if_pos l, if_pos (by omega)]
    · rw [if_neg l, if_neg (by omega)]
theorem zr_0 (r : Nat → Int32) : zr 0 r = r := by funext q; simp [zr]
def nrow (r : Nat → Int32) (b1 b2 b3 b4 : Int32) : Nat → Int32 := va_up (va_up (va_up (va_up (va_up (zr 13 r) 0 b1) 1 b2) 2 b3) 3 b4) 10 (-1)
theorem nrow_tl (r : Nat → Int32) (b1 b2 b3 b4 : Int32) : tl (nrow r b1 b2 b3 b4) r := tl_up (tl_up (tl_up (tl_up (tl_up (fun k hk => by simp [zr]; omega) (by omega) _) (by omega) _) (by omega) _) (by omega) _) (by omega) _
theorem nrow_cut (r : Nat → Int32) (b1 b2 b3 b4 : Int32) {k : Nat} (h : k < 13) : cut (nrow r b1 b2 b3 b4) k = va_up (va_up (va_up (va_up (va_up (fun _ => 0) 0 b1) 1 b2) 2 b3) 3 b4) 10 (-1) k := by
  rw [cut_lt _ h]
  unfold nrow va_up zr
  simp [h]
section CLS
variable {Y : mY} {G H : mG} {h m : Nat}
theorem N_loop (hM : MT Y H m) {N : Nat} (hN : N < 10) (b1 b2 b3 b4 : Int32) : ∀ (n k fuel : Nat) (W : mV), k + n = 13 → n < fuel → ∀ a : Nat → Int32, W (m + 1) = so a N (zr k (ro a N)) → lp_X4_doCondition_89 Y H fuel W m b1 b2 b3 b4 (nI N) (nI k) = some (nI N, va_up W (m + 1) (so a N (nrow (ro a N) b1 b2 b3 b4)))
  | 0, k, fuel, W, hk, hf, a, hW => by
      obtain ⟨f, rfl⟩ : ∃ f, fuel = f + 1 := ⟨fuel - 1, by omega⟩
      obtain rfl : k = 13 := by omega
      rw [lp_X4_doCondition_89, if_pos (show (13 : Int32) ≤ nI 13 by decide), if_pos (MT_k hM), M_p0 hM hN, Option.bind_some, M_p1 hM hN, Option.bind_some, M_p2 hM hN, Option.bind_some, M_p3 hM hN, Option.bind_some, M_p10 hM hN, Option.bind_some]
      simp only [va_up_s, uu_, ro_so, so_so, hW]
      rfl
  | n + 1, k, fuel, W, hk, hf, a, hW => by
      obtain ⟨f, rfl⟩ : ∃ f, fuel = f + 1 := ⟨fuel - 1, by omega⟩
      have lt : ¬ (13 : Int32) ≤ nI k := le_nI (a := 13) (b := k) (by omega) (by decide)
      rw [lp_X4_doCondition_89, if_neg lt, if_pos (MT_k hM), M_put hM hN W (show k < 13 by omega) rfl, Option.bind_some, ← nI_succ, N_loop hM hN b1 b2 b3 b4 n (k + 1) f _ (by omega) (by omega) a (by rw [va_up_s, hW, ro_so, so_so, zr_step]), uu_]
theorem S_condition (hP : PT Y G h) (hM : MT Y H m) {N : Nat} {V : mV} {a : Nat → Int32} (hm : PM V h N a) (hs : SI N a) (b1 b2 b3 b4 : Int32) : OK2 V h m N a (cf_X2_addCondition Y V G h b1 b2 b3 b4) (fun W => cf_X4_doCondition Y W H m b1 b2 b3 b4) := by
  obtain ⟨⟨hN, ha1, hrow⟩, ⟨d, hd⟩, ⟨s0, hs0, e0⟩, ⟨s1, hs1, e1⟩, hrs⟩ := id hs
  obtain ⟨m3, m4, m5, m6, m7, m8, mst, mc⟩ := id hm
  have q1 : cf_X4_in (b1.toInt64) (0 : Int64) (2 : Int64) = some (bi (wi b1 0 2)) := M_in b1 0 2
  have q4 : cf_X4_in (b4.toInt64) (1 : Int64) (6 : Int64) = some (bi (wi b4 1 6)) := M_in b4 1 6
  have qd := M_days b1 b3
  have ld : cf_X2_leastDays b1 = some (if b1 = 2 then 1 else 0) := by rw [cf_X2_leastDays]; split <;> rfl
  cases ev1 : wi b1 0 2
  · exact OK_2 (OK_err hm hs (e := -1000001) (by decide) (by rw [cf_X2_addCondition, C_in, ev1]; rfl) (fun W hW => by show cf_X4_doCondition Y W H m _ _ _ _ = _; rw [cf_X4_doCondition, q1, ev1]; rfl))
  · cases ev2 : wi b2 0 4
    · exact OK_2 (OK_err hm hs (e := -1000001) (by decide) (by rw [cf_X2_addCondition, C_in, ev1, Option.bind_some, bi_1, if_neg (by decide), C_in, ev2]; rfl) (fun W hW => by show cf_X4_doCondition Y W H m _ _ _ _ = _; rw [cf_X4_doCondition, q1, ev1, Option.bind_some, bi_1, if_neg (by decide), M_isStage, ev2]; rfl))
    · cases ev3 : wi b3 (if b1 = 2 then 1 else 0) 365
      · exact OK_2 (OK_err hm hs (e := -1000001) (by decide) (by rw [cf_X2_addCondition, C_in, ev1, Option.bind_some, bi_1, if_neg (by decide), C_in, ev2, Option.bind_some, bi_1, if_neg (by decide), ld, Option.bind_some, C_in, ev3]; rfl) (fun W hW => by show cf_X4_doCondition Y W H m _ _ _ _ = _; rw [cf_X4_doCondition, q1, ev1, Option.bind_some, bi_1, if_neg (by decide), M_isStage, ev2, Option.bind_some, bi_1, if_neg (by decide), qd, ev3]; rfl))
      · cases ev4 : wi b4 1 6
        · exact OK_2 (OK_err hm hs (e := -1000001) (by decide) (by rw [cf_X2_addCondition, C_in, ev1, Option.bind_some, bi_1, if_neg (by decide), C_in, ev2, Option.bind_some, bi_1, if_neg (by decide), ld, Option.bind_some, C_in, ev3, Option.bind_some, bi_1, if_neg (by decide), C_in, ev4]; rfl) (fun W hW => by show cf_X4_doCondition Y W H m _ _ _ _ = _; rw [cf_X4_doCondition, q1, ev1, Option.bind_some, bi_1, if_neg (by decide), M_isStage, ev2, Option.bind_some, bi_1, if_neg (by decide), qd, ev3, Option.bind_some, bi_1, if_neg (by decide), q4, ev4]; rfl))
        · obtain ⟨t, -, ht, rfl⟩ := wi_num (lo := 0) (hi := 4) (by omega) (by omega) ev2
          have ht5 : t < 5 := by omega
          have ct : (nI t).toNatClampNeg = t := nI_clamp (by omega)
          have cls0 : cf_X2_addCondition Y V G h b1 (nI t) b3 b4 = if a (6 + t) = -1 then (if nI N < 10 then ((G h 0).bind (fun r14 => if Y.1 r14 = 7 ∨ Y.1 r14 = 8 then if ¬ (nI N < 0 ∨ Y.2 r14 ≤ (nI N).toNatClampNeg) then (G r14 (nI N).toNatClampNeg).bind (fun r17 => if Y.1 r17 = 0 then (cf_X0_startAs Y V G r17 b1 (nI t) b3 b4).bind (fun x19 => some ((((up2 x19 h 3 ((x19 h 3) + (1 : Int32))) h 3) - (1 : Int32)), (up2 x19 h 3 ((x19 h 3) + (1 : Int32))))) else none) else none else none)) else some (-1000003, V)) else some (-1000002, V) := by
            rw [cf_X2_addCondition, C_in, ev1, Option.bind_some, bi_1, if_neg (by decide), C_in, ev2, Option.bind_some, bi_1, if_neg (by decide), ld, Option.bind_some, C_in, ev3, Option.bind_some, bi_1, if_neg (by decide), C_in, ev4, Option.bind_some, bi_1, if_neg (by decide), if_pos hP.1, (C_bst hP V mst ⟨t, ht5, rfl⟩).1, Option.bind_some, m3]
            rw [show a (6 + (nI t).toNatClampNeg) = a (6 + t) by rw [ct]]
            by_cases q : a (6 + t) = -1
            · rw [if_pos q, decide_eq_true q]; rfl
            · rw [if_neg q, decide_eq_false q]; rfl
          have mdl0 : ∀ W : mV, W (m + 1) = a → cf_X4_doCondition Y W H m b1 (nI t) b3 b4 = if a (6 + t) = -1 then (if nI N = 10 then some (-1000003, W) else lp_X4_doCondition_89 Y H fuB (va_up W (m + 1) (va_up a 1 (nI (N + 1)))) m b1 (nI t) b3 b4 (nI N) 0) else some (-1000002, W) := by
            intro W hW
            rw [cf_X4_doCondition, q1, ev1, Option.bind_some, bi_1, if_neg (by decide), M_isStage, ev2, Option.bind_some, bi_1, if_neg (by decide), qd, ev3, Option.bind_some, bi_1, if_neg (by decide), q4, ev4, Option.bind_some, bi_1, if_neg (by decide), if_pos (MT_k hM), M_begun hM W ht5, Option.bind_some, MT_g hM, Option.bind_some, if_pos (MT_k1 hM), if_pos (MT_i1 hM), if_pos (MT_i1 hM), if_pos (MT_i1 hM), if_pos (MT_i1 hM), tn_1, up2, hW, ha1, nI_succ]
            by_cases q : a (6 + t) = -1
            · rw [if_pos q, if_pos q, if_pos rfl]
            · rw [if_neg q, if_neg q, if_neg (by decide)]
          by_cases q : a (6 + t) = -1
          · by_cases n10 : N = 10
            · subst n10
              exact OK_2 (OK_err hm hs (e := -1000003) (by decide) (by rw [cls0, if_pos q, if_neg (by decide)]) (fun W hW => by show cf_X4_doCondition Y W H m _ _ _ _ = _; rw [mdl0 W hW, if_pos q, if_pos (show nI 10 = 10 from rfl)]))
            · have hN1 : N < 10 := by omega
              have lt10 : nI N < 10 := nI_lt (b := 10) hN1 (by decide)
              have ne10 : ¬ nI N = 10 := fun e => by rw [e] at lt10; exact absurd lt10 (by decide)
              obtain ⟨g0, k1, i1, g1, ki⟩ := P_cell hP hN1
              obtain ⟨p, p1, p6, rfl⟩ := wi_num (lo := 1) (hi := 6) (by omega) (by omega) ev4
              have hy : ∃ y, y ≤ 365 ∧ b3 = nI y := by
                by_cases k : b1 = 2
                · rw [if_pos k] at ev3
                  obtain ⟨y, -, hy, e⟩ := wi_num (lo := 1) (hi := 365) (by omega) (by omega) ev3
                  exact ⟨y, hy, e⟩
                · rw [if_neg k] at ev3
                  obtain ⟨y, -, hy, e⟩ := wi_num (lo := 0) (hi := 365) (by omega) (by omega) ev3
                  exact ⟨y, hy, e⟩
              have hnc : h ≠ h + 4 + N := by omega
              have st : ∃ cl, cf_X0_startAs Y V G (h + 4 + N) b1 (nI t) b3 (nI p) = some (va_up V (h + 4 + N) cl) ∧ CM cl (cut (nrow (ro (va_up a 1 (nI (N + 1))) N) b1 (nI t) b3 (nI p))) := by
                refine ⟨_, by rw [cf_X0_startAs, if_pos ki, Option.bind_some, C_end ki, Option.bind_some, up2, up2, up2, up2, up2, up2, up2, up2, up2]; simp only [va_up_s, uu_]; rfl, ?_⟩
                simp only [CM, nrow_cut, show (0:Nat) < 13 by omega, show (1:Nat) < 13 by omega, show (2:Nat) < 13 by omega, show (3:Nat) < 13 by omega, show (4:Nat) < 13 by omega, show (5:Nat) < 13 by omega, show (6:Nat) < 13 by omega, show (7:Nat) < 13 by omega, show (8:Nat) < 13 by omega, show (9:Nat) < 13 by omega, show (10:Nat) < 13 by omega, show (11:Nat) < 13 by omega, show (12:Nat) < 13 by omega]
                simp [va_up]
              obtain ⟨cl, est, hcm⟩ := st
              have htl := nrow_tl (ro (va_up a 1 (nI (N + 1))) N) b1 (nI t) b3 (nI p)
              have hrc : ∀ j, rc (so (va_up a 1 (nI (N + 1))) N (nrow (ro (va_up a 1 (nI (N + 1))) N) b1 (nI t) b3 (nI p))) j = if j = N then cut (nrow (ro (va_up a 1 (nI (N + 1))) N) b1 (nI t) b3 (nI p)) else rc a j := fun j => by rw [rc_so htl, rc_hd a (by omega)]
              have hh : ∀ j, j < 16 → j ≠ 1 → so (va_up a 1 (nI (N + 1))) N (nrow (ro (va_up a 1 (nI (N + 1))) N) b1 (nI t) b3 (nI p)) j = a j := fun j hj h1 => by rw [so_h _ _ _ hj, un_ _ _ h1]
              have hnr : ∀ k, k < 13 → cut (nrow (ro (va_up a 1 (nI (N + 1))) N) b1 (nI t) b3 (nI p)) k = _ := fun k hk => nrow_cut _ _ _ _ _ hk
              generalize hR : nrow (ro (va_up a 1 (nI (N + 1))) N) b1 (nI t) b3 (nI p) = R at *
              refine ⟨nI N, up2 (va_up V (h + 4 + N) cl) h 3 (nI (N + 1)), N + 1, ?_, fun b hb => by rw [up2_n _ _ _ (by omega), va_up_ne _ _ (by omega)], Or.inr (nI_pos' (by omega)), fun W hW => ⟨so (va_up a 1 (nI (N + 1))) N R, ?_, ?_, ?_, fun lt => absurd lt (by rw [Int32.not_lt]; exact Int32.le_trans (by decide) (nI_pos' (by omega)))⟩⟩
              · rw [cls0, if_pos q, if_pos lt10, g0, Option.bind_some, if_pos k1, if_pos i1, g1, Option.bind_some, if_pos ki, est, Option.bind_some, up2_ss, va_up_ne _ _ hnc, m3, nI_succ, Int32.add_sub_cancel]
              · show cf_X4_doCondition Y W H m _ _ _ _ = _
                rw [mdl0 W hW, if_pos q, if_neg ne10]
                have := N_loop hM hN1 b1 (nI t) b3 (nI p) 13 0 fuB (va_up W (m + 1) (va_up a 1 (nI (N + 1)))) (by omega) (fuB_gt (by omega)) (va_up a 1 (nI (N + 1))) (by rw [va_up_s, zr_0, so_ro])
                rw [hR, uu_] at this
                exact this
              · refine ⟨up2_ss _ _ _ _, ?_, ?_, ?_, ?_, ?_, fun k hk => ?_, fun i hi => ?_⟩
                · rw [up2_sn _ _ _ (by omega), va_up_ne _ _ hnc, hh 0 (by omega) (by omega)]; exact m4
                · rw [up2_sn _ _ _ (by omega), va_up_ne _ _ hnc, hh 4 (by omega) (by omega)]; exact m5
                · rw [up2_sn _ _ _ (by omega), va_up_ne _ _ hnc, hh 5 (by omega) (by omega)]; exact m6
                · rw [up2_sn _ _ _ (by omega), va_up_ne _ _ hnc, hh 2 (by omega) (by omega)]; exact m7
                · rw [up2_sn _ _ _ (by omega), va_up_ne _ _ hnc, hh 3 (by omega) (by omega)]; exact m8
                · rw [up2_n _ _ _ (by omega), up2_n _ _ _ (by omega), va_up_ne _ _ (by omega), va_up_ne _ _ (by omega), hh (6 + k) (by omega) (by omega), hh (11 + k) (by omega) (by omega)]
                  exact mst k hk
                · rw [hrc, up2_n _ _ _ (by omega)]
                  by_cases e : i = N
                  · subst e; rw [if_pos rfl, va_up_s]; exact hcm
                  · rw [if_neg e, va_up_ne _ _ (by omega)]; exact mc i (by omega)
              · have f0 : cut R 0 = b1 := by rw [hnr 0 (by omega)]; simp [va_up]
                have f1 : cut R 1 = nI t := by rw [hnr 1 (by omega)]; simp [va_up]
                have f2 : cut R 2 = b3 := by rw [hnr 2 (by omega)]; simp [va_up]
                have f3 : cut R 3 = nI p := by rw [hnr 3 (by omega)]; simp [va_up]
                have f4 : cut R 4 = 0 := by rw [hnr 4 (by omega)]; simp [va_up]
                have f5 : cut R 5 = 0 := by rw [hnr 5 (by omega)]; simp [va_up]
                have f7 : cut R 7 = 0 := by rw [hnr 7 (by omega)]; simp [va_up]
                have f8 : cut R 8 = 0 := by rw [hnr 8 (by omega)]; simp [va_up]
                have f9 : cut R 9 = 0 := by rw [hnr 9 (by omega)]; simp [va_up]
                have f10 : cut R 10 = -1 := by rw [hnr 10 (by omega)]; simp [va_up]
                have f12 : cut R 12 = 0 := by rw [hnr 12 (by omega)]; simp [va_up]
                obtain ⟨d1, d2, d3, d4⟩ := id hd
                refine ⟨⟨by omega, by rw [so_h _ _ _ (by omega), va_up_s], fun i hi => ?_⟩, ⟨d, d1, by rw [hh 0 (by omega) (by omega)]; exact d2, fun k hk => by rw [hh (6 + k) (by omega) (by omega), hh (11 + k) (by omega) (by omega)]; exact d3 k hk, fun i hi => ?_⟩, ⟨s0, hs0, by rw [hh 2 (by omega) (by omega)]; exact e0⟩, ⟨s1, hs1, by rw [hh 3 (by omega) (by omega)]; exact e1⟩, fun i hi => ?_⟩
                · rw [hrc]
                  by_cases e : i = N
                  · rw [if_pos e]; exact ⟨⟨Or.inl f8, Or.inl f12, fun _ => ⟨f9, f10⟩⟩, ⟨t, ht5, f1⟩, ⟨0, by omega, f5⟩⟩
                  · rw [if_neg e]; exact hrow i (by omega)
                · rw [hrc]
                  by_cases e : i = N
                  · rw [if_pos e]; exact ⟨0, by omega, f9⟩
                  · rw [if_neg e]; exact d4 i (by omega)
                · rw [hrc]
                  by_cases e : i = N
                  · rw [if_pos e]
                    refine ⟨⟨⟨p, p1, p6, f3, ⟨0, Nat.two_pow_pos p, f4⟩, ⟨0, Nat.two_pow_pos p, f5⟩⟩, ?_, fun _ => ⟨0, by omega, f7⟩⟩, fun _ z => ?_⟩
                    · obtain ⟨y, hy, ey⟩ := hy; exact ⟨y, hy, f2.trans ey⟩
                    · rw [f8, f12] at z; rcases z with z | z <;> exact absurd z (by decide)
                  · rw [if_neg e]
                    refine ⟨(hrs i (by omega)).1, fun z1 z2 => ?_⟩
                    have := st_lt (hrow i (by omega)).2.1
                    rw [hh _ (by omega) (by omega)]
                    exact (hrs i (by omega)).2 z1 z2
          · exact OK_2 (OK_err hm hs (e := -1000002) (by decide) (by rw [cls0, if_neg q]) (fun W hW => by show cf_X4_doCondition Y W H m _ _ _ _ = _; rw [mdl0 W hW, if_neg q]))
end CLS
