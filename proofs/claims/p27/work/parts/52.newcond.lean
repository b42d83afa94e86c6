-- a new condition, of the class
def nw (b1 b2 b3 b4 : Int32) : Nat → Int32 := va_up (va_up (va_up (va_up (va_up (fun _ => 0) 0 b1) 1 b2) 2 b3) 3 b4) 10 (-1)
theorem wi_t {x lo hi : Nat} (h1 : lo ≤ x) (h2 : x ≤ hi) (h3 : hi < 1000) : wi (nI x) (nI lo) (nI hi) = true := by
  rw [wi_nI (by omega) (by omega) (by omega)]; simp; omega
section CLS
variable {Y : mY} {G : mG} {h : Nat}
theorem E_cond (hP : PT Y G h) {N : Nat} {V : mV} {a : Nat → Int32} (hm : PM V h N a) (hs : SI N a) (hN1 : N < 10) {kd t y p : Nat} (hkd : kd ≤ 2) (ht5 : t < 5) (y1 : 1 ≤ y) (y6 : y ≤ 365) (p1 : 1 ≤ p) (p6 : p ≤ 6) (q : a (6 + t) = -1) : ∃ V' a', cf_X2_addCondition Y V G h (nI kd) (nI t) (nI y) (nI p) = some (nI N, V') ∧ PM V' h (N + 1) a' ∧ SI (N + 1) a' ∧ sO V' V h ∧ (∀ j, j < 16 → j ≠ 1 → a' j = a j) ∧ (∀ j, j < N → rc a' j = rc a j) ∧ rc a' N = nw (nI kd) (nI t) (nI y) (nI p) := by
  obtain ⟨⟨hN, ha1, hrow⟩, ⟨d, hd⟩, ⟨s0, hs0, e0⟩, ⟨s1, hs1, e1⟩, hrs⟩ := id hs
  obtain ⟨m3, m4, m5, m6, m7, m8, mst, mc⟩ := id hm
  have ld : cf_X2_leastDays (nI kd) = some (if nI kd = 2 then 1 else 0) := by rw [cf_X2_leastDays]; split <;> rfl
  have ev1 : wi (nI kd) 0 2 = true := wi_t (lo := 0) (hi := 2) (by omega) hkd (by omega)
  have ev2 : wi (nI t) 0 4 = true := wi_t (lo := 0) (hi := 4) (by omega) (by omega) (by omega)
  have ev3 : wi (nI y) (if nI kd = 2 then 1 else 0) 365 = true := by
    split
    · exact wi_t (lo := 1) (hi := 365) y1 y6 (by omega)
    · exact wi_t (lo := 0) (hi := 365) (by omega) y6 (by omega)
  have ev4 : wi (nI p) 1 6 = true := wi_t (lo := 1) (hi := 6) p1 p6 (by omega)
  have ct : (nI t).toNatClampNeg = t := nI_clamp (by omega)
  have cls0 : cf_X2_addCondition Y V G h (nI kd) (nI t) (nI y) (nI p) = if a (6 + t) = -1 then (if nI N < 10 then ((G h 0).bind (fun r14 => if Y.1 r14 = 7 ∨ Y.1 r14 = 8 then if ¬ (nI N < 0 ∨ Y.2 r14 ≤ (nI N).toNatClampNeg) then (G r14 (nI N).toNatClampNeg).bind (fun r17 => if Y.1 r17 = 0 then (cf_X0_startAs Y V G r17 (nI kd) (nI t) (nI y) (nI p)).bind (fun x19 => some ((((up2 x19 h 3 ((x19 h 3) + (1 : Int32))) h 3) - (1 : Int32)), (up2 x19 h 3 ((x19 h 3) + (1 : Int32))))) else none) else none else none)) else some (-1000003, V)) else some (-1000002, V) := by
    rw [cf_X2_addCondition, C_in, ev1, Option.bind_some, bi_1, if_neg (by decide), C_in, ev2, Option.bind_some, bi_1, if_neg (by decide), ld, Option.bind_some, C_in, ev3, Option.bind_some, bi_1, if_neg (by decide), C_in, ev4, Option.bind_some, bi_1, if_neg (by decide), if_pos hP.1, (C_bst hP V mst ⟨t, ht5, rfl⟩).1, Option.bind_some, m3]
    rw [show a (6 + (nI t).toNatClampNeg) = a (6 + t) by rw [ct]]
    by_cases q : a (6 + t) = -1
    · rw [if_pos q, decide_eq_true q]; rfl
    · rw [if_neg q, decide_eq_false q]; rfl
  have lt10 : nI N < 10 := nI_lt (b := 10) hN1 (by decide)
  obtain ⟨g0, k1, i1, g1, ki⟩ := P_cell hP hN1
  have hnc : h ≠ h + 4 + N := by omega
  have st : ∃ cl, cf_X0_startAs Y V G (h + 4 + N) (nI kd) (nI t) (nI y) (nI p) = some (va_up V (h + 4 + N) cl) ∧ CM cl (cut (nrow (ro (va_up a 1 (nI (N + 1))) N) (nI kd) (nI t) (nI y) (nI p))) := by
    refine ⟨_, by rw [cf_X0_startAs, if_pos ki, Option.bind_some, C_end ki, Option.bind_some, up2, up2, up2, up2, up2, up2, up2, up2, up2]; simp only [va_up_s, uu_]; rfl, ?_⟩
    simp only [CM, nrow_cut, show (0:Nat) < 13 by omega, show (1:Nat) < 13 by omega, show (2:Nat) < 13 by omega, show (3:Nat) < 13 by omega, show (4:Nat) < 13 by omega, show (5:Nat) < 13 by omega, show (6:Nat) < 13 by omega, show (7:Nat) < 13 by omega, show (8:Nat) < 13 by omega, show (9:Nat) < 13 by omega, show (10:Nat) < 13 by omega, show (11:Nat) < 13 by omega, show (12:Nat) < 13 by omega]
    simp [va_up]
  obtain ⟨cl, est, hcm⟩ := st
  have htl := nrow_tl (ro (va_up a 1 (nI (N + 1))) N) (nI kd) (nI t) (nI y) (nI p)
  have hrc : ∀ j, rc (so (va_up a 1 (nI (N + 1))) N (nrow (ro (va_up a 1 (nI (N + 1))) N) (nI kd) (nI t) (nI y) (nI p))) j = if j = N then cut (nrow (ro (va_up a 1 (nI (N + 1))) N) (nI kd) (nI t) (nI y) (nI p)) else rc a j := fun j => by rw [rc_so htl, rc_hd a (by omega)]
  have hh : ∀ j, j < 16 → j ≠ 1 → so (va_up a 1 (nI (N + 1))) N (nrow (ro (va_up a 1 (nI (N + 1))) N) (nI kd) (nI t) (nI y) (nI p)) j = a j := fun j hj h1 => by rw [so_h _ _ _ hj, un_ _ _ h1]
  have hnr : ∀ k, k < 13 → cut (nrow (ro (va_up a 1 (nI (N + 1))) N) (nI kd) (nI t) (nI y) (nI p)) k = _ := fun k hk => nrow_cut _ _ _ _ _ hk
  have hnw : cut (nrow (ro (va_up a 1 (nI (N + 1))) N) (nI kd) (nI t) (nI y) (nI p)) = nw (nI kd) (nI t) (nI y) (nI p) := by
    funext k
    by_cases hk : k < 13
    · exact hnr k hk
    · unfold nw
      rw [un_ _ _ (by omega), un_ _ _ (by omega), un_ _ _ (by omega), un_ _ _ (by omega), un_ _ _ (by omega)]
      simp [cut, hk]
  generalize hR : nrow (ro (va_up a 1 (nI (N + 1))) N) (nI kd) (nI t) (nI y) (nI p) = R at *
  refine ⟨up2 (va_up V (h + 4 + N) cl) h 3 (nI (N + 1)), so (va_up a 1 (nI (N + 1))) N R, ?_, ?_, ?_, fun b hb => by rw [up2_n _ _ _ (by omega), va_up_ne _ _ (by omega)], hh, fun j hj => by rw [hrc, if_neg (by omega)], by rw [hrc, if_pos rfl]; exact hnw⟩
  · rw [cls0, if_pos q, if_pos lt10, g0, Option.bind_some, if_pos k1, if_pos i1, g1, Option.bind_some, if_pos ki, est, Option.bind_some, up2_ss, va_up_ne _ _ hnc, m3, nI_succ, Int32.add_sub_cancel]
  · refine ⟨up2_ss _ _ _ _, ?_, ?_, ?_, ?_, ?_, fun k hk => ?_, fun i hi => ?_⟩
    · rw [up2_sn _ _ _ (by omega), va_up_ne _ _ hnc, hh 0 (by omega) (by omega)]; exact m4
    · rw [up2_sn _ _ _ (by omega), va_up_ne _ _ hnc, hh 4 (by omega) (by omega)]; exact m5
    · rw [up2_sn _ _ _ (by omega), va_up_ne _ _ hnc, hh 5 (by omega) (by omega)]; exact m6
    · rw [up2_sn _ _ _ (by omega), va_up_ne _ _ hnc, hh 2 (by omega) (by omega)]; exact m7
    · rw [up2_sn _ _ _ (by omega), va_up_ne _ _ hnc, hh 3 (by omega) (by omega)]; exact m8
    · rw [up2_n _ _ _ (by omega), up2_n _ _ _ (by omega), va_up_ne _ _ (by omega), va_up_ne _ _ (by omega), hh (6 + k) (by omega) (by omega), hh (11 + k) (by omega) (by omega)]
      exact mst k hk
    · rw [hrc, up2_n _ _ _ (by omega)]
      by_cases e : i = N
      · subst e; rw [if_pos rfl, va_up_s]; exact hcm
      · rw [if_neg e, va_up_ne _ _ (by omega)]; exact mc i (by omega)
  · have f1 : cut R 1 = nI t := by rw [hnr 1 (by omega)]; simp [va_up]
    have f2 : cut R 2 = nI y := by rw [hnr 2 (by omega)]; simp [va_up]
    have f3 : cut R 3 = nI p := by rw [hnr 3 (by omega)]; simp [va_up]
    have f4 : cut R 4 = 0 := by rw [hnr 4 (by omega)]; simp [va_up]
    have f5 : cut R 5 = 0 := by rw [hnr 5 (by omega)]; simp [va_up]
    have f7 : cut R 7 = 0 := by rw [hnr 7 (by omega)]; simp [va_up]
    have f8 : cut R 8 = 0 := by rw [hnr 8 (by omega)]; simp [va_up]
    have f9 : cut R 9 = 0 := by rw [hnr 9 (by omega)]; simp [va_up]
    have f10 : cut R 10 = -1 := by rw [hnr 10 (by omega)]; simp [va_up]
    have f12 : cut R 12 = 0 := by rw [hnr 12 (by omega)]; simp [va_up]
    obtain ⟨d1, d2, d3, d4⟩ := id hd
    refine ⟨⟨by omega, by rw [so_h _ _ _ (by omega), va_up_s], fun i hi => ?_⟩, ⟨d, d1, by rw [hh 0 (by omega) (by omega)]; exact d2, fun k hk => by rw [hh (6 + k) (by omega) (by omega), hh (11 + k) (by omega) (by omega)]; exact d3 k hk, fun i hi => ?_⟩, ⟨s0, hs0, by rw [hh 2 (by omega) (by omega)]; exact e0⟩, ⟨s1, hs1, by rw [hh 3 (by omega) (by omega)]; exact e1⟩, fun i hi => ?_⟩
    · rw [hrc]
      by_cases e : i = N
      · rw [if_pos e]; exact ⟨⟨Or.inl f8, Or.inl f12, fun _ => ⟨f9, f10⟩⟩, ⟨t, ht5, f1⟩, ⟨0, by omega, f5⟩⟩
      · rw [if_neg e]; exact hrow i (by omega)
    · rw [hrc]
      by_cases e : i = N
      · rw [if_pos e]; exact ⟨0, by omega, f9⟩
      · rw [if_neg e]; exact d4 i (by omega)
    · rw [hrc]
      by_cases e : i = N
      · rw [if_pos e]
        refine ⟨⟨⟨p, p1, p6, f3, ⟨0, Nat.two_pow_pos p, f4⟩, ⟨0, Nat.two_pow_pos p, f5⟩⟩, ⟨y, y6, f2⟩, fun _ => ⟨0, by omega, f7⟩⟩, fun _ z => ?_⟩
        rw [f8, f12] at z; rcases z with z | z <;> exact absurd z (by decide)
      · rw [if_neg e]
        refine ⟨(hrs i (by omega)).1, fun z1 z2 => ?_⟩
        have := st_lt (hrow i (by omega)).2.1
        rw [hh _ (by omega) (by omega)]
        exact (hrs i (by omega)).2 z1 z2
end CLS
