-- the class's day of one condition
theorem i32_pred {x : Int32} (h : 0 < x) : 0 ≤ x - 1 := by
  obtain ⟨j, hj, rfl⟩ := nI_of (x := x) (by intro h2; exact absurd (Int32.lt_trans h h2) (by decide))
  have h0 : 0 < j := by
    rcases Nat.eq_zero_or_pos j with e | e
    · subst e; exact absurd h (by decide)
    · exact e
  rw [show (1 : Int32) = nI 1 from rfl, pk_sub (by omega)]
  exact nI_pos' (by omega)
section CLS
variable {Y : mY} {G : mG} {h c : Nat}
theorem us5 (W : mV) (h : Nat) (b : Bool) (hb : b = false) : W h = va_up (W h) 5 (W h 5 + bi b) := by
  subst hb; rw [bi_0, Int32.add_zero, us_]
theorem C_clock (hP : PT Y G h) (hc : Y.1 c = 0) (hch : c ≠ h) (W : mV) {a r : Nat → Int32} (hst : stP W h a) (hr : CM (W c) r) (hf : RF r) (hs : isSt (r 1)) : ∃ V', cf_X2_passClock Y W G h c = some V' ∧ CM (V' c) (rrun a r) ∧ RF (rrun a r) ∧ V' h = va_up (W h) 5 (W h 5 + bi (rbr a r)) ∧ sb2 V' W c h := by
  have hr0 := hr
  obtain ⟨h0, h1, h2, h3, h4, h5, h6, h7, h8, h9, h10, h13, hn⟩ := hr
  obtain ⟨eb, ef⟩ := C_bst hP W hst hs
  have hf0 := hf
  obtain ⟨f8, f12, fa⟩ := hf
  have stay : runs a r = false → rrun a r = r ∧ rbr a r = false := fun e => ⟨by simp [rrun, rbr, e], by simp [rbr, e]⟩
  have done : runs a r = false → ∃ V', some W = some V' ∧ CM (V' c) (rrun a r) ∧ RF (rrun a r) ∧ V' h = va_up (W h) 5 (W h 5 + bi (rbr a r)) ∧ sb2 V' W c h := fun e =>
    ⟨W, rfl, by rw [(stay e).1]; exact hr0, by rw [(stay e).1]; exact hf0, us5 _ _ _ (stay e).2, fun _ _ _ => rfl⟩
  rw [cf_X2_passClock, if_pos hc, h9, h8, C_isMet hc, Option.bind_some, CM_met hr0, h0, h5, h1]
  rcases f12 with e12 | e12
  · rw [e12, if_pos rfl]
    rcases f8 with e8 | e8
    · rw [e8, if_pos rfl]
      cases em : met r
      · rw [bi_0, if_pos rfl]
        have sx : sst a r = if slp a r then 0 else 1 := by simp [sst, e12, e8, em]
        by_cases k1 : r 0 = 1
        · have k2 : ¬ r 0 = 2 := by rw [k1]; decide
          rw [if_pos k1, if_pos hP.1, eb, Option.bind_some]
          by_cases b0 : a (6 + (r 1).toNatClampNeg) = -1
          · simp only [b0, decide_true, Bool.not_true, bi_0, if_true, k2, if_false]
            exact done (by simp [runs, sx, slp, k1, b0])
          · simp only [b0, decide_false, Bool.not_false, bi_1, k2, if_false, show ¬ (1 : Int32) = 0 by decide]
            have s1 : sst a r = 1 := by rw [sx]; simp [slp, b0, k2]
            by_cases e5 : r 5 = 0
            · rw [if_pos e5]
              have rn : runs a r = true := by simp [runs, s1, k1, e5]
              rw [up2_ss, up2_sn _ _ _ (show 2 ≠ 7 by omega), up2_sn _ _ _ (show 0 ≠ 7 by omega), h7, h2, h0]
              by_cases le : r 7 + 1 ≤ r 2
              · have nl : ¬ r 2 < r 7 + 1 := Int32.not_lt.mpr le
                have rb : rbr a r = false := by simp [rbr, nl]
                have rr : rrun a r = va_up r 7 (r 7 + 1) := by simp [rrun, rb, rn]
                rw [if_pos le, if_neg k2]
                refine ⟨_, rfl, ?_, ?_, ?_, fun b h1 h2 => up2_n _ _ _ h1⟩
                · rw [rr, up2_s]; simp [CM, va_up, h0, h1, h2, h3, h4, h5, h8, h9, h10, h13]; exact ⟨h6, hn⟩
                · rw [rr]; simp [RF, va_up, e8, e12]; exact fa e8
                · rw [up2_n _ _ _ (Ne.symm hch)]; exact us5 _ _ _ rb
              · have nl : r 2 < r 7 + 1 := Int32.not_le.mp le
                have rb : rbr a r = true := by simp [rbr, rn, nl, k1]
                have rr : rrun a r = rbrk (va_up r 7 (r 7 + 1)) := by simp [rrun, rb]
                rw [if_neg le, cf_X2_startBreach, if_pos hc, if_pos hP.1, Option.bind_some]
                rw [up2_n _ _ _ (show c ≠ h from hch), up2_sn _ _ _ (show 0 ≠ 8 by omega), up2_sn _ _ _ (show 0 ≠ 7 by omega), h0, if_neg k2]
                refine ⟨_, rfl, ?_, ?_, ?_, fun b h1 h2 => by rw [up2_n _ _ _ h2, up2_n _ _ _ h1, up2_n _ _ _ h1]⟩
                · obtain ⟨a9, a10⟩ := fa e8
                  have n0 : W c 11 = 0 := by
                    rcases hn with ⟨q, -⟩ | ⟨-, -, q⟩
                    · exact q
                    · rw [a10] at q; exact absurd q (by decide)
                  rw [up2_n _ _ _ hch, up2_s, up2_s, rr]; simp [CM, va_up, rbrk, h0, h1, h2, h3, h4, h5, h9, h10, h13, a9, n0]; exact h6
                · rw [rr]; simp [RF, va_up, rbrk, e12]
                · rw [up2_s, up2_n _ _ _ (Ne.symm hch), up2_n _ _ _ (Ne.symm hch), rb]; rfl
            · rw [if_neg e5]
              exact done (by simp [runs, s1, k1, e5])
        · rw [if_neg k1]
          by_cases k2 : r 0 = 2
          · rw [if_pos k2, if_pos hP.1, ef, Option.bind_some]
            by_cases b0 : a (11 + (r 1).toNatClampNeg) = -1
            · simp only [b0, decide_true, Bool.not_true, bi_0, if_true]
              exact done (by simp [runs, sx, slp, k2, b0])
            · simp only [b0, decide_false, Bool.not_false, bi_1, if_false, show ¬ (1 : Int32) = 0 by decide]
              have s1 : sst a r = 1 := by rw [sx]; simp [slp, b0, k1]
              have rn : runs a r = true := by simp [runs, s1, k2]
              have rb : rbr a r = false := by simp [rbr, k1]
              have rr : rrun a r = va_up r 7 (r 7 + 1) := by simp [rrun, rb, rn]
              rw [h7]
              refine ⟨_, rfl, ?_, ?_, ?_, fun b h1 h2 => up2_n _ _ _ h1⟩
              · rw [rr, up2_s]; simp [CM, va_up, h0, h1, h2, h3, h4, h5, h8, h9, h10, h13]; exact ⟨h6, hn⟩
              · rw [rr]; simp [RF, va_up, e8, e12]; exact fa e8
              · rw [up2_n _ _ _ (Ne.symm hch)]; exact us5 _ _ _ rb
          · rw [if_neg k2]
            exact done (by simp [runs, k1, k2])
      · rw [bi_1, if_neg (by decide)]
        exact done (by simp [runs, sst, e12, e8, em])
    · rw [e8, if_neg (by decide)]
      exact done (by simp [runs, sst, e12, e8])
  · rw [e12, if_neg (by decide)]
    exact done (by simp [runs, sst, e12])
theorem C_age (hc : Y.1 c = 0) (W : mV) {r : Nat → Int32} (hr : CM (W c) r) (hf : RF r) (e8 : r 8 = 1) (s1 : Int32) : ∃ cl, cf_X0_ageBreach Y W G c s1 = some (va_up W c cl) ∧ CM cl (rage s1 r) ∧ RF (rage s1 r) := by
  obtain ⟨h0, h1, h2, h3, h4, h5, h6, h7, h8, h9, h10, h13, hn⟩ := hr
  obtain ⟨f8, f12, fa⟩ := hf
  rw [cf_X0_ageBreach, if_pos hc]
  simp only [up2_ss, up2_sn _ _ _ (show 11 ≠ 10 by omega), up2_sn _ _ _ (show 12 ≠ 10 by omega), up2_sn _ _ _ (show 13 ≠ 10 by omega), C_end hc, Option.bind_some]
  unfold rage
  dsimp only
  rcases hn with ⟨n11, n10⟩ | ⟨n11, n12, n10⟩
  · rw [if_pos n11, if_pos n11, h10]
    simp only [n10, show ¬ (0 : Int32) < -1 by decide, show ¬ (-1 : Int32) = 0 by decide, if_false]
    by_cases lt : r 9 + 1 < s1
    · rw [if_pos lt, if_pos lt]
      refine ⟨_, rfl, ?_, ?_⟩
      · simp [CM, va_up, h0, h1, h2, h3, h4, h5, h7, h8, h9, h13, n11, n10]; exact h6
      · simp [RF, va_up, e8, f12]
    · rw [if_neg lt, if_neg lt]
      refine ⟨va_up (va_up (va_up (va_up (va_up (W c) 10 (r 9 + 1)) 8 0) 10 0) 11 0) 9 1, by simp only [up2, va_up_s, uu_], ?_, ?_⟩
      · simp [CM, va_up, h0, h1, h2, h3, h4, h5, h7, h13, rmend]; exact h6
      · simp [RF, va_up, rmend]
  · rw [if_neg (by rw [n11]; decide), n12]
    by_cases lt : 0 < r 10
    · have nl : ¬ r 10 ≤ 0 := Int32.not_le.mpr lt
      rw [if_neg nl, if_pos lt, h10]
      refine ⟨va_up (va_up (W c) 10 (r 9 + 1)) 12 (r 10 - 1), by simp only [up2, va_up_s, uu_], ?_, ?_⟩
      · simp [CM, va_up, h0, h1, h2, h3, h4, h5, h7, h8, h9, h13, n11]; exact ⟨h6, i32_pred lt⟩
      · simp [RF, va_up, e8, f12]
    · have nl : r 10 ≤ 0 := Int32.not_lt.mp lt
      have z10 : r 10 = 0 := Int32.le_antisymm nl n10
      rw [if_pos nl, if_neg (by rw [n11]; decide), if_neg lt, if_pos z10, h10, h13]
      refine ⟨va_up (va_up (W c) 10 (r 9 + 1)) 13 (r 11 + 1), by simp only [up2, va_up_s, uu_], ?_, ?_⟩
      · simp [CM, va_up, h0, h1, h2, h3, h4, h5, h7, h8, h9, n11, n12, z10]; exact h6
      · simp [RF, va_up, e8, f12]
/-- the end of a day of one condition, behind its application -/
theorem C_tail (hP : PT Y G h) (hc : Y.1 c = 0) (hch : c ≠ h) (W : mV) {a r : Nat → Int32} (hst : stP W h a) (hr : CM (W c) r) (hf : RF r) (hs : isSt (r 1)) (h8 : W h 8 = a 3) (was : Int32) : ∃ V', ((cf_X2_passClock Y W G h c).bind fun x4 => if was = 0 then some x4 else if x4 c 8 = 0 then some x4 else (cf_X0_ageBreach Y x4 G c (x4 h 8)).bind fun x7 => some x7) = some V' ∧ CM (V' c) (if ¬ was = 0 ∧ rrun a r 8 = 1 then rage (a 3) (rrun a r) else rrun a r) ∧ RF (if ¬ was = 0 ∧ rrun a r 8 = 1 then rage (a 3) (rrun a r) else rrun a r) ∧ V' h = va_up (W h) 5 (W h 5 + bi (rbr a r)) ∧ sb2 V' W c h := by
  obtain ⟨V1, e1, c1, f1, g1, s1⟩ := C_clock hP hc hch W hst hr hf hs
  rw [e1, Option.bind_some]
  by_cases w0 : was = 0
  · rw [if_pos w0, if_neg (fun q => q.1 w0)]
    exact ⟨V1, rfl, c1, f1, g1, s1⟩
  · rw [if_neg w0]
    have k8 : V1 c 8 = rrun a r 8 := c1.2.2.2.2.2.2.2.2.1
    rw [k8]
    rcases f1.1 with e | e
    · rw [if_pos e, if_neg (fun q => by rw [e] at q; exact absurd q.2 (by decide))]
      exact ⟨V1, rfl, c1, f1, g1, s1⟩
    · rw [if_neg (by rw [e]; decide), if_pos ⟨w0, e⟩]
      have k3 : V1 h 8 = a 3 := by rw [g1, va_up_ne _ _ (by omega)]; exact h8
      obtain ⟨cl, e2, c2, f2⟩ := C_age (G := G) hc V1 c1 f1 e (a 3)
      rw [k3, e2, Option.bind_some]
      exact ⟨_, rfl, by rw [va_up_s]; exact c2, f2, by rw [va_up_ne _ _ (Ne.symm hch)]; exact g1, fun b hb1 hb2 => by rw [va_up_ne _ _ hb1]; exact s1 b hb1 hb2⟩
theorem okr_1 {r : Nat → Int32} (h : okr r) : isSt (r 1) := h.1
theorem stP_of {V W : mV} {a : Nat → Int32} (q : stP W h a) {c : Nat} (hs : sb2 V W c h) (h2 : c ≠ h + 2) (h3 : c ≠ h + 3) : stP V h a := by
  intro k hk
  rw [hs (h + 2) (Ne.symm h2) (by omega), hs (h + 3) (Ne.symm h3) (by omega)]
  exact q k hk
theorem C_day (hP : PT Y G h) (hc : Y.1 c = 0) (hch : c ≠ h) (h2 : c ≠ h + 2) (h3 : c ≠ h + 3) (W : mV) {a r : Nat → Int32} (hst : stP W h a) (hr : CM (W c) r) (hf : RF r) (hok : okr r) (h7 : W h 7 = a 2) (h8 : W h 8 = a 3) : ∃ V', cf_X2_passDayOf Y W G h c = some V' ∧ CM (V' c) (rday a r) ∧ RF (rday a r) ∧ V' h = va_up (va_up (W h) 6 (W h 6 + wInc (a 2) r)) 5 (W h 5 + bi (rbr a (rwait (a 2) r))) ∧ sb2 V' W c h := by
  have h8' : W c 8 = r 8 := hr.2.2.2.2.2.2.2.2.1
  have fin : ∀ (r1 : Nat → Int32), (if ¬ W c 8 = 0 ∧ rrun a r1 8 = 1 then rage (a 3) (rrun a r1) else rrun a r1) = (if r 8 = 1 ∧ rrun a r1 8 = 1 then rage (a 3) (rrun a r1) else rrun a r1) := by
    intro r1
    rw [h8']
    rcases hf.1 with e | e <;> rw [e] <;> simp
  have hs1 : isSt (rwait (a 2) r 1) := (okr_wait hok).1
  rw [cf_X2_passDayOf, if_pos hc, if_pos hP.1, if_pos hP.1]
  obtain ⟨h0, h1, h2', h3', h4, h5, h6, h7', h8'', h9, h10, h13, hn⟩ := id hr
  rw [h5]
  by_cases e5 : r 5 = 0
  · rw [if_pos e5]
    have ew : rwait (a 2) r = r := by simp [rwait, e5]
    obtain ⟨V1, e1, c1, f1, g1, s1⟩ := C_tail hP hc hch W hst hr hf hok.1 h8 (W c 8)
    rw [fin] at c1 f1
    refine ⟨V1, e1, ?_, ?_, ?_, s1⟩
    · unfold rday; rw [ew]; exact c1
    · unfold rday; rw [ew]; exact f1
    · rw [g1, ew]; simp only [wInc, e5, if_true, Int32.add_zero, us_]
  · rw [if_neg e5]
    have n6 := h6 e5
    have cm6 : CM (va_up (W c) 6 (r 6 + 1)) (va_up r 6 (r 6 + 1)) := by
      simp [CM, va_up, h0, h1, h2', h3', h4, h5, h7', h8'', h9, h10, h13]; exact hn
    have rf6 : RF (va_up r 6 (r 6 + 1)) := by
      obtain ⟨p, q, w⟩ := hf; simp [RF, va_up, q]; exact ⟨p, w⟩
    rw [up2_ss, up2_n _ _ _ (Ne.symm hch), n6, h7, up2_sn _ _ _ (show 5 ≠ 6 by omega), h5]
    by_cases lt : r 6 + 1 < a 2
    · rw [if_pos lt]
      have ew : rwait (a 2) r = va_up r 6 (r 6 + 1) := by simp [rwait, e5, lt]
      have hst' : stP (up2 W c 6 (r 6 + 1)) h a := fun k hk => by rw [up2_n _ _ _ (Ne.symm h2), up2_n _ _ _ (Ne.symm h3)]; exact hst k hk
      obtain ⟨V1, e1, c1, f1, g1, s1⟩ := C_tail hP hc hch (up2 W c 6 (r 6 + 1)) (a := a) (r := va_up r 6 (r 6 + 1)) hst' (by rw [up2_s]; exact cm6) rf6 hok.1 (by rw [up2_n _ _ _ (Ne.symm hch)]; exact h8) (W c 8)
      rw [fin] at c1 f1
      refine ⟨V1, e1, ?_, ?_, ?_, fun b b1 b2 => by rw [s1 b b1 b2, up2_n _ _ _ b1]⟩
      · unfold rday; rw [ew]; exact c1
      · unfold rday; rw [ew]; exact f1
      · rw [g1, ew, up2_n _ _ _ (Ne.symm hch)]; simp only [wInc, e5, lt, if_true, if_false, Int32.add_zero, us_]
    · rw [if_neg lt, bc_s, Option.bind_some, Option.bind_some]
      have ew : rwait (a 2) r = rappr (va_up r 6 (r 6 + 1)) (r 5) := by simp [rwait, e5, lt]
      have k5 : up2 (up2 W c 6 (r 6 + 1)) h 6 (W h 6 + bc (r 5)) c 5 = r 5 := by
        rw [up2_n _ _ _ hch, up2_sn _ _ _ (show 5 ≠ 6 by omega), h5]
      rw [k5]
      obtain ⟨cl, e2, c2, f2⟩ := C_approve (G := G) hc (up2 (up2 W c 6 (r 6 + 1)) h 6 (W h 6 + bc (r 5))) (r := va_up r 6 (r 6 + 1)) (by rw [up2_n _ _ _ hch, up2_s]; exact cm6) rf6 (r 5)
      rw [e2, Option.bind_some]
      have hst' : stP (va_up (up2 (up2 W c 6 (r 6 + 1)) h 6 (W h 6 + bc (r 5))) c cl) h a := fun k hk => by
        rw [va_up_ne _ _ (Ne.symm h2), va_up_ne _ _ (Ne.symm h3), up2_n _ _ _ (show h + 2 ≠ h by omega), up2_n _ _ _ (show h + 3 ≠ h by omega), up2_n _ _ _ (Ne.symm h2), up2_n _ _ _ (Ne.symm h3)]; exact hst k hk
      obtain ⟨V1, e1, c1, f1, g1, s1⟩ := C_tail hP hc hch _ (a := a) (r := rappr (va_up r 6 (r 6 + 1)) (r 5)) hst' (by rw [va_up_s]; exact c2) f2 (by rw [← ew]; exact hs1) (by rw [va_up_ne _ _ (Ne.symm hch), up2_sn _ _ _ (show 8 ≠ 6 by omega), up2_n _ _ _ (Ne.symm hch)]; exact h8) (W c 8)
      rw [fin] at c1 f1
      refine ⟨V1, e1, ?_, ?_, ?_, fun b b1 b2 => by rw [s1 b b1 b2, va_up_ne _ _ b1, up2_n _ _ _ b2, up2_n _ _ _ b1]⟩
      · unfold rday; rw [ew]; exact c1
      · unfold rday; rw [ew]; exact f1
      · rw [g1, ew, va_up_ne _ _ (Ne.symm hch), up2_s, up2_n _ _ _ (Ne.symm hch)]
        simp only [wInc, e5, lt, if_false, va_up_ne _ _ (show 5 ≠ 6 by omega)]
end CLS

