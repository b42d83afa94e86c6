-- days that pass
theorem wait_s (s : Int32) (r : Nat → Int32) {k : Nat} (h : k ≠ 4 ∧ k ≠ 5 ∧ k ≠ 6 ∧ k ≠ 8 ∧ k ≠ 9 ∧ k ≠ 10) : rwait s r k = r k := by
  obtain ⟨h4, h5, h6, h8, h9, h10⟩ := h
  unfold rwait rappr rmend; (try dsimp only); repeat' split
  all_goals simp [va_up, h4, h5, h6, h8, h9, h10]
theorem wait_4 (s : Int32) (r : Nat → Int32) : rwait s r 4 = r 4 ∨ rwait s r 4 = r 4 ||| r 5 := by
  unfold rwait rappr rmend; (try dsimp only); repeat' split
  all_goals simp [va_up]
theorem wait_8 (s : Int32) (r : Nat → Int32) : rwait s r 8 = r 8 ∨ rwait s r 8 = 0 := by
  unfold rwait rappr rmend; (try dsimp only); repeat' split
  all_goals simp [va_up]
theorem wait_9 (s : Int32) (r : Nat → Int32) : rwait s r 9 = r 9 ∨ rwait s r 9 = 0 := by
  unfold rwait rappr rmend; (try dsimp only); repeat' split
  all_goals simp [va_up]
theorem run_s (a r : Nat → Int32) {k : Nat} (h : k ≠ 7 ∧ k ≠ 8 ∧ k ≠ 9 ∧ k ≠ 10) : rrun a r k = r k := by
  obtain ⟨h7, h8, h9, h10⟩ := h
  unfold rrun rbrk; repeat' split
  all_goals simp [va_up, h7, h8, h9, h10]
theorem rbr_runs {a r : Nat → Int32} (h : rbr a r = true) : runs a r = true ∧ r 0 = 1 := by
  unfold rbr at h
  simp only [Bool.and_eq_true, decide_eq_true_eq] at h
  exact ⟨h.1, h.2.1⟩
theorem run_7 (a r : Nat → Int32) : rrun a r 7 = r 7 ∨ (rrun a r 7 = r 7 + 1 ∧ runs a r = true) := by
  unfold rrun rbrk
  by_cases h : rbr a r = true
  · rw [if_pos h]; right; exact ⟨by simp [va_up], (rbr_runs h).1⟩
  · rw [if_neg h]
    by_cases h2 : runs a r = true
    · rw [if_pos h2]; right; exact ⟨by simp [va_up], h2⟩
    · rw [if_neg h2]; exact Or.inl rfl
theorem run_8 (a r : Nat → Int32) : rrun a r 8 = r 8 ∨ r 0 = 1 := by
  unfold rrun rbrk
  by_cases h : rbr a r = true
  · exact Or.inr (rbr_runs h).2
  · rw [if_neg h]; left; split <;> simp [va_up]
theorem run_9 (a r : Nat → Int32) : rrun a r 9 = r 9 ∨ rrun a r 9 = 0 := by
  unfold rrun rbrk; repeat' split
  all_goals simp [va_up]
theorem age_s (s : Int32) (r : Nat → Int32) {k : Nat} (h : k < 8) : rage s r k = r k := by
  have h8 : k ≠ 8 := by omega
  have h9 : k ≠ 9 := by omega
  have h10 : k ≠ 10 := by omega
  have h11 : k ≠ 11 := by omega
  have h12 : k ≠ 12 := by omega
  unfold rage rmend; (try dsimp only); repeat' split
  all_goals simp [va_up, h8, h9, h10, h11, h12]
theorem age_8 (s : Int32) (r : Nat → Int32) : rage s r 8 = r 8 ∨ rage s r 8 = 0 := by
  unfold rage rmend; (try dsimp only); repeat' split
  all_goals simp [va_up]
theorem age_9 (s : Int32) (r : Nat → Int32) : rage s r 9 = r 9 + 1 ∨ rage s r 9 = 0 := by
  unfold rage rmend; (try dsimp only); repeat' split
  all_goals simp [va_up]
theorem day_s (a r : Nat → Int32) {k : Nat} (h : k < 4) : rday a r k = r k := by
  have q : rrun a (rwait (a 2) r) k = r k := by
    rw [run_s _ _ ⟨by omega, by omega, by omega, by omega⟩, wait_s _ _ ⟨by omega, by omega, by omega, by omega, by omega, by omega⟩]
  unfold rday; try dsimp only
  split
  · rw [age_s _ _ (by omega), q]
  · exact q
theorem day_4 (a r : Nat → Int32) : rday a r 4 = r 4 ∨ rday a r 4 = r 4 ||| r 5 := by
  have q : rrun a (rwait (a 2) r) 4 = r 4 ∨ rrun a (rwait (a 2) r) 4 = r 4 ||| r 5 := by
    rw [run_s _ _ ⟨by omega, by omega, by omega, by omega⟩]; exact wait_4 _ _
  unfold rday; try dsimp only
  split
  · rw [age_s _ _ (by omega)]; exact q
  · exact q
theorem day_5 (a r : Nat → Int32) : rday a r 5 = r 5 ∨ rday a r 5 = 0 := by
  have q : rrun a (rwait (a 2) r) 5 = r 5 ∨ rrun a (rwait (a 2) r) 5 = 0 := by
    rw [run_5]; exact wait_5 _ _
  unfold rday; try dsimp only
  split
  · rw [age_s _ _ (by omega)]; exact q
  · exact q
theorem day_7 (a r : Nat → Int32) : rday a r 7 = r 7 ∨ (rday a r 7 = r 7 + 1 ∧ (r 0 = 2 → r 7 < r 2)) := by
  have q : rrun a (rwait (a 2) r) 7 = r 7 ∨ (rrun a (rwait (a 2) r) 7 = r 7 + 1 ∧ (r 0 = 2 → r 7 < r 2)) := by
    have w7 : rwait (a 2) r 7 = r 7 := wait_s _ _ ⟨by omega, by omega, by omega, by omega, by omega, by omega⟩
    have w0 : rwait (a 2) r 0 = r 0 := wait_s _ _ ⟨by omega, by omega, by omega, by omega, by omega, by omega⟩
    have w2 : rwait (a 2) r 2 = r 2 := wait_s _ _ ⟨by omega, by omega, by omega, by omega, by omega, by omega⟩
    rcases run_7 a (rwait (a 2) r) with e | ⟨e, hr⟩
    · left; rw [e, w7]
    · right
      refine ⟨by rw [e, w7], fun k => ?_⟩
      unfold runs at hr
      simp only [Bool.and_eq_true, decide_eq_true_eq] at hr
      have hm := (sst_lt (Or.inr hr.1)).2.2
      unfold met at hm
      rw [w0, if_pos k, w2, w7] at hm
      exact Int32.not_le.mp (of_decide_eq_false hm)
  unfold rday; try dsimp only
  split
  · rw [age_s _ _ (by omega)]; exact q
  · exact q
theorem day_8 (a r : Nat → Int32) (h0 : r 0 = 0) (h : rday a r 8 = 1) : r 8 = 1 := by
  have q : rrun a (rwait (a 2) r) 8 = 1 → r 8 = 1 := by
    intro e
    rcases run_8 a (rwait (a 2) r) with e2 | e2
    · rw [e2] at e
      rcases wait_8 (a 2) r with e3 | e3
      · rw [e3] at e; exact e
      · rw [e3] at e; cases e
    · rw [wait_s _ _ ⟨by omega, by omega, by omega, by omega, by omega, by omega⟩, h0] at e2; cases e2
  unfold rday at h; try dsimp only at h
  split at h
  · next hc => exact hc.1
  · exact q h
theorem day_12 (a r : Nat → Int32) (h : rday a r 12 = 1) : r 8 = 1 ∨ r 12 = 1 := by
  unfold rday at h; try dsimp only at h
  split at h
  · next hc => exact Or.inl hc.1
  · rw [run_s _ _ ⟨by omega, by omega, by omega, by omega⟩, wait_s _ _ ⟨by omega, by omega, by omega, by omega, by omega, by omega⟩] at h
    exact Or.inr h
theorem day_9 (a r : Nat → Int32) {g d : Nat} (hg : g ≤ d) (e : r 9 = nI g) : ∃ g', g' ≤ d + 1 ∧ rday a r 9 = nI g' := by
  have q : ∃ g', g' ≤ d ∧ rrun a (rwait (a 2) r) 9 = nI g' := by
    rcases run_9 a (rwait (a 2) r) with e1 | e1
    · rw [e1]
      rcases wait_9 (a 2) r with e2 | e2
      · exact ⟨g, hg, e2.trans e⟩
      · exact ⟨0, by omega, e2⟩
    · exact ⟨0, by omega, e1⟩
  obtain ⟨g1, h1, e1⟩ := q
  unfold rday; try dsimp only
  split
  · rcases age_9 (a 3) (rrun a (rwait (a 2) r)) with e2 | e2
    · exact ⟨g1 + 1, by omega, by rw [e2, e1, nI_succ]⟩
    · exact ⟨0, by omega, e2⟩
  · exact ⟨g1, by omega, e1⟩
theorem or_pow {p x y : Nat} (hx : x < 2 ^ p) (hy : y < 2 ^ p) : x ||| y < 2 ^ p := Nat.or_lt_two_pow hx hy
theorem RS_day {a r : Nat → Int32} (h : RS r) : RS (rday a r) := by
  obtain ⟨⟨p, p1, p6, e3, ⟨x, hx, e4⟩, ⟨y, hy, e5⟩⟩, ⟨q, hq, e2⟩, rk⟩ := h
  refine ⟨⟨p, p1, p6, by rw [day_s _ _ (by omega)]; exact e3, ?_, ?_⟩, ⟨q, hq, by rw [day_s _ _ (by omega)]; exact e2⟩, fun k0 => ?_⟩
  · rcases day_4 a r with e | e
    · exact ⟨x, hx, e.trans e4⟩
    · exact ⟨x ||| y, or_pow hx hy, by rw [e, e4, e5, nI_or]⟩
  · rcases day_5 a r with e | e
    · exact ⟨y, hy, e.trans e5⟩
    · exact ⟨0, Nat.two_pow_pos p, e⟩
  · rw [day_s _ _ (by omega)] at k0
    obtain ⟨k, hk, e7⟩ := rk k0
    rcases day_7 a r with e | ⟨e, hlt⟩
    · exact ⟨k, hk, e.trans e7⟩
    · have := hlt k0
      rw [e7, e2] at this
      have := (nI_ltI (by omega) (by omega)).mp this
      exact ⟨k + 1, by omega, by rw [e, e7, nI_succ]⟩
theorem SI_day {N d : Nat} {a b : Nat → Int32} (hs : SI N a) (hD : DY N a d) (hlt : d < 9999) (hd : dayP N a b) (hf : ∀ i, i < N → RF (rday a (rc a i))) : SI N b ∧ DY N b (d + 1) := by
  obtain ⟨hA, -, ⟨s0, hs0, e0⟩, ⟨s1, hs1, e1⟩, hrs⟩ := hs
  obtain ⟨-, d2, d3, d4⟩ := hD
  have hb := hd.2.2.2.1
  have hN := hA.1
  have hrow : ∀ i, i < N → rc b i = rday a (rc a i) := fun i hi => by rw [hd.2.2.2.2 i (by omega), if_pos hi]
  have hDY : DY N b (d + 1) := by
    refine ⟨by omega, by rw [hd.1, d2, nI_succ], fun k hk => ?_, fun i hi => ?_⟩
    · rw [hb (6 + k) (by omega) (by omega) (by omega) (by omega), hb (11 + k) (by omega) (by omega) (by omega) (by omega)]
      rcases d3 k hk with e | ⟨t, ht, e⟩
      · exact Or.inl e
      · exact Or.inr ⟨t, by omega, e⟩
    · rw [hrow i hi]
      obtain ⟨g, hg, e⟩ := d4 i hi
      exact day_9 _ _ hg e
  refine ⟨⟨AI_day hA hd hf, ⟨_, hDY⟩, ⟨s0, hs0, by rw [hb 2 (by omega) (by omega) (by omega) (by omega)]; exact e0⟩, ⟨s1, hs1, by rw [hb 3 (by omega) (by omega) (by omega) (by omega)]; exact e1⟩, fun i hi => ?_⟩, hDY⟩
  rw [hrow i hi]
  refine ⟨RS_day (hrs i hi).1, fun k0 k1 => ?_⟩
  rw [day_s _ _ (by omega)] at k0 ⊢
  have := st_lt (hA.2.2 i hi).2.1
  rw [hb _ (by omega) (by omega) (by omega) (by omega)]
  refine (hrs i hi).2 k0 ?_
  rcases k1 with k1 | k1
  · exact Or.inl (day_8 _ _ k0 k1)
  · exact day_12 _ _ k1
/-- a change, done by both; the reference's array may depend on what else there is -/
def OK2 (V : mV) (h m N : Nat) (a : Nat → Int32) (cls : Option (Int32 × mV)) (mdl : mV → Option (Int32 × mV)) : Prop :=
  ∃ (r : Int32) (V' : mV) (N' : Nat), cls = some (r, V') ∧ sO V' V h ∧ ((r < -1000000 ∧ V' = V) ∨ 0 ≤ r) ∧ ∀ W : mV, W (m + 1) = a → ∃ a', mdl W = some (r, va_up W (m + 1) a') ∧ PM V' h N' a' ∧ SI N' a' ∧ (r < -1000000 → a' = a)
theorem OK_2 {V : mV} {h m N : Nat} {a : Nat → Int32} {cls : Option (Int32 × mV)} {mdl : mV → Option (Int32 × mV)} (q : OK V h m N a cls mdl) : OK2 V h m N a cls mdl := by
  obtain ⟨r, V', N', a', e1, e2, hm, hs, ho, hr⟩ := q
  refine ⟨r, V', N', e1, ho, hr.imp (fun x => ⟨x.1, x.2.1⟩) id, fun W hW => ⟨a', e2 W hW, hm, hs, fun lt => ?_⟩⟩
  rcases hr with x | x
  · exact x.2.2.1
  · exact absurd (Int32.lt_of_lt_of_le lt (show (-1000000 : Int32) ≤ 0 by decide)) (Int32.not_lt.mpr x)
section CLS
variable {Y : mY} {G H : mG} {h m : Nat}
theorem S_loop (hP : PT Y G h) (hM : MT Y H m) {N D : Nat} (hD4 : D ≤ 400) : ∀ (n j fuel d : Nat) (V W : mV), j + n = D → n < fuel → PM V h N (W (m + 1)) → SI N (W (m + 1)) → DY N (W (m + 1)) d → d + n ≤ 9999 → ∃ V' a', lp_X2_passDays_31 Y G fuel V h (nI D) (nI j) = some (nI (d + n), V') ∧ lp_X4_doPass_34 Y H fuel W m (nI D) (nI j) = some (nI (d + n), va_up W (m + 1) a') ∧ PM V' h N a' ∧ SI N a' ∧ sO V' V h
  | 0, j, fuel, d, V, W, hj, hf, hm, hs, hd, hdn => by
      obtain ⟨f, rfl⟩ : ∃ f, fuel = f + 1 := ⟨fuel - 1, by omega⟩
      obtain rfl : j = D := by omega
      refine ⟨V, W (m + 1), ?_, ?_, hm, hs, sO_rf _ _⟩
      · rw [lp_X2_passDays_31, if_pos (Int32.le_refl _), if_pos hP.1, hm.2.1, hd.2.1]; rfl
      · rw [lp_X4_doPass_34, if_pos (Int32.le_refl _), if_pos (MT_k hM), MT_g hM, Option.bind_some, if_pos (MT_k1 hM), if_pos (MT_i0 hM), tn_0, hd.2.1, us_]; rfl
  | n + 1, j, fuel, d, V, W, hj, hf, hm, hs, hd, hdn => by
      obtain ⟨f, rfl⟩ : ∃ f, fuel = f + 1 := ⟨fuel - 1, by omega⟩
      have lt : ¬ nI D ≤ nI j := le_nI (by omega) (by omega)
      obtain ⟨V1, e1, p1, f1, o1⟩ := C_loop48 hP V hs.1 hm (nI D) (nI j)
      obtain ⟨b, e2, hb⟩ := M_passDay hM hs.1.1 W hs.1.2.1 (fun i hi => (hs.1.2.2 i hi).2) (fun i hi => (hs.1.2.2 i hi).1.1)
      obtain ⟨s1, d1⟩ := SI_day hs hd (by omega) hb f1
      have wb : va_up W (m + 1) b (m + 1) = b := va_up_s _ _ _
      obtain ⟨V', a', c1, c2, c3, c4, c5⟩ := S_loop hP hM hD4 n (j + 1) f (d + 1) V1 (va_up W (m + 1) b) (by omega) (by omega) (by rw [wb]; exact p1 b hb) (by rw [wb]; exact s1) (by rw [wb]; exact d1) (by omega)
      refine ⟨V', a', ?_, ?_, c3, c4, sO_tr c5 o1⟩
      · rw [lp_X2_passDays_31, if_neg lt, if_pos hP.1, e1, Option.bind_some]
        dsimp only
        rw [← nI_succ, c1]; congr 2; congr 1; omega
      · rw [lp_X4_doPass_34, if_neg lt, if_pos (MT_k hM), e2, Option.bind_some, ← nI_succ, c2, uu_]; congr 2; congr 1; omega
theorem S_pass (hP : PT Y G h) (hM : MT Y H m) {N : Nat} {V : mV} {a : Nat → Int32} (hm : PM V h N a) (hs : SI N a) (b1 : Int32) : OK2 V h m N a (cf_X2_passDays Y V G h b1) (fun W => cf_X4_doPass Y W H m b1) := by
  have q0 : cf_X4_in (b1.toInt64) (1 : Int64) (400 : Int64) = some (bi (wi b1 1 400)) := M_in b1 1 400
  cases ev : wi b1 1 400
  · exact OK_2 (OK_err hm hs (e := -1000001) (by decide) (by rw [cf_X2_passDays, C_in, ev]; rfl) (fun W hW => by show cf_X4_doPass Y W H m _ = _; rw [cf_X4_doPass, q0, ev]; rfl))
  · obtain ⟨D, D1, hD, rfl⟩ := wi_num (lo := 1) (hi := 400) (by omega) (by omega) ev
    obtain ⟨d, hd⟩ := hs.2.1
    have hd9 := hd.1
    by_cases g : d + D ≤ 9999
    · have hg : a 0 + nI D ≤ 9999 := by
        rw [hd.2.1, nI_add]; exact nI_le (b := 9999) g (by decide)
      have cl : cf_X2_passDays Y V G h (nI D) = lp_X2_passDays_31 Y G fuB V h (nI D) 0 := by
        rw [cf_X2_passDays, C_in, ev, Option.bind_some, bi_1, if_neg (by decide), if_pos hP.1, hm.2.1, if_pos hg]
      have ml : ∀ W : mV, W (m + 1) = a → cf_X4_doPass Y W H m (nI D) = lp_X4_doPass_34 Y H fuB W m (nI D) 0 := by
        intro W hW
        rw [cf_X4_doPass, q0, ev, Option.bind_some, bi_1, if_neg (by decide), if_pos (MT_k hM), MT_g hM, Option.bind_some, if_pos (MT_k1 hM), if_pos (MT_i0 hM), tn_0, hW, if_pos hg]
      obtain ⟨V', a0, e1, -, p1, s1, o1⟩ := S_loop (m := m) hP hM hD D 0 fuB d V (fun _ => a) (by omega) (fuB_gt (by omega)) hm hs hd g
      refine ⟨nI (d + D), V', N, by rw [cl]; exact e1, o1, Or.inr (nI_pos' (by omega)), fun W hW => ?_⟩
      obtain ⟨V2, a2, e2, k2, p2, s2, o2⟩ := S_loop (m := m) hP hM hD D 0 fuB d V W (by omega) (fuB_gt (by omega)) (by rw [hW]; exact hm) (by rw [hW]; exact hs) (by rw [hW]; exact hd) g
      have ee := e1.symm.trans e2
      simp only [Option.some.injEq, Prod.mk.injEq, true_and] at ee
      subst ee
      refine ⟨a2, by show cf_X4_doPass Y W H m _ = _; rw [ml W hW]; exact k2, p2, s2, fun lt => absurd lt (by rw [Int32.not_lt]; exact Int32.le_trans (by decide) (nI_pos' (by omega)))⟩
    · have hg : ¬ a 0 + nI D ≤ 9999 := by
        rw [hd.2.1, nI_add]; exact nI_ge (a := 9999) (by omega) (by omega)
      exact OK_2 (OK_err hm hs (e := -1000003) (by decide) (by rw [cf_X2_passDays, C_in, ev, Option.bind_some, bi_1, if_neg (by decide), if_pos hP.1, hm.2.1, if_neg hg]) (fun W hW => by show cf_X4_doPass Y W H m _ = _; rw [cf_X4_doPass, q0, ev, Option.bind_some, bi_1, if_neg (by decide), if_pos (MT_k hM), MT_g hM, Option.bind_some, if_pos (MT_k1 hM), if_pos (MT_i0 hM), tn_0, hW, if_neg hg]))
end CLS
