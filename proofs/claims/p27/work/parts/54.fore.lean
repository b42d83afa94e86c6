-- reads and forecasts: what whole has of the class alone
def cO (a r : Nat → Int32) (b2 : Int32) : Int32 := if b2 = 0 then r 0 else if b2 = 1 then r 1 else if b2 = 2 then r 2 else if b2 = 3 then r 3 else if b2 = 4 then sst a r else if b2 = 5 then r 4 else if b2 = 6 then r 5 else if b2 = 7 then (if r 5 = 0 then -1000004 else r 6) else if b2 = 8 then r 7 else if b2 = 9 then (if r 8 = 0 then -1000004 else r 9) else if b2 = 10 then (if r 10 = -1 then -1000004 else r 10) else if b2 = 11 then r 11 else -1000001
theorem wi_no {x : Int32} {n : Nat} (hn : n + 1 < 2 ^ 31) (hx : x < 0 ∨ nI (n + 1) ≤ x) : wi x 0 (nI n) = false := by
  cases e : wi x 0 (nI n)
  · rfl
  · obtain ⟨j, -, j2, rfl⟩ := wi_num (lo := 0) (by omega) (by omega) e
    rcases hx with q | q
    · exact absurd q (nI_pos (by omega))
    · exact absurd q (nI_ge (by omega) (by omega))
theorem no_lit {x : Int32} {n k : Nat} (hn : n < 2 ^ 31) (hk : k < n) (hx : x < 0 ∨ nI n ≤ x) : ¬ x = nI k := by
  rintro rfl
  rcases hx with q | q
  · exact absurd q (nI_pos (by omega))
  · exact absurd q (nI_ge (by omega) (by omega))

set_option maxRecDepth 1000000 in
theorem bc_le0 : ∀ N, N < 11 → ∀ M, M < 2 ^ N → (bc (nI M)).toNatClampNeg ≤ N ∧ bc (nI M) = nI (bc (nI M)).toNatClampNeg := by decide +kernel

theorem RF_wait (s : Int32) {r : Nat → Int32} (h : RF r) : RF (rwait s r) := by
  obtain ⟨h8, h12, h0⟩ := h
  unfold rwait rappr rmend
  (try dsimp only); repeat' split
  all_goals first | exact ⟨h8, h12, h0⟩ | (unfold RF; simp [va_up]; first | exact h12 | (refine ⟨h8, h12, fun z => ?_⟩; exact h0 z) | exact ⟨h8, h12, h0⟩)
theorem RF_run (a : Nat → Int32) {r : Nat → Int32} (h : RF r) : RF (rrun a r) := by
  obtain ⟨h8, h12, h0⟩ := h
  unfold rrun rbrk
  repeat' split
  all_goals first | exact ⟨h8, h12, h0⟩ | (unfold RF; simp [va_up]; first | exact h12 | (refine ⟨h8, h12, fun z => ?_⟩; exact h0 z) | exact ⟨h8, h12, h0⟩)
theorem RF_age (s : Int32) {r : Nat → Int32} (h : RF r) (h1 : r 8 = 1) : RF (rage s r) := by
  obtain ⟨h8, h12, h0⟩ := h
  unfold rage rmend
  (try dsimp only); repeat' split
  all_goals (unfold RF; simp [va_up, h1]; try exact h12)
theorem RF_day {a r : Nat → Int32} (h : RF r) : RF (rday a r) := by
  have q : RF (rrun a (rwait (a 2) r)) := RF_run a (RF_wait _ h)
  unfold rday; try dsimp only
  split
  · next hc => exact RF_age _ q hc.2
  · exact q
theorem rday_hd {a b r : Nat → Int32} (h2 : b 2 = a 2) (h3 : b 3 = a 3) (h : ∀ j, 6 ≤ j → j < 16 → b j = a j) (hr : okr r) : rday b r = rday a r := by
  unfold rday; try dsimp only
  rw [h2, h3, rrun_hd h (okr_wait hr).1]
def rd (a : Nat → Int32) : Nat → (Nat → Int32) → (Nat → Int32)
  | 0, r => r
  | n + 1, r => rd a n (rday a r)
theorem rd_s (a : Nat → Int32) : ∀ (n : Nat) (r : Nat → Int32), rd a (n + 1) r = rday a (rd a n r)
  | 0, _ => rfl
  | n + 1, r => by rw [rd, rd_s a n (rday a r)]; rfl
def fw (a : Nat → Int32) (st : Int32) : Nat → Nat → (Nat → Int32) → Int32
  | 0, _, _ => -1000004
  | n + 1, j, r => if sst a r = st then nI j else fw a st n (j + 1) (rday a r)
theorem fw_spec (a : Nat → Int32) (st : Int32) : ∀ (n j : Nat) (r : Nat → Int32), (∃ k, k < n ∧ fw a st n j r = nI (j + k) ∧ sst a (rd a k r) = st ∧ ∀ k', k' < k → sst a (rd a k' r) ≠ st) ∨ (fw a st n j r = -1000004 ∧ ∀ k, k < n → sst a (rd a k r) ≠ st)
  | 0, j, r => Or.inr ⟨rfl, fun k hk => absurd hk (by omega)⟩
  | n + 1, j, r => by
      rw [fw]
      by_cases h : sst a r = st
      · rw [if_pos h]
        exact Or.inl ⟨0, by omega, rfl, h, fun k' hk => absurd hk (by omega)⟩
      · rw [if_neg h]
        rcases fw_spec a st n (j + 1) (rday a r) with ⟨k, hk, e, hs, hn⟩ | ⟨e, hn⟩
        · refine Or.inl ⟨k + 1, by omega, by rw [e]; congr 1; omega, hs, fun k' hk' => ?_⟩
          cases k' with
          | zero => exact h
          | succ k' => exact hn k' (by omega)
        · refine Or.inr ⟨e, fun k hk => ?_⟩
          cases k with
          | zero => exact h
          | succ k => exact hn k (by omega)
section CLS
variable {Y : mY} {G : mG} {h m x : Nat}
theorem W_lp (hP : PT Y G h) {i : Nat} (hi : i < 10) {a : Nat → Int32} (st : Int32) (j1 : Int32) : ∀ (n j fuel : Nat) (V : mV) (r : Nat → Int32), j + n = 401 → n < fuel → stP V h a → CM (V (h + 4 + i)) r → RF r → okr r → V h 7 = a 2 → V h 8 = a 3 → ∃ V', lp_X2_daysUntil_21 Y G fuel V h j1 st (h + 4 + i) (nI j) = some (fw a st n j r, V') ∧ sb2 V' V (h + 4 + i) h ∧ V' h 3 = V h 3 ∧ V' h 7 = V h 7 ∧ V' h 8 = V h 8
  | 0, j, fuel, V, r, hj, hf, hst, hc, hr, ho, h7, h8 => by
      obtain ⟨f, rfl⟩ : ∃ f, fuel = f + 1 := ⟨fuel - 1, by omega⟩
      obtain rfl : j = 401 := by omega
      exact ⟨V, by rw [lp_X2_daysUntil_21, if_pos (by decide)]; rfl, fun _ _ _ => rfl, rfl, rfl, rfl⟩
  | n + 1, j, fuel, V, r, hj, hf, hst, hc, hr, ho, h7, h8 => by
      obtain ⟨f, rfl⟩ : ∃ f, fuel = f + 1 := ⟨fuel - 1, by omega⟩
      have ki := (P_cell hP hi).2.2.2.2
      have lt : ¬ (400 : Int32) < nI j := Int32.not_lt.mpr (nI_le (b := 400) (by omega) (by decide))
      by_cases e : sst a r = st
      · exact ⟨V, by rw [lp_X2_daysUntil_21, if_neg lt, if_pos hP.1, C_state hP ki V hst hc hr ho.1, Option.bind_some, if_pos e, fw, if_pos e], fun _ _ _ => rfl, rfl, rfl, rfl⟩
      · obtain ⟨V1, e1, c1, r1, hh, s1⟩ := C_day hP ki (show h + 4 + i ≠ h by omega) (show h + 4 + i ≠ h + 2 by omega) (show h + 4 + i ≠ h + 3 by omega) V hst hc hr ho h7 h8
        have k3 : V1 h 3 = V h 3 := by rw [hh, un_ _ _ (by omega), un_ _ _ (by omega)]
        have k7 : V1 h 7 = V h 7 := by rw [hh, un_ _ _ (by omega), un_ _ _ (by omega)]
        have k8 : V1 h 8 = V h 8 := by rw [hh, un_ _ _ (by omega), un_ _ _ (by omega)]
        obtain ⟨V', e2, s2, q3, q7, q8⟩ := W_lp hP hi st j1 n (j + 1) f V1 (rday a r) (by omega) (by omega) (stP_of hst s1 (by omega) (by omega)) c1 r1 (okr_day ho) (k7.trans h7) (k8.trans h8)
        refine ⟨V', ?_, fun b h1 h2 => (s2 b h1 h2).trans (s1 b h1 h2), q3.trans k3, q7.trans k7, q8.trans k8⟩
        rw [lp_X2_daysUntil_21, if_neg lt, if_pos hP.1, C_state hP ki V hst hc hr ho.1, Option.bind_some, if_neg e, e1, Option.bind_some, ← nI_succ, e2, fw, if_neg e]
theorem C_until (hP : PT Y G h) {N i : Nat} (hN : N ≤ 10) (hi : i < N) {a : Nat → Int32} (st : Int32) {V : mV} {r : Nat → Int32} (h3 : V h 3 = nI N) (hst : stP V h a) (hc : CM (V (h + 4 + i)) r) (hr : RF r) (ho : okr r) (h7 : V h 7 = a 2) (h8 : V h 8 = a 3) : ∃ V', cf_X2_daysUntil Y V G h (nI i) st = some (fw a st 401 0 r, V') ∧ sb2 V' V (h + 4 + i) h ∧ V' h 3 = V h 3 ∧ V' h 7 = V h 7 ∧ V' h 8 = V h 8 := by
  obtain ⟨g0, k1, i1, g1, ki⟩ := P_cell hP (show i < 10 by omega)
  obtain ⟨V', e, q⟩ := W_lp hP (show i < 10 by omega) st (nI i) 401 0 fuB V r (by omega) (fuB_gt (by omega)) hst hc hr ho h7 h8
  refine ⟨V', ?_, q⟩
  rw [cf_X2_daysUntil, if_pos hP.1, C_has1 hP hN hi h3, Option.bind_some, if_neg (by decide), g0, Option.bind_some, if_pos k1, if_pos i1, g1, Option.bind_some]
  exact e
end CLS

def GD (r : Nat → Int32) : Prop := RS r ∧ r 0 = 0 ∧ ¬ r 8 = 1 ∧ ¬ r 12 = 1
theorem GD_day {a r : Nat → Int32} (h : GD r) : GD (rday a r) := by
  obtain ⟨h1, h2, h3, h4⟩ := h
  refine ⟨RS_day h1, by rw [day_s _ _ (by omega)]; exact h2, fun z => h3 (day_8 _ _ h2 z), fun z => ?_⟩
  rcases day_12 _ _ z with q | q
  · exact h3 q
  · exact h4 q
theorem GD_met {a r : Nat → Int32} (h : GD r) (hm : met r = true) : met (rday a r) = true := by
  obtain ⟨⟨⟨p, p1, p6, e3, ⟨x, hx, e4⟩, ⟨y, hy, e5⟩⟩, -, -⟩, h0, -, -⟩ := h
  have n2 : ¬ r 0 = 2 := by rw [h0]; decide
  unfold met at hm ⊢
  rw [day_s _ _ (by omega), day_s _ _ (show 3 < 4 by omega), if_neg n2]
  rw [if_neg n2] at hm
  have pl : 2 ^ p ≤ 64 := Nat.pow_le_pow_right (n := 2) (by omega) p6
  have e := of_decide_eq_true hm
  rw [e3, (psh p (by omega)).1, (psh p (by omega)).2] at e ⊢
  rw [e4] at e
  have ex := (nI_eq (by omega) (by omega)).mp e
  refine decide_eq_true ?_
  rcases day_4 a r with q | q
  · rw [q, e4, ex]
  · rw [q, e4, e5, nI_or]
    have h1 := or_pow hx hy
    have h2 : x ≤ x ||| y := Nat.left_le_or
    congr 1; omega
theorem GD_rd {a r : Nat → Int32} (h : GD r) : ∀ k, GD (rd a k r)
  | 0 => h
  | k + 1 => by rw [rd_s]; exact GD_day (GD_rd h k)
theorem GD_mono {a r : Nat → Int32} (h : GD r) {k : Nat} (hk : met (rd a k r) = true) : ∀ d, met (rd a (k + d) r) = true
  | 0 => hk
  | d + 1 => by rw [show k + (d + 1) = k + d + 1 from rfl, rd_s]; exact GD_met (GD_rd h _) (GD_mono h hk d)
theorem GD_le {a r : Nat → Int32} (h : GD r) {k l : Nat} (hk : met (rd a k r) = true) (hl : k ≤ l) : met (rd a l r) = true := by
  have := GD_mono h hk (l - k); rwa [show k + (l - k) = l by omega] at this
theorem GD_st {a r : Nat → Int32} (h : GD r) : sst a r = 2 ↔ met r = true := by
  unfold sst
  rw [if_neg h.2.2.2, if_neg h.2.2.1]
  cases met r
  · constructor
    · intro q
      by_cases z : slp a r = true
      · rw [if_neg (by decide), if_pos z] at q; exact absurd q (by decide)
      · rw [if_neg (by decide), if_neg z] at q; exact absurd q (by decide)
    · intro q; cases q
  · simp
def allM (a : Nat → Int32) (p : Nat → Bool) (i k : Nat) : Prop := ∀ j, j < i → p j = true → met (rd a k (rc a j)) = true
def lwR (a : Nat → Int32) (p : Nat → Bool) (N : Nat) (res : Int32) : Prop := (∃ M, M ≤ 400 ∧ res = nI M ∧ allM a p N M ∧ ∀ k, k < M → ¬ allM a p N k) ∨ (res = -1000004 ∧ ∀ k, k ≤ 400 → ¬ allM a p N k)
theorem lwR_eq {a : Nat → Int32} {p : Nat → Bool} {N : Nat} {r s : Int32} (h1 : lwR a p N r) (h2 : lwR a p N s) : r = s := by
  rcases h1 with ⟨M, hM, e, hA, hn⟩ | ⟨e, hn⟩ <;> rcases h2 with ⟨M2, hM2, e2, hA2, hn2⟩ | ⟨e2, hn2⟩
  · have : M = M2 := by
      rcases Nat.lt_trichotomy M M2 with q | q | q
      · exact absurd hA (hn2 _ q)
      · exact q
      · exact absurd hA2 (hn _ q)
    rw [e, e2, this]
  · exact absurd hA (hn2 _ hM)
  · exact absurd hA2 (hn _ hM2)
  · rw [e, e2]
theorem mN_0 {p : Nat → Bool} : ∀ {n : Nat}, (∀ i, i < n → p i = false) → mN p n = 0
  | 0, _ => rfl
  | n + 1, h => by rw [mN, mN_0 (fun i hi => h i (by omega)), h n (by omega)]; simp
theorem mN_z {p : Nat → Bool} {N : Nat} (hN : N ≤ 10) : nI (mN p N) = 0 ↔ ∀ i, i < N → p i = false := by
  have lt := mN_1024 p hN
  constructor
  · intro h i hi
    have e := (nI_eq (a := mN p N) (b := 0) (by omega) (by omega)).mp h
    have b := mN_bit p hi
    rw [e] at b
    simpa using b.symm
  · intro h; rw [mN_0 h]; rfl
section CLS
variable {Y : mY} {G : mG} {h m x : Nat}
theorem L_lp (hP : PT Y G h) {N : Nat} (hN : N ≤ 10) {a : Nat → Int32} {p : Nat → Bool} (b1 : Int32) (hrow : ∀ i, i < N → RF (rc a i) ∧ okr (rc a i)) (hp : ∀ i, i < N → p i = true → GD (rc a i)) : ∀ (n i fuel : Nat) (V : mV) (M : Nat), i + n = N → n < fuel → V h 3 = nI N → stP V h a → V h 7 = a 2 → V h 8 = a 3 → (∀ j, i ≤ j → j < N → CM (V (h + 4 + j)) (rc a j)) → M ≤ 400 → allM a p i M → (∀ k, k < M → ¬ allM a p i k) → ∃ res V', lp_X2_daysUntilLawful_11 Y G fuel V h b1 (nI (mN p N)) (nI M) (nI i) = some (res, V') ∧ sO V' V h ∧ lwR a p N res
  | 0, i, fuel, V, M, hi, hf, h3, hst, h7, h8, hc, hM, hA, hn => by
      obtain ⟨f, rfl⟩ : ∃ f, fuel = f + 1 := ⟨fuel - 1, by omega⟩
      obtain rfl : i = N := by omega
      exact ⟨nI M, V, by rw [lp_X2_daysUntilLawful_11, if_pos hP.1, h3, if_pos (Int32.le_refl _)], sO_rf _ _, Or.inl ⟨M, hM, rfl, hA, hn⟩⟩
  | n + 1, i, fuel, V, M, hi, hf, h3, hst, h7, h8, hc, hM, hA, hn => by
      obtain ⟨f, rfl⟩ : ∃ f, fuel = f + 1 := ⟨fuel - 1, by omega⟩
      have hiN : i < N := by omega
      have lt : ¬ nI N ≤ nI i := le_nI (by omega) (by omega)
      cases ep : p i
      · obtain ⟨res, V', e, o, r⟩ := L_lp hP hN b1 hrow hp n (i + 1) f V M (by omega) (by omega) h3 hst h7 h8 (fun j h1 h2 => hc j (by omega) h2) hM (fun j hj q => by
          by_cases z : j = i
          · subst z; rw [ep] at q; cases q
          · exact hA j (by omega) q) (fun k hk q => hn k hk (fun j hj => q j (by omega)))
        exact ⟨res, V', by rw [lp_X2_daysUntilLawful_11, if_pos hP.1, h3, if_neg lt, if_pos ((mk_and hN hiN).mpr ep), ← nI_succ]; exact e, o, r⟩
      · have hg := hp i hiN ep
        have nb : ¬ (nI (mN p N) &&& ((1 : Int32) <<< (nI i &&& 31))) = 0 := fun q => by rw [(mk_and hN hiN).mp q] at ep; cases ep
        obtain ⟨V1, e1, s1, q3, q7, q8⟩ := C_until hP hN hiN (2 : Int32) h3 hst (hc i (by omega) hiN) (hrow i hiN).1 (hrow i hiN).2 h7 h8
        have o1 : sO V1 V h := fun b hb => s1 b (by omega) (by omega)
        rcases fw_spec a 2 401 0 (rc a i) with ⟨d, hd, ed, hs, hnd⟩ | ⟨ed, hnd⟩
        · rw [show 0 + d = d by omega] at ed
          rw [ed] at e1
          have md : met (rd a d (rc a i)) = true := (GD_st (GD_rd hg d)).mp hs
          have nmd : ∀ k, k < d → ¬ met (rd a k (rc a i)) = true := fun k hk q => hnd k hk ((GD_st (GD_rd hg k)).mpr q)
          have ne : ¬ nI d = -1000004 := fun z => absurd (show (0 : Int32) ≤ nI d from nI_pos' (by omega)) (by rw [z]; decide)
          have mx : (if nI M < nI d then nI d else nI M) = nI (if M < d then d else M) := by
            by_cases q : M < d
            · rw [if_pos q, if_pos ((nI_ltI (by omega) (by omega)).mpr q)]
            · rw [if_neg q, if_neg (fun z => q ((nI_ltI (by omega) (by omega)).mp z))]
          obtain ⟨res, V', e, o, r⟩ := L_lp hP hN b1 hrow hp n (i + 1) f V1 (if M < d then d else M) (by omega) (by omega) (q3.trans h3) (stP_of hst s1 (by omega) (by omega)) (q7.trans h7) (q8.trans h8) (fun j h1 h2 => by rw [s1 _ (by omega) (by omega)]; exact hc j (by omega) h2) (by split <;> omega) (fun j hj q => by
            by_cases z : j = i
            · subst z; exact GD_le hg md (by split <;> omega)
            · exact GD_le (hp j (by omega) q) (hA j (by omega) q) (by split <;> omega)) (fun k hk q => by
            by_cases z : k < M
            · exact hn k z (fun j hj => q j (by omega))
            · exact nmd k (by split at hk <;> omega) (q i (by omega) ep))
          refine ⟨res, V', ?_, sO_tr o o1, r⟩
          rw [lp_X2_daysUntilLawful_11, if_pos hP.1, h3, if_neg lt, if_neg nb, e1, Option.bind_some]
          dsimp only
          rw [if_neg ne, mx, ← nI_succ]
          exact e
        · rw [ed] at e1
          refine ⟨-1000004, V1, ?_, o1, Or.inr ⟨rfl, fun k hk q => hnd k (by omega) ((GD_st (GD_rd hg k)).mpr (q i hiN ep))⟩⟩
          rw [lp_X2_daysUntilLawful_11, if_pos hP.1, h3, if_neg lt, if_neg nb, e1, Option.bind_some]
          exact if_pos rfl
theorem rd_low (a r : Nat → Int32) {k : Nat} (hk : k < 4) : ∀ j, rd a j r k = r k
  | 0 => rfl
  | j + 1 => by rw [rd_s, day_s _ _ hk]; exact rd_low a r hk j
end CLS

