-- what is read of all conditions
section CLS
variable {Y : mY} {G : mG} {h : Nat}
theorem C_state (hP : PT Y G h) {c : Nat} (hc : Y.1 c = 0) (W : mV) {a r : Nat → Int32} (hst : stP W h a) (hr : CM (W c) r) (hf : RF r) (hs : isSt (r 1)) : cf_X2_stateOf Y W G h c = some (sst a r) := by
  have hr0 := hr
  obtain ⟨h0, h1, h2, h3, h4, h5, h6, h7, h8, h9, h10, h13, hn⟩ := hr
  obtain ⟨eb, ef⟩ := C_bst hP W hst hs
  obtain ⟨f8, f12, fa⟩ := hf
  rw [cf_X2_stateOf, if_pos hc, h9, h8, C_isMet hc, Option.bind_some, CM_met hr0, h0, h1, eb, ef, if_pos hP.1, Option.bind_some, Option.bind_some, if_pos hP.1]
  unfold sst slp
  rcases f12 with e12 | e12
  · rcases f8 with e8 | e8
    · cases em : met r
      · by_cases k1 : r 0 = 1
        · have k2 : ¬ r 0 = 2 := by rw [k1]; decide
          by_cases b0 : a (6 + (r 1).toNatClampNeg) = -1 <;> simp [e12, e8, bi, k1, b0]
        · by_cases k2 : r 0 = 2
          · by_cases b0 : a (11 + (r 1).toNatClampNeg) = -1 <;> simp [e12, e8, bi, k2, b0]
          · simp [e12, e8, bi, k1, k2]
      · simp [e12, e8, bi]
    · simp [e12, e8]
  · simp [e12]
/-- the loop's cell i -/
theorem P_cell (hP : PT Y G h) {i : Nat} (hi : i < 10) : G h 0 = some (h + 1) ∧ (Y.1 (h + 1) = 7 ∨ Y.1 (h + 1) = 8) ∧ ¬ (nI i < 0 ∨ Y.2 (h + 1) ≤ (nI i).toNatClampNeg) ∧ G (h + 1) (nI i).toNatClampNeg = some (h + 4 + i) ∧ Y.1 (h + 4 + i) = 0 := by
  obtain ⟨k0, g0, -, -, k1, l1, -, -, -, -, gc⟩ := hP
  obtain ⟨gi, ki⟩ := gc i hi
  exact ⟨g0, Or.inl k1, by rw [l1]; exact nx_in hi (by decide), by rw [nI_clamp (by omega)]; exact gi, ki⟩
def pSt (a : Nat → Int32) (st : Int32) : Nat → Bool := fun i => decide (sst a (rc a i) = st)
def pUn (a : Nat → Int32) (st : Int32) : Nat → Bool := fun i => decide (rc a i 0 = 0) && (decide (rc a i 1 = st) && !met (rc a i))
theorem mk_in {p : Nat → Bool} {i : Nat} (hi : i < 10) (hp : p i = true) : nI (mN p i) ||| ((1 : Int32) <<< (nI i &&& 31)) = nI (mN p (i + 1)) := mk_or hi (by rw [hp]; rfl)
theorem mk_out {p : Nat → Bool} {i : Nat} (hp : p i = false) : nI (mN p i) = nI (mN p (i + 1)) := by rw [mN, hp]; simp
theorem or_0 (x : Int32) : x ||| 0 = x := by simp
theorem C_with (hP : PT Y G h) {N : Nat} {V : mV} {a : Nat → Int32} (hA : AI N a) (hm : PM V h N a) (st : Int32) : cf_X2_withState Y V G h st = some (nI (mN (pSt a st) N)) := by
  obtain ⟨hN, ha1, hrow⟩ := hA
  obtain ⟨m3, -, -, -, -, -, mst, mc⟩ := hm
  obtain ⟨s, hs, rfl⟩ := loop_gen (fun k s i => lp_X2_withState_4 Y V G k h st s i) some N (fun i s => s = nI (mN (pSt a st) i))
    (by
      rintro k s rfl
      show lp_X2_withState_4 Y V G (k + 1) h st _ (nI N) = _
      rw [lp_X2_withState_4, if_pos hP.1, m3, if_pos (nI_le (Nat.le_refl _) (by omega))])
    (by
      rintro k s i hi rfl
      show ∃ s', lp_X2_withState_4 Y V G (k + 1) h st _ (nI i) = _ ∧ _
      obtain ⟨g0, k1, i1, g1, ki⟩ := P_cell hP (show i < 10 by omega)
      rw [lp_X2_withState_4, if_pos hP.1, m3, if_neg (le_nI hi (by omega)), g0, Option.bind_some, if_pos k1, if_pos i1, g1, Option.bind_some, C_state hP ki V mst (mc i hi) (hrow i hi).1 (hrow i hi).2.1, Option.bind_some, ← nI_1]
      by_cases e : sst a (rc a i) = st
      · rw [if_pos e, mk_in (by omega) (by simp [pSt, e])]
        exact ⟨_, rfl, rfl⟩
      · rw [if_neg e]
        exact ⟨_, rfl, mk_out (by simp [pSt, e])⟩)
    N 0 fuB 0 (by omega) (fuB_gt (by omega)) rfl
  exact hs
theorem C_unmet (hP : PT Y G h) {N : Nat} {V : mV} {a : Nat → Int32} (hA : AI N a) (hm : PM V h N a) (st : Int32) : cf_X2_unmetAhead Y V G h st = some (nI (mN (pUn a st) N)) := by
  obtain ⟨hN, ha1, hrow⟩ := hA
  obtain ⟨m3, -, -, -, -, -, mst, mc⟩ := hm
  obtain ⟨s, hs, rfl⟩ := loop_gen (fun k s i => lp_X2_unmetAhead_4 Y V G k h st s i) some N (fun i s => s = nI (mN (pUn a st) i))
    (by
      rintro k s rfl
      show lp_X2_unmetAhead_4 Y V G (k + 1) h st _ (nI N) = _
      rw [lp_X2_unmetAhead_4, if_pos hP.1, m3, if_pos (nI_le (Nat.le_refl _) (by omega))])
    (by
      rintro k s i hi rfl
      show ∃ s', lp_X2_unmetAhead_4 Y V G (k + 1) h st _ (nI i) = _ ∧ _
      obtain ⟨g0, k1, i1, g1, ki⟩ := P_cell hP (show i < 10 by omega)
      have hc := mc i hi
      have e0 : V (h + 4 + i) 0 = rc a i 0 := hc.1
      have e1 : V (h + 4 + i) 1 = rc a i 1 := hc.2.1
      rw [lp_X2_unmetAhead_4, if_pos hP.1, m3, if_neg (le_nI hi (by omega)), g0, Option.bind_some, if_pos k1, if_pos i1, g1, Option.bind_some, if_pos ki, e0, e1, C_isMet ki, Option.bind_some, CM_met hc, ← nI_1]
      by_cases q0 : rc a i 0 = 0
      · rw [if_pos q0]
        by_cases q1 : rc a i 1 = st
        · rw [if_pos q1]
          cases em : met (rc a i)
          · rw [bi_0, if_pos rfl, mk_in (by omega) (by simp [pUn, q0, q1, em])]
            exact ⟨_, rfl, rfl⟩
          · rw [bi_1, if_neg (by decide)]
            exact ⟨_, rfl, mk_out (by simp [pUn, em])⟩
        · rw [if_neg q1]
          exact ⟨_, rfl, mk_out (by simp [pUn, q1])⟩
      · rw [if_neg q0]
        exact ⟨_, rfl, mk_out (by simp [pUn, q0])⟩)
    N 0 fuB 0 (by omega) (fuB_gt (by omega)) rfl
  exact hs
theorem C_parts (hP : PT Y G h) {N : Nat} {V : mV} {a : Nat → Int32} (hA : AI N a) (hm : PM V h N a) : cf_X2_partsOfAll Y V G h = some (sm (fun i => rc a i 3) N) := by
  obtain ⟨hN, ha1, hrow⟩ := hA
  obtain ⟨m3, -, -, -, -, -, mst, mc⟩ := hm
  obtain ⟨s, hs, rfl⟩ := loop_gen (fun k s i => lp_X2_partsOfAll_4 Y V G k h s i) some N (fun i s => s = sm (fun i => rc a i 3) i)
    (by
      rintro k s rfl
      show lp_X2_partsOfAll_4 Y V G (k + 1) h _ (nI N) = _
      rw [lp_X2_partsOfAll_4, if_pos hP.1, m3, if_pos (nI_le (Nat.le_refl _) (by omega))])
    (by
      rintro k s i hi rfl
      show ∃ s', lp_X2_partsOfAll_4 Y V G (k + 1) h _ (nI i) = _ ∧ _
      obtain ⟨g0, k1, i1, g1, ki⟩ := P_cell hP (show i < 10 by omega)
      rw [lp_X2_partsOfAll_4, if_pos hP.1, m3, if_neg (le_nI hi (by omega)), g0, Option.bind_some, if_pos k1, if_pos i1, g1, Option.bind_some, if_pos ki, (mc i hi).2.2.2.1, ← nI_1]
      exact ⟨_, rfl, rfl⟩)
    N 0 fuB 0 (by omega) (fuB_gt (by omega)) rfl
  exact hs
theorem C_appr (hP : PT Y G h) {N : Nat} {V : mV} {a : Nat → Int32} (hA : AI N a) (hm : PM V h N a) : cf_X2_approvedOfAll Y V G h = some (sm (fun i => bc (rc a i 4)) N) := by
  obtain ⟨hN, ha1, hrow⟩ := hA
  obtain ⟨m3, -, -, -, -, -, mst, mc⟩ := hm
  obtain ⟨s, hs, rfl⟩ := loop_gen (fun k s i => lp_X2_approvedOfAll_4 Y V G k h s i) some N (fun i s => s = sm (fun i => bc (rc a i 4)) i)
    (by
      rintro k s rfl
      show lp_X2_approvedOfAll_4 Y V G (k + 1) h _ (nI N) = _
      rw [lp_X2_approvedOfAll_4, if_pos hP.1, m3, if_pos (nI_le (Nat.le_refl _) (by omega))])
    (by
      rintro k s i hi rfl
      show ∃ s', lp_X2_approvedOfAll_4 Y V G (k + 1) h _ (nI i) = _ ∧ _
      obtain ⟨g0, k1, i1, g1, ki⟩ := P_cell hP (show i < 10 by omega)
      rw [lp_X2_approvedOfAll_4, if_pos hP.1, m3, if_neg (le_nI hi (by omega)), g0, Option.bind_some, if_pos k1, if_pos i1, g1, Option.bind_some, if_pos ki, (mc i hi).2.2.2.2.1, bc_s, Option.bind_some, ← nI_1]
      exact ⟨_, rfl, rfl⟩)
    N 0 fuB 0 (by omega) (fuB_gt (by omega)) rfl
  exact hs
end CLS

