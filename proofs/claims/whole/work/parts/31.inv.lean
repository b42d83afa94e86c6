-- the invariants, and a change of one row
def RS (r : Nat → Int32) : Prop := (∃ p, 1 ≤ p ∧ p ≤ 6 ∧ r 3 = nI p ∧ (∃ x, x < 2 ^ p ∧ r 4 = nI x) ∧ (∃ x, x < 2 ^ p ∧ r 5 = nI x)) ∧ (∃ y, y ≤ 365 ∧ r 2 = nI y) ∧ (r 0 = 2 → ∃ k, k ≤ 365 ∧ r 7 = nI k)
def LI (a r : Nat → Int32) : Prop := r 0 = 0 → (r 8 = 1 ∨ r 12 = 1) → a (6 + (r 1).toNatClampNeg) ≠ -1
def DY (N : Nat) (a : Nat → Int32) (d : Nat) : Prop := d ≤ 9999 ∧ a 0 = nI d ∧ (∀ k, k < 5 → (a (6 + k) = -1 ∧ a (11 + k) = -1) ∨ ∃ t, t ≤ d ∧ a (6 + k) = nI t) ∧ ∀ i, i < N → ∃ g, g ≤ d ∧ rc a i 9 = nI g
def SI (N : Nat) (a : Nat → Int32) : Prop := AI N a ∧ (∃ d, DY N a d) ∧ (∃ s, s ≤ 99 ∧ a 2 = nI s) ∧ (∃ s, s ≤ 365 ∧ a 3 = nI s) ∧ ∀ i, i < N → RS (rc a i) ∧ LI a (rc a i)
theorem pow_le64 {p x : Nat} (hp : p ≤ 6) (h : x < 2 ^ p) : x < 64 := Nat.lt_of_lt_of_le h (Nat.pow_le_pow_right (n := 2) (by omega) hp)
theorem RS_64 {r : Nat → Int32} (h : RS r) : is64 (r 4) ∧ is64 (r 5) := by
  obtain ⟨⟨p, p1, p6, -, ⟨x, hx, ex⟩, ⟨y, hy, ey⟩⟩, -⟩ := h
  exact ⟨⟨x, pow_le64 p6 hx, ex⟩, ⟨y, pow_le64 p6 hy, ey⟩⟩
theorem st_lt {x : Int32} (h : isSt x) : x.toNatClampNeg < 5 := by
  obtain ⟨t, ht, rfl⟩ := h
  rw [nI_clamp (by omega)]; exact ht
theorem rc_so_o {a r : Nat → Int32} {i j : Nat} (ht : tl r (ro a i)) (h : j ≠ i) : rc (so a i r) j = rc a j := rc_other h ht
theorem SI_row {N : Nat} {a a2 : Nat → Int32} {i : Nat} {r' : Nat → Int32} (hs : SI N a) (hi : i < N) (h2 : ∀ j, j < 16 → j ≠ 4 → j ≠ 5 → a2 j = a j) (h2r : ∀ j, rc a2 j = rc a j) (ht : tl r' (ro a2 i)) (hf : RF (cut r')) (hS : RS (cut r')) (hk : isSt (cut r' 1)) (hL : LI a (cut r')) (hg : ∀ d, DY N a d → ∃ g, g ≤ d ∧ cut r' 9 = nI g) : SI N (so a2 i r') := by
  obtain ⟨⟨hN, ha1, hrow⟩, ⟨d, hd⟩, ⟨s0, hs0, e0⟩, ⟨s1, hs1, e1⟩, hrs⟩ := hs
  have hh : ∀ j, j < 16 → j ≠ 4 → j ≠ 5 → so a2 i r' j = a j := fun j hj h4 h5 => by rw [so_h _ _ _ hj]; exact h2 j hj h4 h5
  have hr : ∀ j, rc (so a2 i r') j = if j = i then cut r' else rc a j := fun j => by rw [rc_so ht, h2r]
  have hgi := hg d hd
  obtain ⟨d1, d2, d3, d4⟩ := hd
  refine ⟨⟨hN, by rw [hh 1 (by omega) (by omega) (by omega)]; exact ha1, fun j hj => ?_⟩, ⟨d, d1, by rw [hh 0 (by omega) (by omega) (by omega)]; exact d2, fun k hk5 => by rw [hh (6 + k) (by omega) (by omega) (by omega), hh (11 + k) (by omega) (by omega) (by omega)]; exact d3 k hk5, fun j hj => ?_⟩, ⟨s0, hs0, by rw [hh 2 (by omega) (by omega) (by omega)]; exact e0⟩, ⟨s1, hs1, by rw [hh 3 (by omega) (by omega) (by omega)]; exact e1⟩, fun j hj => ?_⟩
  · rw [hr]
    by_cases e : j = i
    · rw [if_pos e]; exact ⟨hf, hk, (RS_64 hS).2⟩
    · rw [if_neg e]; exact hrow j hj
  · rw [hr]
    by_cases e : j = i
    · rw [if_pos e]; exact hgi
    · rw [if_neg e]; exact d4 j hj
  · rw [hr]
    by_cases e : j = i
    · rw [if_pos e]
      refine ⟨hS, fun q1 q2 => ?_⟩
      have := st_lt hk
      rw [hh _ (by omega) (by omega) (by omega)]
      exact hL q1 q2
    · rw [if_neg e]
      refine ⟨(hrs j hj).1, fun q1 q2 => ?_⟩
      have := st_lt (hrow j hj).2.1
      rw [hh _ (by omega) (by omega) (by omega)]
      exact (hrs j hj).2 q1 q2
theorem PM_row {V V' : mV} {h N i : Nat} {a a2 r' : Nat → Int32} (hm : PM V h N a) (hN : N ≤ 10) (hi : i < N) (h2 : ∀ j, j < 16 → j ≠ 4 → j ≠ 5 → a2 j = a j) (h2r : ∀ j, rc a2 j = rc a j) (h3 : V' h 3 = V h 3) (h4 : V' h 4 = V h 4) (h5 : V' h 5 = a2 4) (h6 : V' h 6 = a2 5) (h7 : V' h 7 = V h 7) (h8 : V' h 8 = V h 8) (ho : sb2 V' V (h + 4 + i) h) (hc : CM (V' (h + 4 + i)) (cut r')) (ht : tl r' (ro a2 i)) : PM V' h N (so a2 i r') := by
  obtain ⟨m3, m4, m5, m6, m7, m8, mst, mc⟩ := hm
  have hh : ∀ j, j < 16 → j ≠ 4 → j ≠ 5 → so a2 i r' j = a j := fun j hj h4 h5 => by rw [so_h _ _ _ hj]; exact h2 j hj h4 h5
  refine ⟨by rw [h3]; exact m3, by rw [h4, hh 0 (by omega) (by omega) (by omega)]; exact m4, by rw [h5, so_h _ _ _ (by omega)], by rw [h6, so_h _ _ _ (by omega)], by rw [h7, hh 2 (by omega) (by omega) (by omega)]; exact m7, by rw [h8, hh 3 (by omega) (by omega) (by omega)]; exact m8, fun k hk => ?_, fun j hj => ?_⟩
  · rw [ho (h + 2) (by omega) (by omega), ho (h + 3) (by omega) (by omega), hh (6 + k) (by omega) (by omega) (by omega), hh (11 + k) (by omega) (by omega) (by omega)]
    exact mst k hk
  · rw [rc_so ht, h2r]
    by_cases e : j = i
    · subst e; rw [if_pos rfl]; exact hc
    · rw [if_neg e, ho (h + 4 + j) (by omega) (by omega)]
      exact mc j hj
theorem sO_2 {V' V : mV} {h i : Nat} (hi : i < 10) (ho : sb2 V' V (h + 4 + i) h) : sO V' V h := fun b hb => ho b (by omega) (by omega)
/-- a change, done by both: the answer, what stands behind it -/
def OK (V : mV) (h m N : Nat) (a : Nat → Int32) (cls : Option (Int32 × mV)) (mdl : mV → Option (Int32 × mV)) : Prop :=
  ∃ (r : Int32) (V' : mV) (N' : Nat) (a' : Nat → Int32), cls = some (r, V') ∧ (∀ W : mV, W (m + 1) = a → mdl W = some (r, va_up W (m + 1) a')) ∧ PM V' h N' a' ∧ SI N' a' ∧ sO V' V h ∧ ((r < -1000000 ∧ V' = V ∧ a' = a ∧ N' = N) ∨ 0 ≤ r)
theorem OK_err {V : mV} {h m N : Nat} {a : Nat → Int32} {cls : Option (Int32 × mV)} {mdl : mV → Option (Int32 × mV)} (hm : PM V h N a) (hs : SI N a) {e : Int32} (he : e < -1000000) (h1 : cls = some (e, V)) (h2 : ∀ W : mV, W (m + 1) = a → mdl W = some (e, W)) : OK V h m N a cls mdl :=
  ⟨e, V, N, a, h1, fun W hW => by rw [h2 W hW, ← hW, us_], hm, hs, sO_rf _ _, Or.inl ⟨he, rfl, rfl, rfl⟩⟩
theorem psh : ∀ p, p < 7 → (1 : Int32) <<< (nI p &&& 31) = nI (2 ^ p) ∧ nI (2 ^ p) - 1 = nI (2 ^ p - 1) := by decide
theorem OK_row {V V' : mV} {h m N i : Nat} {a a2 r' rx : Nat → Int32} {res : Int32} {cls : Option (Int32 × mV)} {mdl : mV → Option (Int32 × mV)} (hm : PM V h N a) (hs : SI N a) (hi : i < N) (e1 : cls = some (res, V')) (e2 : ∀ W : mV, W (m + 1) = a → mdl W = some (res, va_up W (m + 1) (so a2 i r'))) (h2 : ∀ j, j < 16 → j ≠ 4 → j ≠ 5 → a2 j = a j) (h2r : ∀ j, rc a2 j = rc a j) (hro : ro a2 i = ro a i) (h3 : V' h 3 = V h 3) (h4 : V' h 4 = V h 4) (h5 : V' h 5 = a2 4) (h6 : V' h 6 = a2 5) (h7 : V' h 7 = V h 7) (h8 : V' h 8 = V h 8) (ho : sb2 V' V (h + 4 + i) h) (hx : cut r' = rx) (ht : tl r' (ro a i)) (hc : CM (V' (h + 4 + i)) rx) (hf : RF rx) (hS : RS rx) (hk : isSt (rx 1)) (hL : LI a rx) (hg : ∀ d, DY N a d → ∃ g, g ≤ d ∧ rx 9 = nI g) (hres : 0 ≤ res) : OK V h m N a cls mdl := by
  subst hx
  have hN := hs.1.1
  exact ⟨res, V', N, so a2 i r', e1, e2, PM_row hm hN hi h2 h2r h3 h4 h5 h6 h7 h8 ho hc (by rw [hro]; exact ht), SI_row hs hi h2 h2r (by rw [hro]; exact ht) hf hS hk hL hg, sO_2 (by omega) ho, Or.inr hres⟩
section CLS
variable {Y : mY} {G H : mG} {h m : Nat}
theorem C_pset {c : Nat} (hc : Y.1 c = 0) (W : mV) {p : Nat} (hp : p ≤ 6) (h3 : W c 3 = nI p) (x : Int32) : cf_X0_isPartsSet Y W G c x = some (bi (decide (0 ≤ x) && decide (x < nI (2 ^ p)))) := by
  rw [cf_X0_isPartsSet, if_pos hc, h3, (psh p (by omega)).1]
  by_cases q : x < 0
  · have : ¬ (0 : Int32) ≤ x := Int32.not_le.mpr q
    simp [q, this, bi]
  · have k : (0 : Int32) ≤ x := Int32.not_lt.mp q
    by_cases q2 : nI (2 ^ p) ≤ x
    · have : ¬ x < nI (2 ^ p) := Int32.not_lt.mpr q2
      simp [q, q2, this, bi]
    · have : x < nI (2 ^ p) := Int32.not_le.mp q2
      simp [q, q2, k, this, bi]
theorem M_all (hM : MT Y H m) {i : Nat} (hi : i < 10) (W : mV) {p : Nat} (hp : p ≤ 6) (h3 : ro (W (m + 1)) i 3 = nI p) : cf_X4_allParts Y W H m (nI i) = some (nI (2 ^ p - 1)) := by
  rw [cf_X4_allParts, if_pos (MT_k hM), M_g3 hM hi, Option.bind_some, h3, (psh p (by omega)).1, (psh p (by omega)).2]
theorem S_apply (hP : PT Y G h) (hM : MT Y H m) {N : Nat} {V : mV} {a : Nat → Int32} (hm : PM V h N a) (hs : SI N a) (b1 b2 : Int32) : OK V h m N a (cf_X2_applyFor Y V G h b1 b2) (fun W => cf_X4_doApply Y W H m b1 b2) := by
  obtain ⟨⟨hN, ha1, hrow⟩, ⟨d, hd⟩, ⟨s0, hs0, e0⟩, ⟨s1, hs1, e1⟩, hrs⟩ := id hs
  obtain ⟨m3, m4, m5, m6, m7, m8, mst, mc⟩ := id hm
  rcases num_cases b1 (show N < 2 ^ 31 by omega) with ⟨i, hi, rfl⟩ | hx
  · obtain ⟨g0, k1, i1, g1, ki⟩ := P_cell hP (show i < 10 by omega)
    obtain ⟨⟨p, p1, p6, r3, ⟨x4, hx4, r4⟩, ⟨x5, hx5, r5⟩⟩, ry, rk⟩ := (hrs i hi).1
    have hc := mc i hi
    obtain ⟨c0, c1, c2, c3, c4, c5, c6, c7, c8, c9, c10, c13, cn⟩ := id hc
    have q3 : V (h + 4 + i) 3 = nI p := c3.trans r3
    have hpl : 2 ^ p ≤ 64 := Nat.pow_le_pow_right (n := 2) (by omega) p6
    have cls0 : cf_X2_applyFor Y V G h (nI i) b2 = if b2 = 0 then some (-1000001, V) else (some (bi (decide (0 ≤ b2) && decide (b2 < nI (2 ^ p))))).bind fun x10 => if x10 = 0 then some (-1000001, V) else if rc a i 0 = 2 then some (-1000002, V) else if rc a i 5 = 0 then (if (rc a i 4 &&& b2) = 0 then some (a 2, up2 (up2 V (h + 4 + i) 5 b2) (h + 4 + i) 6 0) else some (-1000002, V)) else some (-1000002, V) := by
      rw [cf_X2_applyFor, if_pos hP.1, C_has1 hP hN hi m3, Option.bind_some, if_neg (by decide), g0, Option.bind_some, if_pos k1, if_pos i1, g1, Option.bind_some, if_pos ki, C_pset ki V p6 q3, c0, c5, c4, up2_n _ _ _ (show h ≠ h + 4 + i by omega), up2_n _ _ _ (show h ≠ h + 4 + i by omega), m7]
    have mdl0 : ∀ W : mV, W (m + 1) = a → cf_X4_doApply Y W H m (nI i) b2 = if bi (wi b2 1 (nI (2 ^ p - 1))) = 0 then some (-1000001, W) else if rc a i 0 = 2 then some (-1000002, W) else if rc a i 5 = 0 then (if (rc a i 4 &&& b2) = 0 then some (a 2, va_up W (m + 1) (so a i (va_up (va_up (ro a i) 5 b2) 6 0))) else some (-1000002, W)) else some (-1000002, W) := by
      intro W hW
      rw [cf_X4_doApply, if_pos (MT_k hM), M_has1 hM hN hi (by rw [hW]; exact ha1), Option.bind_some, if_neg (by decide), M_all hM (by omega) W p6 (by rw [hW]; exact r3), Option.bind_some, show (1 : Int64) = (1 : Int32).toInt64 from rfl, M_in, Option.bind_some, M_g0 hM (by omega), Option.bind_some, M_g5 hM (by omega), Option.bind_some, M_g4 hM (by omega), Option.bind_some, M_p5 hM (by omega), Option.bind_some, M_p6 hM (by omega), Option.bind_some, MT_g hM, Option.bind_some, if_pos (MT_k1 hM), if_pos (MT_i2 hM), tn_2]
      simp only [va_up_s, uu_, ro_so, so_so, hW, so_h _ _ _ (show 2 < 16 by omega)]
      rfl
    rcases num_cases b2 (show 2 ^ p < 2 ^ 31 by omega) with ⟨x, hx, rfl⟩ | hx
    · by_cases x0 : x = 0
      · subst x0
        refine OK_err hm hs (e := -1000001) (by decide) (by rw [cls0, if_pos (show nI 0 = 0 from rfl)]) (fun W hW => ?_)
        show cf_X4_doApply Y W H m (nI i) (nI 0) = _
        rw [mdl0 W hW, show (1 : Int32) = nI 1 from rfl, wi_nI (by omega) (by omega) (by have : 2 ^ 1 ≤ 2 ^ p := Nat.pow_le_pow_right (n := 2) (by omega) p1; omega)]
        rfl
      · have w1 : wi (nI x) 1 (nI (2 ^ p - 1)) = true := by
          rw [show (1 : Int32) = nI 1 from rfl, wi_nI (by omega) (by omega) (by omega)]
          simp; omega
        have n0 : ¬ nI x = 0 := nI_ne0 (by omega) (by omega)
        have b0 : (decide ((0 : Int32) ≤ nI x) && decide (nI x < nI (2 ^ p))) = true := by
          have u1 : (0 : Int32) ≤ nI x := nI_pos' (by omega)
          have u2 : nI x < nI (2 ^ p) := nI_lt hx (by omega)
          simp [u1, u2]
        rw [b0, if_neg n0, Option.bind_some, bi_1, if_neg (by decide)] at cls0
        simp only [w1, bi_1, show ¬ (1 : Int32) = 0 by decide, if_false] at mdl0
        by_cases z0 : rc a i 0 = 2
        · exact OK_err hm hs (e := -1000002) (by decide) (by rw [cls0, if_pos z0]) (fun W hW => by show cf_X4_doApply Y W H m _ _ = _; rw [mdl0 W hW, if_pos z0])
        · by_cases z5 : rc a i 5 = 0
          · by_cases z4 : (rc a i 4 &&& nI x) = 0
            · rw [if_neg z0, if_pos z5, if_pos z4] at cls0
              have ht : tl (va_up (va_up (ro a i) 5 (nI x)) 6 0) (ro a i) := tl_up (tl_up (tl_rf _) (by omega) _) (by omega) _
              have hcut : cut (va_up (va_up (ro a i) 5 (nI x)) 6 0) = va_up (va_up (rc a i) 5 (nI x)) 6 0 := by rw [cut_up _ (by omega), cut_up _ (by omega)]; rfl
              have ho : sb2 (up2 (up2 V (h + 4 + i) 5 (nI x)) (h + 4 + i) 6 0) V (h + 4 + i) h := fun b hb1 hb2 => by rw [up2_n _ _ _ hb1, up2_n _ _ _ hb1]
              have hh : ∀ k, up2 (up2 V (h + 4 + i) 5 (nI x)) (h + 4 + i) 6 0 h k = V h k := fun k => by rw [up2_n _ _ _ (show h ≠ h + 4 + i by omega), up2_n _ _ _ (show h ≠ h + 4 + i by omega)]
              refine ⟨a 2, _, N, so a i (va_up (va_up (ro a i) 5 (nI x)) 6 0), cls0, fun W hW => by show cf_X4_doApply Y W H m _ _ = _; rw [mdl0 W hW, if_neg z0, if_pos z5, if_pos z4], ?_, ?_, sO_2 (by omega) ho, Or.inr (by rw [e0]; exact nI_pos' (by omega))⟩
              · refine PM_row hm hN hi (fun _ _ _ _ => rfl) (fun _ => rfl) (hh 3) (hh 4) (by rw [hh]; exact m5) (by rw [hh]; exact m6) (hh 7) (hh 8) ho ?_ ht
                rw [hcut, up2_s, up2_s]
                simp [CM, va_up, c0, c1, c2, c3, c4, c7, c8, c9, c10, c13]; exact cn
              · refine SI_row hs hi (fun _ _ _ _ => rfl) (fun _ => rfl) ht ?_ ?_ ?_ ?_ ?_
                · rw [hcut]; have := (hrow i hi).1; simpa [RF, va_up] using this
                · rw [hcut]; exact ⟨⟨p, p1, p6, by simpa [va_up] using r3, ⟨x4, hx4, by simpa [va_up] using r4⟩, ⟨x, hx, by simp [va_up]⟩⟩, by simpa [va_up] using ry, by simpa [va_up] using rk⟩
                · rw [hcut]; have := (hrow i hi).2.1; simpa [va_up] using this
                · rw [hcut]; have := (hrs i hi).2; simpa [LI, va_up] using this
                · intro d' hd'; rw [hcut]; have := hd'.2.2.2 i hi; simpa [va_up] using this
            · exact OK_err hm hs (e := -1000002) (by decide) (by rw [cls0, if_neg z0, if_pos z5, if_neg z4]) (fun W hW => by show cf_X4_doApply Y W H m _ _ = _; rw [mdl0 W hW, if_neg z0, if_pos z5, if_neg z4])
          · exact OK_err hm hs (e := -1000002) (by decide) (by rw [cls0, if_neg z0, if_neg z5]) (fun W hW => by show cf_X4_doApply Y W H m _ _ = _; rw [mdl0 W hW, if_neg z0, if_neg z5])
    · have n0 : ¬ b2 = 0 ∨ b2 = 0 := (Decidable.em _).symm
      have b0 : (decide ((0 : Int32) ≤ b2) && decide (b2 < nI (2 ^ p))) = false := by
        rcases hx with q | q
        · have : ¬ (0 : Int32) ≤ b2 := Int32.not_le.mpr q
          simp [this]
        · have : ¬ b2 < nI (2 ^ p) := Int32.not_lt.mpr q
          simp [this]
      have w0 : wi b2 1 (nI (2 ^ p - 1)) = false := by
        cases e : wi b2 1 (nI (2 ^ p - 1))
        · rfl
        · obtain ⟨j, j1, j2, rfl⟩ := wi_num (lo := 1) (by omega) (by have : 2 ^ 1 ≤ 2 ^ p := Nat.pow_le_pow_right (n := 2) (by omega) p1; omega) e
          rcases hx with q | q
          · exact absurd q (nI_pos (by omega))
          · exact absurd q (nI_ge (by omega) (by omega))
      refine OK_err hm hs (e := -1000001) (by decide) ?_ (fun W hW => by show cf_X4_doApply Y W H m _ _ = _; rw [mdl0 W hW, w0]; rfl)
      rw [cls0, b0]
      split <;> rfl
  · exact OK_err hm hs (e := -1000001) (by decide) (by rw [cf_X2_applyFor, if_pos hP.1, C_has0 hP m3 hx]; rfl) (fun W hW => by show cf_X4_doApply Y W H m _ _ = _; rw [cf_X4_doApply, if_pos (MT_k hM), M_has0 hM hN (by rw [hW]; exact ha1) hx]; rfl)
end CLS
