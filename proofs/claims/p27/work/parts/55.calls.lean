-- the calls of an object: what they answer, what they leave
theorem rowop {V : mV} {h N : Nat} {a : Nat → Int32} {i : Nat} {cls : Option (Int32 × mV)} {F : rF} (q : OKF V h N a i cls F) : ∃ (V' : mV) (N' : Nat) (a' : Nat → Int32), cls = some ((F a (rc a i)).1, V') ∧ PM V' h N' a' ∧ SI N' a' ∧ sO V' V h ∧ (((F a (rc a i)).1 < -1000000 ∧ V' = V ∧ a' = a ∧ N' = N) ∨ 0 ≤ (F a (rc a i)).1) ∧ (N' = N ∧ AppR N a a' i (F a (rc a i)).2.1 (F a (rc a i)).2.2) := by
  obtain ⟨V', a', e, p, s, o, hr, ha⟩ := q
  exact ⟨V', N, a', e, p, s, o, hr.imp (fun q => ⟨q.1, q.2.1, q.2.2, rfl⟩) id, rfl, ha⟩
section CLS
variable {Y : mY} {G : mG} {x : Nat} {V : mV} {N : Nat} {a : Nat → Int32} {t : Nat} {ha : Nat → Nat → Int32}
theorem P_apply (hO : OB x Y V G N a t ha) {i : Nat} (hi : i < N) (b2 : Int32) : RES x Y V G a (fApply b2 a (rc a i)).1 (fun N' a' => N' = N ∧ AppR N a a' i (fApply b2 a (rc a i)).2.1 (fApply b2 a (rc a i)).2.2) (cf_X3_apply Y V G x (nI i) b2) := by
  have q := CHG hO (fun V G => cf_X2_applyFor Y V G (x + 1) (nI i) b2) (fun V hm => rowop (E_apply hO.1.2.2.1.1 hm hO.2.2.2 hi b2))
  obtain ⟨hX, ⟨q', -, hG, -⟩, -⟩ := id hO
  rw [hG.1, Option.bind_some, hX.1.2.1, Option.bind_some] at q
  rw [cf_X3_apply, if_pos hX.1.1, hG.1, Option.bind_some, hX.1.2.1, Option.bind_some]; exact q
theorem P_decide (hO : OB x Y V G N a t ha) {i : Nat} (hi : i < N) (b2 : Int32) : RES x Y V G a (fDecide b2 a (rc a i)).1 (fun N' a' => N' = N ∧ AppR N a a' i (fDecide b2 a (rc a i)).2.1 (fDecide b2 a (rc a i)).2.2) (cf_X3_decide Y V G x (nI i) b2) := by
  have q := CHG hO (fun V G => cf_X2_decideOn Y V G (x + 1) (nI i) b2) (fun V hm => rowop (E_decide hO.1.2.2.1.1 hm hO.2.2.2 hi b2))
  obtain ⟨hX, ⟨q', -, hG, -⟩, -⟩ := id hO
  rw [hG.1, Option.bind_some, hX.1.2.1, Option.bind_some] at q
  rw [cf_X3_decide, if_pos hX.1.1, hG.1, Option.bind_some, hX.1.2.1, Option.bind_some]; exact q
theorem P_lapse (hO : OB x Y V G N a t ha) {i : Nat} (hi : i < N) : RES x Y V G a (fLapse a (rc a i)).1 (fun N' a' => N' = N ∧ AppR N a a' i (fLapse a (rc a i)).2.1 (fLapse a (rc a i)).2.2) (cf_X3_lapse Y V G x (nI i)) := by
  have q := CHG hO (fun V G => cf_X2_lapseOf Y V G (x + 1) (nI i)) (fun V hm => rowop (E_lapse hO.1.2.2.1.1 hm hO.2.2.2 hi))
  obtain ⟨hX, ⟨q', -, hG, -⟩, -⟩ := id hO
  rw [hG.1, Option.bind_some, hX.1.2.1, Option.bind_some] at q
  rw [cf_X3_lapse, if_pos hX.1.1, hG.1, Option.bind_some, hX.1.2.1, Option.bind_some]; exact q
theorem P_cure (hO : OB x Y V G N a t ha) {i : Nat} (hi : i < N) : RES x Y V G a (fCure a (rc a i)).1 (fun N' a' => N' = N ∧ AppR N a a' i (fCure a (rc a i)).2.1 (fCure a (rc a i)).2.2) (cf_X3_cure Y V G x (nI i)) := by
  have q := CHG hO (fun V G => cf_X2_cureOf Y V G (x + 1) (nI i)) (fun V hm => rowop (E_cure hO.1.2.2.1.1 hm hO.2.2.2 hi))
  obtain ⟨hX, ⟨q', -, hG, -⟩, -⟩ := id hO
  rw [hG.1, Option.bind_some, hX.1.2.1, Option.bind_some] at q
  rw [cf_X3_cure, if_pos hX.1.1, hG.1, Option.bind_some, hX.1.2.1, Option.bind_some]; exact q
theorem P_serve (hO : OB x Y V G N a t ha) {i : Nat} (hi : i < N) (b2 : Int32) : RES x Y V G a (fServe b2 a (rc a i)).1 (fun N' a' => N' = N ∧ AppR N a a' i (fServe b2 a (rc a i)).2.1 (fServe b2 a (rc a i)).2.2) (cf_X3_serve Y V G x (nI i) b2) := by
  have q := CHG hO (fun V G => cf_X2_serveOn Y V G (x + 1) (nI i) b2) (fun V hm => rowop (E_serve hO.1.2.2.1.1 hm hO.2.2.2 hi b2))
  obtain ⟨hX, ⟨q', -, hG, -⟩, -⟩ := id hO
  rw [hG.1, Option.bind_some, hX.1.2.1, Option.bind_some] at q
  rw [cf_X3_serve, if_pos hX.1.1, hG.1, Option.bind_some, hX.1.2.1, Option.bind_some]; exact q
theorem P_vary (hO : OB x Y V G N a t ha) {i : Nat} (hi : i < N) (b2 b3 : Int32) : RES x Y V G a (fVary b2 b3 a (rc a i)).1 (fun N' a' => N' = N ∧ AppR N a a' i (fVary b2 b3 a (rc a i)).2.1 (fVary b2 b3 a (rc a i)).2.2) (cf_X3_vary Y V G x (nI i) b2 b3) := by
  have q := CHG hO (fun V G => cf_X2_varyTo Y V G (x + 1) (nI i) b2 b3) (fun V hm => rowop (E_vary hO.1.2.2.1.1 hm hO.2.2.2 hi b2 b3))
  obtain ⟨hX, ⟨q', -, hG, -⟩, -⟩ := id hO
  rw [hG.1, Option.bind_some, hX.1.2.1, Option.bind_some] at q
  rw [cf_X3_vary, if_pos hX.1.1, hG.1, Option.bind_some, hX.1.2.1, Option.bind_some]; exact q
theorem P_set (hO : OB x Y V G N a t ha) {w y : Nat} (hw : w < 2) (hy1 : 1 ≤ y) (hy : y ≤ 99) : RES x Y V G a (a (2 + w)) (fun N' a' => N' = N ∧ a' = va_up a (2 + w) (nI y)) (cf_X3_set Y V G x (nI w) (nI y)) := by
  have q := CHG hO (fun V G => cf_X2_putSetting Y V G (x + 1) (nI w) (nI y)) (r := a (2 + w)) (P := fun N' a' => N' = N ∧ a' = va_up a (2 + w) (nI y)) (fun V hm => by
    obtain ⟨V', e, p, s, o, g⟩ := E_set hO.1.2.2.1.1 hm hO.2.2.2 hw hy1 hy
    exact ⟨V', N, _, e, p, s, o, Or.inr g, rfl, rfl⟩)
  obtain ⟨hX, ⟨q', -, hG, -⟩, -⟩ := id hO
  rw [hG.1, Option.bind_some, hX.1.2.1, Option.bind_some] at q
  rw [cf_X3_set, if_pos hX.1.1, hG.1, Option.bind_some, hX.1.2.1, Option.bind_some]; exact q
theorem P_finish (hO : OB x Y V G N a t ha) {u : Nat} (hu : u < 5) : RES x Y V G a (fFin u a).1 (fun N' a' => N' = N ∧ a' = (fFin u a).2) (cf_X3_finish Y V G x (nI u)) := by
  have q := CHG hO (fun V G => cf_X2_finishStage Y V G (x + 1) (nI u)) (r := (fFin u a).1) (P := fun N' a' => N' = N ∧ a' = (fFin u a).2) (fun V hm => by
    obtain ⟨V', e, p, s, o, g⟩ := E_finish hO.1.2.2.1.1 hm hO.2.2.2 hu
    exact ⟨V', N, _, e, p, s, o, g.imp (fun q => ⟨q.1, q.2.1, q.2.2, rfl⟩) id, rfl, rfl⟩)
  obtain ⟨hX, ⟨q', -, hG, -⟩, -⟩ := id hO
  rw [hG.1, Option.bind_some, hX.1.2.1, Option.bind_some] at q
  rw [cf_X3_finish, if_pos hX.1.1, hG.1, Option.bind_some, hX.1.2.1, Option.bind_some]; exact q
theorem P_begin0 (hO : OB x Y V G N a t ha) {u : Nat} (hu : u < 5) (em : mayB a u = false) : RES x Y V G a (-1000002) (fun N' a' => N' = N ∧ a' = a) (cf_X3_begin Y V G x (nI u)) := by
  have q := CHG hO (fun V G => cf_X2_beginStage Y V G (x + 1) (nI u)) (r := -1000002) (P := fun N' a' => N' = N ∧ a' = a) (fun V hm =>
    ⟨V, N, a, E_begin0 hO.1.2.2.1.1 hm hO.2.2.2 hu em, hm, hO.2.2.2, sO_rf _ _, Or.inl ⟨by decide, rfl, rfl, rfl⟩, rfl, rfl⟩)
  obtain ⟨hX, ⟨q', -, hG, -⟩, -⟩ := id hO
  rw [hG.1, Option.bind_some, hX.1.2.1, Option.bind_some] at q
  rw [cf_X3_begin, if_pos hX.1.1, hG.1, Option.bind_some, hX.1.2.1, Option.bind_some]; exact q
theorem P_begin1 (hO : OB x Y V G N a t ha) {u : Nat} (hu : u < 5) (em : mayB a u = true) : RES x Y V G a (nI (mN (pUn a (nI u)) N)) (fun N' a' => N' = N ∧ BegP N u a a') (cf_X3_begin Y V G x (nI u)) := by
  have q := CHG hO (fun V G => cf_X2_beginStage Y V G (x + 1) (nI u)) (r := nI (mN (pUn a (nI u)) N)) (P := fun N' a' => N' = N ∧ BegP N u a a') (fun V hm => by
    obtain ⟨V', a', e, p, s, o, b⟩ := E_begin1 hO.1.2.2.1.1 hm hO.2.2.2 hu em
    have lt := mN_1024 (pUn a (nI u)) hO.2.2.2.1.1
    exact ⟨V', N, a', e, p, s, o, Or.inr (nI_pos' (by omega)), rfl, b⟩)
  obtain ⟨hX, ⟨q', -, hG, -⟩, -⟩ := id hO
  rw [hG.1, Option.bind_some, hX.1.2.1, Option.bind_some] at q
  rw [cf_X3_begin, if_pos hX.1.1, hG.1, Option.bind_some, hX.1.2.1, Option.bind_some]; exact q
theorem P_pass (hO : OB x Y V G N a t ha) {D d : Nat} (hD1 : 1 ≤ D) (hD : D ≤ 400) (hd : DY N a d) (g : d + D ≤ 9999) : RES x Y V G a (nI (d + D)) (fun N' a' => N' = N ∧ a' = dN N D a ∧ DY N a' (d + D)) (cf_X3_pass Y V G x (nI D)) := by
  have q := CHG hO (fun V G => cf_X2_passDays Y V G (x + 1) (nI D)) (r := nI (d + D)) (P := fun N' a' => N' = N ∧ a' = dN N D a ∧ DY N a' (d + D)) (fun V hm => by
    obtain ⟨V', e, p, s, dd, o⟩ := E_pass hO.1.2.2.1.1 hm hO.2.2.2 hD1 hD hd g
    exact ⟨V', N, _, e, p, s, o, Or.inr (nI_pos' (by omega)), rfl, rfl, dd⟩)
  obtain ⟨hX, ⟨q', -, hG, -⟩, -⟩ := id hO
  rw [hG.1, Option.bind_some, hX.1.2.1, Option.bind_some] at q
  rw [cf_X3_pass, if_pos hX.1.1, hG.1, Option.bind_some, hX.1.2.1, Option.bind_some]; exact q
theorem P_cond (hO : OB x Y V G N a t ha) (hN1 : N < 10) {kd u y p : Nat} (hkd : kd ≤ 2) (hu : u < 5) (y1 : 1 ≤ y) (y6 : y ≤ 365) (p1 : 1 ≤ p) (p6 : p ≤ 6) (e : a (6 + u) = -1) : RES x Y V G a (nI N) (fun N' a' => N' = N + 1 ∧ (∀ j, j < 16 → j ≠ 1 → a' j = a j) ∧ (∀ j, j < N → rc a' j = rc a j) ∧ rc a' N = nw (nI kd) (nI u) (nI y) (nI p)) (cf_X3_condition Y V G x (nI kd) (nI u) (nI y) (nI p)) := by
  have q := CHG hO (fun V G => cf_X2_addCondition Y V G (x + 1) (nI kd) (nI u) (nI y) (nI p)) (r := nI N) (P := fun N' a' => N' = N + 1 ∧ (∀ j, j < 16 → j ≠ 1 → a' j = a j) ∧ (∀ j, j < N → rc a' j = rc a j) ∧ rc a' N = nw (nI kd) (nI u) (nI y) (nI p)) (fun V hm => by
    obtain ⟨V', a', e, p, s, o, b1, b2, b3⟩ := E_cond hO.1.2.2.1.1 hm hO.2.2.2 hN1 hkd hu y1 y6 p1 p6 e
    exact ⟨V', N + 1, a', e, p, s, o, Or.inr (nI_pos' (by omega)), rfl, b1, b2, b3⟩)
  obtain ⟨hX, ⟨q', -, hG, -⟩, -⟩ := id hO
  rw [hG.1, Option.bind_some, hX.1.2.1, Option.bind_some] at q
  rw [cf_X3_condition, if_pos hX.1.1, hG.1, Option.bind_some, hX.1.2.1, Option.bind_some]; exact q
-- reads
theorem P_conditionOf (hO : OB x Y V G N a t ha) {i : Nat} (hi : i < N) (b2 : Int32) : cf_X3_conditionOf Y V G x (nI i) b2 = some (cO a (rc a i) b2) := by
  obtain ⟨⟨⟨a0, a1, a2, a3, a4⟩, -, ⟨c1, -, -⟩, -, -⟩, -, hm, hs'⟩ := hO
  obtain ⟨hN, ha1, hrow⟩ := id hs'.1
  obtain ⟨m3, m4, m5, m6, m7, m8, mst, mc⟩ := id hm
  obtain ⟨g0, k1, i1, g1, ki⟩ := P_cell c1 (show i < 10 by omega)
  have hc := mc i hi
  obtain ⟨d0, d1, d2, d3, d4, d5, d6, d7, d8, d9, d10, d13, cn⟩ := id hc
  have n11 : (if V (x + 1 + 4 + i) 11 = 0 then some (-1000004 : Int32) else some (V (x + 1 + 4 + i) 12)) = if rc a i 10 = -1 then some (-1000004) else some (rc a i 10) := by
    rcases cn with ⟨q, q2⟩ | ⟨q, q2, q3⟩
    · rw [if_pos q, if_pos q2]
    · rw [if_neg (by rw [q]; decide), if_neg (fun z => by rw [z] at q3; exact absurd q3 (by decide)), q2]
  have n5 : (if rc a i 5 = 0 then some (-1000004 : Int32) else some (V (x + 1 + 4 + i) 6)) = if rc a i 5 = 0 then some (-1000004) else some (rc a i 6) := by
    by_cases q : rc a i 5 = 0
    · rw [if_pos q, if_pos q]
    · rw [if_neg q, if_neg q, d6 q]
  rw [cf_X3_conditionOf, if_pos a0, a1, Option.bind_some, if_pos c1.1, C_has1 c1 hN hi m3, Option.bind_some, if_neg (by decide), g0, Option.bind_some, if_pos k1, if_pos i1, g1, Option.bind_some]
  simp only [if_pos ki, n11, n5, C_state c1 ki V mst hc (hrow i hi).1 (hrow i hi).2.1, Option.bind_some, d0, d1, d2, d3, d4, d5, d7, d8, d10, d13]
  unfold cO
  simp only [apply_ite some]
theorem P_which (hO : OB x Y V G N a t ha) {k : Nat} (hk : k < 5) : cf_X3_which Y V G x (nI k) = some (nI (mN (pSt a (nI k)) N)) := by
  obtain ⟨⟨⟨a0, a1, a2, a3, a4⟩, -, ⟨c1, -, -⟩, -, -⟩, -, hm, hs'⟩ := hO
  have ev : wi (nI k) 0 4 = true := wi_t (lo := 0) (hi := 4) (by omega) (by omega) (by omega)
  rw [cf_X3_which, C_in, ev, Option.bind_some, bi_1, if_neg (by decide), if_pos a0, a1, Option.bind_some, if_pos c1.1, C_with c1 hs'.1 hm, Option.bind_some]
theorem P_stage3 (hO : OB x Y V G N a t ha) {u : Nat} (hu : u < 5) : cf_X3_stageOf Y V G x (nI u) 3 = some (nI (mN (pUn a (nI u)) N)) := by
  obtain ⟨⟨⟨a0, a1, a2, a3, a4⟩, -, ⟨c1, -, -⟩, -, -⟩, -, hm, hs'⟩ := hO
  have ev : wi (nI u) 0 4 = true := wi_t (lo := 0) (hi := 4) (by omega) (by omega) (by omega)
  rw [cf_X3_stageOf, C_in, ev, Option.bind_some, bi_1, if_neg (show ¬ (1 : Int32) = 0 by decide), if_neg (by decide), if_neg (by decide), if_neg (by decide), if_pos rfl, if_pos a0, a1, Option.bind_some, if_pos c1.1, C_unmet c1 hs'.1 hm, Option.bind_some]
def cnt (N : Nat) (a : Nat → Int32) (k : Nat) : Int32 := if k = 0 then nI N else if k = 1 then a 0 else if k = 2 then sm (fun i => rc a i 3) N else if k = 3 then sm (fun i => bc (rc a i 4)) N else if k = 4 then a 4 else a 5
theorem P_count (hO : OB x Y V G N a t ha) {k : Nat} (hk : k < 6) : cf_X3_count Y V G x (nI k) = some (cnt N a k) := by
  obtain ⟨⟨⟨a0, a1, a2, a3, a4⟩, -, ⟨c1, -, -⟩, -, -⟩, -, hm, hs'⟩ := hO
  obtain ⟨m3, m4, m5, m6, m7, m8, mst, mc⟩ := id hm
  rcases (show k = 0 ∨ k = 1 ∨ k = 2 ∨ k = 3 ∨ k = 4 ∨ k = 5 by omega) with rfl | rfl | rfl | rfl | rfl | rfl
  · rw [cf_X3_count, if_pos (show nI 0 = 0 from rfl), if_pos a0, a1, Option.bind_some, if_pos c1.1, m3]; rfl
  · rw [cf_X3_count, if_neg (by decide), if_pos (show nI 1 = 1 from rfl), if_pos a0, a1, Option.bind_some, if_pos c1.1, m4]; rfl
  · rw [cf_X3_count, if_neg (by decide), if_neg (by decide), if_pos (show nI 2 = 2 from rfl), if_pos a0, a1, Option.bind_some, if_pos c1.1, C_parts c1 hs'.1 hm, Option.bind_some]; rfl
  · rw [cf_X3_count, if_neg (by decide), if_neg (by decide), if_neg (by decide), if_pos (show nI 3 = 3 from rfl), if_pos a0, a1, Option.bind_some, if_pos c1.1, C_appr c1 hs'.1 hm, Option.bind_some]; rfl
  · rw [cf_X3_count, if_neg (by decide), if_neg (by decide), if_neg (by decide), if_neg (by decide), if_pos (show nI 4 = 4 from rfl), if_pos a0, a1, Option.bind_some, if_pos c1.1, m5]; rfl
  · rw [cf_X3_count, if_neg (by decide), if_neg (by decide), if_neg (by decide), if_neg (by decide), if_neg (by decide), if_pos (show nI 5 = 5 from rfl), if_pos a0, a1, Option.bind_some, if_pos c1.1, m6]; rfl
set_option maxRecDepth 1000000 in
theorem fine_0 : ∀ u, u < 401 → (if (lg_cmp ((nI u).toInt64 * (nI u).toInt64) (0 : Int64)) ≤ 0 then (some ((3 : Int64) * ((nI u).toInt64 * (nI u).toInt64))) else (if ¬ ((nI u).toInt64 * (nI u).toInt64) = 0 then if (lg_cmp 3 ((9223372036854775807 : Int64) / ((nI u).toInt64 * (nI u).toInt64))) ≤ 0 then (some ((3 : Int64) * ((nI u).toInt64 * (nI u).toInt64))) else (some (-1000003 : Int64)) else none)) = some (3 * (nI u).toInt64 * (nI u).toInt64) := by decide +kernel
theorem P_fine (hO : OB x Y V G N a t ha) {i : Nat} (hi : i < N) {u : Nat} (hu : u ≤ 400) (e : rc a i 11 = nI u) : cf_X3_fine Y V G x (nI i) 3 = some (3 * (nI u).toInt64 * (nI u).toInt64) := by
  obtain ⟨⟨⟨a0, a1, a2, a3, a4⟩, -, ⟨c1, -, -⟩, -, -⟩, -, hm, hs'⟩ := hO
  obtain ⟨hN, ha1, hrow⟩ := id hs'.1
  obtain ⟨m3, m4, m5, m6, m7, m8, mst, mc⟩ := id hm
  obtain ⟨g0, k1, i1, g1, ki⟩ := P_cell c1 (show i < 10 by omega)
  obtain ⟨d0, d1, d2, d3, d4, d5, d6, d7, d8, d9, d10, d13, cn⟩ := id (mc i hi)
  rw [cf_X3_fine, if_pos a0, a1, Option.bind_some, if_pos c1.1, C_has1 c1 hN hi m3, Option.bind_some, if_neg (by decide), if_neg (by decide), if_pos (by decide), g0, Option.bind_some, if_pos k1, if_pos i1, g1, Option.bind_some, if_pos ki, d13, e]
  exact fine_0 u (by omega)
def shO (k : Int32) : Option Int32 := if (FP.fdiv (FP.i2f k) (FP.i2f (nI 5))) &&& 0x7fffffff ≤ 0x7f800000 then (cf_X3_bitsOf (FP.fdiv (FP.i2f k) (FP.i2f (nI 5)))).bind (fun x8 => some x8) else none
set_option maxRecDepth 1000000 in
theorem shO_s : ∀ M, M < 32 → shO (bc (nI M)) ≠ none := by decide +kernel
theorem P_share (hO : OB x Y V G 5 a t ha) : cf_X3_share Y V G x = shO (bc (nI (mN (pSt a 2) 5))) := by
  obtain ⟨⟨⟨a0, a1, a2, a3, a4⟩, -, ⟨c1, -, -⟩, -, -⟩, -, hm, hs'⟩ := hO
  rw [cf_X3_share, if_pos a0, a1, Option.bind_some, if_pos c1.1, hm.1, if_pos (by decide), C_with c1 hs'.1 hm, Option.bind_some, bc_s, Option.bind_some]
  rfl
theorem OB_trial {V' : mV} (hO : OB x Y V G N a t ha) (h : ∀ b, ¬ (x + 15 ≤ b ∧ b < x + 29) → V' b = V b) : OB x Y V' G N a t ha ∧ FRm x V V' G G := by
  obtain ⟨hX, ⟨q, hq, hG, ht, h5, hH⟩, hm, hs'⟩ := hO
  refine ⟨⟨hX, ⟨q, hq, hG, ht, by rw [h x (by omega)]; exact h5, fun j hj => ?_⟩, PM_bl hs'.1.1 (fun i hi => h _ (by omega)) hm, hs'⟩, fun b hb => h b (by omega), fun _ _ => rfl⟩
  obtain ⟨N2, p2, s2⟩ := hH j hj
  exact ⟨N2, PM_bl s2.1.1 (fun i hi => h _ (by omega)) p2, s2⟩
theorem P_when (hO : OB x Y V G N a t ha) {i : Nat} (hi : i < N) {k : Nat} (hk : k < 5) : ∃ V1, cf_X3_when Y V G x (nI i) (nI k) = some (fw a (nI k) 401 0 (rc a i), V1) ∧ OB x Y V1 G N a t ha ∧ FRm x V V1 G G := by
  obtain ⟨⟨⟨a0, a1, a2, a3, a4⟩, -, ⟨c1, c2, -⟩, -, -⟩, -, hm, hs'⟩ := id hO
  obtain ⟨hN, ha1, hrow⟩ := id hs'.1
  obtain ⟨m3, m4, m5, m6, m7, m8, mst, mc⟩ := id hm
  have ev : wi (nI k) 0 4 = true := wi_t (lo := 0) (hi := 4) (by omega) (by omega) (by omega)
  obtain ⟨V1, e1, p1, o1⟩ := C_copy (g := x + 15) (h := x + 1) c2 c1 (by omega) hs'.1 hm
  obtain ⟨V2, e2, s2, -⟩ := C_until c2 hN hi (nI k) p1.1 p1.2.2.2.2.2.2.1 (p1.2.2.2.2.2.2.2 i hi) (hrow i hi).1 (hrow i hi).2 p1.2.2.2.2.1 p1.2.2.2.2.2.1
  have v2 : ∀ b, ¬ (x + 15 ≤ b ∧ b < x + 29) → V2 b = V b := fun b hb => by rw [s2 b (by omega) (by omega), o1 b (by omega)]
  exact ⟨V2, by rw [cf_X3_when, if_pos a0, a1, Option.bind_some, if_pos c1.1, C_has1 c1 hN hi m3, Option.bind_some, if_neg (by decide), C_in, ev, Option.bind_some, bi_1, if_neg (by decide), a2, Option.bind_some, if_pos c2.1, e1, Option.bind_some, e2, Option.bind_some], OB_trial hO v2⟩
theorem P_lawful0 (hO : OB x Y V G N a t ha) {u : Nat} (hu : u < 5) (em : mayB a u = false) : cf_X3_lawful Y V G x (nI u) = some (-1000002, V) := by
  obtain ⟨⟨⟨a0, a1, a2, a3, a4⟩, -, ⟨c1, c2, -⟩, -, -⟩, -, hm, hs'⟩ := id hO
  obtain ⟨m3, m4, m5, m6, m7, m8, mst, mc⟩ := id hm
  have ev : wi (nI u) 0 4 = true := wi_t (lo := 0) (hi := 4) (by omega) (by omega) (by omega)
  rw [cf_X3_lawful, C_in, ev, Option.bind_some, bi_1, if_neg (by decide), if_pos a0, a1, Option.bind_some, if_pos c1.1, C_canB c1 V mst hu, em]; rfl
theorem gd_row (hs' : SI N a) {u : Nat} (hu : u < 5) (em : mayB a u = true) : ∀ i, i < N → rc a i 0 = 0 → rc a i 1 = nI u → GD (rc a i) := by
  have un : a (6 + u) = -1 := by
    unfold mayB at em
    simp only [Bool.and_eq_true, decide_eq_true_eq] at em
    exact em.1
  intro i hi k0 k1
  have li := (hs'.2.2.2.2 i hi).2 k0
  rw [k1, nI_clamp (by omega)] at li
  exact ⟨(hs'.2.2.2.2 i hi).1, k0, fun z => li (Or.inl z) un, fun z => li (Or.inr z) un⟩
theorem gd_pUn (hs' : SI N a) {u : Nat} (hu : u < 5) (em : mayB a u = true) : ∀ i, i < N → pUn a (nI u) i = true → GD (rc a i) := by
  intro i hi q
  unfold pUn at q
  simp only [Bool.and_eq_true, decide_eq_true_eq] at q
  exact gd_row hs' hu em i hi q.1 q.2.1
theorem P_lawful1 (hO : OB x Y V G N a t ha) {u : Nat} (hu : u < 5) (em : mayB a u = true) : ∃ res V1, cf_X3_lawful Y V G x (nI u) = some (res, V1) ∧ lwR a (pUn a (nI u)) N res ∧ OB x Y V1 G N a t ha ∧ FRm x V V1 G G := by
  obtain ⟨⟨⟨a0, a1, a2, a3, a4⟩, -, ⟨c1, c2, -⟩, -, -⟩, -, hm, hs'⟩ := id hO
  obtain ⟨hN, ha1, hrow⟩ := id hs'.1
  obtain ⟨m3, m4, m5, m6, m7, m8, mst, mc⟩ := id hm
  have ev : wi (nI u) 0 4 = true := wi_t (lo := 0) (hi := 4) (by omega) (by omega) (by omega)
  obtain ⟨V1, e1, p1, o1⟩ := C_copy (g := x + 15) (h := x + 1) c2 c1 (by omega) hs'.1 hm
  obtain ⟨res, V2, e2, o2, r2⟩ := L_lp c2 hN (a := a) (p := pUn a (nI u)) (nI u) hrow (gd_pUn hs' hu em) N 0 fuB V1 0 (by omega) (fuB_gt (by omega)) p1.1 p1.2.2.2.2.2.2.1 p1.2.2.2.2.1 p1.2.2.2.2.2.1 (fun j _ hj => p1.2.2.2.2.2.2.2 j hj) (by omega) (fun j hj => absurd hj (by omega)) (fun k hk => absurd hk (by omega))
  have v2 : ∀ b, ¬ (x + 15 ≤ b ∧ b < x + 29) → V2 b = V b := fun b hb => by rw [o2 b (by omega), o1 b (by omega)]
  have e2' : cf_X2_daysUntilLawful Y V1 G (x + 15) (nI u) = some (res, V2) := by
    rw [cf_X2_daysUntilLawful, if_pos c2.1, C_unmet c2 hs'.1 p1, Option.bind_some]
    exact e2
  exact ⟨res, V2, by rw [cf_X3_lawful, C_in, ev, Option.bind_some, bi_1, if_neg (by decide), if_pos a0, a1, Option.bind_some, if_pos c1.1, C_canB c1 V mst hu, em, Option.bind_some, bi_1, if_neg (by decide), a2, Option.bind_some, if_pos c2.1, e1, Option.bind_some, e2', Option.bind_some], r2, OB_trial hO v2⟩
end CLS
