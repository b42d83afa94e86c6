-- a change of one row, as a function of the head and the row: answer, what the breaches grow by, the new row
abbrev rF : Type := (Nat → Int32) → (Nat → Int32) → Int32 × Int32 × (Nat → Int32)
def AppR (N : Nat) (a a' : Nat → Int32) (i : Nat) (D : Int32) (r' : Nat → Int32) : Prop := (∀ j, j < 16 → j ≠ 4 → a' j = a j) ∧ a' 4 = a 4 + D ∧ ∀ j, j < N → rc a' j = if j = i then r' else rc a j
def OKF (V : mV) (h N : Nat) (a : Nat → Int32) (i : Nat) (cls : Option (Int32 × mV)) (F : rF) : Prop :=
  ∃ (V' : mV) (a' : Nat → Int32), cls = some ((F a (rc a i)).1, V') ∧ PM V' h N a' ∧ SI N a' ∧ sO V' V h ∧ (((F a (rc a i)).1 < -1000000 ∧ V' = V ∧ a' = a) ∨ 0 ≤ (F a (rc a i)).1) ∧ AppR N a a' i (F a (rc a i)).2.1 (F a (rc a i)).2.2
theorem OKF_err {V : mV} {h N : Nat} {a : Nat → Int32} {i : Nat} {cls : Option (Int32 × mV)} {F : rF} (hm : PM V h N a) (hs : SI N a) {e : Int32} (he : e < -1000000) (h1 : cls = some (e, V)) (h2 : F a (rc a i) = (e, 0, rc a i)) : OKF V h N a i cls F := by
  refine ⟨V, a, by rw [h2]; exact h1, hm, hs, sO_rf _ _, Or.inl ⟨by rw [h2]; exact he, rfl, rfl⟩, fun _ _ _ => rfl, by rw [h2]; simp, fun j hj => ?_⟩
  rw [h2]
  by_cases e : j = i
  · subst e; rw [if_pos rfl]
  · rw [if_neg e]
theorem OKF_row {V V' : mV} {h N i : Nat} {a a2 r' rx : Nat → Int32} {res D : Int32} {cls : Option (Int32 × mV)} {F : rF} (hm : PM V h N a) (hs : SI N a) (hi : i < N) (e1 : cls = some (res, V')) (e2 : F a (rc a i) = (res, D, rx)) (h2 : ∀ j, j < 16 → j ≠ 4 → j ≠ 5 → a2 j = a j) (hD : a2 4 = a 4 + D) (h25 : a2 5 = a 5) (h2r : ∀ j, rc a2 j = rc a j) (hro : ro a2 i = ro a i) (h3 : V' h 3 = V h 3) (h4 : V' h 4 = V h 4) (h5 : V' h 5 = a2 4) (h6 : V' h 6 = a2 5) (h7 : V' h 7 = V h 7) (h8 : V' h 8 = V h 8) (ho : sb2 V' V (h + 4 + i) h) (hx : cut r' = rx) (ht : tl r' (ro a i)) (hc : CM (V' (h + 4 + i)) rx) (hf : RF rx) (hS : RS rx) (hk : isSt (rx 1)) (hL : LI a rx) (hg : ∀ d, DY N a d → ∃ g, g ≤ d ∧ rx 9 = nI g) (hres : 0 ≤ res) : OKF V h N a i cls F := by
  subst hx
  have hN := hs.1.1
  have ht2 : tl r' (ro a2 i) := by rw [hro]; exact ht
  refine ⟨V', so a2 i r', by rw [e2]; exact e1, PM_row hm hN hi h2 h2r h3 h4 h5 h6 h7 h8 ho hc ht2, SI_row hs hi h2 h2r ht2 hf hS hk hL hg, sO_2 (by omega) ho, Or.inr (by rw [e2]; exact hres), fun j hj j4 => ?_, ?_, fun j hj => ?_⟩
  · rw [so_h _ _ _ hj]
    by_cases j5 : j = 5
    · subst j5; exact h25
    · exact h2 j hj j4 j5
  · rw [so_h _ _ _ (by omega), hD, e2]
  · rw [rc_so ht2, h2r, e2]
def inS (x : Int32) (r : Nat → Int32) : Bool := decide (0 ≤ x) && decide (x < (1 : Int32) <<< (r 3 &&& 31))
theorem inS_p {x : Int32} {r : Nat → Int32} {p : Nat} (hp : p ≤ 6) (h3 : r 3 = nI p) : inS x r = (decide (0 ≤ x) && decide (x < nI (2 ^ p))) := by
  unfold inS; rw [h3, (psh p (by omega)).1]
theorem inS_t {x p : Nat} (hp : p ≤ 6) (hx : x < 2 ^ p) : (decide ((0 : Int32) ≤ nI x) && decide (nI x < nI (2 ^ p))) = true := by
  have hpl : 2 ^ p ≤ 64 := Nat.pow_le_pow_right (n := 2) (by omega) hp
  have u1 : (0 : Int32) ≤ nI x := nI_pos' (by omega)
  have u2 : nI x < nI (2 ^ p) := nI_lt hx (by omega)
  simp [u1, u2]
theorem inS_f {x : Int32} {p : Nat} (hx : x < 0 ∨ nI (2 ^ p) ≤ x) : (decide ((0 : Int32) ≤ x) && decide (x < nI (2 ^ p))) = false := by
  rcases hx with q | q
  · have : ¬ (0 : Int32) ≤ x := Int32.not_le.mpr q
    simp [this]
  · have : ¬ x < nI (2 ^ p) := Int32.not_lt.mpr q
    simp [this]
def fApply (x : Int32) : rF := fun a r => if x = 0 then (-1000001, 0, r) else if inS x r = true then (if r 0 = 2 then (-1000002, 0, r) else if r 5 = 0 then (if (r 4 &&& x) = 0 then (a 2, 0, va_up (va_up r 5 x) 6 0) else (-1000002, 0, r)) else (-1000002, 0, r)) else (-1000001, 0, r)
def fDecide (x : Int32) : rF := fun _ r => if inS x r = true then (if r 5 = 0 then (-1000002, 0, r) else if (x &&& (r 5 ^^^ -1)) = 0 then (r 3 - bc (r 4 ||| x), 0, rappr r x) else (-1000002, 0, r)) else (-1000001, 0, r)
def fLapse : rF := fun a r => if r 0 = 2 then (if sst a r = 1 then (r 7, 1, rbrk r) else (-1000002, 0, r)) else (-1000002, 0, r)
def fCure : rF := fun a r => if r 0 = 2 then (if sst a r = 3 then (r 9, 0, rmend r) else (-1000002, 0, r)) else (-1000002, 0, r)
def fServe (y : Int32) : rF := fun a r => if wi y 1 99 = true then (if sst a r = 3 then (r 9, 0, va_up r 10 y) else (-1000002, 0, r)) else (-1000001, 0, r)
def cv (a r : Nat → Int32) (b2 b3 : Int32) : Bool := (decide (sst a r = 0) || decide (sst a r = 1)) && (decide (r 5 = 0) && mv_ a r b2 b3)
def fVary (b2 b3 : Int32) : rF := fun a r => if vv (r 0) b2 b3 = true then (if cv a r b2 b3 = true then (if b2 = 0 then (r 2, 0, va_up r 2 b3) else if b2 = 1 then (r 3, 0, va_up r 3 b3) else (r 1, 0, va_up (va_up r 1 b3) 7 0)) else (-1000002, 0, r)) else (-1000001, 0, r)
section CLS
variable {Y : mY} {G : mG} {h : Nat}
theorem E_apply (hP : PT Y G h) {N : Nat} {V : mV} {a : Nat → Int32} (hm : PM V h N a) (hs : SI N a) {i : Nat} (hi : i < N) (b2 : Int32) : OKF V h N a i (cf_X2_applyFor Y V G h (nI i) b2) (fApply b2) := by
  obtain ⟨⟨hN, ha1, hrow⟩, ⟨d, hd⟩, ⟨s0, hs0, e0⟩, ⟨s1, hs1, e1⟩, hrs⟩ := id hs
  obtain ⟨m3, m4, m5, m6, m7, m8, mst, mc⟩ := id hm
  obtain ⟨g0, k1, i1, g1, ki⟩ := P_cell hP (show i < 10 by omega)
  obtain ⟨⟨p, p1, p6, r3, ⟨x4, hx4, r4⟩, ⟨x5, hx5, r5⟩⟩, ry, rk⟩ := (hrs i hi).1
  have hc := mc i hi
  obtain ⟨c0, c1, c2, c3, c4, c5, c6, c7, c8, c9, c10, c13, cn⟩ := id hc
  have q3 : V (h + 4 + i) 3 = nI p := c3.trans r3
  have hpl : 2 ^ p ≤ 64 := Nat.pow_le_pow_right (n := 2) (by omega) p6
  have ib : inS b2 (rc a i) = (decide (0 ≤ b2) && decide (b2 < nI (2 ^ p))) := inS_p p6 r3
  have cls0 : cf_X2_applyFor Y V G h (nI i) b2 = if b2 = 0 then some (-1000001, V) else (some (bi (decide (0 ≤ b2) && decide (b2 < nI (2 ^ p))))).bind fun x10 => if x10 = 0 then some (-1000001, V) else if rc a i 0 = 2 then some (-1000002, V) else if rc a i 5 = 0 then (if (rc a i 4 &&& b2) = 0 then some (a 2, up2 (up2 V (h + 4 + i) 5 b2) (h + 4 + i) 6 0) else some (-1000002, V)) else some (-1000002, V) := by
    rw [cf_X2_applyFor, if_pos hP.1, C_has1 hP hN hi m3, Option.bind_some, if_neg (by decide), g0, Option.bind_some, if_pos k1, if_pos i1, g1, Option.bind_some, if_pos ki, C_pset ki V p6 q3, c0, c5, c4, up2_n _ _ _ (show h ≠ h + 4 + i by omega), up2_n _ _ _ (show h ≠ h + 4 + i by omega), m7]
  rcases num_cases b2 (show 2 ^ p < 2 ^ 31 by omega) with ⟨x, hx, rfl⟩ | hx
  · by_cases x0 : x = 0
    · subst x0
      exact OKF_err hm hs (e := -1000001) (by decide) (by rw [cls0, if_pos (show nI 0 = 0 from rfl)]) (by unfold fApply; rw [if_pos (show nI 0 = 0 from rfl)])
    · have n0 : ¬ nI x = 0 := nI_ne0 (by omega) (by omega)
      have b0 := inS_t p6 hx
      rw [b0, if_neg n0, Option.bind_some, bi_1, if_neg (by decide)] at cls0
      rw [b0] at ib
      have f0 : fApply (nI x) a (rc a i) = if rc a i 0 = 2 then (-1000002, 0, rc a i) else if rc a i 5 = 0 then (if (rc a i 4 &&& nI x) = 0 then (a 2, 0, va_up (va_up (rc a i) 5 (nI x)) 6 0) else (-1000002, 0, rc a i)) else (-1000002, 0, rc a i) := by
        unfold fApply; rw [if_neg n0, if_pos ib]
      by_cases z0 : rc a i 0 = 2
      · exact OKF_err hm hs (e := -1000002) (by decide) (by rw [cls0, if_pos z0]) (by rw [f0, if_pos z0])
      · by_cases z5 : rc a i 5 = 0
        · by_cases z4 : (rc a i 4 &&& nI x) = 0
          · rw [if_neg z0, if_pos z5, if_pos z4] at cls0 f0
            have hh : ∀ k, up2 (up2 V (h + 4 + i) 5 (nI x)) (h + 4 + i) 6 0 h k = V h k := fun k => by rw [up2_n _ _ _ (show h ≠ h + 4 + i by omega), up2_n _ _ _ (show h ≠ h + 4 + i by omega)]
            refine OKF_row hm hs hi (a2 := a) (r' := va_up (va_up (ro a i) 5 (nI x)) 6 0) cls0 f0 (fun _ _ _ _ => rfl) (by simp) rfl (fun _ => rfl) rfl (hh 3) (hh 4) (by rw [hh]; exact m5) (by rw [hh]; exact m6) (hh 7) (hh 8) (fun b hb1 hb2 => by rw [up2_n _ _ _ hb1, up2_n _ _ _ hb1]) (by rw [cut_up _ (by omega), cut_up _ (by omega)]; rfl) (tl_up (tl_up (tl_rf _) (by omega) _) (by omega) _) ?_ ?_ ?_ ?_ ?_ ?_ (by rw [e0]; exact nI_pos' (by omega))
            · rw [up2_s, up2_s]
              simp [CM, va_up, c0, c1, c2, c3, c4, c7, c8, c9, c10, c13]; exact cn
            · have := (hrow i hi).1; simpa [RF, va_up] using this
            · exact ⟨⟨p, p1, p6, by simpa [va_up] using r3, ⟨x4, hx4, by simpa [va_up] using r4⟩, ⟨x, hx, by simp [va_up]⟩⟩, by simpa [va_up] using ry, by simpa [va_up] using rk⟩
            · have := (hrow i hi).2.1; simpa [va_up] using this
            · have := (hrs i hi).2; simpa [LI, va_up] using this
            · intro d' hd'; have := hd'.2.2.2 i hi; simpa [va_up] using this
          · exact OKF_err hm hs (e := -1000002) (by decide) (by rw [cls0, if_neg z0, if_pos z5, if_neg z4]) (by rw [f0, if_neg z0, if_pos z5, if_neg z4])
        · exact OKF_err hm hs (e := -1000002) (by decide) (by rw [cls0, if_neg z0, if_neg z5]) (by rw [f0, if_neg z0, if_neg z5])
  · have b0 := inS_f hx
    rw [b0] at ib
    refine OKF_err hm hs (e := -1000001) (by decide) ?_ ?_
    · rw [cls0, b0]
      split <;> rfl
    · unfold fApply
      rw [if_neg (show ¬ inS b2 (rc a i) = true by rw [ib]; decide)]
      split <;> rfl
theorem E_decide (hP : PT Y G h) {N : Nat} {V : mV} {a : Nat → Int32} (hm : PM V h N a) (hs : SI N a) {i : Nat} (hi : i < N) (b2 : Int32) : OKF V h N a i (cf_X2_decideOn Y V G h (nI i) b2) (fDecide b2) := by
  obtain ⟨⟨hN, ha1, hrow⟩, ⟨d, hd⟩, ⟨s0, hs0, e0⟩, ⟨s1, hs1, e1⟩, hrs⟩ := id hs
  obtain ⟨m3, m4, m5, m6, m7, m8, mst, mc⟩ := id hm
  obtain ⟨g0, k1, i1, g1, ki⟩ := P_cell hP (show i < 10 by omega)
  obtain ⟨⟨p, p1, p6, r3, ⟨x4, hx4, r4⟩, ⟨x5, hx5, r5⟩⟩, ry, rk⟩ := (hrs i hi).1
  have hc := mc i hi
  obtain ⟨c0, c1, c2, c3, c4, c5, c6, c7, c8, c9, c10, c13, cn⟩ := id hc
  have q3 : V (h + 4 + i) 3 = nI p := c3.trans r3
  have hpl : 2 ^ p ≤ 64 := Nat.pow_le_pow_right (n := 2) (by omega) p6
  have ib : inS b2 (rc a i) = (decide (0 ≤ b2) && decide (b2 < nI (2 ^ p))) := inS_p p6 r3
  obtain ⟨cl, ea, ca, fa⟩ := C_approve (G := G) ki V hc (hrow i hi).1 b2
  have cls0 : cf_X2_decideOn Y V G h (nI i) b2 = (some (bi (decide (0 ≤ b2) && decide (b2 < nI (2 ^ p))))).bind fun x9 => if x9 = 0 then some (-1000001, V) else if rc a i 5 = 0 then some (-1000002, V) else if (b2 &&& (rc a i 5 ^^^ -1)) = 0 then some (rc a i 3 - bc (rc a i 4 ||| b2), va_up V (h + 4 + i) cl) else some (-1000002, V) := by
    have k3 : cl 3 = rc a i 3 := by rw [ca.2.2.2.1]; show (rappr (rc a i) b2) 3 = _; unfold rappr rmend; split <;> simp [va_up]
    have k4 : cl 4 = rc a i 4 ||| b2 := by rw [ca.2.2.2.2.1]; unfold rappr rmend; split <;> simp [va_up]
    rw [cf_X2_decideOn, if_pos hP.1, C_has1 hP hN hi m3, Option.bind_some, if_neg (by decide), g0, Option.bind_some, if_pos k1, if_pos i1, g1, Option.bind_some, if_pos ki, C_pset ki V p6 q3, c5, ea, Option.bind_some, Option.bind_some, va_up_s, bc_s, Option.bind_some, k3, k4]
    rfl
  rcases num_cases b2 (show 2 ^ p < 2 ^ 31 by omega) with ⟨x, hx, rfl⟩ | hx
  · have b0 := inS_t p6 hx
    rw [b0, Option.bind_some, bi_1, if_neg (by decide)] at cls0
    rw [b0] at ib
    have f0 : fDecide (nI x) a (rc a i) = if rc a i 5 = 0 then (-1000002, 0, rc a i) else if (nI x &&& (rc a i 5 ^^^ -1)) = 0 then (rc a i 3 - bc (rc a i 4 ||| nI x), 0, rappr (rc a i) (nI x)) else (-1000002, 0, rc a i) := by
      unfold fDecide; rw [if_pos ib]
    by_cases z5 : rc a i 5 = 0
    · exact OKF_err hm hs (e := -1000002) (by decide) (by rw [cls0, if_pos z5]) (by rw [f0, if_pos z5])
    · by_cases z4 : (nI x &&& (rc a i 5 ^^^ -1)) = 0
      · rw [if_neg z5, if_pos z4] at cls0 f0
        have k4' : rc a i 4 ||| nI x = nI (x4 ||| x) := by rw [r4, nI_or]
        have ap : ∀ k, k ≠ 4 → k ≠ 5 → k ≠ 6 → k ≠ 8 → k ≠ 9 → k ≠ 10 → rappr (rc a i) (nI x) k = rc a i k := by
          intro k h4 h5 h6 h8 h9 h10; unfold rappr rmend; split <;> simp [va_up, h4, h5, h6, h8, h9, h10]
        have ap4 : rappr (rc a i) (nI x) 4 = nI (x4 ||| x) := by rw [← k4']; unfold rappr rmend; split <;> simp [va_up]
        have ap5 : rappr (rc a i) (nI x) 5 = 0 := by unfold rappr rmend; split <;> simp [va_up]
        have ap9 : rappr (rc a i) (nI x) 9 = rc a i 9 ∨ rappr (rc a i) (nI x) 9 = 0 := by unfold rappr rmend; split <;> simp [va_up]
        have ap8 : rappr (rc a i) (nI x) 8 = 1 → rc a i 8 = 1 := by unfold rappr rmend; split <;> simp [va_up]
        refine OKF_row hm hs hi (a2 := a) (r' := rappr (ro a i) (nI x)) cls0 f0 (fun _ _ _ _ => rfl) (by simp) rfl (fun _ => rfl) rfl (by rw [va_up_ne _ _ (by omega)]) (by rw [va_up_ne _ _ (by omega)]) (by rw [va_up_ne _ _ (by omega)]; exact m5) (by rw [va_up_ne _ _ (by omega)]; exact m6) (by rw [va_up_ne _ _ (by omega)]) (by rw [va_up_ne _ _ (by omega)]) (fun b hb1 _ => va_up_ne _ _ hb1) (cut_appr _ _) (tl_appr (tl_rf _) _) (by rw [va_up_s]; exact ca) fa ?_ ?_ ?_ ?_ ?_
        · exact ⟨⟨p, p1, p6, by show rappr (rc a i) (nI x) 3 = _; rw [ap 3 (by omega) (by omega) (by omega) (by omega) (by omega) (by omega)]; exact r3, ⟨x4 ||| x, Nat.or_lt_two_pow hx4 hx, ap4⟩, ⟨0, Nat.two_pow_pos _, ap5⟩⟩, by show ∃ y, y ≤ 365 ∧ rappr (rc a i) (nI x) 2 = nI y; rw [ap 2 (by omega) (by omega) (by omega) (by omega) (by omega) (by omega)]; exact ry, by show rappr (rc a i) (nI x) 0 = 2 → ∃ k, k ≤ 365 ∧ rappr (rc a i) (nI x) 7 = nI k; rw [ap 0 (by omega) (by omega) (by omega) (by omega) (by omega) (by omega), ap 7 (by omega) (by omega) (by omega) (by omega) (by omega) (by omega)]; exact rk⟩
        · show isSt (rappr (rc a i) (nI x) 1)
          rw [ap 1 (by omega) (by omega) (by omega) (by omega) (by omega) (by omega)]; exact (hrow i hi).2.1
        · show LI a (rappr (rc a i) (nI x))
          unfold LI
          rw [ap 0 (by omega) (by omega) (by omega) (by omega) (by omega) (by omega), ap 1 (by omega) (by omega) (by omega) (by omega) (by omega) (by omega), ap 12 (by omega) (by omega) (by omega) (by omega) (by omega) (by omega)]
          exact fun u0 u1 => (hrs i hi).2 u0 (u1.imp ap8 id)
        · intro d' hd'
          show ∃ g, g ≤ d' ∧ rappr (rc a i) (nI x) 9 = nI g
          rcases ap9 with q | q
          · rw [q]; exact hd'.2.2.2 i hi
          · rw [q]; exact ⟨0, by omega, rfl⟩
        · rw [k4', r3]
          exact bc_le p (by omega) _ (Nat.or_lt_two_pow hx4 hx)
      · exact OKF_err hm hs (e := -1000002) (by decide) (by rw [cls0, if_neg z5, if_neg z4]) (by rw [f0, if_neg z5, if_neg z4])
  · have b0 := inS_f hx
    rw [b0] at ib
    exact OKF_err hm hs (e := -1000001) (by decide) (by rw [cls0, b0]; rfl) (by unfold fDecide; rw [if_neg (show ¬ inS b2 (rc a i) = true by rw [ib]; decide)])
theorem E_lapse (hP : PT Y G h) {N : Nat} {V : mV} {a : Nat → Int32} (hm : PM V h N a) (hs : SI N a) {i : Nat} (hi : i < N) : OKF V h N a i (cf_X2_lapseOf Y V G h (nI i)) fLapse := by
  obtain ⟨⟨hN, ha1, hrow⟩, ⟨d, hd⟩, ⟨s0, hs0, e0⟩, ⟨s1, hs1, e1⟩, hrs⟩ := id hs
  obtain ⟨m3, m4, m5, m6, m7, m8, mst, mc⟩ := id hm
  obtain ⟨g0, k1, i1, g1, ki⟩ := P_cell hP (show i < 10 by omega)
  have hc := mc i hi
  obtain ⟨c0, c1, c2, c3, c4, c5, c6, c7, c8, c9, c10, c13, cn⟩ := id hc
  obtain ⟨f8, f12, fz⟩ := (hrow i hi).1
  rw [show cf_X2_lapseOf Y V G h (nI i) = if rc a i 0 = 2 then (if sst a (rc a i) = 1 then some (rc a i 7, up2 (up2 V (h + 4 + i) 8 1) h 5 (V h 5 + 1)) else some (-1000002, V)) else some (-1000002, V) by
    rw [cf_X2_lapseOf, if_pos hP.1, C_has1 hP hN hi m3, Option.bind_some, if_neg (by decide), g0, Option.bind_some, if_pos k1, if_pos i1, g1, Option.bind_some, if_pos ki, c0, C_state hP ki V mst hc (hrow i hi).1 (hrow i hi).2.1, Option.bind_some, cf_X2_startBreach, if_pos ki, if_pos hP.1, Option.bind_some, up2_n _ _ _ (show h + 4 + i ≠ h by omega), up2_sn _ _ _ (show 7 ≠ 8 by omega), c7, up2_n _ _ _ (show h ≠ h + 4 + i by omega)]]
  by_cases z0 : rc a i 0 = 2
  · by_cases z1 : sst a (rc a i) = 1
    · obtain ⟨n12, n8, -⟩ := sst_lt (Or.inr z1)
      have e8 : rc a i 8 = 0 := f8.resolve_right n8
      have e12 : rc a i 12 = 0 := f12.resolve_right n12
      obtain ⟨e9, e10⟩ := fz e8
      have n0 : V (h + 4 + i) 11 = 0 := by
        rcases cn with ⟨q, -⟩ | ⟨-, -, q⟩
        · exact q
        · rw [e10] at q; exact absurd q (by decide)
      obtain ⟨k, hk, rk⟩ := (hrs i hi).1.2.2 z0
      refine OKF_row hm hs hi (a2 := va_up a 4 (a 4 + 1)) (D := 1) (rx := rbrk (rc a i)) (r' := rbrk (ro a i)) (by rw [if_pos z0, if_pos z1]) (by unfold fLapse; rw [if_pos z0, if_pos z1]) (fun j _ h4 _ => va_up_ne _ _ h4) (va_up_s _ _ _) (va_up_ne _ _ (by omega)) (fun j => rc_hd _ (by omega) _ _) (ro_hd _ (by omega) _ _) (by rw [up2_sn _ _ _ (by omega), up2_n _ _ _ (by omega)]) (by rw [up2_sn _ _ _ (by omega), up2_n _ _ _ (by omega)]) (by rw [up2_ss, va_up_s, m5]) (by rw [up2_sn _ _ _ (by omega), up2_n _ _ _ (by omega), va_up_ne _ _ (by omega)]; exact m6) (by rw [up2_sn _ _ _ (by omega), up2_n _ _ _ (by omega)]) (by rw [up2_sn _ _ _ (by omega), up2_n _ _ _ (by omega)]) (fun b hb1 hb2 => by rw [up2_n _ _ _ hb2, up2_n _ _ _ hb1]) (cut_brk _) (tl_brk (tl_rf _)) ?_ ?_ ?_ ?_ ?_ ?_ (by rw [rk]; exact nI_pos' (by omega))
      · show CM _ (rbrk (rc a i))
        rw [up2_n _ _ _ (show h + 4 + i ≠ h by omega), up2_s]
        simp [CM, va_up, rbrk, c0, c1, c2, c3, c4, c5, c7, c9, c10, c13, e9, n0]; exact c6
      · show RF (rbrk (rc a i))
        simp [RF, va_up, rbrk, e12]
      · show RS (rbrk (rc a i))
        have := (hrs i hi).1; simpa [RS, va_up, rbrk] using this
      · show isSt (rbrk (rc a i) 1)
        have := (hrow i hi).2.1; simpa [va_up, rbrk] using this
      · show LI a (rbrk (rc a i))
        unfold LI
        intro q; have q : rc a i 0 = 0 := by simpa [rbrk, va_up] using q
        rw [z0] at q; exact absurd q (by decide)
      · intro d' _; exact ⟨0, by omega, by show rbrk (rc a i) 9 = _; simp [rbrk, va_up]; rfl⟩
    · exact OKF_err hm hs (e := -1000002) (by decide) (by rw [if_pos z0, if_neg z1]) (by unfold fLapse; rw [if_pos z0, if_neg z1])
  · exact OKF_err hm hs (e := -1000002) (by decide) (by rw [if_neg z0]) (by unfold fLapse; rw [if_neg z0])
theorem E_cure (hP : PT Y G h) {N : Nat} {V : mV} {a : Nat → Int32} (hm : PM V h N a) (hs : SI N a) {i : Nat} (hi : i < N) : OKF V h N a i (cf_X2_cureOf Y V G h (nI i)) fCure := by
  obtain ⟨⟨hN, ha1, hrow⟩, ⟨d, hd⟩, ⟨s0, hs0, e0⟩, ⟨s1, hs1, e1⟩, hrs⟩ := id hs
  obtain ⟨m3, m4, m5, m6, m7, m8, mst, mc⟩ := id hm
  obtain ⟨g0, k1, i1, g1, ki⟩ := P_cell hP (show i < 10 by omega)
  have hc := mc i hi
  obtain ⟨c0, c1, c2, c3, c4, c5, c6, c7, c8, c9, c10, c13, cn⟩ := id hc
  obtain ⟨f8, f12, fz⟩ := (hrow i hi).1
  rw [show cf_X2_cureOf Y V G h (nI i) = if rc a i 0 = 2 then (if sst a (rc a i) = 3 then some (rc a i 9, va_up V (h + 4 + i) (va_up (va_up (va_up (V (h + 4 + i)) 8 0) 10 0) 11 0)) else some (-1000002, V)) else some (-1000002, V) by
    rw [cf_X2_cureOf, if_pos hP.1, C_has1 hP hN hi m3, Option.bind_some, if_neg (by decide), g0, Option.bind_some, if_pos k1, if_pos i1, g1, Option.bind_some, if_pos ki, c0, C_state hP ki V mst hc (hrow i hi).1 (hrow i hi).2.1, Option.bind_some, C_end ki, Option.bind_some, c10]]
  by_cases z0 : rc a i 0 = 2
  · by_cases z1 : sst a (rc a i) = 3
    · obtain ⟨n12, e8⟩ := sst_3 z1
      obtain ⟨g, hg, eg⟩ := hd.2.2.2 i hi
      refine OKF_row hm hs hi (a2 := a) (D := 0) (rx := rmend (rc a i)) (r' := rmend (ro a i)) (by rw [if_pos z0, if_pos z1]) (by unfold fCure; rw [if_pos z0, if_pos z1]) (fun _ _ _ _ => rfl) (by simp) rfl (fun _ => rfl) rfl (by rw [va_up_ne _ _ (by omega)]) (by rw [va_up_ne _ _ (by omega)]) (by rw [va_up_ne _ _ (by omega)]; exact m5) (by rw [va_up_ne _ _ (by omega)]; exact m6) (by rw [va_up_ne _ _ (by omega)]) (by rw [va_up_ne _ _ (by omega)]) (fun b hb1 _ => va_up_ne _ _ hb1) (cut_mend _) (tl_mend (tl_rf _)) ?_ ?_ ?_ ?_ ?_ ?_ (by rw [eg]; exact nI_pos' (by have := hd.1; omega))
      · show CM _ (rmend (rc a i))
        rw [va_up_s]
        simp [CM, va_up, rmend, c0, c1, c2, c3, c4, c5, c7, c9, c13]; exact c6
      · show RF (rmend (rc a i))
        simp [RF, va_up, rmend, f12]
      · show RS (rmend (rc a i))
        have := (hrs i hi).1; simpa [RS, va_up, rmend] using this
      · show isSt (rmend (rc a i) 1)
        have := (hrow i hi).2.1; simpa [va_up, rmend] using this
      · show LI a (rmend (rc a i))
        unfold LI
        intro q; have q : rc a i 0 = 0 := by simpa [rmend, va_up] using q
        rw [z0] at q; exact absurd q (by decide)
      · intro d' _; exact ⟨0, by omega, by show rmend (rc a i) 9 = _; simp [rmend, va_up]; rfl⟩
    · exact OKF_err hm hs (e := -1000002) (by decide) (by rw [if_pos z0, if_neg z1]) (by unfold fCure; rw [if_pos z0, if_neg z1])
  · exact OKF_err hm hs (e := -1000002) (by decide) (by rw [if_neg z0]) (by unfold fCure; rw [if_neg z0])
theorem E_serve (hP : PT Y G h) {N : Nat} {V : mV} {a : Nat → Int32} (hm : PM V h N a) (hs : SI N a) {i : Nat} (hi : i < N) (b2 : Int32) : OKF V h N a i (cf_X2_serveOn Y V G h (nI i) b2) (fServe b2) := by
  obtain ⟨⟨hN, ha1, hrow⟩, ⟨d, hd⟩, ⟨s0, hs0, e0⟩, ⟨s1, hs1, e1⟩, hrs⟩ := id hs
  obtain ⟨m3, m4, m5, m6, m7, m8, mst, mc⟩ := id hm
  obtain ⟨g0, k1, i1, g1, ki⟩ := P_cell hP (show i < 10 by omega)
  have hc := mc i hi
  obtain ⟨c0, c1, c2, c3, c4, c5, c6, c7, c8, c9, c10, c13, cn⟩ := id hc
  obtain ⟨f8, f12, fz⟩ := (hrow i hi).1
  rw [show cf_X2_serveOn Y V G h (nI i) b2 = if bi (wi b2 1 99) = 0 then some (-1000001, V) else if sst a (rc a i) = 3 then some (rc a i 9, up2 (up2 V (h + 4 + i) 11 1) (h + 4 + i) 12 b2) else some (-1000002, V) by
    rw [cf_X2_serveOn, if_pos hP.1, C_has1 hP hN hi m3, Option.bind_some, if_neg (by decide), C_in, Option.bind_some, g0, Option.bind_some, if_pos k1, if_pos i1, g1, Option.bind_some, if_pos ki, C_state hP ki V mst hc (hrow i hi).1 (hrow i hi).2.1, Option.bind_some, up2_sn _ _ _ (show 10 ≠ 12 by omega), up2_sn _ _ _ (show 10 ≠ 11 by omega), c10]]
  cases ew : wi b2 1 99
  · exact OKF_err hm hs (e := -1000001) (by decide) rfl (by unfold fServe; rw [ew]; rfl)
  · obtain ⟨y, y1, y2, rfl⟩ := wi_num (lo := 1) (hi := 99) (by omega) (by omega) ew
    by_cases z1 : sst a (rc a i) = 3
    · obtain ⟨n12, e8⟩ := sst_3 z1
      obtain ⟨g, hg, eg⟩ := hd.2.2.2 i hi
      refine OKF_row hm hs hi (a2 := a) (D := 0) (r' := va_up (ro a i) 10 (nI y)) (rx := va_up (rc a i) 10 (nI y)) (by rw [bi_1, if_neg (by decide), if_pos z1]) (by unfold fServe; rw [if_pos ew, if_pos z1]) (fun _ _ _ _ => rfl) (by simp) rfl (fun _ => rfl) rfl (by rw [up2_n _ _ _ (by omega), up2_n _ _ _ (by omega)]) (by rw [up2_n _ _ _ (by omega), up2_n _ _ _ (by omega)]) (by rw [up2_n _ _ _ (by omega), up2_n _ _ _ (by omega)]; exact m5) (by rw [up2_n _ _ _ (by omega), up2_n _ _ _ (by omega)]; exact m6) (by rw [up2_n _ _ _ (by omega), up2_n _ _ _ (by omega)]) (by rw [up2_n _ _ _ (by omega), up2_n _ _ _ (by omega)]) (fun b hb1 _ => by rw [up2_n _ _ _ hb1, up2_n _ _ _ hb1]) (cut_up _ (by omega) _) (tl_up (tl_rf _) (by omega) _) ?_ ?_ ?_ ?_ ?_ ?_ (by rw [eg]; exact nI_pos' (by have := hd.1; omega))
      · rw [up2_s, up2_s]
        have ny : (0 : Int32) ≤ nI y := nI_pos' (by omega)
        simp [CM, va_up, c0, c1, c2, c3, c4, c5, c7, c8, c9, c10, c13, ny]; exact c6
      · simp [RF, va_up, f12, e8]
      · have := (hrs i hi).1; simpa [RS, va_up] using this
      · have := (hrow i hi).2.1; simpa [va_up] using this
      · have := (hrs i hi).2; simpa [LI, va_up] using this
      · intro d' hd'; have := hd'.2.2.2 i hi; simpa [va_up] using this
    · exact OKF_err hm hs (e := -1000002) (by decide) (by rw [bi_1, if_neg (by decide), if_neg z1]) (by unfold fServe; rw [if_pos ew, if_neg z1])
theorem E_vary (hP : PT Y G h) {N : Nat} {V : mV} {a : Nat → Int32} (hm : PM V h N a) (hs : SI N a) {i : Nat} (hi : i < N) (b2 b3 : Int32) : OKF V h N a i (cf_X2_varyTo Y V G h (nI i) b2 b3) (fVary b2 b3) := by
  obtain ⟨⟨hN, ha1, hrow⟩, ⟨d, hd⟩, ⟨s0, hs0, e0⟩, ⟨s1, hs1, e1⟩, hrs⟩ := id hs
  obtain ⟨m3, m4, m5, m6, m7, m8, mst, mc⟩ := id hm
  obtain ⟨g0, k1, i1, g1, ki⟩ := P_cell hP (show i < 10 by omega)
  have hc := mc i hi
  obtain ⟨c0, c1, c2, c3, c4, c5, c6, c7, c8, c9, c10, c13, cn⟩ := id hc
  obtain ⟨f8, f12, fz⟩ := (hrow i hi).1
  cases ev : vv (rc a i 0) b2 b3
  · refine OKF_err hm hs (e := -1000001) (by decide) ?_ (by unfold fVary; rw [ev]; rfl)
    rw [cf_X2_varyTo, if_pos hP.1, C_has1 hP hN hi m3, Option.bind_some, if_neg (by decide), g0, Option.bind_some, if_pos k1, if_pos i1, g1, Option.bind_some, if_pos ki, c0, C_var, ev]; rfl
  · have hb : ¬ b2 = 0 → ¬ b2 = 1 → isSt b3 := by
      intro h0 h1
      unfold vv at ev
      rw [if_neg h0, if_neg h1] at ev
      by_cases h2 : b2 = 2
      · rw [if_pos h2] at ev
        obtain ⟨t, -, ht, e⟩ := wi_num (lo := 0) (hi := 4) (by omega) (by omega) ev
        exact ⟨t, by omega, e⟩
      · rw [if_neg h2] at ev; cases ev
    cases ec : cv a (rc a i) b2 b3
    · refine OKF_err hm hs (e := -1000002) (by decide) ?_ (by unfold fVary; rw [if_pos ev, ec]; rfl)
      unfold cv at ec
      rw [cf_X2_varyTo, if_pos hP.1, C_has1 hP hN hi m3, Option.bind_some, if_neg (by decide), g0, Option.bind_some, if_pos k1, if_pos i1, g1, Option.bind_some, if_pos ki, c0, C_var, ev, Option.bind_some, bi_1, if_neg (by decide), C_can hP ki V mst hc (hrow i hi).1 (hrow i hi).2.1 hb, ec]; rfl
    · have f0 : fVary b2 b3 a (rc a i) = if b2 = 0 then (rc a i 2, 0, va_up (rc a i) 2 b3) else if b2 = 1 then (rc a i 3, 0, va_up (rc a i) 3 b3) else (rc a i 1, 0, va_up (va_up (rc a i) 1 b3) 7 0) := by
        unfold fVary; rw [if_pos ev, if_pos ec]
      unfold cv at ec
      simp only [Bool.and_eq_true, Bool.or_eq_true, decide_eq_true_eq] at ec
      obtain ⟨sl, z5, em⟩ := ec
      obtain ⟨n12, n8, nm⟩ := sst_lt sl
      have e8 : rc a i 8 = 0 := f8.resolve_right n8
      have e12 : rc a i 12 = 0 := f12.resolve_right n12
      have clsE : cf_X2_varyTo Y V G h (nI i) b2 b3 = if b2 = 0 then some (rc a i 2, up2 V (h + 4 + i) 2 b3) else if b2 = 1 then some (rc a i 3, up2 V (h + 4 + i) 3 b3) else some (rc a i 1, up2 (up2 V (h + 4 + i) 1 b3) (h + 4 + i) 7 0) := by
        rw [cf_X2_varyTo, if_pos hP.1, C_has1 hP hN hi m3, Option.bind_some, if_neg (by decide), g0, Option.bind_some, if_pos k1, if_pos i1, g1, Option.bind_some, if_pos ki, c0, C_var, ev, Option.bind_some, bi_1, if_neg (by decide), C_can hP ki V mst hc (hrow i hi).1 (hrow i hi).2.1 hb, show ((decide (sst a (rc a i) = 0) || decide (sst a (rc a i) = 1)) && (decide (rc a i 5 = 0) && mv_ a (rc a i) b2 b3)) = true by simp [sl, z5, em], Option.bind_some, bi_1, if_neg (by decide), c1, c2, c3]
      obtain ⟨⟨p, p1, p6, r3, ⟨x4, hx4, r4⟩, ⟨x5, hx5, r5⟩⟩, ⟨y, hy, ry⟩, rk⟩ := (hrs i hi).1
      by_cases h0 : b2 = 0
      · have ev0 : wi b3 (if rc a i 0 = 2 then 1 else 0) 365 = true := by unfold vv at ev; rwa [if_pos h0] at ev
        have hy3 : ∃ y3, y3 ≤ 365 ∧ b3 = nI y3 := by
          by_cases k : rc a i 0 = 2
          · rw [if_pos k] at ev0
            obtain ⟨q, -, q2, e⟩ := wi_num (lo := 1) (hi := 365) (by omega) (by omega) ev0
            exact ⟨q, q2, e⟩
          · rw [if_neg k] at ev0
            obtain ⟨q, -, q2, e⟩ := wi_num (lo := 0) (hi := 365) (by omega) (by omega) ev0
            exact ⟨q, q2, e⟩
        refine OKF_row hm hs hi (a2 := a) (D := 0) (r' := va_up (ro a i) 2 b3) (rx := va_up (rc a i) 2 b3) (by rw [clsE, if_pos h0]) (by rw [f0, if_pos h0]) (fun _ _ _ _ => rfl) (by simp) rfl (fun _ => rfl) rfl (by rw [up2_n _ _ _ (by omega)]) (by rw [up2_n _ _ _ (by omega)]) (by rw [up2_n _ _ _ (by omega)]; exact m5) (by rw [up2_n _ _ _ (by omega)]; exact m6) (by rw [up2_n _ _ _ (by omega)]) (by rw [up2_n _ _ _ (by omega)]) (fun b hb1 _ => up2_n _ _ _ hb1) (cut_up _ (by omega) _) (tl_up (tl_rf _) (by omega) _) ?_ ?_ ?_ ?_ ?_ ?_ (by rw [ry]; exact nI_pos' (by omega))
        · rw [up2_s]; simp [CM, va_up, c0, c1, c3, c4, c5, c7, c8, c9, c10, c13]; exact ⟨c6, cn⟩
        · have := (hrow i hi).1; simpa [RF, va_up] using this
        · exact ⟨⟨p, p1, p6, by simpa [va_up] using r3, ⟨x4, hx4, by simpa [va_up] using r4⟩, ⟨x5, hx5, by simpa [va_up] using r5⟩⟩, by simpa [va_up] using hy3, by simpa [va_up] using rk⟩
        · have := (hrow i hi).2.1; simpa [va_up] using this
        · have := (hrs i hi).2; simpa [LI, va_up] using this
        · intro d' hd'; have := hd'.2.2.2 i hi; simpa [va_up] using this
      · by_cases h1 : b2 = 1
        · have ev0 : wi b3 1 6 = true := by unfold vv at ev; rwa [if_neg h0, if_pos h1] at ev
          obtain ⟨q, q1, q6, e⟩ := wi_num (lo := 1) (hi := 6) (by omega) (by omega) ev0
          have lt : p < q := by
            unfold mv_ at em
            rw [if_neg h0, if_pos h1, r3, e] at em
            exact (nI_ltI (by omega) (by omega)).mp (of_decide_eq_true em)
          have pw : 2 ^ p ≤ 2 ^ q := Nat.pow_le_pow_right (n := 2) (by omega) (by omega)
          refine OKF_row hm hs hi (a2 := a) (D := 0) (r' := va_up (ro a i) 3 b3) (rx := va_up (rc a i) 3 b3) (by rw [clsE, if_neg h0, if_pos h1]) (by rw [f0, if_neg h0, if_pos h1]) (fun _ _ _ _ => rfl) (by simp) rfl (fun _ => rfl) rfl (by rw [up2_n _ _ _ (by omega)]) (by rw [up2_n _ _ _ (by omega)]) (by rw [up2_n _ _ _ (by omega)]; exact m5) (by rw [up2_n _ _ _ (by omega)]; exact m6) (by rw [up2_n _ _ _ (by omega)]) (by rw [up2_n _ _ _ (by omega)]) (fun b hb1 _ => up2_n _ _ _ hb1) (cut_up _ (by omega) _) (tl_up (tl_rf _) (by omega) _) ?_ ?_ ?_ ?_ ?_ ?_ (by rw [r3]; exact nI_pos' (by omega))
          · rw [up2_s]; simp [CM, va_up, c0, c1, c2, c4, c5, c7, c8, c9, c10, c13]; exact ⟨c6, cn⟩
          · have := (hrow i hi).1; simpa [RF, va_up] using this
          · exact ⟨⟨q, q1, q6, by simpa [va_up] using e, ⟨x4, by omega, by simpa [va_up] using r4⟩, ⟨x5, by omega, by simpa [va_up] using r5⟩⟩, ⟨y, hy, by simpa [va_up] using ry⟩, by simpa [va_up] using rk⟩
          · have := (hrow i hi).2.1; simpa [va_up] using this
          · have := (hrs i hi).2; simpa [LI, va_up] using this
          · intro d' hd'; have := hd'.2.2.2 i hi; simpa [va_up] using this
        · obtain ⟨t, ht, rt⟩ := (hrow i hi).2.1
          have hb3 := hb h0 h1
          refine OKF_row hm hs hi (a2 := a) (D := 0) (r' := va_up (va_up (ro a i) 1 b3) 7 0) (rx := va_up (va_up (rc a i) 1 b3) 7 0) (by rw [clsE, if_neg h0, if_neg h1]) (by rw [f0, if_neg h0, if_neg h1]) (fun _ _ _ _ => rfl) (by simp) rfl (fun _ => rfl) rfl (by rw [up2_n _ _ _ (by omega), up2_n _ _ _ (by omega)]) (by rw [up2_n _ _ _ (by omega), up2_n _ _ _ (by omega)]) (by rw [up2_n _ _ _ (by omega), up2_n _ _ _ (by omega)]; exact m5) (by rw [up2_n _ _ _ (by omega), up2_n _ _ _ (by omega)]; exact m6) (by rw [up2_n _ _ _ (by omega), up2_n _ _ _ (by omega)]) (by rw [up2_n _ _ _ (by omega), up2_n _ _ _ (by omega)]) (fun b hb1 _ => by rw [up2_n _ _ _ hb1, up2_n _ _ _ hb1]) (by rw [cut_up _ (by omega), cut_up _ (by omega)]; rfl) (tl_up (tl_up (tl_rf _) (by omega) _) (by omega) _) ?_ ?_ ?_ ?_ ?_ ?_ (by rw [show rc a i 1 = nI t from rt]; exact nI_pos' (by omega))
          · rw [up2_s, up2_s]; simp [CM, va_up, c0, c2, c3, c4, c5, c8, c9, c10, c13]; exact ⟨c6, cn⟩
          · have := (hrow i hi).1; simpa [RF, va_up] using this
          · exact ⟨⟨p, p1, p6, by simpa [va_up] using r3, ⟨x4, hx4, by simpa [va_up] using r4⟩, ⟨x5, hx5, by simpa [va_up] using r5⟩⟩, ⟨y, hy, by simpa [va_up] using ry⟩, fun _ => ⟨0, by omega, by simp [va_up]; rfl⟩⟩
          · simpa [va_up] using hb3
          · unfold LI
            intro _ q
            simp [va_up, e8, e12] at q
          · intro d' hd'; have := hd'.2.2.2 i hi; simpa [va_up] using this
end CLS
