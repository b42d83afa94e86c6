-- the class's cells against the reference's rows
theorem up2_ss {α : Type} (V : Nat → Nat → α) (a k : Nat) (v : α) : up2 V a k v a k = v := by rw [up2_s, va_up_s]
theorem up2_sn {α : Type} (V : Nat → Nat → α) (a : Nat) {k j : Nat} (v : α) (h : j ≠ k) : up2 V a k v a j = V a j := by rw [up2_s, va_up_ne _ _ h]
theorem up2_n {α : Type} (V : Nat → Nat → α) {a b : Nat} (k : Nat) (v : α) (h : b ≠ a) : up2 V a k v b = V b := up2_o _ _ _ _ b h
def CM (cl r : Nat → Int32) : Prop := cl 0 = r 0 ∧ cl 1 = r 1 ∧ cl 2 = r 2 ∧ cl 3 = r 3 ∧ cl 4 = r 4 ∧ cl 5 = r 5 ∧ (r 5 ≠ 0 → cl 6 = r 6) ∧ cl 7 = r 7 ∧ cl 8 = r 8 ∧ cl 9 = r 12 ∧ cl 10 = r 9 ∧ cl 13 = r 11 ∧ ((cl 11 = 0 ∧ r 10 = -1) ∨ (cl 11 = 1 ∧ cl 12 = r 10 ∧ 0 ≤ r 10))
/-- flags, and that without a breach there is no age and no notice -/
def RF (r : Nat → Int32) : Prop := (r 8 = 0 ∨ r 8 = 1) ∧ (r 12 = 0 ∨ r 12 = 1) ∧ (r 8 = 0 → r 9 = 0 ∧ r 10 = -1)
/-- a permission at h: itself, three arrays, ten conditions -/
def PT (Y : mY) (G : mG) (h : Nat) : Prop := Y.1 h = 2 ∧ G h 0 = some (h + 1) ∧ G h 1 = some (h + 2) ∧ G h 2 = some (h + 3) ∧ Y.1 (h + 1) = 7 ∧ Y.2 (h + 1) = 10 ∧ Y.1 (h + 2) = 6 ∧ Y.2 (h + 2) = 5 ∧ Y.1 (h + 3) = 6 ∧ Y.2 (h + 3) = 5 ∧ ∀ i, i < 10 → G (h + 1) i = some (h + 4 + i) ∧ Y.1 (h + 4 + i) = 0
/-- the stages' days of a permission are those of the array -/
def stP (V : mV) (h : Nat) (a : Nat → Int32) : Prop := ∀ k, k < 5 → V (h + 2) k = a (6 + k) ∧ V (h + 3) k = a (11 + k)
def sb2 (V W : mV) (c h : Nat) : Prop := ∀ b, b ≠ c → b ≠ h → V b = W b
theorem CM_met {cl r : Nat → Int32} (h : CM cl r) : met cl = met r := by
  obtain ⟨h0, h1, h2, h3, h4, -, -, h7, -⟩ := h
  unfold met
  rw [h0, h2, h3, h4, h7]
section CLS
variable {Y : mY} {G : mG} {h c : Nat}
theorem C_isMet (hc : Y.1 c = 0) (W : mV) : cf_X0_isMet Y W G c = some (bi (met (W c))) := by
  rw [cf_X0_isMet, if_pos hc]
  unfold met bi
  by_cases h0 : W c 0 = 2
  · simp only [h0, if_true]
    by_cases h1 : W c 7 < W c 2
    · have : ¬ W c 2 ≤ W c 7 := Int32.not_le.mpr h1
      simp [h1, this]
    · have : W c 2 ≤ W c 7 := Int32.not_lt.mp h1
      simp [h1, this]
  · simp only [h0, if_false]
    by_cases h1 : W c 4 = ((1 : Int32) <<< (W c 3 &&& 31)) - 1 <;> simp [h1]
theorem C_end (hc : Y.1 c = 0) (W : mV) : cf_X0_endBreach Y W G c = some (va_up W c (va_up (va_up (va_up (W c) 8 0) 10 0) 11 0)) := by
  rw [cf_X0_endBreach, if_pos hc]
  simp only [up2, va_up_s, uu_]
theorem C_w5 {t : Nat} (ht : t < 5) : cf_X3_isWithin (nI t) 0 4 = some 1 := by
  rcases (show t = 0 ∨ t = 1 ∨ t = 2 ∨ t = 3 ∨ t = 4 by omega) with rfl | rfl | rfl | rfl | rfl <;> decide +kernel
theorem C_begun (hP : PT Y G h) (W : mV) {t : Nat} (ht : t < 5) : cf_X2_isBegun Y W G h (nI t) = some (if W (h + 2) t = -1 then 0 else 1) := by
  obtain ⟨k0, -, g1, -, -, -, k2, l2, -⟩ := hP
  rw [cf_X2_isBegun, C_w5 ht, Option.bind_some, if_neg (show ¬ (1 : Int32) = 0 by decide), if_pos k0, g1, Option.bind_some, if_pos k2, l2, if_pos (nx_in ht (by decide)), nI_clamp (by omega)]
  split <;> rfl
theorem C_fin (hP : PT Y G h) (W : mV) {t : Nat} (ht : t < 5) : cf_X2_isFinished Y W G h (nI t) = some (if W (h + 3) t = -1 then 0 else 1) := by
  obtain ⟨k0, -, -, g1, -, -, -, -, k2, l2, -⟩ := hP
  rw [cf_X2_isFinished, C_w5 ht, Option.bind_some, if_neg (show ¬ (1 : Int32) = 0 by decide), if_pos k0, g1, Option.bind_some, if_pos k2, l2, if_pos (nx_in ht (by decide)), nI_clamp (by omega)]
  split <;> rfl
/-- what a stage's number in a cell says -/
theorem C_bst (hP : PT Y G h) (W : mV) {a : Nat → Int32} (hst : stP W h a) {x : Int32} (hx : isSt x) : cf_X2_isBegun Y W G h x = some (bi (!decide (a (6 + x.toNatClampNeg) = -1))) ∧ cf_X2_isFinished Y W G h x = some (bi (!decide (a (11 + x.toNatClampNeg) = -1))) := by
  obtain ⟨t, ht, rfl⟩ := hx
  rw [C_begun hP W ht, C_fin hP W ht, (hst t ht).1, (hst t ht).2, nI_clamp (by omega)]
  constructor
  · by_cases e : a (6 + t) = -1 <;> simp [e, bi]
  · by_cases e : a (11 + t) = -1 <;> simp [e, bi]
theorem C_approve (hc : Y.1 c = 0) (W : mV) {r : Nat → Int32} (hr : CM (W c) r) (hf : RF r) (x : Int32) : ∃ cl, cf_X0_approve Y W G c x = some (va_up W c cl) ∧ CM cl (rappr r x) ∧ RF (rappr r x) := by
  rw [cf_X0_approve, if_pos hc]
  have e1 : up2 (up2 W c 4 (W c 4 ||| x)) c 5 0 = va_up W c (va_up (va_up (W c) 4 (W c 4 ||| x)) 5 0) := by simp only [up2, va_up_s, uu_]
  rw [e1, C_isMet hc, Option.bind_some, C_end hc, Option.bind_some, va_up_s, uu_]
  obtain ⟨h0, h1, h2, h3, h4, h5, h6, h7, h8, h9, h10, h13, hn⟩ := hr
  have hm : met (va_up (va_up (W c) 4 (W c 4 ||| x)) 5 0) = met (va_up (va_up (va_up r 4 (r 4 ||| x)) 5 0) 6 0) := by
    unfold met; simp [va_up, h0, h2, h3, h4, h7]
  rw [hm]
  obtain ⟨f8, f12, fa⟩ := hf
  unfold rappr
  dsimp only
  rcases f8 with e8 | e8
  · have c8 : W c 8 = 0 := h8.trans e8
    refine ⟨va_up (va_up (W c) 4 (W c 4 ||| x)) 5 0, by simp [va_up, c8], ?_, ?_⟩
    · simp [CM, va_up, h0, h1, h2, h3, h4, h7, h8, h9, h10, h13, e8]; simpa using hn
    · simp [RF, va_up, e8, f12]; exact fa e8
  · have c8 : W c 8 = 1 := h8.trans e8
    cases met (va_up (va_up (va_up r 4 (r 4 ||| x)) 5 0) 6 0)
    · refine ⟨va_up (va_up (W c) 4 (W c 4 ||| x)) 5 0, by simp [va_up, c8, bi], ?_, ?_⟩
      · simp [CM, va_up, h0, h1, h2, h3, h4, h7, h8, h9, h10, h13, e8]; simpa using hn
      · simp [RF, va_up, e8, f12]
    · refine ⟨va_up (va_up (va_up (va_up (va_up (W c) 4 (W c 4 ||| x)) 5 0) 8 0) 10 0) 11 0, by simp [va_up, c8, bi], ?_, ?_⟩
      · simp [CM, va_up, h0, h1, h2, h3, h4, h7, h8, h9, h10, h13, e8, rmend]
      · simp [RF, va_up, e8, f12, rmend]
end CLS

