-- vary, set, finish
def vv (kd b2 b3 : Int32) : Bool := if b2 = 0 then wi b3 (if kd = 2 then 1 else 0) 365 else if b2 = 1 then wi b3 1 6 else if b2 = 2 then wi b3 0 4 else false
def mv_ (a r : Nat → Int32) (b2 b3 : Int32) : Bool := if b2 = 0 then (if r 0 = 2 then decide (r 7 < b3) else decide (r 7 ≤ b3)) else if b2 = 1 then decide (r 3 < b3) else decide (a (6 + b3.toNatClampNeg) = -1)
theorem sst_v (a r : Nat → Int32) : sst a r = 0 ∨ sst a r = 1 ∨ sst a r = 2 ∨ sst a r = 3 ∨ sst a r = 4 := by
  unfold sst
  by_cases h12 : r 12 = 1
  · simp [h12]
  · by_cases h8 : r 8 = 1
    · simp [h12, h8]
    · cases met r <;> cases slp a r <;> simp [h12, h8]
theorem C_var (kd b2 b3 : Int32) : cf_X2_isVariation kd b2 b3 = some (bi (vv kd b2 b3)) := by
  rw [cf_X2_isVariation, cf_X2_leastDays]
  unfold vv
  by_cases h0 : b2 = 0
  · rw [if_pos h0, if_pos h0]
    by_cases k : kd = 2
    · rw [if_pos k, if_pos k, Option.bind_some, C_in, Option.bind_some, if_pos (bi_or _)]
    · rw [if_neg k, if_neg k, Option.bind_some, C_in, Option.bind_some, if_pos (bi_or _)]
  · rw [if_neg h0, if_neg h0]
    by_cases h1 : b2 = 1
    · rw [if_pos h1, if_pos h1, C_in, Option.bind_some, if_pos (bi_or _)]
    · rw [if_neg h1, if_neg h1]
      by_cases h2 : b2 = 2
      · rw [if_pos h2, if_pos h2, C_in, Option.bind_some, if_pos (bi_or _)]
      · rw [if_neg h2, if_neg h2]; rfl
section CLS
variable {Y : mY} {G H : mG} {h m : Nat}
theorem bi_d (c : Prop) [Decidable c] : (if c then some (1 : Int32) else some 0) = some (bi (decide c)) := by by_cases h : c <;> simp [h, bi]
theorem bi_n (c : Prop) [Decidable c] : (if c then some (0 : Int32) else some 1) = some (bi (!decide c)) := by by_cases h : c <;> simp [h, bi]
theorem C_can (hP : PT Y G h) {c : Nat} (hc : Y.1 c = 0) (V : mV) {a r : Nat → Int32} (hst : stP V h a) (hr : CM (V c) r) (hf : RF r) (hs : isSt (r 1)) {b2 b3 : Int32} (hb : ¬ b2 = 0 → ¬ b2 = 1 → isSt b3) : cf_X2_canVary Y V G h c b2 b3 = some (bi ((decide (sst a r = 0) || decide (sst a r = 1)) && (decide (r 5 = 0) && mv_ a r b2 b3))) := by
  obtain ⟨c0, c1, c2, c3, c4, c5, c6, c7, c8, c9, c10, c13, cn⟩ := id hr
  have core : (if Y.1 c = 0 then if V c 5 = 0 then (if b2 = 0 then (if V c 0 = 2 then (if b3 ≤ V c 7 then some 0 else some 1) else (if b3 < V c 7 then some 0 else some 1)) else (if b2 = 1 then (if b3 ≤ V c 3 then some 0 else some 1) else ((cf_X2_isBegun Y V G h b3).bind (fun x12 => if x12 = 0 then some 1 else some 0)))) else some 0 else none) = some (bi (decide (r 5 = 0) && mv_ a r b2 b3)) := by
    rw [if_pos hc, c5, c0, c7, c3]
    unfold mv_
    by_cases z5 : r 5 = 0
    · rw [if_pos z5]
      by_cases h0 : b2 = 0
      · rw [if_pos h0, if_pos h0]
        by_cases k : r 0 = 2
        · rw [if_pos k, if_pos k]
          by_cases q : b3 ≤ r 7
          · have : ¬ r 7 < b3 := Int32.not_lt.mpr q
            simp [q, z5, this, bi]
          · have : r 7 < b3 := Int32.not_le.mp q
            simp [q, z5, this, bi]
        · rw [if_neg k, if_neg k]
          by_cases q : b3 < r 7
          · have : ¬ r 7 ≤ b3 := Int32.not_le.mpr q
            simp [q, z5, this, bi]
          · have : r 7 ≤ b3 := Int32.not_lt.mp q
            simp [q, z5, this, bi]
      · rw [if_neg h0, if_neg h0]
        by_cases h1 : b2 = 1
        · rw [if_pos h1, if_pos h1]
          by_cases q : b3 ≤ r 3
          · have : ¬ r 3 < b3 := Int32.not_lt.mpr q
            simp [q, z5, this, bi]
          · have : r 3 < b3 := Int32.not_le.mp q
            simp [q, z5, this, bi]
        · rw [if_neg h1, if_neg h1, (C_bst hP V hst (hb h0 h1)).1, Option.bind_some]
          by_cases q : a (6 + b3.toNatClampNeg) = -1 <;> simp [q, z5, bi]
    · rw [if_neg z5]; simp [z5, bi]
  rw [cf_X2_canVary, if_pos hP.1, C_state hP hc V hst hr hf hs, Option.bind_some, core]
  by_cases s0 : sst a r = 0
  · rw [if_pos s0]; simp [s0]
  · rw [if_neg s0]
    by_cases s1 : sst a r = 1
    · rw [if_pos s1]; simp [s1]
    · rw [if_neg s1]; simp [s0, s1, bi]
end CLS

