-- the reference's methods of one row
def met (r : Nat → Int32) : Bool := if r 0 = 2 then decide (r 2 ≤ r 7) else decide (r 4 = ((1 : Int32) <<< (r 3 &&& 31)) - 1)
def slp (a r : Nat → Int32) : Bool := (decide (r 0 = 1) && decide (a (6 + (r 1).toNatClampNeg) = -1)) || (decide (r 0 = 2) && decide (a (11 + (r 1).toNatClampNeg) = -1))
def sst (a r : Nat → Int32) : Int32 := if r 12 = 1 then 4 else if r 8 = 1 then 3 else if met r then 2 else if slp a r then 0 else 1
def rmend (r : Nat → Int32) : Nat → Int32 := va_up (va_up (va_up r 8 0) 9 0) 10 (-1)
def rbrk (r : Nat → Int32) : Nat → Int32 := va_up (va_up (va_up r 8 1) 9 0) 10 (-1)
def rappr (r : Nat → Int32) (x : Int32) : Nat → Int32 :=
  let r1 := va_up (va_up (va_up r 4 (r 4 ||| x)) 5 0) 6 0
  if met r1 && decide (r1 8 = 1) then rmend r1 else r1
/-- a stage's number -/
def isSt (x : Int32) : Prop := ∃ t, t < 5 ∧ x = nI t
section MOD
variable {Y : mY} {G : mG} {m : Nat} {i : Nat}
theorem M_isMet (hM : MT Y G m) (hi : i < 10) (V : mV) : cf_X4_isMet Y V G m (nI i) = some (bi (met (ro (V (m + 1)) i))) := by
  rw [cf_X4_isMet, if_pos (MT_k hM), M_g0 hM hi, Option.bind_some, M_g7 hM hi, M_g2 hM hi, M_g4 hM hi, cf_X4_allParts, if_pos (MT_k hM), M_g3 hM hi]
  simp only [Option.bind_some]
  generalize ro (V (m + 1)) i = r
  unfold met bi
  by_cases h0 : r 0 = 2
  · simp only [h0, if_true]
    by_cases h1 : r 7 < r 2
    · have : ¬ r 2 ≤ r 7 := Int32.not_le.mpr h1
      simp [h1, this]
    · have : r 2 ≤ r 7 := Int32.not_lt.mp h1
      simp [h1, this]
  · simp only [h0, if_false]
    by_cases h1 : r 4 = ((1 : Int32) <<< (r 3 &&& 31)) - 1 <;> simp [h1]
theorem M_begun (hM : MT Y G m) (V : mV) {t : Nat} (ht : t < 5) : cf_X4_hasBegun Y V G m (nI t) = some (if V (m + 1) (6 + t) = -1 then 0 else 1) := by
  have hix : (6 : Int32) + nI t = nI (6 + t) := by rw [show (6 : Int32) = nI 6 from rfl, nI_add]
  rw [cf_X4_hasBegun, if_pos (MT_k hM), MT_g hM, Option.bind_some, if_pos (MT_k1 hM), hix, if_pos (ix_h (by omega) (MT_l1 hM)), nI_clamp (by omega)]
  split <;> rfl
theorem M_fin (hM : MT Y G m) (V : mV) {t : Nat} (ht : t < 5) : cf_X4_isFinished Y V G m (nI t) = some (if V (m + 1) (11 + t) = -1 then 0 else 1) := by
  have hix : (11 : Int32) + nI t = nI (11 + t) := by rw [show (11 : Int32) = nI 11 from rfl, nI_add]
  rw [cf_X4_isFinished, if_pos (MT_k hM), MT_g hM, Option.bind_some, if_pos (MT_k1 hM), hix, if_pos (ix_h (by omega) (MT_l1 hM)), nI_clamp (by omega)]
  split <;> rfl
theorem M_asleep (hM : MT Y G m) (hi : i < 10) (V : mV) (hs : isSt (ro (V (m + 1)) i 1)) : cf_X4_isAsleep Y V G m (nI i) = some (bi (slp (V (m + 1)) (ro (V (m + 1)) i))) := by
  rw [cf_X4_isAsleep, if_pos (MT_k hM), M_g0 hM hi, Option.bind_some, M_g1 hM hi, Option.bind_some]
  obtain ⟨t, ht, hs⟩ := hs
  rw [hs, M_begun hM V ht, M_fin hM V ht]
  simp only [Option.bind_some, slp, hs, nI_clamp (show t < 2 ^ 31 by omega)]
  generalize ro (V (m + 1)) i = r
  by_cases h1 : r 0 = 1
  · have h2 : ¬ r 0 = 2 := by rw [h1]; decide
    by_cases h3 : V (m + 1) (6 + t) = -1 <;> simp [h1, h3, bi]
  · by_cases h2 : r 0 = 2
    · by_cases h3 : V (m + 1) (11 + t) = -1 <;> simp [h2, h3, bi]
    · simp [h1, h2, bi]
theorem M_state (hM : MT Y G m) (hi : i < 10) (V : mV) (hs : isSt (ro (V (m + 1)) i 1)) : cf_X4_stateOf Y V G m (nI i) = some (sst (V (m + 1)) (ro (V (m + 1)) i)) := by
  rw [cf_X4_stateOf, if_pos (MT_k hM), M_g12 hM hi, Option.bind_some, M_g8 hM hi, Option.bind_some, M_isMet hM hi, Option.bind_some, M_asleep hM hi V hs, Option.bind_some]
  generalize ro (V (m + 1)) i = r
  unfold sst
  by_cases h1 : r 12 = 1 <;> simp only [h1, if_true, if_false]
  by_cases h2 : r 8 = 1 <;> simp only [h2, if_true, if_false]
  cases met r <;> simp only [bi, if_true, if_false, Bool.false_eq_true] <;> cases slp (V (m + 1)) r <;> simp
theorem M_mends (hM : MT Y G m) (hi : i < 10) (V : mV) : cf_X4_mends Y V G m (nI i) = some (va_up V (m + 1) (so (V (m + 1)) i (rmend (ro (V (m + 1)) i)))) := by
  rw [cf_X4_mends, if_pos (MT_k hM), M_p8 hM hi, Option.bind_some, M_p9 hM hi, Option.bind_some, M_p10 hM hi, Option.bind_some]
  simp only [va_up_s, uu_, ro_so, so_so, rmend]
theorem M_breaks (hM : MT Y G m) (hi : i < 10) (V : mV) : cf_X4_breaks Y V G m (nI i) = some (va_up V (m + 1) (so (va_up (V (m + 1)) 4 (V (m + 1) 4 + 1)) i (rbrk (ro (V (m + 1)) i)))) := by
  rw [cf_X4_breaks, if_pos (MT_k hM), M_p8 hM hi, Option.bind_some, M_p9 hM hi, Option.bind_some, M_p10 hM hi, Option.bind_some, MT_g hM, Option.bind_some, if_pos (MT_k1 hM), if_pos (MT_i4 hM), if_pos (MT_i4 hM)]
  simp only [va_up_s, uu_, ro_so, so_so, rbrk, up2, tn_4, so_h _ _ _ (show 4 < 16 by omega), so_uh _ _ _ _ (show 4 < 16 by omega)]
theorem M_approves (hM : MT Y G m) (hi : i < 10) (V : mV) (x : Int32) : cf_X4_approves Y V G m (nI i) x = some (va_up V (m + 1) (so (V (m + 1)) i (rappr (ro (V (m + 1)) i) x))) := by
  rw [cf_X4_approves, if_pos (MT_k hM), M_g4 hM hi, Option.bind_some, M_p4 hM hi, Option.bind_some, M_p5 hM hi, Option.bind_some, M_p6 hM hi, Option.bind_some, M_isMet hM hi, Option.bind_some, M_g8 hM hi, Option.bind_some, M_mends hM hi, Option.bind_some]
  simp only [va_up_s, uu_, ro_so, so_so, rappr]
  generalize va_up (va_up (va_up (ro (V (m + 1)) i) 4 (ro (V (m + 1)) i 4 ||| x)) 5 0) 6 0 = r
  cases met r
  · simp [bi]
  · by_cases h : r 8 = 1 <;> simp [bi, h]
end MOD
