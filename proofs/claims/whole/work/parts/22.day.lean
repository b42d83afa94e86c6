-- the reference's day, a row at a time
def bc (x : Int32) : Int32 := (cf_J6_bitCount_0f7a4 x).getD 0
theorem bc_s (x : Int32) : cf_J6_bitCount_0f7a4 x = some (bc x) := by unfold bc; rw [cf_J6_bitCount_0f7a4]; rfl
set_option maxRecDepth 100000 in
theorem M_bits0 : ∀ n, n < 1024 → cf_X4_bits (nI n) = cf_J6_bitCount_0f7a4 (nI n) := by decide +kernel
theorem M_bits {n : Nat} (h : n < 1024) : cf_X4_bits (nI n) = some (bc (nI n)) := by rw [M_bits0 n h, bc_s]
def rwait (s0 : Int32) (r : Nat → Int32) : Nat → Int32 :=
  if r 5 = 0 then r else if r 6 + 1 < s0 then va_up r 6 (r 6 + 1) else rappr (va_up r 6 (r 6 + 1)) (r 5)
def wInc (s0 : Int32) (r : Nat → Int32) : Int32 := if r 5 = 0 then 0 else if r 6 + 1 < s0 then 0 else bc (r 5)
def runs (a r : Nat → Int32) : Bool := decide (sst a r = 1) && (decide (r 0 = 2) || (decide (r 0 = 1) && decide (r 5 = 0)))
def rbr (a r : Nat → Int32) : Bool := runs a r && (decide (r 0 = 1) && decide (r 2 < r 7 + 1))
def rrun (a r : Nat → Int32) : Nat → Int32 := if rbr a r then rbrk (va_up r 7 (r 7 + 1)) else if runs a r then va_up r 7 (r 7 + 1) else r
def rage (s1 : Int32) (r : Nat → Int32) : Nat → Int32 :=
  let r1 := va_up r 9 (r 9 + 1)
  if 0 < r 10 then va_up r1 10 (r 10 - 1) else if r 10 = 0 then va_up r1 11 (r 11 + 1) else if r 9 + 1 < s1 then r1 else va_up (rmend r1) 12 1
/-- parts' sets: of six parts at most -/
def is64 (x : Int32) : Prop := ∃ n, n < 64 ∧ x = nI n
section MOD
variable {Y : mY} {G : mG} {m : Nat} {i : Nat}
theorem M_waits (hM : MT Y G m) (hi : i < 10) (V : mV) (h5 : is64 (ro (V (m + 1)) i 5)) : cf_X4_waitsOn Y V G m (nI i) = some (va_up V (m + 1) (so (va_up (V (m + 1)) 5 (V (m + 1) 5 + wInc (V (m + 1) 2) (ro (V (m + 1)) i))) i (rwait (V (m + 1) 2) (ro (V (m + 1)) i)))) := by
  rw [cf_X4_waitsOn, if_pos (MT_k hM), M_g5 hM hi, Option.bind_some, M_g6 hM hi, Option.bind_some, M_p6 hM hi, Option.bind_some, M_g6 hM hi, Option.bind_some, MT_g hM, Option.bind_some, if_pos (MT_k1 hM), if_pos (MT_i2 hM), if_pos (MT_i5 hM)]
  simp only [M_g5 hM hi, Option.bind_some, M_approves hM hi, MT_i5 hM, not_false_eq_true, if_true]
  simp only [va_up_s, uu_, ro_so, so_so, up2, tn_2, tn_5, so_h _ _ _ (show 2 < 16 by omega), so_h _ _ _ (show 5 < 16 by omega), so_uh _ _ _ _ (show 5 < 16 by omega), un_ _ _ (show 5 ≠ 6 by omega)]
  obtain ⟨w, hw, h5⟩ := h5
  rw [h5, M_bits (by omega), Option.bind_some]
  unfold wInc rwait
  rw [← h5]
  by_cases h0 : ro (V (m + 1)) i 5 = 0
  · simp only [h0, if_true, Int32.add_zero, us_, so_ro]
  · simp only [h0, if_false]
    by_cases h1 : ro (V (m + 1)) i 6 + 1 < V (m + 1) 2
    · simp only [h1, if_true, Int32.add_zero, us_]
    · simp only [h1, if_false]
theorem M_runs (hM : MT Y G m) (hi : i < 10) (V : mV) (hs : isSt (ro (V (m + 1)) i 1)) : cf_X4_runsOn Y V G m (nI i) = some (va_up V (m + 1) (so (va_up (V (m + 1)) 4 (V (m + 1) 4 + bi (rbr (V (m + 1)) (ro (V (m + 1)) i)))) i (rrun (V (m + 1)) (ro (V (m + 1)) i)))) := by
  rw [cf_X4_runsOn, if_pos (MT_k hM), M_g0 hM hi, Option.bind_some, M_state hM hi V hs, Option.bind_some]
  simp only [M_g5 hM hi, M_g7 hM hi, M_p7 hM hi, M_g2 hM hi, M_breaks hM hi, Option.bind_some]
  simp only [va_up_s, uu_, ro_so, so_so, so_h _ _ _ (show 4 < 16 by omega), so_uh _ _ _ _ (show 4 < 16 by omega), un_ _ _ (show 2 ≠ 7 by omega)]
  unfold rrun rbr runs
  by_cases h1 : sst (V (m + 1)) (ro (V (m + 1)) i) = 1
  · by_cases h2 : ro (V (m + 1)) i 0 = 2
    · have h3 : ¬ ro (V (m + 1)) i 0 = 1 := by rw [h2]; decide
      simp [h1, h2, bi, us_]
    · by_cases h3 : ro (V (m + 1)) i 0 = 1
      · by_cases h4 : ro (V (m + 1)) i 5 = 0
        · by_cases h5 : ro (V (m + 1)) i 7 + 1 ≤ ro (V (m + 1)) i 2
          · have h6 : ¬ ro (V (m + 1)) i 2 < ro (V (m + 1)) i 7 + 1 := Int32.not_lt.mpr h5
            simp [h1, h3, h4, h5, h6, bi, us_]
          · have h6 : ro (V (m + 1)) i 2 < ro (V (m + 1)) i 7 + 1 := Int32.not_le.mp h5
            simp [h1, h3, h4, h5, h6, bi]
        · simp [h1, h3, h4, bi, us_, so_ro]
      · simp [h1, h2, h3, bi, us_, so_ro]
  · simp [h1, bi, us_, so_ro]
theorem M_ages (hM : MT Y G m) (hi : i < 10) (V : mV) : cf_X4_ages Y V G m (nI i) = some (va_up V (m + 1) (so (V (m + 1)) i (rage (V (m + 1) 3) (ro (V (m + 1)) i)))) := by
  rw [cf_X4_ages, if_pos (MT_k hM), M_g9 hM hi, Option.bind_some, M_p9 hM hi, Option.bind_some, M_g10 hM hi, Option.bind_some, M_g11 hM hi, Option.bind_some, M_p11 hM hi, Option.bind_some, M_g9 hM hi, Option.bind_some, MT_g hM, Option.bind_some, if_pos (MT_k1 hM), if_pos (MT_i3 hM), M_mends hM hi, Option.bind_some, M_p12 hM hi, Option.bind_some, M_p10 hM hi, Option.bind_some]
  simp only [va_up_s, uu_, ro_so, so_so, tn_3, so_h _ _ _ (show 3 < 16 by omega), un_ _ _ (show 10 ≠ 9 by omega), un_ _ _ (show 11 ≠ 9 by omega)]
  unfold rage
  by_cases h1 : ro (V (m + 1)) i 10 ≤ 0
  · have h2 : ¬ 0 < ro (V (m + 1)) i 10 := Int32.not_lt.mpr h1
    simp only [h1, h2, if_true, if_false]
    by_cases h3 : ro (V (m + 1)) i 10 = 0
    · simp only [h3, if_true]
    · simp only [h3, if_false]
      by_cases h4 : ro (V (m + 1)) i 9 + 1 < V (m + 1) 3 <;> simp only [h4, if_true, if_false]
  · have h2 : 0 < ro (V (m + 1)) i 10 := Int32.not_le.mp h1
    simp only [h1, h2, if_true, if_false]
end MOD
