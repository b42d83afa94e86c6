-- THE MEANING of the methods, over the memory alone. Rows of the reference's array; cells of the class
theorem uu_ {α : Type} (f : Nat → α) (k : Nat) (v w : α) : va_up (va_up f k v) k w = va_up f k w := by funext j; by_cases h : j = k <;> simp [va_up, h]
theorem us_ {α : Type} (f : Nat → α) (k : Nat) : va_up f k (f k) = f := by funext j; by_cases h : j = k <;> simp [va_up, h]
theorem un_ {α : Type} (f : Nat → α) {k j : Nat} (v : α) (h : j ≠ k) : va_up f k v j = f j := va_up_ne f v h
theorem uc_ {α : Type} (f : Nat → α) {k j : Nat} (v w : α) (h : j ≠ k) : va_up (va_up f k v) j w = va_up (va_up f j w) k v := by
  funext x
  by_cases h1 : x = j
  · have h2 : x ≠ k := fun e => h (h1.symm.trans e)
    rw [h1, va_up_s, va_up_ne _ _ h, va_up_s]
  · rw [va_up_ne _ _ h1]
    by_cases h2 : x = k
    · rw [h2, va_up_s, va_up_s]
    · rw [va_up_ne _ _ h2, va_up_ne _ _ h2, va_up_ne _ _ h1]
def ro (a : Nat → Int32) (i : Nat) : Nat → Int32 := fun k => a (16 + 13 * i + k)
def so (a : Nat → Int32) (i : Nat) (r : Nat → Int32) : Nat → Int32 := fun n => if 16 + 13 * i ≤ n then r (n - (16 + 13 * i)) else a n
theorem ro_so (a : Nat → Int32) (i : Nat) (r : Nat → Int32) : ro (so a i r) i = r := by funext k; simp [ro, so]
theorem so_so (a : Nat → Int32) (i : Nat) (r r' : Nat → Int32) : so (so a i r) i r' = so a i r' := by funext n; by_cases h : 16 + 13 * i ≤ n <;> simp [so, h]
theorem so_ro (a : Nat → Int32) (i : Nat) : so a i (ro a i) = a := by
  funext n; by_cases h : 16 + 13 * i ≤ n
  · simp [so, ro, h]
  · simp [so, h]
theorem so_h (a : Nat → Int32) (i : Nat) (r : Nat → Int32) {j : Nat} (h : j < 16) : so a i r j = a j := by simp [so]; omega
theorem so_uh (a : Nat → Int32) (i : Nat) (r : Nat → Int32) {j : Nat} (v : Int32) (h : j < 16) : va_up (so a i r) j v = so (va_up a j v) i r := by
  funext n; by_cases h1 : 16 + 13 * i ≤ n
  · have h2 : n ≠ j := by omega
    simp [so, h1, va_up, h2]
  · by_cases h2 : n = j <;> simp [so, h1, va_up, h2]
    intro h3; omega
theorem so_put (a : Nat → Int32) (i k : Nat) (v : Int32) : va_up a (16 + 13 * i + k) v = so a i (va_up (ro a i) k v) := by
  funext n; by_cases h1 : 16 + 13 * i ≤ n
  · by_cases h2 : n = 16 + 13 * i + k
    · subst h2; simp [so, va_up]
    · have h3 : n - (16 + 13 * i) ≠ k := by omega
      simp [so, va_up, h1, h2, h3, ro]
  · have h2 : n ≠ 16 + 13 * i + k := by omega
    simp [so, va_up, h1, h2]
def bi (b : Bool) : Int32 := if b then 1 else 0
theorem bi_1 : bi true = 1 := rfl
theorem bi_0 : bi false = 0 := rfl
theorem bi_eq0 (b : Bool) : bi b = 0 ↔ b = false := by cases b <;> decide
theorem bi_eq1 (b : Bool) : bi b = 1 ↔ b = true := by cases b <;> decide
theorem bi_or (b : Bool) : bi b = 0 ∨ bi b = 1 := by cases b <;> decide
/-- the reference's object m with its six arrays behind it -/
def MT (Y : mY) (G : mG) (m : Nat) : Prop := Y.1 m = 4 ∧ G m 0 = some (m + 1) ∧ G m 1 = some (m + 2) ∧ G m 2 = some (m + 3) ∧ G m 3 = some (m + 4) ∧ G m 5 = some (m + 5) ∧ G m 9 = some (m + 6) ∧ Y.1 (m + 1) = 6 ∧ Y.1 (m + 2) = 6 ∧ Y.1 (m + 3) = 6 ∧ Y.1 (m + 4) = 6 ∧ Y.1 (m + 5) = 6 ∧ Y.1 (m + 6) = 6 ∧ Y.2 (m + 1) = 146 ∧ Y.2 (m + 2) = 146 ∧ Y.2 (m + 3) = 146 ∧ Y.2 (m + 4) = 584 ∧ Y.2 (m + 5) = 80 ∧ Y.2 (m + 6) = 4
theorem nx_in {n N : Nat} (h : n < N) (hN : N < 2 ^ 31) : ¬ (nI n < 0 ∨ N ≤ (nI n).toNatClampNeg) := nI_in h hN
theorem ix_row {i k : Nat} (_ : i < 10) (_ : k < 13) {kk : Int32} (hk : kk = nI k) : (16 : Int32) + (13 : Int32) * nI i + kk = nI (16 + 13 * i + k) := by
  rw [hk, show (13 : Int32) = nI 13 from rfl, show (16 : Int32) = nI 16 from rfl, pk_mul, nI_add, nI_add]
section MOD
variable {Y : mY} {G : mG} {m : Nat} {i : Nat}
theorem M_get (hM : MT Y G m) (hi : i < 10) (V : mV) {k : Nat} (hk : k < 13) {kk : Int32} (hkk : kk = nI k) : cf_X4_get Y V G m (nI i) kk = some (ro (V (m + 1)) i k) := by
  obtain ⟨h1, h2, -, -, -, -, -, h3, -, -, -, -, -, h4, -⟩ := hM
  have hix := ix_row hi hk hkk
  have hin := nx_in (n := 16 + 13 * i + k) (N := 146) (by omega) (by decide)
  rw [cf_X4_get, if_pos h1, h2, Option.bind_some, if_pos h3, hix, h4, if_pos hin, nI_clamp (by omega)]
  rfl
theorem M_put (hM : MT Y G m) (hi : i < 10) (V : mV) {k : Nat} (hk : k < 13) {kk : Int32} (hkk : kk = nI k) (v : Int32) : cf_X4_put Y V G m (nI i) kk v = some (va_up V (m + 1) (so (V (m + 1)) i (va_up (ro (V (m + 1)) i) k v))) := by
  obtain ⟨h1, h2, -, -, -, -, -, h3, -, -, -, -, -, h4, -⟩ := hM
  have hix := ix_row hi hk hkk
  have hin := nx_in (n := 16 + 13 * i + k) (N := 146) (by omega) (by decide)
  rw [cf_X4_put, if_pos h1, h2, Option.bind_some, if_pos h3, hix, h4, if_pos hin, nI_clamp (by omega), up2, so_put]
/-- a place of the head of the array -/
theorem ix_h {k : Nat} (hk : k < 16) (hL : Y.2 (m + 1) = 146) : ¬ (nI k < 0 ∨ Y.2 (m + 1) ≤ (nI k).toNatClampNeg) := by rw [hL]; exact nx_in (by omega) (by decide)
theorem M_g0 (hM : MT Y G m) (hi : i < 10) (V : mV) : cf_X4_get Y V G m (nI i) 0 = some (ro (V (m + 1)) i 0) := M_get hM hi V (by decide) rfl
theorem M_p0 (hM : MT Y G m) (hi : i < 10) (V : mV) (v : Int32) : cf_X4_put Y V G m (nI i) 0 v = some (va_up V (m + 1) (so (V (m + 1)) i (va_up (ro (V (m + 1)) i) 0 v))) := M_put hM hi V (by decide) rfl v
theorem M_g1 (hM : MT Y G m) (hi : i < 10) (V : mV) : cf_X4_get Y V G m (nI i) 1 = some (ro (V (m + 1)) i 1) := M_get hM hi V (by decide) rfl
theorem M_p1 (hM : MT Y G m) (hi : i < 10) (V : mV) (v : Int32) : cf_X4_put Y V G m (nI i) 1 v = some (va_up V (m + 1) (so (V (m + 1)) i (va_up (ro (V (m + 1)) i) 1 v))) := M_put hM hi V (by decide) rfl v
theorem M_g2 (hM : MT Y G m) (hi : i < 10) (V : mV) : cf_X4_get Y V G m (nI i) 2 = some (ro (V (m + 1)) i 2) := M_get hM hi V (by decide) rfl
theorem M_p2 (hM : MT Y G m) (hi : i < 10) (V : mV) (v : Int32) : cf_X4_put Y V G m (nI i) 2 v = some (va_up V (m + 1) (so (V (m + 1)) i (va_up (ro (V (m + 1)) i) 2 v))) := M_put hM hi V (by decide) rfl v
theorem M_g3 (hM : MT Y G m) (hi : i < 10) (V : mV) : cf_X4_get Y V G m (nI i) 3 = some (ro (V (m + 1)) i 3) := M_get hM hi V (by decide) rfl
theorem M_p3 (hM : MT Y G m) (hi : i < 10) (V : mV) (v : Int32) : cf_X4_put Y V G m (nI i) 3 v = some (va_up V (m + 1) (so (V (m + 1)) i (va_up (ro (V (m + 1)) i) 3 v))) := M_put hM hi V (by decide) rfl v
theorem M_g4 (hM : MT Y G m) (hi : i < 10) (V : mV) : cf_X4_get Y V G m (nI i) 4 = some (ro (V (m + 1)) i 4) := M_get hM hi V (by decide) rfl
theorem M_p4 (hM : MT Y G m) (hi : i < 10) (V : mV) (v : Int32) : cf_X4_put Y V G m (nI i) 4 v = some (va_up V (m + 1) (so (V (m + 1)) i (va_up (ro (V (m + 1)) i) 4 v))) := M_put hM hi V (by decide) rfl v
theorem M_g5 (hM : MT Y G m) (hi : i < 10) (V : mV) : cf_X4_get Y V G m (nI i) 5 = some (ro (V (m + 1)) i 5) := M_get hM hi V (by decide) rfl
theorem M_p5 (hM : MT Y G m) (hi : i < 10) (V : mV) (v : Int32) : cf_X4_put Y V G m (nI i) 5 v = some (va_up V (m + 1) (so (V (m + 1)) i (va_up (ro (V (m + 1)) i) 5 v))) := M_put hM hi V (by decide) rfl v
theorem M_g6 (hM : MT Y G m) (hi : i < 10) (V : mV) : cf_X4_get Y V G m (nI i) 6 = some (ro (V (m + 1)) i 6) := M_get hM hi V (by decide) rfl
theorem M_p6 (hM : MT Y G m) (hi : i < 10) (V : mV) (v : Int32) : cf_X4_put Y V G m (nI i) 6 v = some (va_up V (m + 1) (so (V (m + 1)) i (va_up (ro (V (m + 1)) i) 6 v))) := M_put hM hi V (by decide) rfl v
theorem M_g7 (hM : MT Y G m) (hi : i < 10) (V : mV) : cf_X4_get Y V G m (nI i) 7 = some (ro (V (m + 1)) i 7) := M_get hM hi V (by decide) rfl
theorem M_p7 (hM : MT Y G m) (hi : i < 10) (V : mV) (v : Int32) : cf_X4_put Y V G m (nI i) 7 v = some (va_up V (m + 1) (so (V (m + 1)) i (va_up (ro (V (m + 1)) i) 7 v))) := M_put hM hi V (by decide) rfl v
theorem M_g8 (hM : MT Y G m) (hi : i < 10) (V : mV) : cf_X4_get Y V G m (nI i) 8 = some (ro (V (m + 1)) i 8) := M_get hM hi V (by decide) rfl
theorem M_p8 (hM : MT Y G m) (hi : i < 10) (V : mV) (v : Int32) : cf_X4_put Y V G m (nI i) 8 v = some (va_up V (m + 1) (so (V (m + 1)) i (va_up (ro (V (m + 1)) i) 8 v))) := M_put hM hi V (by decide) rfl v
theorem M_g9 (hM : MT Y G m) (hi : i < 10) (V : mV) : cf_X4_get Y V G m (nI i) 9 = some (ro (V (m + 1)) i 9) := M_get hM hi V (by decide) rfl
theorem M_p9 (hM : MT Y G m) (hi : i < 10) (V : mV) (v : Int32) : cf_X4_put Y V G m (nI i) 9 v = some (va_up V (m + 1) (so (V (m + 1)) i (va_up (ro (V (m + 1)) i) 9 v))) := M_put hM hi V (by decide) rfl v
theorem M_g10 (hM : MT Y G m) (hi : i < 10) (V : mV) : cf_X4_get Y V G m (nI i) 10 = some (ro (V (m + 1)) i 10) := M_get hM hi V (by decide) rfl
theorem M_p10 (hM : MT Y G m) (hi : i < 10) (V : mV) (v : Int32) : cf_X4_put Y V G m (nI i) 10 v = some (va_up V (m + 1) (so (V (m + 1)) i (va_up (ro (V (m + 1)) i) 10 v))) := M_put hM hi V (by decide) rfl v
theorem M_g11 (hM : MT Y G m) (hi : i < 10) (V : mV) : cf_X4_get Y V G m (nI i) 11 = some (ro (V (m + 1)) i 11) := M_get hM hi V (by decide) rfl
theorem M_p11 (hM : MT Y G m) (hi : i < 10) (V : mV) (v : Int32) : cf_X4_put Y V G m (nI i) 11 v = some (va_up V (m + 1) (so (V (m + 1)) i (va_up (ro (V (m + 1)) i) 11 v))) := M_put hM hi V (by decide) rfl v
theorem M_g12 (hM : MT Y G m) (hi : i < 10) (V : mV) : cf_X4_get Y V G m (nI i) 12 = some (ro (V (m + 1)) i 12) := M_get hM hi V (by decide) rfl
theorem M_p12 (hM : MT Y G m) (hi : i < 10) (V : mV) (v : Int32) : cf_X4_put Y V G m (nI i) 12 v = some (va_up V (m + 1) (so (V (m + 1)) i (va_up (ro (V (m + 1)) i) 12 v))) := M_put hM hi V (by decide) rfl v
theorem MT_k (hM : MT Y G m) : Y.1 m = 4 := hM.1
theorem MT_g (hM : MT Y G m) : G m 0 = some (m + 1) := hM.2.1
theorem MT_k1 (hM : MT Y G m) : Y.1 (m + 1) = 6 := hM.2.2.2.2.2.2.2.1
theorem MT_l1 (hM : MT Y G m) : Y.2 (m + 1) = 146 := hM.2.2.2.2.2.2.2.2.2.2.2.2.2.1
theorem MT_i0 (hM : MT Y G m) : ¬ ((0 : Int32) < 0 ∨ Y.2 (m + 1) ≤ (0 : Int32).toNatClampNeg) := ix_h (k := 0) (by omega) (MT_l1 hM)
theorem MT_i1 (hM : MT Y G m) : ¬ ((1 : Int32) < 0 ∨ Y.2 (m + 1) ≤ (1 : Int32).toNatClampNeg) := ix_h (k := 1) (by omega) (MT_l1 hM)
theorem MT_i2 (hM : MT Y G m) : ¬ ((2 : Int32) < 0 ∨ Y.2 (m + 1) ≤ (2 : Int32).toNatClampNeg) := ix_h (k := 2) (by omega) (MT_l1 hM)
theorem MT_i3 (hM : MT Y G m) : ¬ ((3 : Int32) < 0 ∨ Y.2 (m + 1) ≤ (3 : Int32).toNatClampNeg) := ix_h (k := 3) (by omega) (MT_l1 hM)
theorem MT_i4 (hM : MT Y G m) : ¬ ((4 : Int32) < 0 ∨ Y.2 (m + 1) ≤ (4 : Int32).toNatClampNeg) := ix_h (k := 4) (by omega) (MT_l1 hM)
theorem MT_i5 (hM : MT Y G m) : ¬ ((5 : Int32) < 0 ∨ Y.2 (m + 1) ≤ (5 : Int32).toNatClampNeg) := ix_h (k := 5) (by omega) (MT_l1 hM)
end MOD
theorem tn_0 : (0 : Int32).toNatClampNeg = 0 := rfl
theorem tn_1 : (1 : Int32).toNatClampNeg = 1 := rfl
theorem tn_2 : (2 : Int32).toNatClampNeg = 2 := rfl
theorem tn_3 : (3 : Int32).toNatClampNeg = 3 := rfl
theorem tn_4 : (4 : Int32).toNatClampNeg = 4 := rfl
theorem tn_5 : (5 : Int32).toNatClampNeg = 5 := rfl
