-- THE MEANING of the methods, over the memory alone. Rows of the reference's array; cells of the class
theorem uu_ {α : Type} (f : Nat → α) (k : Nat) (v w : α) : va_up (va_up f k v) k w = va_up f k w := by funext j; by_cases h : j = k <;> simp [va_up, h]
theorem us_ {α : Type} (f : Nat → α) (k : Nat) : va_up f k (f k) = f := by funext j; by_cases h : j = k <;> simp [va_up, h]
theorem un_ {α : Type} (f : Nat → α) {k j : Nat} (v : α) (h : j ≠ k) : va_up f k v j = f j := va_up_ne f v h
theorem uc_ {α : Type} (f : Nat → α) {k j : Nat} (v w : α) (h : j ≠ k) : va_up (va_up f k v) j w = va_up (va_up f j w) k v := by
  funext x
  by_cases h1 : x = j
  · have h2 : x ≠ k := fun e => h (h1.symm.trans e)
    rw [h1, va_up_s, va_up_ne _ _ h, va_up_s]
  · rw [va_up_ne _ _ h1]
    by_cases h2 : x = k
    · rw [h2, va_up_s, va_up_s]
    · rw [va_up_ne _ _ h2, va_up_ne _ _ h2, va_up_ne _ _ h1]
def ro (a : Nat → Int32) (i : Nat) : Nat → Int32 := fun k => a (16 + 13 * i + k)
def so (a : Nat → Int32) (i : Nat) (r : Nat → Int32) : Nat → Int32 := fun n => if 16 + 13 * i ≤ n then r (n - (16 + 13 * i)) else a n
theorem ro_so (a : Nat → Int32) (i : Nat) (r : Nat → Int32) : ro (so a i r) i = r := by funext k; simp [ro, so]
theorem so_so (a : Nat → Int32) (i : Nat) (r r' : Nat → Int32) : so (so a i r) i r' = so a i r' := by funext n; by_cases h : 16 + 13 * i ≤ n <;> simp [so, h]
theorem so_ro (a : Nat → Int32) (i : Nat) : so a i (ro a i) = a := by
  funext n; by_cases h : 16 + 13 * i ≤ n
  · simp [so, ro, h]
  · simp [so, h]
theorem so_h (a : Nat → Int32) (i : Nat) (r : Nat → Int32) {j : Nat} (h : j < 16) : so a i r j = a j := by simp [so]; omega
theorem so_uh (a : Nat → Int32) (i : Nat) (r : Nat → Int32) {j : Nat} (v : Int32) (h : j < 16) : va_up (so a i r) j v = so (va_up a j v) i r := by
  funext n; by_cases h1 : 16 + 13 * i ≤ n
  · have h2 : n ≠ j := by omega
    simp [so, h1, va_up, h2]
  · by_cases h2 : n = j <;> simp [so, h1, va_up, h2]
    intro h3; omega
theorem so_put (a : Nat → Int32) (i k : Nat) (v : Int32) : va_up a (16 + 13 * i + k) v = so a i (va_up (ro a i) k v) := by
  funext n; by_cases h1 : 16 + 13 * i ≤ n
  · by_cases h2 : n = 16 + 13 * i + k
    · subst h2; simp [so, va_up]
    · have h3 : n - (16 + 13 * i) ≠ k := by omega
      simp [so, va_up, h1, h2, h3, ro]
  · have h2 : n ≠ 16 + 13 * i + k := by omega
    simp [so, va_up, h1, h2]
def bi (b : Bool) : Int32 := if b then 1 else 0
theorem bi_1 : bi true = 1 := rfl
theorem bi_0 : bi false = 0 := rfl
theorem bi_eq0 (b : Bool) : bi b = 0 ↔ b = false := by cases b <;> decide
theorem bi_eq1 (b : Bool) : bi b = 1 ↔ b = true := by cases b <;> decide
theorem bi_or (b : Bool) : bi b = 0 ∨ bi b = 1 := by cases b <;> decide
theorem nx_in {n N : Nat} (h : n < N) (hN : N < 2 ^ 31) : ¬ (nI n < 0 ∨ N ≤ (nI n).toNatClampNeg) := nI_in h hN
theorem ix_row {i k : Nat} (_ : i < 10) (_ : k < 13) {kk : Int32} (hk : kk = nI k) : (16 : Int32) + (13 : Int32) * nI i + kk = nI (16 + 13 * i + k) := by
  rw [hk, show (13 : Int32) = nI 13 from rfl, show (16 : Int32) = nI 16 from rfl, pk_mul, nI_add, nI_add]
section MOD
variable {Y : mY} {G : mG} {m : Nat} {i : Nat}
/-- a place of the head of the array -/
theorem ix_h {k : Nat} (hk : k < 16) (hL : Y.2 (m + 1) = 146) : ¬ (nI k < 0 ∨ Y.2 (m + 1) ≤ (nI k).toNatClampNeg) := by rw [hL]; exact nx_in (by omega) (by decide)
end MOD
theorem tn_0 : (0 : Int32).toNatClampNeg = 0 := rfl
theorem tn_1 : (1 : Int32).toNatClampNeg = 1 := rfl
theorem tn_2 : (2 : Int32).toNatClampNeg = 2 := rfl
theorem tn_3 : (3 : Int32).toNatClampNeg = 3 := rfl
theorem tn_4 : (4 : Int32).toNatClampNeg = 4 := rfl
theorem tn_5 : (5 : Int32).toNatClampNeg = 5 := rfl

