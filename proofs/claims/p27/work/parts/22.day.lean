-- the reference's day, a row at a time
def bc (x : Int32) : Int32 := (cf_J6_bitCount_0f7a4 x).getD 0
theorem bc_s (x : Int32) : cf_J6_bitCount_0f7a4 x = some (bc x) := by unfold bc; rw [cf_J6_bitCount_0f7a4]; rfl
def rwait (s0 : Int32) (r : Nat → Int32) : Nat → Int32 :=
  if r 5 = 0 then r else if r 6 + 1 < s0 then va_up r 6 (r 6 + 1) else rappr (va_up r 6 (r 6 + 1)) (r 5)
def wInc (s0 : Int32) (r : Nat → Int32) : Int32 := if r 5 = 0 then 0 else if r 6 + 1 < s0 then 0 else bc (r 5)
def runs (a r : Nat → Int32) : Bool := decide (sst a r = 1) && (decide (r 0 = 2) || (decide (r 0 = 1) && decide (r 5 = 0)))
def rbr (a r : Nat → Int32) : Bool := runs a r && (decide (r 0 = 1) && decide (r 2 < r 7 + 1))
def rrun (a r : Nat → Int32) : Nat → Int32 := if rbr a r then rbrk (va_up r 7 (r 7 + 1)) else if runs a r then va_up r 7 (r 7 + 1) else r
def rage (s1 : Int32) (r : Nat → Int32) : Nat → Int32 :=
  let r1 := va_up r 9 (r 9 + 1)
  if 0 < r 10 then va_up r1 10 (r 10 - 1) else if r 10 = 0 then va_up r1 11 (r 11 + 1) else if r 9 + 1 < s1 then r1 else va_up (rmend r1) 12 1
/-- parts' sets: of six parts at most -/
def is64 (x : Int32) : Prop := ∃ n, n < 64 ∧ x = nI n

