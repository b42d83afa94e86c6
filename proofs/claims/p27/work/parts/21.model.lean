-- the reference's methods of one row
def met (r : Nat → Int32) : Bool := if r 0 = 2 then decide (r 2 ≤ r 7) else decide (r 4 = ((1 : Int32) <<< (r 3 &&& 31)) - 1)
def slp (a r : Nat → Int32) : Bool := (decide (r 0 = 1) && decide (a (6 + (r 1).toNatClampNeg) = -1)) || (decide (r 0 = 2) && decide (a (11 + (r 1).toNatClampNeg) = -1))
def sst (a r : Nat → Int32) : Int32 := if r 12 = 1 then 4 else if r 8 = 1 then 3 else if met r then 2 else if slp a r then 0 else 1
def rmend (r : Nat → Int32) : Nat → Int32 := va_up (va_up (va_up r 8 0) 9 0) 10 (-1)
def rbrk (r : Nat → Int32) : Nat → Int32 := va_up (va_up (va_up r 8 1) 9 0) 10 (-1)
def rappr (r : Nat → Int32) (x : Int32) : Nat → Int32 :=
  let r1 := va_up (va_up (va_up r 4 (r 4 ||| x)) 5 0) 6 0
  if met r1 && decide (r1 8 = 1) then rmend r1 else r1
/-- a stage's number -/
def isSt (x : Int32) : Prop := ∃ t, t < 5 ∧ x = nI t

