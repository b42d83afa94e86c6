def cf_X4_in (b1 : Int64) (b2 : Int64) (b3 : Int64) : Option (Int32) := if (lg_cmp b1 b2) < 0 then (some (0 : Int32)) else (if 0 < (lg_cmp b1 b3) then (some (0 : Int32)) else (some (1 : Int32)))
def lp_X4_copy_2 (Y : mY) (G : mG) : Nat → mV → Nat → Nat → Int32 → Option (mV)
  | 0, _, _, _, _ => none
  | k + 1, V, j0, j1, j2 => if (146 : Int32) ≤ j2 then (some V) else (if Y.1 j0 = 6 then if ¬ (j2 < 0 ∨ Y.2 j0 ≤ j2.toNatClampNeg) then if Y.1 j1 = 6 then if ¬ (j2 < 0 ∨ Y.2 j1 ≤ j2.toNatClampNeg) then lp_X4_copy_2 Y G k (up2 V j1 j2.toNatClampNeg (V j0 j2.toNatClampNeg)) j0 j1 (j2 + 1) else none else none else none else none)
def cf_X4_copy (Y : mY) (V : mV) (G : mG) (b1 : Nat) (b2 : Nat) : Option (mV) := lp_X4_copy_2 Y G fuB V b1 b2 (0 : Int32)
def cf_X4_isError (b1 : Int32) : Option (Int32) := if (-1000000 : Int32) ≤ b1 then (some (0 : Int32)) else (some (1 : Int32))
def lp_X4_record_51 (Y : mY) (G : mG) : Nat → mV → Nat → Int32 → Option (mV)
  | 0, _, _, _ => none
  | k + 1, V, j0, j1 => if (146 : Int32) ≤ j1 then (if Y.1 j0 = 4 then some (up2 V j0 4 ((V j0 4) + (1 : Int32))) else none) else (if Y.1 j0 = 4 then (G j0 3).bind (fun r6 => (G j0 1).bind (fun r7 => if Y.1 r7 = 6 then if ¬ (j1 < 0 ∨ Y.2 r7 ≤ j1.toNatClampNeg) then if Y.1 r6 = 6 then if ¬ ((((146 : Int32) * (V j0 4)) + j1) < 0 ∨ Y.2 r6 ≤ (((146 : Int32) * (V j0 4)) + j1).toNatClampNeg) then lp_X4_record_51 Y G k (up2 V r6 (((146 : Int32) * (V j0 4)) + j1).toNatClampNeg (V r7 j1.toNatClampNeg)) j0 (j1 + 1) else none else none else none else none)) else none)
def lp_X4_record_10 (Y : mY) (G : mG) : Nat → mV → Nat → Int32 → Option (mV)
  | 0, _, _, _ => none
  | k + 1, V, j0, j1 => if (438 : Int32) ≤ j1 then (if Y.1 j0 = 4 then lp_X4_record_51 Y G fuB (up2 V j0 4 ((V j0 4) - (1 : Int32))) j0 (0 : Int32) else none) else (if Y.1 j0 = 4 then (G j0 3).bind (fun r15 => if Y.1 r15 = 6 then if ¬ ((j1 + (146 : Int32)) < 0 ∨ Y.2 r15 ≤ (j1 + (146 : Int32)).toNatClampNeg) then if ¬ (j1 < 0 ∨ Y.2 r15 ≤ j1.toNatClampNeg) then lp_X4_record_10 Y G k (up2 V r15 j1.toNatClampNeg (V r15 (j1 + (146 : Int32)).toNatClampNeg)) j0 (j1 + 1) else none else none else none) else none)
def cf_X4_record (Y : mY) (V : mV) (G : mG) (a0 : Nat) : Option (mV) := if Y.1 a0 = 4 then if (V a0 4) = (4 : Int32) then (lp_X4_record_10 Y G fuB V a0 (0 : Int32)) else (lp_X4_record_51 Y G fuB V a0 (0 : Int32)) else none
def cf_X4_changed (Y : mY) (V : mV) (G : mG) (a0 : Nat) (b1 : Int32) : Option (Int32 × mV) := (cf_X4_isError b1).bind (fun x1 => if x1 = 0 then (if Y.1 a0 = 4 then (cf_X4_record Y V G a0).bind (fun x4 => some (b1, x4)) else none) else (some (b1, V)))
def cf_X4_get (Y : mY) (V : mV) (G : mG) (a0 : Nat) (b1 : Int32) (b2 : Int32) : Option (Int32) := if Y.1 a0 = 4 then (G a0 0).bind (fun r2 => if Y.1 r2 = 6 then if ¬ ((((16 : Int32) + ((13 : Int32) * b1)) + b2) < 0 ∨ Y.2 r2 ≤ (((16 : Int32) + ((13 : Int32) * b1)) + b2).toNatClampNeg) then some (V r2 (((16 : Int32) + ((13 : Int32) * b1)) + b2).toNatClampNeg) else none else none) else none
def cf_X4_put (Y : mY) (V : mV) (G : mG) (a0 : Nat) (b1 : Int32) (b2 : Int32) (b3 : Int32) : Option (mV) := if Y.1 a0 = 4 then (G a0 0).bind (fun r2 => if Y.1 r2 = 6 then if ¬ ((((16 : Int32) + ((13 : Int32) * b1)) + b2) < 0 ∨ Y.2 r2 ≤ (((16 : Int32) + ((13 : Int32) * b1)) + b2).toNatClampNeg) then some (up2 V r2 (((16 : Int32) + ((13 : Int32) * b1)) + b2).toNatClampNeg b3) else none else none) else none
def lp_X4_bits_4  : Nat → Int32 → Int32 → Int32 → Option (Int32)
  | 0, _, _, _ => none
  | k + 1, j0, j1, j2 => if j2 ≤ 0 then (some j1) else (lp_X4_bits_4 k j0 (j1 + (j2 &&& (1 : Int32))) (j2 >>> ((1 : Int32) &&& 31)))
def cf_X4_bits (b1 : Int32) : Option (Int32) := lp_X4_bits_4 fuB b1 (0 : Int32) b1
def cf_X4_isCondition (Y : mY) (V : mV) (G : mG) (a0 : Nat) (b1 : Int32) : Option (Int32) := if Y.1 a0 = 4 then (G a0 0).bind (fun r2 => if Y.1 r2 = 6 then if ¬ ((1 : Int32) < 0 ∨ Y.2 r2 ≤ (1 : Int32).toNatClampNeg) then (cf_X4_in ((b1).toInt64) (0 : Int64) (((V r2 (1 : Int32).toNatClampNeg)).toInt64 - (1 : Int64))).bind (fun x5 => if x5 = 0 ∨ x5 = 1 then some x5 else none) else none else none) else none
def cf_X4_isStage (b1 : Int32) : Option (Int32) := (cf_X4_in ((b1).toInt64) (0 : Int64) (4 : Int64)).bind (fun x1 => if x1 = 0 ∨ x1 = 1 then some x1 else none)
def cf_X4_allParts (Y : mY) (V : mV) (G : mG) (a0 : Nat) (b1 : Int32) : Option (Int32) := if Y.1 a0 = 4 then (cf_X4_get Y V G a0 b1 (3 : Int32)).bind (fun x2 => some (((1 : Int32) <<< (x2 &&& 31)) - (1 : Int32))) else none
def cf_X4_hasBegun (Y : mY) (V : mV) (G : mG) (a0 : Nat) (b1 : Int32) : Option (Int32) := if Y.1 a0 = 4 then (G a0 0).bind (fun r2 => if Y.1 r2 = 6 then if ¬ (((6 : Int32) + b1) < 0 ∨ Y.2 r2 ≤ ((6 : Int32) + b1).toNatClampNeg) then if (V r2 ((6 : Int32) + b1).toNatClampNeg) = (-1 : Int32) then (some (0 : Int32)) else (some (1 : Int32)) else none else none) else none
def cf_X4_isFinished (Y : mY) (V : mV) (G : mG) (a0 : Nat) (b1 : Int32) : Option (Int32) := if Y.1 a0 = 4 then (G a0 0).bind (fun r2 => if Y.1 r2 = 6 then if ¬ (((11 : Int32) + b1) < 0 ∨ Y.2 r2 ≤ ((11 : Int32) + b1).toNatClampNeg) then if (V r2 ((11 : Int32) + b1).toNatClampNeg) = (-1 : Int32) then (some (0 : Int32)) else (some (1 : Int32)) else none else none) else none
def cf_X4_isMet (Y : mY) (V : mV) (G : mG) (a0 : Nat) (b1 : Int32) : Option (Int32) := if Y.1 a0 = 4 then (cf_X4_get Y V G a0 b1 (0 : Int32)).bind (fun x2 => if x2 = (2 : Int32) then ((cf_X4_get Y V G a0 b1 (7 : Int32)).bind (fun x7 => (cf_X4_get Y V G a0 b1 (2 : Int32)).bind (fun x8 => if x7 < x8 then (some (0 : Int32)) else (some (1 : Int32))))) else ((cf_X4_get Y V G a0 b1 (4 : Int32)).bind (fun x4 => (cf_X4_allParts Y V G a0 b1).bind (fun x5 => if x4 = x5 then (some (1 : Int32)) else (some (0 : Int32)))))) else none
def cf_X4_isAsleep (Y : mY) (V : mV) (G : mG) (a0 : Nat) (b1 : Int32) : Option (Int32) := if Y.1 a0 = 4 then (cf_X4_get Y V G a0 b1 (0 : Int32)).bind (fun x2 => (cf_X4_get Y V G a0 b1 (1 : Int32)).bind (fun x3 => if x2 = (1 : Int32) then ((cf_X4_hasBegun Y V G a0 x3).bind (fun x8 => if x8 = 0 then (some (1 : Int32)) else (if x2 = (2 : Int32) then ((cf_X4_isFinished Y V G a0 x3).bind (fun x11 => if x11 = 0 then (some (1 : Int32)) else (some (0 : Int32)))) else (some (0 : Int32))))) else (if x2 = (2 : Int32) then ((cf_X4_isFinished Y V G a0 x3).bind (fun x6 => if x6 = 0 then (some (1 : Int32)) else (some (0 : Int32)))) else (some (0 : Int32))))) else none
def cf_X4_stateOf (Y : mY) (V : mV) (G : mG) (a0 : Nat) (b1 : Int32) : Option (Int32) := if Y.1 a0 = 4 then (cf_X4_get Y V G a0 b1 (12 : Int32)).bind (fun x2 => if x2 = (1 : Int32) then (some (4 : Int32)) else ((cf_X4_get Y V G a0 b1 (8 : Int32)).bind (fun x4 => if x4 = (1 : Int32) then (some (3 : Int32)) else ((cf_X4_isMet Y V G a0 b1).bind (fun x6 => if x6 = 0 then ((cf_X4_isAsleep Y V G a0 b1).bind (fun x8 => if x8 = 0 then (some (1 : Int32)) else (some (0 : Int32)))) else (some (2 : Int32))))))) else none
def cf_X4_breaks (Y : mY) (V : mV) (G : mG) (a0 : Nat) (b1 : Int32) : Option (mV) := if Y.1 a0 = 4 then (cf_X4_put Y V G a0 b1 (8 : Int32) (1 : Int32)).bind (fun x2 => (cf_X4_put Y x2 G a0 b1 (9 : Int32) (0 : Int32)).bind (fun x3 => (cf_X4_put Y x3 G a0 b1 (10 : Int32) (-1 : Int32)).bind (fun x4 => (G a0 0).bind (fun r5 => if Y.1 r5 = 6 then if ¬ ((4 : Int32) < 0 ∨ Y.2 r5 ≤ (4 : Int32).toNatClampNeg) then if ¬ ((4 : Int32) < 0 ∨ Y.2 r5 ≤ (4 : Int32).toNatClampNeg) then some (up2 x4 r5 (4 : Int32).toNatClampNeg ((x4 r5 (4 : Int32).toNatClampNeg) + (1 : Int32))) else none else none else none)))) else none
def cf_X4_mends (Y : mY) (V : mV) (G : mG) (a0 : Nat) (b1 : Int32) : Option (mV) := if Y.1 a0 = 4 then (cf_X4_put Y V G a0 b1 (8 : Int32) (0 : Int32)).bind (fun x2 => (cf_X4_put Y x2 G a0 b1 (9 : Int32) (0 : Int32)).bind (fun x3 => (cf_X4_put Y x3 G a0 b1 (10 : Int32) (-1 : Int32)).bind (fun x4 => some x4))) else none
def cf_X4_approves (Y : mY) (V : mV) (G : mG) (a0 : Nat) (b1 : Int32) (b2 : Int32) : Option (mV) := if Y.1 a0 = 4 then (cf_X4_get Y V G a0 b1 (4 : Int32)).bind (fun x2 => (cf_X4_put Y V G a0 b1 (4 : Int32) (x2 ||| b2)).bind (fun x3 => (cf_X4_put Y x3 G a0 b1 (5 : Int32) (0 : Int32)).bind (fun x4 => (cf_X4_put Y x4 G a0 b1 (6 : Int32) (0 : Int32)).bind (fun x5 => (cf_X4_isMet Y x5 G a0 b1).bind (fun x6 => if x6 = 0 then (some x5) else ((cf_X4_get Y x5 G a0 b1 (8 : Int32)).bind (fun x8 => if x8 = (1 : Int32) then ((cf_X4_mends Y x5 G a0 b1).bind (fun x10 => some x10)) else (some x5)))))))) else none
def cf_X4_areDays (b1 : Int32) (b2 : Int32) : Option (Int32) := if b1 = (2 : Int32) then ((cf_X4_in ((b2).toInt64) (1 : Int64) (365 : Int64)).bind (fun x4 => if x4 = 0 ∨ x4 = 1 then some x4 else none)) else ((cf_X4_in ((b2).toInt64) (0 : Int64) (365 : Int64)).bind (fun x2 => if x2 = 0 ∨ x2 = 1 then some x2 else none))
def lp_X4_doCondition_89 (Y : mY) (G : mG) : Nat → mV → Nat → Int32 → Int32 → Int32 → Int32 → Int32 → Int32 → Option (Int32 × mV)
  | 0, _, _, _, _, _, _, _, _ => none
  | k + 1, V, j0, j1, j2, j3, j4, j5, j6 => if (13 : Int32) ≤ j6 then (if Y.1 j0 = 4 then (cf_X4_put Y V G j0 j5 (0 : Int32) j1).bind (fun x21 => (cf_X4_put Y x21 G j0 j5 (1 : Int32) j2).bind (fun x22 => (cf_X4_put Y x22 G j0 j5 (2 : Int32) j3).bind (fun x23 => (cf_X4_put Y x23 G j0 j5 (3 : Int32) j4).bind (fun x24 => (cf_X4_put Y x24 G j0 j5 (10 : Int32) (-1 : Int32)).bind (fun x25 => some (j5, x25)))))) else none) else (if Y.1 j0 = 4 then (cf_X4_put Y V G j0 j5 j6 (0 : Int32)).bind (fun x27 => lp_X4_doCondition_89 Y G k x27 j0 j1 j2 j3 j4 j5 (j6 + 1)) else none)
def cf_X4_doCondition (Y : mY) (V : mV) (G : mG) (a0 : Nat) (b1 : Int32) (b2 : Int32) (b3 : Int32) (b4 : Int32) : Option (Int32 × mV) := (cf_X4_in ((b1).toInt64) (0 : Int64) (2 : Int64)).bind (fun x1 => if x1 = 0 then (some ((-1000001 : Int32), V)) else ((cf_X4_isStage b2).bind (fun x3 => if x3 = 0 then (some ((-1000001 : Int32), V)) else ((cf_X4_areDays b1 b3).bind (fun x5 => if x5 = 0 then (some ((-1000001 : Int32), V)) else ((cf_X4_in ((b4).toInt64) (1 : Int64) (6 : Int64)).bind (fun x7 => if x7 = 0 then (some ((-1000001 : Int32), V)) else (if Y.1 a0 = 4 then (cf_X4_hasBegun Y V G a0 b2).bind (fun x10 => if x10 = 0 then ((G a0 0).bind (fun r12 => if Y.1 r12 = 6 then if ¬ ((1 : Int32) < 0 ∨ Y.2 r12 ≤ (1 : Int32).toNatClampNeg) then if (V r12 (1 : Int32).toNatClampNeg) = (10 : Int32) then (some ((-1000003 : Int32), V)) else (if ¬ ((1 : Int32) < 0 ∨ Y.2 r12 ≤ (1 : Int32).toNatClampNeg) then if ¬ ((1 : Int32) < 0 ∨ Y.2 r12 ≤ (1 : Int32).toNatClampNeg) then if ¬ ((1 : Int32) < 0 ∨ Y.2 r12 ≤ (1 : Int32).toNatClampNeg) then lp_X4_doCondition_89 Y G fuB (up2 V r12 (1 : Int32).toNatClampNeg ((V r12 (1 : Int32).toNatClampNeg) + (1 : Int32))) a0 b1 b2 b3 b4 (V r12 (1 : Int32).toNatClampNeg) (0 : Int32) else none else none else none) else none else none)) else (some ((-1000002 : Int32), V))) else none))))))))
def cf_X4_mayBegin (Y : mY) (V : mV) (G : mG) (a0 : Nat) (b1 : Int32) : Option (Int32) := if Y.1 a0 = 4 then (cf_X4_hasBegun Y V G a0 b1).bind (fun x2 => if x2 = 0 then (if b1 = 0 then (some (1 : Int32)) else ((cf_X4_hasBegun Y V G a0 (b1 - (1 : Int32))).bind (fun x5 => if x5 = 0 then (some (0 : Int32)) else (some (1 : Int32))))) else (some (0 : Int32))) else none
def lp_X4_unmetAhead_4 (Y : mY) (V : mV) (G : mG) : Nat → Nat → Int32 → Int32 → Int32 → Option (Int32)
  | 0, _, _, _, _ => none
  | k + 1, j0, j1, j2, j3 => if Y.1 j0 = 4 then (G j0 0).bind (fun r2 => if Y.1 r2 = 6 then if ¬ ((1 : Int32) < 0 ∨ Y.2 r2 ≤ (1 : Int32).toNatClampNeg) then if (V r2 (1 : Int32).toNatClampNeg) ≤ j3 then (some j2) else ((cf_X4_get Y V G j0 j3 (0 : Int32)).bind (fun x6 => if x6 = 0 then ((cf_X4_get Y V G j0 j3 (1 : Int32)).bind (fun x8 => if x8 = j1 then ((cf_X4_isMet Y V G j0 j3).bind (fun x10 => if x10 = 0 then (lp_X4_unmetAhead_4 Y V G k j0 j1 (j2 ||| ((1 : Int32) <<< (j3 &&& 31))) (j3 + 1)) else (lp_X4_unmetAhead_4 Y V G k j0 j1 (j2 ||| (0 : Int32)) (j3 + 1)))) else (lp_X4_unmetAhead_4 Y V G k j0 j1 (j2 ||| (0 : Int32)) (j3 + 1)))) else (lp_X4_unmetAhead_4 Y V G k j0 j1 (j2 ||| (0 : Int32)) (j3 + 1)))) else none else none) else none
def cf_X4_unmetAhead (Y : mY) (V : mV) (G : mG) (a0 : Nat) (b1 : Int32) : Option (Int32) := lp_X4_unmetAhead_4 Y V G fuB a0 b1 (0 : Int32) (0 : Int32)
def lp_X4_doBegin_44 (Y : mY) (G : mG) : Nat → mV → Nat → Int32 → Int32 → Int32 → Option (Int32 × mV)
  | 0, _, _, _, _, _ => none
  | k + 1, V, j0, j1, j2, j3 => if Y.1 j0 = 4 then (G j0 0).bind (fun r12 => if Y.1 r12 = 6 then if ¬ ((1 : Int32) < 0 ∨ Y.2 r12 ≤ (1 : Int32).toNatClampNeg) then if (V r12 (1 : Int32).toNatClampNeg) ≤ j3 then (some (j2, V)) else (if ((j2 >>> (j3 &&& 31)) &&& (1 : Int32)) = (1 : Int32) then ((cf_X4_breaks Y V G j0 j3).bind (fun x17 => lp_X4_doBegin_44 Y G k x17 j0 j1 j2 (j3 + 1))) else (lp_X4_doBegin_44 Y G k V j0 j1 j2 (j3 + 1))) else none else none) else none
def cf_X4_doBegin (Y : mY) (V : mV) (G : mG) (a0 : Nat) (b1 : Int32) : Option (Int32 × mV) := (cf_X4_isStage b1).bind (fun x1 => if x1 = 0 then (some ((-1000001 : Int32), V)) else (if Y.1 a0 = 4 then (cf_X4_mayBegin Y V G a0 b1).bind (fun x4 => if x4 = 0 then (some ((-1000002 : Int32), V)) else ((G a0 0).bind (fun r6 => if Y.1 r6 = 6 then if ¬ ((0 : Int32) < 0 ∨ Y.2 r6 ≤ (0 : Int32).toNatClampNeg) then if ¬ (((6 : Int32) + b1) < 0 ∨ Y.2 r6 ≤ ((6 : Int32) + b1).toNatClampNeg) then (cf_X4_unmetAhead Y (up2 V r6 ((6 : Int32) + b1).toNatClampNeg (V r6 (0 : Int32).toNatClampNeg)) G a0 b1).bind (fun x10 => lp_X4_doBegin_44 Y G fuB (up2 V r6 ((6 : Int32) + b1).toNatClampNeg (V r6 (0 : Int32).toNatClampNeg)) a0 b1 x10 (0 : Int32)) else none else none else none))) else none))
def cf_X4_doFinish (Y : mY) (V : mV) (G : mG) (a0 : Nat) (b1 : Int32) : Option (Int32 × mV) := (cf_X4_isStage b1).bind (fun x1 => if x1 = 0 then (some ((-1000001 : Int32), V)) else (if Y.1 a0 = 4 then (cf_X4_hasBegun Y V G a0 b1).bind (fun x4 => if x4 = 0 then (some ((-1000002 : Int32), V)) else ((cf_X4_isFinished Y V G a0 b1).bind (fun x6 => if x6 = 0 then ((G a0 0).bind (fun r8 => if Y.1 r8 = 6 then if ¬ ((0 : Int32) < 0 ∨ Y.2 r8 ≤ (0 : Int32).toNatClampNeg) then if ¬ (((11 : Int32) + b1) < 0 ∨ Y.2 r8 ≤ ((11 : Int32) + b1).toNatClampNeg) then if ¬ ((0 : Int32) < 0 ∨ Y.2 r8 ≤ (0 : Int32).toNatClampNeg) then if ¬ (((6 : Int32) + b1) < 0 ∨ Y.2 r8 ≤ ((6 : Int32) + b1).toNatClampNeg) then some ((((up2 V r8 ((11 : Int32) + b1).toNatClampNeg (V r8 (0 : Int32).toNatClampNeg)) r8 (0 : Int32).toNatClampNeg) - ((up2 V r8 ((11 : Int32) + b1).toNatClampNeg (V r8 (0 : Int32).toNatClampNeg)) r8 ((6 : Int32) + b1).toNatClampNeg)), (up2 V r8 ((11 : Int32) + b1).toNatClampNeg (V r8 (0 : Int32).toNatClampNeg))) else none else none else none else none else none)) else (some ((-1000002 : Int32), V))))) else none))
def cf_X4_doApply (Y : mY) (V : mV) (G : mG) (a0 : Nat) (b1 : Int32) (b2 : Int32) : Option (Int32 × mV) := if Y.1 a0 = 4 then (cf_X4_isCondition Y V G a0 b1).bind (fun x2 => if x2 = 0 then (some ((-1000001 : Int32), V)) else ((cf_X4_allParts Y V G a0 b1).bind (fun x4 => (cf_X4_in ((b2).toInt64) (1 : Int64) ((x4).toInt64)).bind (fun x5 => if x5 = 0 then (some ((-1000001 : Int32), V)) else ((cf_X4_get Y V G a0 b1 (0 : Int32)).bind (fun x7 => if x7 = (2 : Int32) then (some ((-1000002 : Int32), V)) else ((cf_X4_get Y V G a0 b1 (5 : Int32)).bind (fun x9 => if x9 = 0 then ((cf_X4_get Y V G a0 b1 (4 : Int32)).bind (fun x11 => if (x11 &&& b2) = 0 then ((cf_X4_put Y V G a0 b1 (5 : Int32) b2).bind (fun x13 => (cf_X4_put Y x13 G a0 b1 (6 : Int32) (0 : Int32)).bind (fun x14 => (G a0 0).bind (fun r15 => if Y.1 r15 = 6 then if ¬ ((2 : Int32) < 0 ∨ Y.2 r15 ≤ (2 : Int32).toNatClampNeg) then some ((x14 r15 (2 : Int32).toNatClampNeg), x14) else none else none)))) else (some ((-1000002 : Int32), V)))) else (some ((-1000002 : Int32), V)))))))))) else none
def cf_X4_doDecide (Y : mY) (V : mV) (G : mG) (a0 : Nat) (b1 : Int32) (b2 : Int32) : Option (Int32 × mV) := if Y.1 a0 = 4 then (cf_X4_isCondition Y V G a0 b1).bind (fun x2 => if x2 = 0 then (some ((-1000001 : Int32), V)) else ((cf_X4_allParts Y V G a0 b1).bind (fun x4 => (cf_X4_in ((b2).toInt64) (0 : Int64) ((x4).toInt64)).bind (fun x5 => if x5 = 0 then (some ((-1000001 : Int32), V)) else ((cf_X4_get Y V G a0 b1 (5 : Int32)).bind (fun x7 => if x7 = 0 then (some ((-1000002 : Int32), V)) else ((cf_X4_get Y V G a0 b1 (5 : Int32)).bind (fun x9 => if (b2 &&& (x9 ^^^ (-1 : Int32))) = 0 then ((cf_X4_approves Y V G a0 b1 b2).bind (fun x11 => (cf_X4_get Y x11 G a0 b1 (3 : Int32)).bind (fun x12 => (cf_X4_get Y x11 G a0 b1 (4 : Int32)).bind (fun x13 => (cf_X4_bits x13).bind (fun x14 => some ((x12 - x14), x11)))))) else (some ((-1000002 : Int32), V)))))))))) else none
def cf_X4_doLapse (Y : mY) (V : mV) (G : mG) (a0 : Nat) (b1 : Int32) : Option (Int32 × mV) := if Y.1 a0 = 4 then (cf_X4_isCondition Y V G a0 b1).bind (fun x2 => if x2 = 0 then (some ((-1000001 : Int32), V)) else ((cf_X4_get Y V G a0 b1 (0 : Int32)).bind (fun x4 => if x4 = (2 : Int32) then ((cf_X4_stateOf Y V G a0 b1).bind (fun x6 => if x6 = (1 : Int32) then ((cf_X4_breaks Y V G a0 b1).bind (fun x8 => (cf_X4_get Y x8 G a0 b1 (7 : Int32)).bind (fun x9 => some (x9, x8)))) else (some ((-1000002 : Int32), V)))) else (some ((-1000002 : Int32), V))))) else none
def cf_X4_doCure (Y : mY) (V : mV) (G : mG) (a0 : Nat) (b1 : Int32) : Option (Int32 × mV) := if Y.1 a0 = 4 then (cf_X4_isCondition Y V G a0 b1).bind (fun x2 => if x2 = 0 then (some ((-1000001 : Int32), V)) else ((cf_X4_get Y V G a0 b1 (0 : Int32)).bind (fun x4 => if x4 = (2 : Int32) then ((cf_X4_stateOf Y V G a0 b1).bind (fun x6 => if x6 = (3 : Int32) then ((cf_X4_get Y V G a0 b1 (9 : Int32)).bind (fun x8 => (cf_X4_mends Y V G a0 b1).bind (fun x9 => some (x8, x9)))) else (some ((-1000002 : Int32), V)))) else (some ((-1000002 : Int32), V))))) else none
def cf_X4_doServe (Y : mY) (V : mV) (G : mG) (a0 : Nat) (b1 : Int32) (b2 : Int32) : Option (Int32 × mV) := if Y.1 a0 = 4 then (cf_X4_isCondition Y V G a0 b1).bind (fun x2 => if x2 = 0 then (some ((-1000001 : Int32), V)) else ((cf_X4_in ((b2).toInt64) (1 : Int64) (99 : Int64)).bind (fun x4 => if x4 = 0 then (some ((-1000001 : Int32), V)) else ((cf_X4_stateOf Y V G a0 b1).bind (fun x6 => if x6 = (3 : Int32) then ((cf_X4_put Y V G a0 b1 (10 : Int32) b2).bind (fun x8 => (cf_X4_get Y x8 G a0 b1 (9 : Int32)).bind (fun x9 => some (x9, x8)))) else (some ((-1000002 : Int32), V))))))) else none
def cf_X4_isValue (Y : mY) (V : mV) (G : mG) (a0 : Nat) (b1 : Int32) (b2 : Int32) (b3 : Int32) : Option (Int32) := if b2 = 0 then (if Y.1 a0 = 4 then (cf_X4_get Y V G a0 b1 (0 : Int32)).bind (fun x9 => (cf_X4_areDays x9 b3).bind (fun x10 => if x10 = 0 ∨ x10 = 1 then some x10 else none)) else none) else (if b2 = (1 : Int32) then ((cf_X4_in ((b3).toInt64) (1 : Int64) (6 : Int64)).bind (fun x6 => if x6 = 0 ∨ x6 = 1 then some x6 else none)) else (if b2 = (2 : Int32) then ((cf_X4_isStage b3).bind (fun x4 => if x4 = 0 then (some (0 : Int32)) else (some (1 : Int32)))) else (some (0 : Int32))))
def cf_X4_mayVary (Y : mY) (V : mV) (G : mG) (a0 : Nat) (b1 : Int32) (b2 : Int32) (b3 : Int32) : Option (Int32) := if b2 = 0 then (if Y.1 a0 = 4 then (cf_X4_get Y V G a0 b1 (7 : Int32)).bind (fun x10 => (cf_X4_get Y V G a0 b1 (0 : Int32)).bind (fun x11 => if x11 = (2 : Int32) then (if b3 ≤ x10 then (some (0 : Int32)) else (some (1 : Int32))) else (if b3 < x10 then (some (0 : Int32)) else (some (1 : Int32))))) else none) else (if b2 = (1 : Int32) then (if Y.1 a0 = 4 then (cf_X4_get Y V G a0 b1 (3 : Int32)).bind (fun x7 => if b3 ≤ x7 then (some (0 : Int32)) else (some (1 : Int32))) else none) else (if Y.1 a0 = 4 then (cf_X4_hasBegun Y V G a0 b3).bind (fun x4 => if x4 = 0 then (some (1 : Int32)) else (some (0 : Int32))) else none))
def cf_X4_doVary (Y : mY) (V : mV) (G : mG) (a0 : Nat) (b1 : Int32) (b2 : Int32) (b3 : Int32) : Option (Int32 × mV) := if Y.1 a0 = 4 then (cf_X4_isCondition Y V G a0 b1).bind (fun x2 => if x2 = 0 then (some ((-1000001 : Int32), V)) else ((cf_X4_isValue Y V G a0 b1 b2 b3).bind (fun x4 => if x4 = 0 then (some ((-1000001 : Int32), V)) else ((cf_X4_stateOf Y V G a0 b1).bind (fun x6 => if (1 : Int32) < x6 then (some ((-1000002 : Int32), V)) else ((cf_X4_get Y V G a0 b1 (5 : Int32)).bind (fun x8 => if x8 = 0 then ((cf_X4_mayVary Y V G a0 b1 b2 b3).bind (fun x10 => if x10 = 0 then (some ((-1000002 : Int32), V)) else (if b2 = 0 then ((cf_X4_get Y V G a0 b1 (2 : Int32)).bind (fun x22 => (cf_X4_put Y V G a0 b1 (2 : Int32) b3).bind (fun x23 => if b2 = (2 : Int32) then ((cf_X4_put Y x23 G a0 b1 (7 : Int32) (0 : Int32)).bind (fun x25 => some (x22, x25))) else (some (x22, x23))))) else (if b2 = (1 : Int32) then ((cf_X4_get Y V G a0 b1 (3 : Int32)).bind (fun x18 => (cf_X4_put Y V G a0 b1 (3 : Int32) b3).bind (fun x19 => if b2 = (2 : Int32) then ((cf_X4_put Y x19 G a0 b1 (7 : Int32) (0 : Int32)).bind (fun x21 => some (x18, x21))) else (some (x18, x19))))) else ((cf_X4_get Y V G a0 b1 (1 : Int32)).bind (fun x14 => (cf_X4_put Y V G a0 b1 (1 : Int32) b3).bind (fun x15 => if b2 = (2 : Int32) then ((cf_X4_put Y x15 G a0 b1 (7 : Int32) (0 : Int32)).bind (fun x17 => some (x14, x17))) else (some (x14, x15))))))))) else (some ((-1000002 : Int32), V))))))))) else none
def cf_X4_waitsOn (Y : mY) (V : mV) (G : mG) (a0 : Nat) (b1 : Int32) : Option (mV) := if Y.1 a0 = 4 then (cf_X4_get Y V G a0 b1 (5 : Int32)).bind (fun x2 => if x2 = 0 then (some V) else ((cf_X4_get Y V G a0 b1 (6 : Int32)).bind (fun x4 => (cf_X4_put Y V G a0 b1 (6 : Int32) (x4 + (1 : Int32))).bind (fun x5 => (cf_X4_get Y x5 G a0 b1 (6 : Int32)).bind (fun x6 => (G a0 0).bind (fun r7 => if Y.1 r7 = 6 then if ¬ ((2 : Int32) < 0 ∨ Y.2 r7 ≤ (2 : Int32).toNatClampNeg) then if x6 < (x5 r7 (2 : Int32).toNatClampNeg) then (some x5) else (if ¬ ((5 : Int32) < 0 ∨ Y.2 r7 ≤ (5 : Int32).toNatClampNeg) then (cf_X4_get Y x5 G a0 b1 (5 : Int32)).bind (fun x12 => (cf_X4_bits x12).bind (fun x13 => if ¬ ((5 : Int32) < 0 ∨ Y.2 r7 ≤ (5 : Int32).toNatClampNeg) then (cf_X4_get Y (up2 x5 r7 (5 : Int32).toNatClampNeg ((x5 r7 (5 : Int32).toNatClampNeg) + x13)) G a0 b1 (5 : Int32)).bind (fun x15 => (cf_X4_approves Y (up2 x5 r7 (5 : Int32).toNatClampNeg ((x5 r7 (5 : Int32).toNatClampNeg) + x13)) G a0 b1 x15).bind (fun x16 => some x16)) else none)) else none) else none else none)))))) else none
def cf_X4_runsOn (Y : mY) (V : mV) (G : mG) (a0 : Nat) (b1 : Int32) : Option (mV) := if Y.1 a0 = 4 then (cf_X4_get Y V G a0 b1 (0 : Int32)).bind (fun x2 => (cf_X4_stateOf Y V G a0 b1).bind (fun x3 => if x3 = (1 : Int32) then (if x2 = (2 : Int32) then (if (1 : Int32) = 0 then (some V) else ((cf_X4_get Y V G a0 b1 (7 : Int32)).bind (fun x15 => (cf_X4_put Y V G a0 b1 (7 : Int32) (x15 + (1 : Int32))).bind (fun x16 => if x2 = (1 : Int32) then ((cf_X4_get Y x16 G a0 b1 (7 : Int32)).bind (fun x18 => (cf_X4_get Y x16 G a0 b1 (2 : Int32)).bind (fun x19 => if x18 ≤ x19 then (some x16) else ((cf_X4_breaks Y x16 G a0 b1).bind (fun x21 => some x21))))) else (some x16))))) else (if x2 = (1 : Int32) then ((cf_X4_get Y V G a0 b1 (5 : Int32)).bind (fun x31 => if x31 = 0 then (if (1 : Int32) = 0 then (some V) else ((cf_X4_get Y V G a0 b1 (7 : Int32)).bind (fun x42 => (cf_X4_put Y V G a0 b1 (7 : Int32) (x42 + (1 : Int32))).bind (fun x43 => if x2 = (1 : Int32) then ((cf_X4_get Y x43 G a0 b1 (7 : Int32)).bind (fun x45 => (cf_X4_get Y x43 G a0 b1 (2 : Int32)).bind (fun x46 => if x45 ≤ x46 then (some x43) else ((cf_X4_breaks Y x43 G a0 b1).bind (fun x48 => some x48))))) else (some x43))))) else (if (0 : Int32) = 0 then (some V) else ((cf_X4_get Y V G a0 b1 (7 : Int32)).bind (fun x34 => (cf_X4_put Y V G a0 b1 (7 : Int32) (x34 + (1 : Int32))).bind (fun x35 => if x2 = (1 : Int32) then ((cf_X4_get Y x35 G a0 b1 (7 : Int32)).bind (fun x37 => (cf_X4_get Y x35 G a0 b1 (2 : Int32)).bind (fun x38 => if x37 ≤ x38 then (some x35) else ((cf_X4_breaks Y x35 G a0 b1).bind (fun x40 => some x40))))) else (some x35))))))) else (if (0 : Int32) = 0 then (some V) else ((cf_X4_get Y V G a0 b1 (7 : Int32)).bind (fun x24 => (cf_X4_put Y V G a0 b1 (7 : Int32) (x24 + (1 : Int32))).bind (fun x25 => if x2 = (1 : Int32) then ((cf_X4_get Y x25 G a0 b1 (7 : Int32)).bind (fun x27 => (cf_X4_get Y x25 G a0 b1 (2 : Int32)).bind (fun x28 => if x27 ≤ x28 then (some x25) else ((cf_X4_breaks Y x25 G a0 b1).bind (fun x30 => some x30))))) else (some x25))))))) else (if (0 : Int32) = 0 then (some V) else ((cf_X4_get Y V G a0 b1 (7 : Int32)).bind (fun x6 => (cf_X4_put Y V G a0 b1 (7 : Int32) (x6 + (1 : Int32))).bind (fun x7 => if x2 = (1 : Int32) then ((cf_X4_get Y x7 G a0 b1 (7 : Int32)).bind (fun x9 => (cf_X4_get Y x7 G a0 b1 (2 : Int32)).bind (fun x10 => if x9 ≤ x10 then (some x7) else ((cf_X4_breaks Y x7 G a0 b1).bind (fun x12 => some x12))))) else (some x7))))))) else none
def cf_X4_ages (Y : mY) (V : mV) (G : mG) (a0 : Nat) (b1 : Int32) : Option (mV) := if Y.1 a0 = 4 then (cf_X4_get Y V G a0 b1 (9 : Int32)).bind (fun x2 => (cf_X4_put Y V G a0 b1 (9 : Int32) (x2 + (1 : Int32))).bind (fun x3 => (cf_X4_get Y x3 G a0 b1 (10 : Int32)).bind (fun x4 => if x4 ≤ 0 then (if x4 = 0 then ((cf_X4_get Y x3 G a0 b1 (11 : Int32)).bind (fun x14 => (cf_X4_put Y x3 G a0 b1 (11 : Int32) (x14 + (1 : Int32))).bind (fun x15 => some x15))) else ((cf_X4_get Y x3 G a0 b1 (9 : Int32)).bind (fun x7 => (G a0 0).bind (fun r8 => if Y.1 r8 = 6 then if ¬ ((3 : Int32) < 0 ∨ Y.2 r8 ≤ (3 : Int32).toNatClampNeg) then if x7 < (x3 r8 (3 : Int32).toNatClampNeg) then (some x3) else ((cf_X4_mends Y x3 G a0 b1).bind (fun x12 => (cf_X4_put Y x12 G a0 b1 (12 : Int32) (1 : Int32)).bind (fun x13 => some x13))) else none else none)))) else ((cf_X4_put Y x3 G a0 b1 (10 : Int32) (x4 - (1 : Int32))).bind (fun x16 => some x16))))) else none
def lp_X4_passDay_90 (Y : mY) (G : mG) : Nat → mV → Nat → Int32 → Int32 → Option (mV)
  | 0, _, _, _, _ => none
  | k + 1, V, j0, j1, j2 => if Y.1 j0 = 4 then (G j0 0).bind (fun r22 => if Y.1 r22 = 6 then if ¬ ((1 : Int32) < 0 ∨ Y.2 r22 ≤ (1 : Int32).toNatClampNeg) then if (V r22 (1 : Int32).toNatClampNeg) ≤ j2 then (some V) else (if ((j1 >>> (j2 &&& 31)) &&& (1 : Int32)) = (1 : Int32) then ((cf_X4_get Y V G j0 j2 (8 : Int32)).bind (fun x27 => if x27 = (1 : Int32) then ((cf_X4_ages Y V G j0 j2).bind (fun x29 => lp_X4_passDay_90 Y G k x29 j0 j1 (j2 + 1))) else (lp_X4_passDay_90 Y G k V j0 j1 (j2 + 1)))) else (lp_X4_passDay_90 Y G k V j0 j1 (j2 + 1))) else none else none) else none
def lp_X4_passDay_67 (Y : mY) (G : mG) : Nat → mV → Nat → Int32 → Int32 → Option (mV)
  | 0, _, _, _, _ => none
  | k + 1, V, j0, j1, j2 => if Y.1 j0 = 4 then (G j0 0).bind (fun r17 => if Y.1 r17 = 6 then if ¬ ((1 : Int32) < 0 ∨ Y.2 r17 ≤ (1 : Int32).toNatClampNeg) then if (V r17 (1 : Int32).toNatClampNeg) ≤ j2 then (lp_X4_passDay_90 Y G fuB V j0 j1 (0 : Int32)) else ((cf_X4_runsOn Y V G j0 j2).bind (fun x30 => lp_X4_passDay_67 Y G k x30 j0 j1 (j2 + 1))) else none else none) else none
def lp_X4_passDay_44 (Y : mY) (G : mG) : Nat → mV → Nat → Int32 → Int32 → Option (mV)
  | 0, _, _, _, _ => none
  | k + 1, V, j0, j1, j2 => if Y.1 j0 = 4 then (G j0 0).bind (fun r12 => if Y.1 r12 = 6 then if ¬ ((1 : Int32) < 0 ∨ Y.2 r12 ≤ (1 : Int32).toNatClampNeg) then if (V r12 (1 : Int32).toNatClampNeg) ≤ j2 then (lp_X4_passDay_67 Y G fuB V j0 j1 (0 : Int32)) else ((cf_X4_waitsOn Y V G j0 j2).bind (fun x31 => lp_X4_passDay_44 Y G k x31 j0 j1 (j2 + 1))) else none else none) else none
def lp_X4_passDay_14 (Y : mY) (G : mG) : Nat → mV → Nat → Int32 → Int32 → Option (mV)
  | 0, _, _, _, _ => none
  | k + 1, V, j0, j1, j2 => if Y.1 j0 = 4 then (G j0 0).bind (fun r7 => if Y.1 r7 = 6 then if ¬ ((1 : Int32) < 0 ∨ Y.2 r7 ≤ (1 : Int32).toNatClampNeg) then if (V r7 (1 : Int32).toNatClampNeg) ≤ j2 then (lp_X4_passDay_44 Y G fuB V j0 j1 (0 : Int32)) else ((cf_X4_get Y V G j0 j2 (8 : Int32)).bind (fun x32 => lp_X4_passDay_14 Y G k V j0 (j1 ||| (x32 <<< (j2 &&& 31))) (j2 + 1))) else none else none) else none
def cf_X4_passDay (Y : mY) (V : mV) (G : mG) (a0 : Nat) : Option (mV) := if Y.1 a0 = 4 then (G a0 0).bind (fun r2 => if Y.1 r2 = 6 then if ¬ ((0 : Int32) < 0 ∨ Y.2 r2 ≤ (0 : Int32).toNatClampNeg) then if ¬ ((0 : Int32) < 0 ∨ Y.2 r2 ≤ (0 : Int32).toNatClampNeg) then lp_X4_passDay_14 Y G fuB (up2 V r2 (0 : Int32).toNatClampNeg ((V r2 (0 : Int32).toNatClampNeg) + (1 : Int32))) a0 (0 : Int32) (0 : Int32) else none else none else none) else none
def lp_X4_doPass_34 (Y : mY) (G : mG) : Nat → mV → Nat → Int32 → Int32 → Option (Int32 × mV)
  | 0, _, _, _, _ => none
  | k + 1, V, j0, j1, j2 => if j1 ≤ j2 then (if Y.1 j0 = 4 then (G j0 0).bind (fun r10 => if Y.1 r10 = 6 then if ¬ ((0 : Int32) < 0 ∨ Y.2 r10 ≤ (0 : Int32).toNatClampNeg) then some ((V r10 (0 : Int32).toNatClampNeg), V) else none else none) else none) else (if Y.1 j0 = 4 then (cf_X4_passDay Y V G j0).bind (fun x14 => lp_X4_doPass_34 Y G k x14 j0 j1 (j2 + 1)) else none)
def cf_X4_doPass (Y : mY) (V : mV) (G : mG) (a0 : Nat) (b1 : Int32) : Option (Int32 × mV) := (cf_X4_in ((b1).toInt64) (1 : Int64) (400 : Int64)).bind (fun x1 => if x1 = 0 then (some ((-1000001 : Int32), V)) else (if Y.1 a0 = 4 then (G a0 0).bind (fun r4 => if Y.1 r4 = 6 then if ¬ ((0 : Int32) < 0 ∨ Y.2 r4 ≤ (0 : Int32).toNatClampNeg) then if ((V r4 (0 : Int32).toNatClampNeg) + b1) ≤ (9999 : Int32) then (lp_X4_doPass_34 Y G fuB V a0 b1 (0 : Int32)) else (some ((-1000003 : Int32), V)) else none else none) else none))
def cf_X4_doSet (Y : mY) (V : mV) (G : mG) (a0 : Nat) (b1 : Int32) (b2 : Int32) : Option (Int32 × mV) := (cf_X4_in ((b1).toInt64) (0 : Int64) (1 : Int64)).bind (fun x1 => if x1 = 0 then (some ((-1000001 : Int32), V)) else (if b1 = 0 then ((cf_X4_in ((b2).toInt64) ((b1).toInt64) (99 : Int64)).bind (fun x11 => if x11 = 0 then (some ((-1000001 : Int32), V)) else (if Y.1 a0 = 4 then (G a0 0).bind (fun r14 => if Y.1 r14 = 6 then if ¬ (((2 : Int32) + b1) < 0 ∨ Y.2 r14 ≤ ((2 : Int32) + b1).toNatClampNeg) then if ¬ (((2 : Int32) + b1) < 0 ∨ Y.2 r14 ≤ ((2 : Int32) + b1).toNatClampNeg) then some ((V r14 ((2 : Int32) + b1).toNatClampNeg), (up2 V r14 ((2 : Int32) + b1).toNatClampNeg b2)) else none else none else none) else none))) else ((cf_X4_in ((b2).toInt64) ((b1).toInt64) (365 : Int64)).bind (fun x4 => if x4 = 0 then (some ((-1000001 : Int32), V)) else (if Y.1 a0 = 4 then (G a0 0).bind (fun r7 => if Y.1 r7 = 6 then if ¬ (((2 : Int32) + b1) < 0 ∨ Y.2 r7 ≤ ((2 : Int32) + b1).toNatClampNeg) then if ¬ (((2 : Int32) + b1) < 0 ∨ Y.2 r7 ≤ ((2 : Int32) + b1).toNatClampNeg) then some ((V r7 ((2 : Int32) + b1).toNatClampNeg), (up2 V r7 ((2 : Int32) + b1).toNatClampNeg b2)) else none else none else none) else none)))))
def cf_X4_condition (Y : mY) (V : mV) (G : mG) (a0 : Nat) (b1 : Int32) (b2 : Int32) (b3 : Int32) (b4 : Int32) : Option (Int32 × mV) := if Y.1 a0 = 4 then (G a0 0).bind (fun r2 => (G a0 1).bind (fun r3 => (cf_X4_copy Y V G r2 r3).bind (fun x4 => (cf_X4_doCondition Y x4 G a0 b1 b2 b3 b4).bind (fun x5 => (cf_X4_changed Y x5.2 G a0 x5.1).bind (fun x6 => some (x6.1, x6.2)))))) else none
def cf_X4_begin (Y : mY) (V : mV) (G : mG) (a0 : Nat) (b1 : Int32) : Option (Int32 × mV) := if Y.1 a0 = 4 then (G a0 0).bind (fun r2 => (G a0 1).bind (fun r3 => (cf_X4_copy Y V G r2 r3).bind (fun x4 => (cf_X4_doBegin Y x4 G a0 b1).bind (fun x5 => (cf_X4_changed Y x5.2 G a0 x5.1).bind (fun x6 => some (x6.1, x6.2)))))) else none
def cf_X4_finish (Y : mY) (V : mV) (G : mG) (a0 : Nat) (b1 : Int32) : Option (Int32 × mV) := if Y.1 a0 = 4 then (G a0 0).bind (fun r2 => (G a0 1).bind (fun r3 => (cf_X4_copy Y V G r2 r3).bind (fun x4 => (cf_X4_doFinish Y x4 G a0 b1).bind (fun x5 => (cf_X4_changed Y x5.2 G a0 x5.1).bind (fun x6 => some (x6.1, x6.2)))))) else none
def cf_X4_apply (Y : mY) (V : mV) (G : mG) (a0 : Nat) (b1 : Int32) (b2 : Int32) : Option (Int32 × mV) := if Y.1 a0 = 4 then (G a0 0).bind (fun r2 => (G a0 1).bind (fun r3 => (cf_X4_copy Y V G r2 r3).bind (fun x4 => (cf_X4_doApply Y x4 G a0 b1 b2).bind (fun x5 => (cf_X4_changed Y x5.2 G a0 x5.1).bind (fun x6 => some (x6.1, x6.2)))))) else none
def cf_X4_decide (Y : mY) (V : mV) (G : mG) (a0 : Nat) (b1 : Int32) (b2 : Int32) : Option (Int32 × mV) := if Y.1 a0 = 4 then (G a0 0).bind (fun r2 => (G a0 1).bind (fun r3 => (cf_X4_copy Y V G r2 r3).bind (fun x4 => (cf_X4_doDecide Y x4 G a0 b1 b2).bind (fun x5 => (cf_X4_changed Y x5.2 G a0 x5.1).bind (fun x6 => some (x6.1, x6.2)))))) else none
def cf_X4_lapse (Y : mY) (V : mV) (G : mG) (a0 : Nat) (b1 : Int32) : Option (Int32 × mV) := if Y.1 a0 = 4 then (G a0 0).bind (fun r2 => (G a0 1).bind (fun r3 => (cf_X4_copy Y V G r2 r3).bind (fun x4 => (cf_X4_doLapse Y x4 G a0 b1).bind (fun x5 => (cf_X4_changed Y x5.2 G a0 x5.1).bind (fun x6 => some (x6.1, x6.2)))))) else none
def cf_X4_cure (Y : mY) (V : mV) (G : mG) (a0 : Nat) (b1 : Int32) : Option (Int32 × mV) := if Y.1 a0 = 4 then (G a0 0).bind (fun r2 => (G a0 1).bind (fun r3 => (cf_X4_copy Y V G r2 r3).bind (fun x4 => (cf_X4_doCure Y x4 G a0 b1).bind (fun x5 => (cf_X4_changed Y x5.2 G a0 x5.1).bind (fun x6 => some (x6.1, x6.2)))))) else none
def cf_X4_serve (Y : mY) (V : mV) (G : mG) (a0 : Nat) (b1 : Int32) (b2 : Int32) : Option (Int32 × mV) := if Y.1 a0 = 4 then (G a0 0).bind (fun r2 => (G a0 1).bind (fun r3 => (cf_X4_copy Y V G r2 r3).bind (fun x4 => (cf_X4_doServe Y x4 G a0 b1 b2).bind (fun x5 => (cf_X4_changed Y x5.2 G a0 x5.1).bind (fun x6 => some (x6.1, x6.2)))))) else none
def cf_X4_vary (Y : mY) (V : mV) (G : mG) (a0 : Nat) (b1 : Int32) (b2 : Int32) (b3 : Int32) : Option (Int32 × mV) := if Y.1 a0 = 4 then (G a0 0).bind (fun r2 => (G a0 1).bind (fun r3 => (cf_X4_copy Y V G r2 r3).bind (fun x4 => (cf_X4_doVary Y x4 G a0 b1 b2 b3).bind (fun x5 => (cf_X4_changed Y x5.2 G a0 x5.1).bind (fun x6 => some (x6.1, x6.2)))))) else none
def cf_X4_pass (Y : mY) (V : mV) (G : mG) (a0 : Nat) (b1 : Int32) : Option (Int32 × mV) := if Y.1 a0 = 4 then (G a0 0).bind (fun r2 => (G a0 1).bind (fun r3 => (cf_X4_copy Y V G r2 r3).bind (fun x4 => (cf_X4_doPass Y x4 G a0 b1).bind (fun x5 => (cf_X4_changed Y x5.2 G a0 x5.1).bind (fun x6 => some (x6.1, x6.2)))))) else none
def cf_X4_set (Y : mY) (V : mV) (G : mG) (a0 : Nat) (b1 : Int32) (b2 : Int32) : Option (Int32 × mV) := if Y.1 a0 = 4 then (G a0 0).bind (fun r2 => (G a0 1).bind (fun r3 => (cf_X4_copy Y V G r2 r3).bind (fun x4 => (cf_X4_doSet Y x4 G a0 b1 b2).bind (fun x5 => (cf_X4_changed Y x5.2 G a0 x5.1).bind (fun x6 => some (x6.1, x6.2)))))) else none
def cf_X4_conditionOf (Y : mY) (V : mV) (G : mG) (a0 : Nat) (b1 : Int32) (b2 : Int32) : Option (Int32) := if Y.1 a0 = 4 then (cf_X4_isCondition Y V G a0 b1).bind (fun x2 => if x2 = 0 then (some (-1000001 : Int32)) else ((cf_X4_in ((b2).toInt64) (0 : Int64) (11 : Int64)).bind (fun x4 => if x4 = 0 then (some (-1000001 : Int32)) else (if b2 = (4 : Int32) then ((cf_X4_stateOf Y V G a0 b1).bind (fun x7 => some x7)) else (if b2 = (5 : Int32) then ((cf_X4_get Y V G a0 b1 (4 : Int32)).bind (fun x9 => some x9)) else (if b2 = (6 : Int32) then ((cf_X4_get Y V G a0 b1 (5 : Int32)).bind (fun x11 => some x11)) else (if b2 = (7 : Int32) then ((cf_X4_get Y V G a0 b1 (5 : Int32)).bind (fun x13 => if x13 = 0 then (some (-1000004 : Int32)) else ((cf_X4_get Y V G a0 b1 (6 : Int32)).bind (fun x15 => some x15)))) else (if b2 = (8 : Int32) then ((cf_X4_get Y V G a0 b1 (7 : Int32)).bind (fun x17 => some x17)) else (if b2 = (9 : Int32) then ((cf_X4_get Y V G a0 b1 (8 : Int32)).bind (fun x19 => if x19 = 0 then (some (-1000004 : Int32)) else ((cf_X4_get Y V G a0 b1 (9 : Int32)).bind (fun x21 => some x21)))) else (if b2 = (10 : Int32) then ((cf_X4_get Y V G a0 b1 (10 : Int32)).bind (fun x23 => if x23 = (-1 : Int32) then (some (-1000004 : Int32)) else ((cf_X4_get Y V G a0 b1 (10 : Int32)).bind (fun x25 => some x25)))) else (if b2 = (11 : Int32) then ((cf_X4_get Y V G a0 b1 (11 : Int32)).bind (fun x27 => some x27)) else ((cf_X4_get Y V G a0 b1 b2).bind (fun x28 => some x28))))))))))))) else none
def cf_X4_stageOf (Y : mY) (V : mV) (G : mG) (a0 : Nat) (b1 : Int32) (b2 : Int32) : Option (Int32) := (cf_X4_isStage b1).bind (fun x1 => if x1 = 0 then (some (-1000001 : Int32)) else ((cf_X4_in ((b2).toInt64) (0 : Int64) (3 : Int64)).bind (fun x3 => if x3 = 0 then (some (-1000001 : Int32)) else (if b2 = (0 : Int32) then (if Y.1 a0 = 4 then (cf_X4_hasBegun Y V G a0 b1).bind (fun x7 => if x7 = 0 then ((cf_X4_isFinished Y V G a0 b1).bind (fun x9 => if x9 = 0 then (some ((0 : Int32) + (0 : Int32))) else (some ((0 : Int32) + (1 : Int32))))) else ((cf_X4_isFinished Y V G a0 b1).bind (fun x11 => if x11 = 0 then (some ((1 : Int32) + (0 : Int32))) else (some ((1 : Int32) + (1 : Int32)))))) else none) else (if b2 = (1 : Int32) then (if Y.1 a0 = 4 then (cf_X4_hasBegun Y V G a0 b1).bind (fun x15 => if x15 = 0 then (some (-1000004 : Int32)) else ((G a0 0).bind (fun r17 => if Y.1 r17 = 6 then if ¬ (((6 : Int32) + b1) < 0 ∨ Y.2 r17 ≤ ((6 : Int32) + b1).toNatClampNeg) then some (V r17 ((6 : Int32) + b1).toNatClampNeg) else none else none))) else none) else (if b2 = (2 : Int32) then (if Y.1 a0 = 4 then (cf_X4_isFinished Y V G a0 b1).bind (fun x22 => if x22 = 0 then (some (-1000004 : Int32)) else ((G a0 0).bind (fun r24 => if Y.1 r24 = 6 then if ¬ (((11 : Int32) + b1) < 0 ∨ Y.2 r24 ≤ ((11 : Int32) + b1).toNatClampNeg) then some (V r24 ((11 : Int32) + b1).toNatClampNeg) else none else none))) else none) else (if Y.1 a0 = 4 then (cf_X4_unmetAhead Y V G a0 b1).bind (fun x28 => some x28) else none)))))))
def lp_X4_withState_4 (Y : mY) (V : mV) (G : mG) : Nat → Nat → Int32 → Int32 → Int32 → Option (Int32)
  | 0, _, _, _, _ => none
  | k + 1, j0, j1, j2, j3 => if Y.1 j0 = 4 then (G j0 0).bind (fun r2 => if Y.1 r2 = 6 then if ¬ ((1 : Int32) < 0 ∨ Y.2 r2 ≤ (1 : Int32).toNatClampNeg) then if (V r2 (1 : Int32).toNatClampNeg) ≤ j3 then (some j2) else ((cf_X4_stateOf Y V G j0 j3).bind (fun x6 => if x6 = j1 then (lp_X4_withState_4 Y V G k j0 j1 (j2 ||| ((1 : Int32) <<< (j3 &&& 31))) (j3 + 1)) else (lp_X4_withState_4 Y V G k j0 j1 (j2 ||| (0 : Int32)) (j3 + 1)))) else none else none) else none
def cf_X4_withState (Y : mY) (V : mV) (G : mG) (a0 : Nat) (b1 : Int32) : Option (Int32) := lp_X4_withState_4 Y V G fuB a0 b1 (0 : Int32) (0 : Int32)
def cf_X4_which (Y : mY) (V : mV) (G : mG) (a0 : Nat) (b1 : Int32) : Option (Int32) := (cf_X4_in ((b1).toInt64) (0 : Int64) (4 : Int64)).bind (fun x1 => if x1 = 0 then (some (-1000001 : Int32)) else (if Y.1 a0 = 4 then (cf_X4_withState Y V G a0 b1).bind (fun x4 => some x4) else none))
def lp_X4_when_36 (Y : mY) (G : mG) : Nat → mV → Nat → Int32 → Int32 → Int32 → Option (Int32 × mV)
  | 0, _, _, _, _, _ => none
  | k + 1, V, j0, j1, j2, j3 => if (400 : Int32) ≤ j3 then (if Y.1 j0 = 4 then (cf_X4_stateOf Y V G j0 j1).bind (fun x11 => if x11 = j2 then ((G j0 2).bind (fun r16 => (G j0 0).bind (fun r17 => (cf_X4_copy Y V G r16 r17).bind (fun x18 => some (j3, x18))))) else ((G j0 2).bind (fun r13 => (G j0 0).bind (fun r14 => (cf_X4_copy Y V G r13 r14).bind (fun x15 => some ((-1000004 : Int32), x15)))))) else none) else (if Y.1 j0 = 4 then (cf_X4_stateOf Y V G j0 j1).bind (fun x20 => if x20 = j2 then ((cf_X4_stateOf Y V G j0 j1).bind (fun x22 => if x22 = j2 then ((G j0 2).bind (fun r27 => (G j0 0).bind (fun r28 => (cf_X4_copy Y V G r27 r28).bind (fun x29 => some (j3, x29))))) else ((G j0 2).bind (fun r24 => (G j0 0).bind (fun r25 => (cf_X4_copy Y V G r24 r25).bind (fun x26 => some ((-1000004 : Int32), x26))))))) else ((cf_X4_passDay Y V G j0).bind (fun x30 => lp_X4_when_36 Y G k x30 j0 j1 j2 (j3 + 1)))) else none)
def cf_X4_when (Y : mY) (V : mV) (G : mG) (a0 : Nat) (b1 : Int32) (b2 : Int32) : Option (Int32 × mV) := if Y.1 a0 = 4 then (cf_X4_isCondition Y V G a0 b1).bind (fun x2 => if x2 = 0 then (some ((-1000001 : Int32), V)) else ((cf_X4_in ((b2).toInt64) (0 : Int64) (4 : Int64)).bind (fun x4 => if x4 = 0 then (some ((-1000001 : Int32), V)) else ((G a0 0).bind (fun r6 => (G a0 2).bind (fun r7 => (cf_X4_copy Y V G r6 r7).bind (fun x8 => lp_X4_when_36 Y G fuB x8 a0 b1 b2 (0 : Int32)))))))) else none
def lp_X4_lawful_34 (Y : mY) (G : mG) : Nat → mV → Nat → Int32 → Int32 → Option (Int32 × mV)
  | 0, _, _, _, _ => none
  | k + 1, V, j0, j1, j2 => if (400 : Int32) ≤ j2 then (if Y.1 j0 = 4 then (cf_X4_unmetAhead Y V G j0 j1).bind (fun x11 => if x11 = 0 then ((G j0 2).bind (fun r16 => (G j0 0).bind (fun r17 => (cf_X4_copy Y V G r16 r17).bind (fun x18 => some (j2, x18))))) else ((G j0 2).bind (fun r13 => (G j0 0).bind (fun r14 => (cf_X4_copy Y V G r13 r14).bind (fun x15 => some ((-1000004 : Int32), x15)))))) else none) else (if Y.1 j0 = 4 then (cf_X4_unmetAhead Y V G j0 j1).bind (fun x20 => if x20 = 0 then ((cf_X4_unmetAhead Y V G j0 j1).bind (fun x22 => if x22 = 0 then ((G j0 2).bind (fun r27 => (G j0 0).bind (fun r28 => (cf_X4_copy Y V G r27 r28).bind (fun x29 => some (j2, x29))))) else ((G j0 2).bind (fun r24 => (G j0 0).bind (fun r25 => (cf_X4_copy Y V G r24 r25).bind (fun x26 => some ((-1000004 : Int32), x26))))))) else ((cf_X4_passDay Y V G j0).bind (fun x30 => lp_X4_lawful_34 Y G k x30 j0 j1 (j2 + 1)))) else none)
def cf_X4_lawful (Y : mY) (V : mV) (G : mG) (a0 : Nat) (b1 : Int32) : Option (Int32 × mV) := (cf_X4_isStage b1).bind (fun x1 => if x1 = 0 then (some ((-1000001 : Int32), V)) else (if Y.1 a0 = 4 then (cf_X4_mayBegin Y V G a0 b1).bind (fun x4 => if x4 = 0 then (some ((-1000002 : Int32), V)) else ((G a0 0).bind (fun r6 => (G a0 2).bind (fun r7 => (cf_X4_copy Y V G r6 r7).bind (fun x8 => lp_X4_lawful_34 Y G fuB x8 a0 b1 (0 : Int32)))))) else none))
def cf_X4_fine (Y : mY) (V : mV) (G : mG) (a0 : Nat) (b1 : Int32) (b2 : Int64) : Option (Int64) := if Y.1 a0 = 4 then (cf_X4_isCondition Y V G a0 b1).bind (fun x2 => if x2 = 0 then (some (-1000001 : Int64)) else ((cf_X4_in b2 (1 : Int64) (1000000000000000 : Int64)).bind (fun x4 => if x4 = 0 then (some (-1000001 : Int64)) else ((cf_X4_get Y V G a0 b1 (11 : Int32)).bind (fun x6 => if (lg_cmp ((x6).toInt64 * (x6).toInt64) (0 : Int64)) ≤ 0 then (some (b2 * ((x6).toInt64 * (x6).toInt64))) else (if ¬ ((x6).toInt64 * (x6).toInt64) = 0 then if (lg_cmp b2 ((9223372036854775807 : Int64) / ((x6).toInt64 * (x6).toInt64))) ≤ 0 then (some (b2 * ((x6).toInt64 * (x6).toInt64))) else (some (-1000003 : Int64)) else none)))))) else none
def lp_X4_shareBits_36  : Nat → Int32 → Int32 → Int64 → Int64 → Int32 → Option (Int32)
  | 0, _, _, _, _, _ => none
  | k + 1, j0, j1, j2, j4, j6 => if 0 ≤ (lg_cmp j2 j4) then (if ¬ j4 = 0 then if ¬ j4 = 0 then if 0 < (lg_cmp ((2 : Int64) * ((j2 * (8388608 : Int64)) - (j2 * (8388608 : Int64)) / j4 * j4)) j4) then (if (1 : Int32) = 0 then (if (lg_cmp (((j2 * (8388608 : Int64)) / j4) + (0 : Int64)) (16777216 : Int64)) = 0 then (some (((((((j6 + 1)).toInt64 * (8388608 : Int64)) + (8388608 : Int64)) - (8388608 : Int64))).toInt32)) else (some ((((((j6).toInt64 * (8388608 : Int64)) + (((j2 * (8388608 : Int64)) / j4) + (0 : Int64))) - (8388608 : Int64))).toInt32))) else (if (lg_cmp (((j2 * (8388608 : Int64)) / j4) + (1 : Int64)) (16777216 : Int64)) = 0 then (some (((((((j6 + 1)).toInt64 * (8388608 : Int64)) + (8388608 : Int64)) - (8388608 : Int64))).toInt32)) else (some ((((((j6).toInt64 * (8388608 : Int64)) + (((j2 * (8388608 : Int64)) / j4) + (1 : Int64))) - (8388608 : Int64))).toInt32)))) else (if (lg_cmp ((2 : Int64) * ((j2 * (8388608 : Int64)) - (j2 * (8388608 : Int64)) / j4 * j4)) j4) = 0 then (if ¬ (2 : Int64) = 0 then if (lg_cmp (((j2 * (8388608 : Int64)) / j4) - ((j2 * (8388608 : Int64)) / j4) / (2 : Int64) * (2 : Int64)) (1 : Int64)) = 0 then (if (1 : Int32) = 0 then (if (lg_cmp (((j2 * (8388608 : Int64)) / j4) + (0 : Int64)) (16777216 : Int64)) = 0 then (some (((((((j6 + 1)).toInt64 * (8388608 : Int64)) + (8388608 : Int64)) - (8388608 : Int64))).toInt32)) else (some ((((((j6).toInt64 * (8388608 : Int64)) + (((j2 * (8388608 : Int64)) / j4) + (0 : Int64))) - (8388608 : Int64))).toInt32))) else (if (lg_cmp (((j2 * (8388608 : Int64)) / j4) + (1 : Int64)) (16777216 : Int64)) = 0 then (some (((((((j6 + 1)).toInt64 * (8388608 : Int64)) + (8388608 : Int64)) - (8388608 : Int64))).toInt32)) else (some ((((((j6).toInt64 * (8388608 : Int64)) + (((j2 * (8388608 : Int64)) / j4) + (1 : Int64))) - (8388608 : Int64))).toInt32)))) else (if (0 : Int32) = 0 then (if (lg_cmp (((j2 * (8388608 : Int64)) / j4) + (0 : Int64)) (16777216 : Int64)) = 0 then (some (((((((j6 + 1)).toInt64 * (8388608 : Int64)) + (8388608 : Int64)) - (8388608 : Int64))).toInt32)) else (some ((((((j6).toInt64 * (8388608 : Int64)) + (((j2 * (8388608 : Int64)) / j4) + (0 : Int64))) - (8388608 : Int64))).toInt32))) else (if (lg_cmp (((j2 * (8388608 : Int64)) / j4) + (1 : Int64)) (16777216 : Int64)) = 0 then (some (((((((j6 + 1)).toInt64 * (8388608 : Int64)) + (8388608 : Int64)) - (8388608 : Int64))).toInt32)) else (some ((((((j6).toInt64 * (8388608 : Int64)) + (((j2 * (8388608 : Int64)) / j4) + (1 : Int64))) - (8388608 : Int64))).toInt32)))) else none) else (if (0 : Int32) = 0 then (if (lg_cmp (((j2 * (8388608 : Int64)) / j4) + (0 : Int64)) (16777216 : Int64)) = 0 then (some (((((((j6 + 1)).toInt64 * (8388608 : Int64)) + (8388608 : Int64)) - (8388608 : Int64))).toInt32)) else (some ((((((j6).toInt64 * (8388608 : Int64)) + (((j2 * (8388608 : Int64)) / j4) + (0 : Int64))) - (8388608 : Int64))).toInt32))) else (if (lg_cmp (((j2 * (8388608 : Int64)) / j4) + (1 : Int64)) (16777216 : Int64)) = 0 then (some (((((((j6 + 1)).toInt64 * (8388608 : Int64)) + (8388608 : Int64)) - (8388608 : Int64))).toInt32)) else (some ((((((j6).toInt64 * (8388608 : Int64)) + (((j2 * (8388608 : Int64)) / j4) + (1 : Int64))) - (8388608 : Int64))).toInt32))))) else none else none) else (lp_X4_shareBits_36 k j0 j1 (j2 * (2 : Int64)) j4 (j6 + (-1)))
def lp_X4_shareBits_11  : Nat → Int32 → Int32 → Int64 → Int64 → Int32 → Option (Int32)
  | 0, _, _, _, _, _ => none
  | k + 1, j0, j1, j2, j4, j6 => if (lg_cmp j2 ((2 : Int64) * j4)) < 0 then (lp_X4_shareBits_36 fuB j0 j1 j2 j4 j6) else (lp_X4_shareBits_11 k j0 j1 j2 (j4 * (2 : Int64)) (j6 + 1))
def cf_X4_shareBits (b1 : Int32) (b2 : Int32) : Option (Int32) := lp_X4_shareBits_11 fuB b1 b2 ((b1).toInt64) ((b2).toInt64) (127 : Int32)
def cf_X4_share (Y : mY) (V : mV) (G : mG) (a0 : Nat) : Option (Int32) := if Y.1 a0 = 4 then (G a0 0).bind (fun r2 => if Y.1 r2 = 6 then if ¬ ((1 : Int32) < 0 ∨ Y.2 r2 ≤ (1 : Int32).toNatClampNeg) then if (V r2 (1 : Int32).toNatClampNeg) = 0 then (some (-1000004 : Int32)) else ((cf_X4_withState Y V G a0 (2 : Int32)).bind (fun x6 => (cf_X4_bits x6).bind (fun x7 => if x7 = 0 then (some (0 : Int32)) else (if ¬ ((1 : Int32) < 0 ∨ Y.2 r2 ≤ (1 : Int32).toNatClampNeg) then (cf_X4_shareBits x7 (V r2 (1 : Int32).toNatClampNeg)).bind (fun x10 => some x10) else none)))) else none else none) else none
def lp_X4_partsOf_4 (Y : mY) (V : mV) (G : mG) : Nat → Nat → Int32 → Int32 → Int32 → Option (Int32)
  | 0, _, _, _, _ => none
  | k + 1, j0, j1, j2, j3 => if Y.1 j0 = 4 then (G j0 0).bind (fun r2 => if Y.1 r2 = 6 then if ¬ ((1 : Int32) < 0 ∨ Y.2 r2 ≤ (1 : Int32).toNatClampNeg) then if (V r2 (1 : Int32).toNatClampNeg) ≤ j3 then (some j2) else (if j1 = 0 then ((cf_X4_get Y V G j0 j3 (3 : Int32)).bind (fun x7 => lp_X4_partsOf_4 Y V G k j0 j1 (j2 + x7) (j3 + 1))) else ((cf_X4_get Y V G j0 j3 (4 : Int32)).bind (fun x8 => (cf_X4_bits x8).bind (fun x9 => lp_X4_partsOf_4 Y V G k j0 j1 (j2 + x9) (j3 + 1))))) else none else none) else none
def cf_X4_partsOf (Y : mY) (V : mV) (G : mG) (a0 : Nat) (b1 : Int32) : Option (Int32) := lp_X4_partsOf_4 Y V G fuB a0 b1 (0 : Int32) (0 : Int32)
def cf_X4_count (Y : mY) (V : mV) (G : mG) (a0 : Nat) (b1 : Int32) : Option (Int32) := if b1 = (0 : Int32) then (if Y.1 a0 = 4 then (G a0 0).bind (fun r3 => if Y.1 r3 = 6 then if ¬ ((1 : Int32) < 0 ∨ Y.2 r3 ≤ (1 : Int32).toNatClampNeg) then some (V r3 (1 : Int32).toNatClampNeg) else none else none) else none) else (if b1 = (1 : Int32) then (if Y.1 a0 = 4 then (G a0 0).bind (fun r8 => if Y.1 r8 = 6 then if ¬ ((0 : Int32) < 0 ∨ Y.2 r8 ≤ (0 : Int32).toNatClampNeg) then some (V r8 (0 : Int32).toNatClampNeg) else none else none) else none) else (if b1 = (2 : Int32) then (if Y.1 a0 = 4 then (cf_X4_partsOf Y V G a0 (0 : Int32)).bind (fun x13 => some x13) else none) else (if b1 = (3 : Int32) then (if Y.1 a0 = 4 then (cf_X4_partsOf Y V G a0 (1 : Int32)).bind (fun x16 => some x16) else none) else (if b1 = (4 : Int32) then (if Y.1 a0 = 4 then (G a0 0).bind (fun r19 => if Y.1 r19 = 6 then if ¬ ((4 : Int32) < 0 ∨ Y.2 r19 ≤ (4 : Int32).toNatClampNeg) then some (V r19 (4 : Int32).toNatClampNeg) else none else none) else none) else (if b1 = (5 : Int32) then (if Y.1 a0 = 4 then (G a0 0).bind (fun r24 => if Y.1 r24 = 6 then if ¬ ((5 : Int32) < 0 ∨ Y.2 r24 ≤ (5 : Int32).toNatClampNeg) then some (V r24 (5 : Int32).toNatClampNeg) else none else none) else none) else (if b1 = (6 : Int32) then (if Y.1 a0 = 4 then some (V a0 4) else none) else (if b1 = (7 : Int32) then (if Y.1 a0 = 4 then some (V a0 6) else none) else (if b1 = (20 : Int32) then (if Y.1 a0 = 4 then (G a0 0).bind (fun r33 => if Y.1 r33 = 6 then if ¬ ((2 : Int32) < 0 ∨ Y.2 r33 ≤ (2 : Int32).toNatClampNeg) then some (V r33 (2 : Int32).toNatClampNeg) else none else none) else none) else (if b1 = (21 : Int32) then (if Y.1 a0 = 4 then (G a0 0).bind (fun r38 => if Y.1 r38 = 6 then if ¬ ((3 : Int32) < 0 ∨ Y.2 r38 ≤ (3 : Int32).toNatClampNeg) then some (V r38 (3 : Int32).toNatClampNeg) else none else none) else none) else (some (-1000001 : Int32)))))))))))
def lp_X4_undo_22 (Y : mY) (G : mG) : Nat → mV → Nat → Int32 → Option (Int32 × mV)
  | 0, _, _, _ => none
  | k + 1, V, j0, j1 => if (146 : Int32) ≤ j1 then (if Y.1 j0 = 4 then some ((V j0 4), V) else none) else (if Y.1 j0 = 4 then (G j0 0).bind (fun r6 => (G j0 3).bind (fun r7 => if Y.1 r7 = 6 then if ¬ ((((146 : Int32) * (V j0 4)) + j1) < 0 ∨ Y.2 r7 ≤ (((146 : Int32) * (V j0 4)) + j1).toNatClampNeg) then if Y.1 r6 = 6 then if ¬ (j1 < 0 ∨ Y.2 r6 ≤ j1.toNatClampNeg) then lp_X4_undo_22 Y G k (up2 V r6 j1.toNatClampNeg (V r7 (((146 : Int32) * (V j0 4)) + j1).toNatClampNeg)) j0 (j1 + 1) else none else none else none else none)) else none)
def cf_X4_undo (Y : mY) (V : mV) (G : mG) (a0 : Nat) : Option (Int32 × mV) := if Y.1 a0 = 4 then if (V a0 4) = 0 then (some ((-1000002 : Int32), V)) else (lp_X4_undo_22 Y G fuB (up2 V a0 4 ((V a0 4) - (1 : Int32))) a0 (0 : Int32)) else none
def cf_X4_type (Y : mY) (V : mV) (G : mG) (a0 : Nat) (b1 : Int32) : Option (Int32 × mV) := (cf_X4_in ((b1).toInt64) (32 : Int64) (126 : Int64)).bind (fun x1 => if x1 = 0 then (some ((-1000001 : Int32), V)) else (if Y.1 a0 = 4 then if (V a0 6) = (80 : Int32) then (some ((-1000003 : Int32), V)) else ((G a0 5).bind (fun r5 => if Y.1 r5 = 6 then if ¬ ((V a0 6) < 0 ∨ Y.2 r5 ≤ (V a0 6).toNatClampNeg) then (some (up2 (up2 V r5 (V a0 6).toNatClampNeg b1) a0 6 (((up2 V r5 (V a0 6).toNatClampNeg b1) a0 6) + (1 : Int32)))).bind (fun V8 => some ((V8 a0 6), V8)) else none else none)) else none))
def cf_X4_clearText (Y : mY) (V : mV) (G : mG) (a0 : Nat) : Option (Int32 × mV) := if Y.1 a0 = 4 then some ((V a0 6), (up2 V a0 6 (0 : Int32))) else none
def cf_X4_numbersOf (b1 : Int32) : Option (Int32) := if b1 = (97 : Int32) then (some (2 : Int32)) else (if b1 = (98 : Int32) then (some (1 : Int32)) else (if b1 = (99 : Int32) then (some (4 : Int32)) else (if b1 = (100 : Int32) then (some (2 : Int32)) else (if b1 = (102 : Int32) then (some (1 : Int32)) else (if b1 = (112 : Int32) then (some (1 : Int32)) else (some (0 : Int32)))))))
def cf_X4_takes (Y : mY) (V : mV) (G : mG) (a0 : Nat) (b1 : Int32) : Option (Int32 × mV) := if Y.1 a0 = 4 then if (V a0 6) ≤ (V a0 8) then (if (0 : Int32) = 0 then (some ((0 : Int32), (up2 V a0 8 ((V a0 8) + (0 : Int32))))) else (some ((0 : Int32), (up2 V a0 8 ((V a0 8) + (1 : Int32)))))) else ((G a0 5).bind (fun r4 => if Y.1 r4 = 6 then if ¬ ((V a0 8) < 0 ∨ Y.2 r4 ≤ (V a0 8).toNatClampNeg) then if (V r4 (V a0 8).toNatClampNeg) = b1 then (if (1 : Int32) = 0 then (some ((1 : Int32), (up2 V a0 8 ((V a0 8) + (0 : Int32))))) else (some ((1 : Int32), (up2 V a0 8 ((V a0 8) + (1 : Int32)))))) else (if (0 : Int32) = 0 then (some ((0 : Int32), (up2 V a0 8 ((V a0 8) + (0 : Int32))))) else (some ((0 : Int32), (up2 V a0 8 ((V a0 8) + (1 : Int32)))))) else none else none)) else none
def lp_X4_takesNumber_12 (Y : mY) (G : mG) : Nat → mV → Nat → Int32 → Int32 → Option (Int32 × mV)
  | 0, _, _, _, _ => none
  | k + 1, V, j0, j1, j2 => if Y.1 j0 = 4 then if (V j0 6) ≤ (V j0 8) then (if (V j0 8) ≤ j2 then (some ((0 : Int32), V)) else (some ((1 : Int32), V))) else (if (j2 + (3 : Int32)) ≤ (V j0 8) then (if (V j0 8) ≤ j2 then (some ((0 : Int32), V)) else (some ((1 : Int32), V))) else ((G j0 5).bind (fun r10 => if Y.1 r10 = 6 then if ¬ ((V j0 8) < 0 ∨ Y.2 r10 ≤ (V j0 8).toNatClampNeg) then (cf_X4_in (((V r10 (V j0 8).toNatClampNeg)).toInt64) (48 : Int64) (57 : Int64)).bind (fun x13 => if x13 = 0 then (if (V j0 8) ≤ j2 then (some ((0 : Int32), V)) else (some ((1 : Int32), V))) else ((G j0 9).bind (fun r16 => if Y.1 r16 = 6 then if ¬ (j1 < 0 ∨ Y.2 r16 ≤ j1.toNatClampNeg) then if ¬ ((V j0 8) < 0 ∨ Y.2 r10 ≤ (V j0 8).toNatClampNeg) then if ¬ (j1 < 0 ∨ Y.2 r16 ≤ j1.toNatClampNeg) then (some (up2 V r16 j1.toNatClampNeg ((((10 : Int32) * (V r16 j1.toNatClampNeg)) + (V r10 (V j0 8).toNatClampNeg)) - (48 : Int32)))).bind (fun V21 => lp_X4_takesNumber_12 Y G k (up2 V21 j0 8 ((V21 j0 8) + (1 : Int32))) j0 j1 j2) else none else none else none else none))) else none else none))) else none
def cf_X4_takesNumber (Y : mY) (V : mV) (G : mG) (a0 : Nat) (b1 : Int32) : Option (Int32 × mV) := if Y.1 a0 = 4 then (G a0 9).bind (fun r2 => if Y.1 r2 = 6 then if ¬ (b1 < 0 ∨ Y.2 r2 ≤ b1.toNatClampNeg) then lp_X4_takesNumber_12 Y G fuB (up2 V r2 b1.toNatClampNeg (0 : Int32)) a0 b1 (V a0 8) else none else none) else none
def lp_X4_readsOrder_39 (Y : mY) (G : mG) : Nat → mV → Nat → Int32 → Int32 → Option (Int32 × mV)
  | 0, _, _, _, _ => none
  | k + 1, V, j0, j1, j2 => if j1 ≤ j2 then (if Y.1 j0 = 4 then (cf_X4_takes Y V G j0 (59 : Int32)).bind (fun x9 => if x9.1 = 0 ∨ x9.1 = 1 then some (x9.1, x9.2) else none) else none) else (if j2 ≤ 0 then (if Y.1 j0 = 4 then (cf_X4_takesNumber Y V G j0 j2).bind (fun x13 => if x13.1 = 0 then (some ((0 : Int32), x13.2)) else (lp_X4_readsOrder_39 Y G k x13.2 j0 j1 (j2 + 1))) else none) else (if Y.1 j0 = 4 then (cf_X4_takes Y V G j0 (44 : Int32)).bind (fun x16 => if x16.1 = 0 then (some ((0 : Int32), x16.2)) else ((cf_X4_takesNumber Y x16.2 G j0 j2).bind (fun x18 => if x18.1 = 0 then (some ((0 : Int32), x18.2)) else (lp_X4_readsOrder_39 Y G k x18.2 j0 j1 (j2 + 1))))) else none))
def cf_X4_readsOrder (Y : mY) (V : mV) (G : mG) (a0 : Nat) : Option (Int32 × mV) := if Y.1 a0 = 4 then (G a0 5).bind (fun r2 => if Y.1 r2 = 6 then if ¬ (((up2 V a0 8 (V a0 7)) a0 7) < 0 ∨ Y.2 r2 ≤ ((up2 V a0 8 (V a0 7)) a0 7).toNatClampNeg) then (cf_X4_numbersOf ((up2 V a0 8 (V a0 7)) r2 ((up2 V a0 8 (V a0 7)) a0 7).toNatClampNeg)).bind (fun x5 => if x5 = 0 then (some ((0 : Int32), (up2 V a0 8 (V a0 7)))) else (lp_X4_readsOrder_39 Y G fuB (up2 (up2 V a0 8 (V a0 7)) a0 8 (((up2 V a0 8 (V a0 7)) a0 8) + (1 : Int32))) a0 x5 (0 : Int32))) else none else none) else none
def cf_X4_doesOrder (Y : mY) (V : mV) (G : mG) (a0 : Nat) : Option (Int32 × mV) := if Y.1 a0 = 4 then (G a0 5).bind (fun r2 => if Y.1 r2 = 6 then if ¬ ((V a0 7) < 0 ∨ Y.2 r2 ≤ (V a0 7).toNatClampNeg) then if (V r2 (V a0 7).toNatClampNeg) = (97 : Int32) then ((G a0 9).bind (fun r6 => if Y.1 r6 = 6 then if ¬ ((0 : Int32) < 0 ∨ Y.2 r6 ≤ (0 : Int32).toNatClampNeg) then if ¬ ((1 : Int32) < 0 ∨ Y.2 r6 ≤ (1 : Int32).toNatClampNeg) then (cf_X4_doApply Y V G a0 (V r6 (0 : Int32).toNatClampNeg) (V r6 (1 : Int32).toNatClampNeg)).bind (fun x10 => some (x10.1, x10.2)) else none else none else none)) else (if (V r2 (V a0 7).toNatClampNeg) = (98 : Int32) then ((G a0 9).bind (fun r12 => if Y.1 r12 = 6 then if ¬ ((0 : Int32) < 0 ∨ Y.2 r12 ≤ (0 : Int32).toNatClampNeg) then (cf_X4_doBegin Y V G a0 (V r12 (0 : Int32).toNatClampNeg)).bind (fun x15 => some (x15.1, x15.2)) else none else none)) else (if (V r2 (V a0 7).toNatClampNeg) = (99 : Int32) then ((G a0 9).bind (fun r17 => if Y.1 r17 = 6 then if ¬ ((0 : Int32) < 0 ∨ Y.2 r17 ≤ (0 : Int32).toNatClampNeg) then if ¬ ((1 : Int32) < 0 ∨ Y.2 r17 ≤ (1 : Int32).toNatClampNeg) then if ¬ ((2 : Int32) < 0 ∨ Y.2 r17 ≤ (2 : Int32).toNatClampNeg) then if ¬ ((3 : Int32) < 0 ∨ Y.2 r17 ≤ (3 : Int32).toNatClampNeg) then (cf_X4_doCondition Y V G a0 (V r17 (0 : Int32).toNatClampNeg) (V r17 (1 : Int32).toNatClampNeg) (V r17 (2 : Int32).toNatClampNeg) (V r17 (3 : Int32).toNatClampNeg)).bind (fun x23 => some (x23.1, x23.2)) else none else none else none else none else none)) else (if (V r2 (V a0 7).toNatClampNeg) = (100 : Int32) then ((G a0 9).bind (fun r25 => if Y.1 r25 = 6 then if ¬ ((0 : Int32) < 0 ∨ Y.2 r25 ≤ (0 : Int32).toNatClampNeg) then if ¬ ((1 : Int32) < 0 ∨ Y.2 r25 ≤ (1 : Int32).toNatClampNeg) then (cf_X4_doDecide Y V G a0 (V r25 (0 : Int32).toNatClampNeg) (V r25 (1 : Int32).toNatClampNeg)).bind (fun x29 => some (x29.1, x29.2)) else none else none else none)) else (if (V r2 (V a0 7).toNatClampNeg) = (102 : Int32) then ((G a0 9).bind (fun r31 => if Y.1 r31 = 6 then if ¬ ((0 : Int32) < 0 ∨ Y.2 r31 ≤ (0 : Int32).toNatClampNeg) then (cf_X4_doFinish Y V G a0 (V r31 (0 : Int32).toNatClampNeg)).bind (fun x34 => some (x34.1, x34.2)) else none else none)) else ((G a0 9).bind (fun r35 => if Y.1 r35 = 6 then if ¬ ((0 : Int32) < 0 ∨ Y.2 r35 ≤ (0 : Int32).toNatClampNeg) then (cf_X4_doPass Y V G a0 (V r35 (0 : Int32).toNatClampNeg)).bind (fun x38 => some (x38.1, x38.2)) else none else none)))))) else none else none) else none
def lp_X4_doesAll_10 (Y : mY) (G : mG) : Nat → mV → Nat → Option (Int32 × mV)
  | 0, _, _ => none
  | k + 1, V, j0 => if Y.1 j0 = 4 then if (V j0 6) ≤ (V j0 7) then (some ((1 : Int32), V)) else ((cf_X4_readsOrder Y V G j0).bind (fun x4 => if x4.1 = 0 then ((some (up2 (up2 x4.2 j0 10 (1 : Int32)) j0 11 (((up2 x4.2 j0 10 (1 : Int32)) j0 8) - ((up2 x4.2 j0 10 (1 : Int32)) j0 7)))).bind (fun V9 => some ((0 : Int32), V9))) else ((cf_X4_doesOrder Y x4.2 G j0).bind (fun x6 => (cf_X4_isError x6.1).bind (fun x7 => if x7 = 0 then (lp_X4_doesAll_10 Y G k (up2 (up2 x6.2 j0 12 ((x6.2 j0 12) + (1 : Int32))) j0 7 (x4.2 j0 8)) j0) else (some ((0 : Int32), (up2 (up2 x6.2 j0 10 (2 : Int32)) j0 11 x6.1)))))))) else none
def cf_X4_doesAll (Y : mY) (V : mV) (G : mG) (a0 : Nat) : Option (Int32 × mV) := if Y.1 a0 = 4 then lp_X4_doesAll_10 Y G fuB (up2 (up2 V a0 7 (0 : Int32)) a0 12 (0 : Int32)) a0 else none
def cf_X4_fault (Y : mY) (V : mV) (G : mG) (a0 : Nat) (b1 : Int32) : Option (Int32 × mV) := (cf_X4_in ((b1).toInt64) (0 : Int64) (2 : Int64)).bind (fun x1 => if x1 = 0 then (some ((-1000001 : Int32), V)) else (if Y.1 a0 = 4 then (G a0 0).bind (fun r4 => (G a0 1).bind (fun r5 => (cf_X4_copy Y V G r4 r5).bind (fun x6 => (cf_X4_doesAll Y x6 G a0).bind (fun x7 => (cf_X4_copy Y x7.2 G r5 r4).bind (fun x8 => if x7.1 = 0 then (if b1 = 0 then (some ((x8 a0 7), x8)) else (if b1 = (1 : Int32) then (some ((x8 a0 10), x8)) else (some ((x8 a0 11), x8)))) else (some ((-1000004 : Int32), x8))))))) else none))
def cf_X4_play (Y : mY) (V : mV) (G : mG) (a0 : Nat) : Option (Int32 × mV) := if Y.1 a0 = 4 then (G a0 0).bind (fun r2 => (G a0 1).bind (fun r3 => (cf_X4_copy Y V G r2 r3).bind (fun x4 => (cf_X4_doesAll Y x4 G a0).bind (fun x5 => if x5.1 = 0 then ((cf_X4_copy Y x5.2 G r3 r2).bind (fun x8 => some ((-1000002 : Int32), x8))) else ((cf_X4_record Y x5.2 G a0).bind (fun x7 => some ((x7 a0 12), x7))))))) else none
set_option maxHeartbeats 4000000 in
set_option maxRecDepth 100000 in
theorem ct_X4_in (l : Launch) (D : va_G) (cy : Nat → ClassId) (z n : Nat) (Y : mY) (V : mV) (G : mG) (b1 : Int64) (b2 : Int64) (b3 : Int64) (x : Int32) (hcf : cf_X4_in b1 b2 b3 = some x) : CT l yX4_in cX4_in 6 (some .boolean) (rmd 0) D cy z [.long b1, .long b2, .long b3] Y n V G (some (.int x)) Y n V G := by
  refine ct_of (by decide) (Nat.le_of_ble_eq_true rfl) ?_
  intro p e s m args below meth c ls hx hb hr hml hown hts hlocks hnm hE hW hl
  have hS : va_S (zA z) s.heap s.heap [] := va_S.rf
  have hl : lv_has ls 6 [(0, .long b1), (2, .long b2), (4, .long b3)] := hl
  have hown : s.vm.findClass RX4 = some m.cls := hown
  rw [cf_X4_in] at hcf
  refine lv_lload_n hx hb dX4_in_0 rfl (lv_at hl 0 rfl) ?_
  refine lv_lload_n hx hb dX4_in_1 rfl (lv_at hl 1 rfl) ?_
  refine W.lcmp hx hb dX4_in_2 ?_
  refine lv_if_lt (tgt := 17) hx hb dX4_in_3 (by decide) (fun q1 => ?_) (fun q1 => ?_)
  · replace hcf := (if_pos q1).symm.trans hcf
    refine lv_iconst (v := (0 : Int32)) hx hb dX4_in_17 (by decide) ?_
    have hcf := Option.some.inj hcf; subst hcf
    exact wk_zret hx hb hr hlocks (Or.inl rfl) hW hS dX4_in_18
  · replace hcf := (if_neg q1).symm.trans hcf
    refine lv_lload_n hx hb dX4_in_6 rfl (lv_at hl 0 rfl) ?_
    refine lv_lload hx hb dX4_in_7 (lv_at hl 2 rfl) ?_
    refine W.lcmp hx hb dX4_in_9 ?_
    refine lv_if_gt (tgt := 17) hx hb dX4_in_10 (by decide) (fun q2 => ?_) (fun q2 => ?_)
    · replace hcf := (if_pos q2).symm.trans hcf
      refine lv_iconst (v := (0 : Int32)) hx hb dX4_in_17 (by decide) ?_
      have hcf := Option.some.inj hcf; subst hcf
      exact wk_zret hx hb hr hlocks (Or.inl rfl) hW hS dX4_in_18
    · replace hcf := (if_neg q2).symm.trans hcf
      refine lv_iconst (v := (1 : Int32)) hx hb dX4_in_13 (by decide) ?_
      refine lv_goto (tgt := 18) hx hb dX4_in_14 (by decide) ?_
      have hcf := Option.some.inj hcf; subst hcf
      exact wk_zret hx hb hr hlocks (Or.inr rfl) hW hS dX4_in_18
set_option maxHeartbeats 4000000 in
set_option maxRecDepth 100000 in
theorem wl_X4_copy_2 {p : Program} {l : Launch} {e : Env} {s : State} {m : MethodId} {args : Array Value} {below : List Frame} {meth : Method} {c : Code} {D : va_G} {cy : Nat → ClassId} {z : Nat} {n : Nat} {Y : mY} {G : mG} (hx : p.tables.exec = Jvm.exec) (hb : c.code = cX4_copy) (hr : meth.sig.returnType = none) (hml : c.maxLocals = 3) (hown : s.vm.findClass RX4 = some m.cls) (hts : ∀ w ∈ lw_all, w.before args s = true) (hlocks : meth.locks = false) (hE : En D cy s) (x : mV) : ∀ (k : Nat) (V : mV) (j0 : Nat) (j1 : Nat) (j2 : Int32) (H : Heap) (locs : List Loc) (ls : Array Slot), lp_X4_copy_2 Y G k V j0 j1 j2 = some x → Wd Y cy D z n V G H → va_S (zA z) s.heap H locs → lv_has ls 3 [(0, .ref j0), (1, .ref j1), (2, .int j2)] → W p l e (rmd 0) s m args below meth c H locs 0 0 (MQ below (QC D cy z Y n x G none) args s 0 0 (zA z)) (F0 m 2 ls []) := by
  intro k
  induction k with
  | zero =>
    intro V j0 j1 j2 H locs ls hcf
    have hcf : none = some _ := hcf
    cases hcf
  | succ k ih =>
    intro V j0 j1 j2 H locs ls hcf hW hS hl
    rw [lp_X4_copy_2] at hcf
    refine lv_iload_n hx hb dX4_copy_2 rfl (lv_at hl 2 rfl) ?_
    refine lv_sipush (v := (146 : Int32)) hx hb dX4_copy_3 (by decide) ?_
    refine lv_icmp_ge (tgt := 21) hx hb dX4_copy_6 (by decide) (fun q1 => ?_) (fun q1 => ?_)
    · replace hcf := (if_pos q1).symm.trans hcf
      have hcf := Option.some.inj hcf; subst hcf
      exact wk_vret hx hb hr hlocks hW hS dX4_copy_21
    · replace hcf := (if_neg q1).symm.trans hcf
      refine lv_aload_n hx hb dX4_copy_9 rfl (lv_at hl 1 rfl) ?_
      refine lv_iload_n hx hb dX4_copy_10 rfl (lv_at hl 2 rfl) ?_
      refine lv_aload_n hx hb dX4_copy_11 rfl (lv_at hl 0 rfl) ?_
      refine lv_iload_n hx hb dX4_copy_12 rfl (lv_at hl 2 rfl) ?_
      obtain ⟨q2, hcf⟩ := og hcf
      obtain ⟨q3, hcf⟩ := og hcf
      refine wk_iald hx hb hE hW q2 q3 dX4_copy_13 ?_
      obtain ⟨q4, hcf⟩ := og hcf
      obtain ⟨q5, hcf⟩ := og hcf
      refine wk_iast hx hb hE hW hS q4 q5 dX4_copy_14 (fun H locs hW hS => ?_)
      refine lv_iinc (v := (j2 + 1)) (lv' := [(2, .int (j2 + 1)), (0, .ref j0), (1, .ref j1)]) hx hb dX4_copy_15 hl (k := 2) rfl rfl (by decide) rfl (fun ls hl => ?_)
      refine lv_goto (tgt := 2) hx hb dX4_copy_18 (by decide) ?_
      exact ih (up2 V j1 j2.toNatClampNeg (V j0 j2.toNatClampNeg)) j0 j1 (j2 + 1) _ _ _ hcf hW hS (lv_sub hl [1, 2, 0] rfl)
set_option maxHeartbeats 4000000 in
set_option maxRecDepth 100000 in
theorem ct_X4_copy (l : Launch) (D : va_G) (cy : Nat → ClassId) (z n : Nat) (Y : mY) (V : mV) (G : mG) (b1 : Nat) (b2 : Nat) (x : mV) (hcf : cf_X4_copy Y V G b1 b2 = some x) : CT l yX4_copy cX4_copy 3 none (rmd 0) D cy z [.ref b1, .ref b2] Y n V G none Y n x G := by
  refine ct_of (by decide) (Nat.le_of_ble_eq_true rfl) ?_
  intro p e s m args below meth c ls hx hb hr hml hown hts hlocks hnm hE hW hl
  have hS : va_S (zA z) s.heap s.heap [] := va_S.rf
  have hl : lv_has ls 3 [(0, .ref b1), (1, .ref b2)] := hl
  have hown : s.vm.findClass RX4 = some m.cls := hown
  rw [cf_X4_copy] at hcf
  refine lv_iconst (v := (0 : Int32)) hx hb dX4_copy_0 (by decide) ?_
  refine lv_istore_n (lv' := [(2, .int (0 : Int32)), (0, .ref b1), (1, .ref b2)]) hx hb dX4_copy_1 rfl hl (by decide) rfl (fun ls hl => ?_)
  exact wl_X4_copy_2 hx hb hr hml hown hts hlocks hE x fuB V b1 b2 (0 : Int32) _ _ _ hcf hW hS (lv_sub hl [1, 2, 0] rfl)
set_option maxHeartbeats 4000000 in
set_option maxRecDepth 100000 in
theorem ct_X4_isError (l : Launch) (D : va_G) (cy : Nat → ClassId) (z n : Nat) (Y : mY) (V : mV) (G : mG) (b1 : Int32) (x : Int32) (hcf : cf_X4_isError b1 = some x) : CT l yX4_isError cX4_isError 1 (some .boolean) (rmd 0) D cy z [.int b1] Y n V G (some (.int x)) Y n V G := by
  refine ct_of (by decide) (Nat.le_of_ble_eq_true rfl) ?_
  intro p e s m args below meth c ls hx hb hr hml hown hts hlocks hnm hE hW hl
  have hS : va_S (zA z) s.heap s.heap [] := va_S.rf
  have hl : lv_has ls 1 [(0, .int b1)] := hl
  have hown : s.vm.findClass RX4 = some m.cls := hown
  rw [cf_X4_isError] at hcf
  refine lv_iload_n hx hb dX4_isError_0 rfl (lv_at hl 0 rfl) ?_
  refine lv_ldc hx hb hown (hts _ q690) dX4_isError_1 ?_
  refine lv_icmp_ge (tgt := 10) hx hb dX4_isError_3 (by decide) (fun q1 => ?_) (fun q1 => ?_)
  · replace hcf := (if_pos q1).symm.trans hcf
    refine lv_iconst (v := (0 : Int32)) hx hb dX4_isError_10 (by decide) ?_
    have hcf := Option.some.inj hcf; subst hcf
    exact wk_zret hx hb hr hlocks (Or.inl rfl) hW hS dX4_isError_11
  · replace hcf := (if_neg q1).symm.trans hcf
    refine lv_iconst (v := (1 : Int32)) hx hb dX4_isError_6 (by decide) ?_
    refine lv_goto (tgt := 11) hx hb dX4_isError_7 (by decide) ?_
    have hcf := Option.some.inj hcf; subst hcf
    exact wk_zret hx hb hr hlocks (Or.inr rfl) hW hS dX4_isError_11
set_option maxHeartbeats 4000000 in
set_option maxRecDepth 100000 in
theorem wl_X4_record_51 {p : Program} {l : Launch} {e : Env} {s : State} {m : MethodId} {args : Array Value} {below : List Frame} {meth : Method} {c : Code} {D : va_G} {cy : Nat → ClassId} {z : Nat} {n : Nat} {Y : mY} {G : mG} (hx : p.tables.exec = Jvm.exec) (hb : c.code = cX4_record) (hr : meth.sig.returnType = none) (hml : c.maxLocals = 2) (hown : s.vm.findClass RX4 = some m.cls) (hts : ∀ w ∈ lw_all, w.before args s = true) (hlocks : meth.locks = false) (hE : En D cy s) (x : mV) : ∀ (k : Nat) (V : mV) (j0 : Nat) (j1 : Int32) (H : Heap) (locs : List Loc) (ls : Array Slot), lp_X4_record_51 Y G k V j0 j1 = some x → Wd Y cy D z n V G H → va_S (zA z) s.heap H locs → lv_has ls 2 [(0, .ref j0), (1, .int j1)] → W p l e (rmd 0) s m args below meth c H locs 0 0 (MQ below (QC D cy z Y n x G none) args s 0 0 (zA z)) (F0 m 51 ls []) := by
  intro k
  induction k with
  | zero =>
    intro V j0 j1 H locs ls hcf
    have hcf : none = some _ := hcf
    cases hcf
  | succ k ih =>
    intro V j0 j1 H locs ls hcf hW hS hl
    rw [lp_X4_record_51] at hcf
    refine lv_iload_n hx hb dX4_record_51 rfl (lv_at hl 1 rfl) ?_
    refine lv_sipush (v := (146 : Int32)) hx hb dX4_record_52 (by decide) ?_
    refine lv_icmp_ge (tgt := 85) hx hb dX4_record_55 (by decide) (fun q3 => ?_) (fun q3 => ?_)
    · replace hcf := (if_pos q3).symm.trans hcf
      refine lv_aload_n hx hb dX4_record_85 rfl (lv_at hl 0 rfl) ?_
      refine lv_dup hx hb dX4_record_86 rfl ?_
      obtain ⟨q4, hcf⟩ := og hcf
      refine gf_X4_29 hx hb hts hown hE hW q4 dX4_record_87 ?_
      refine lv_iconst (v := (1 : Int32)) hx hb dX4_record_90 (by decide) ?_
      refine lv_iadd hx hb dX4_record_91 ?_
      refine pf_X4_29 hx hb hts hown hE hW hS q4 ((V j0 4) + (1 : Int32)) dX4_record_92 (fun H locs hW hS => ?_)
      have hcf := Option.some.inj hcf; subst hcf
      exact wk_vret hx hb hr hlocks hW hS dX4_record_95
    · replace hcf := (if_neg q3).symm.trans hcf
      refine lv_aload_n hx hb dX4_record_58 rfl (lv_at hl 0 rfl) ?_
      obtain ⟨q5, hcf⟩ := og hcf
      obtain ⟨r6, hr6, hcf⟩ := ob hcf
      refine gf_X4_19 hx hb hts hown hE hW q5 hr6 dX4_record_59 ?_
      refine lv_sipush (v := (146 : Int32)) hx hb dX4_record_62 (by decide) ?_
      refine lv_aload_n hx hb dX4_record_65 rfl (lv_at hl 0 rfl) ?_
      refine gf_X4_29 hx hb hts hown hE hW q5 dX4_record_66 ?_
      refine lv_imul hx hb dX4_record_69 ?_
      refine lv_iload_n hx hb dX4_record_70 rfl (lv_at hl 1 rfl) ?_
      refine lv_iadd hx hb dX4_record_71 ?_
      refine lv_aload_n hx hb dX4_record_72 rfl (lv_at hl 0 rfl) ?_
      obtain ⟨r7, hr7, hcf⟩ := ob hcf
      refine gf_X4_13 hx hb hts hown hE hW q5 hr7 dX4_record_73 ?_
      refine lv_iload_n hx hb dX4_record_76 rfl (lv_at hl 1 rfl) ?_
      obtain ⟨q8, hcf⟩ := og hcf
      obtain ⟨q9, hcf⟩ := og hcf
      refine wk_iald hx hb hE hW q8 q9 dX4_record_77 ?_
      obtain ⟨q10, hcf⟩ := og hcf
      obtain ⟨q11, hcf⟩ := og hcf
      refine wk_iast hx hb hE hW hS q10 q11 dX4_record_78 (fun H locs hW hS => ?_)
      refine lv_iinc (v := (j1 + 1)) (lv' := [(1, .int (j1 + 1)), (0, .ref j0)]) hx hb dX4_record_79 hl (k := 1) rfl rfl (by decide) rfl (fun ls hl => ?_)
      refine lv_goto (tgt := 51) hx hb dX4_record_82 (by decide) ?_
      exact ih (up2 V r6 (((146 : Int32) * (V j0 4)) + j1).toNatClampNeg (V r7 j1.toNatClampNeg)) j0 (j1 + 1) _ _ _ hcf hW hS (lv_sub hl [1, 0] rfl)
set_option maxHeartbeats 4000000 in
set_option maxRecDepth 100000 in
theorem wl_X4_record_10 {p : Program} {l : Launch} {e : Env} {s : State} {m : MethodId} {args : Array Value} {below : List Frame} {meth : Method} {c : Code} {D : va_G} {cy : Nat → ClassId} {z : Nat} {n : Nat} {Y : mY} {G : mG} (hx : p.tables.exec = Jvm.exec) (hb : c.code = cX4_record) (hr : meth.sig.returnType = none) (hml : c.maxLocals = 2) (hown : s.vm.findClass RX4 = some m.cls) (hts : ∀ w ∈ lw_all, w.before args s = true) (hlocks : meth.locks = false) (hE : En D cy s) (x : mV) : ∀ (k : Nat) (V : mV) (j0 : Nat) (j1 : Int32) (H : Heap) (locs : List Loc) (ls : Array Slot), lp_X4_record_10 Y G k V j0 j1 = some x → Wd Y cy D z n V G H → va_S (zA z) s.heap H locs → lv_has ls 2 [(0, .ref j0), (1, .int j1)] → W p l e (rmd 0) s m args below meth c H locs 0 0 (MQ below (QC D cy z Y n x G none) args s 0 0 (zA z)) (F0 m 10 ls []) := by
  intro k
  induction k with
  | zero =>
    intro V j0 j1 H locs ls hcf
    have hcf : none = some _ := hcf
    cases hcf
  | succ k ih =>
    intro V j0 j1 H locs ls hcf hW hS hl
    rw [lp_X4_record_10] at hcf
    refine lv_iload_n hx hb dX4_record_10 rfl (lv_at hl 1 rfl) ?_
    refine lv_sipush (v := (438 : Int32)) hx hb dX4_record_11 (by decide) ?_
    refine lv_icmp_ge (tgt := 39) hx hb dX4_record_14 (by decide) (fun q12 => ?_) (fun q12 => ?_)
    · replace hcf := (if_pos q12).symm.trans hcf
      refine lv_aload_n hx hb dX4_record_39 rfl (lv_at hl 0 rfl) ?_
      refine lv_dup hx hb dX4_record_40 rfl ?_
      obtain ⟨q13, hcf⟩ := og hcf
      refine gf_X4_29 hx hb hts hown hE hW q13 dX4_record_41 ?_
      refine lv_iconst (v := (1 : Int32)) hx hb dX4_record_44 (by decide) ?_
      refine lv_isub hx hb dX4_record_45 ?_
      refine pf_X4_29 hx hb hts hown hE hW hS q13 ((V j0 4) - (1 : Int32)) dX4_record_46 (fun H locs hW hS => ?_)
      refine lv_iconst (v := (0 : Int32)) hx hb dX4_record_49 (by decide) ?_
      refine lv_istore_n (lv' := [(1, .int (0 : Int32)), (0, .ref j0)]) hx hb dX4_record_50 rfl hl (by decide) rfl (fun ls hl => ?_)
      exact wl_X4_record_51 hx hb hr hml hown hts hlocks hE x fuB (up2 V j0 4 ((V j0 4) - (1 : Int32))) j0 (0 : Int32) _ _ _ hcf hW hS (lv_sub hl [1, 0] rfl)
    · replace hcf := (if_neg q12).symm.trans hcf
      refine lv_aload_n hx hb dX4_record_17 rfl (lv_at hl 0 rfl) ?_
      obtain ⟨q14, hcf⟩ := og hcf
      obtain ⟨r15, hr15, hcf⟩ := ob hcf
      refine gf_X4_19 hx hb hts hown hE hW q14 hr15 dX4_record_18 ?_
      refine lv_iload_n hx hb dX4_record_21 rfl (lv_at hl 1 rfl) ?_
      refine lv_aload_n hx hb dX4_record_22 rfl (lv_at hl 0 rfl) ?_
      refine gf_X4_19 hx hb hts hown hE hW q14 hr15 dX4_record_23 ?_
      refine lv_iload_n hx hb dX4_record_26 rfl (lv_at hl 1 rfl) ?_
      refine lv_sipush (v := (146 : Int32)) hx hb dX4_record_27 (by decide) ?_
      refine lv_iadd hx hb dX4_record_30 ?_
      obtain ⟨q16, hcf⟩ := og hcf
      obtain ⟨q17, hcf⟩ := og hcf
      refine wk_iald hx hb hE hW q16 q17 dX4_record_31 ?_
      obtain ⟨q18, hcf⟩ := og hcf
      refine wk_iast hx hb hE hW hS q16 q18 dX4_record_32 (fun H locs hW hS => ?_)
      refine lv_iinc (v := (j1 + 1)) (lv' := [(1, .int (j1 + 1)), (0, .ref j0)]) hx hb dX4_record_33 hl (k := 1) rfl rfl (by decide) rfl (fun ls hl => ?_)
      refine lv_goto (tgt := 10) hx hb dX4_record_36 (by decide) ?_
      exact ih (up2 V r15 j1.toNatClampNeg (V r15 (j1 + (146 : Int32)).toNatClampNeg)) j0 (j1 + 1) _ _ _ hcf hW hS (lv_sub hl [1, 0] rfl)
set_option maxHeartbeats 4000000 in
set_option maxRecDepth 100000 in
theorem ct_X4_record (l : Launch) (D : va_G) (cy : Nat → ClassId) (z n : Nat) (Y : mY) (V : mV) (G : mG) (a0 : Nat) (x : mV) (hcf : cf_X4_record Y V G a0 = some x) : CT l yX4_record cX4_record 2 none (rmd 0) D cy z [.ref a0] Y n V G none Y n x G := by
  refine ct_of (by decide) (Nat.le_of_ble_eq_true rfl) ?_
  intro p e s m args below meth c ls hx hb hr hml hown hts hlocks hnm hE hW hl
  have hS : va_S (zA z) s.heap s.heap [] := va_S.rf
  have hl : lv_has ls 2 [(0, .ref a0)] := hl
  have hown : s.vm.findClass RX4 = some m.cls := hown
  rw [cf_X4_record] at hcf
  refine lv_aload_n hx hb dX4_record_0 rfl (lv_at hl 0 rfl) ?_
  obtain ⟨q1, hcf⟩ := og hcf
  refine gf_X4_29 hx hb hts hown hE hW q1 dX4_record_1 ?_
  refine lv_iconst (v := (4 : Int32)) hx hb dX4_record_4 (by decide) ?_
  refine lv_icmp_ne (tgt := 49) hx hb dX4_record_5 (by decide) (fun q2 => ?_) (fun q2 => ?_)
  · replace hcf := (if_neg q2).symm.trans hcf
    refine lv_iconst (v := (0 : Int32)) hx hb dX4_record_49 (by decide) ?_
    refine lv_istore_n (lv' := [(1, .int (0 : Int32)), (0, .ref a0)]) hx hb dX4_record_50 rfl hl (by decide) rfl (fun ls hl => ?_)
    exact wl_X4_record_51 hx hb hr hml hown hts hlocks hE x fuB V a0 (0 : Int32) _ _ _ hcf hW hS (lv_sub hl [1, 0] rfl)
  · replace hcf := (if_pos q2).symm.trans hcf
    refine lv_iconst (v := (0 : Int32)) hx hb dX4_record_8 (by decide) ?_
    refine lv_istore_n (lv' := [(1, .int (0 : Int32)), (0, .ref a0)]) hx hb dX4_record_9 rfl hl (by decide) rfl (fun ls hl => ?_)
    exact wl_X4_record_10 hx hb hr hml hown hts hlocks hE x fuB V a0 (0 : Int32) _ _ _ hcf hW hS (lv_sub hl [1, 0] rfl)
set_option maxHeartbeats 4000000 in
set_option maxRecDepth 100000 in
theorem ct_X4_changed (l : Launch) (D : va_G) (cy : Nat → ClassId) (z n : Nat) (Y : mY) (V : mV) (G : mG) (a0 : Nat) (b1 : Int32) (x : Int32 × mV) (hcf : cf_X4_changed Y V G a0 b1 = some x) : CT l yX4_changed cX4_changed 2 (some .int) (rmd 1) D cy z [.ref a0, .int b1] Y n V G (some (.int x.1)) Y n x.2 G := by
  refine ct_of (by decide) (Nat.le_of_ble_eq_true rfl) ?_
  intro p e s m args below meth c ls hx hb hr hml hown hts hlocks hnm hE hW hl
  have hS : va_S (zA z) s.heap s.heap [] := va_S.rf
  have hl : lv_has ls 2 [(0, .ref a0), (1, .int b1)] := hl
  have hown : s.vm.findClass RX4 = some m.cls := hown
  rw [cf_X4_changed] at hcf
  refine lv_iload_n hx hb dX4_changed_0 rfl (lv_at hl 1 rfl) ?_
  obtain ⟨x1, hx1, hcf⟩ := ob hcf
  refine iv_X4_33 (As := [.int b1]) (rest := []) hx hb hml hown hts hE (ct_X4_isError l D cy z n Y V G b1 x1 hx1) hW hS rfl rfl hl.1 (Nat.le_of_ble_eq_true rfl) ⟨Nat.le_of_ble_eq_true rfl, Nat.le_of_ble_eq_true rfl⟩ dX4_changed_1 ⟨Nat.zero_le _, Nat.zero_le _⟩ (fun H locs hW hS => ?_)
  refine lv_if_ne (tgt := 11) hx hb dX4_changed_4 (by decide) (fun q2 => ?_) (fun q2 => ?_)
  · replace hcf := (if_neg q2).symm.trans hcf
    refine lv_iload_n hx hb dX4_changed_11 rfl (lv_at hl 1 rfl) ?_
    have hcf := Option.some.inj hcf; subst hcf
    exact wk_iret hx hb hr hlocks hW hS dX4_changed_12
  · replace hcf := (if_pos q2).symm.trans hcf
    refine lv_aload_n hx hb dX4_changed_7 rfl (lv_at hl 0 rfl) ?_
    obtain ⟨q3, hcf⟩ := og hcf
    obtain ⟨x4, hx4, hcf⟩ := ob hcf
    refine iv_X4_37 (As := []) (rest := []) hx hb hml hown hts hE (ct_X4_record l D cy z n Y V G a0 x4 hx4) hW hS q3 rfl rfl hl.1 (Nat.le_of_ble_eq_true rfl) ⟨Nat.le_of_ble_eq_true rfl, Nat.le_of_ble_eq_true rfl⟩ dX4_changed_8 ⟨Nat.zero_le _, Nat.zero_le _⟩ (fun H locs hW hS => ?_)
    refine lv_iload_n hx hb dX4_changed_11 rfl (lv_at hl 1 rfl) ?_
    have hcf := Option.some.inj hcf; subst hcf
    exact wk_iret hx hb hr hlocks hW hS dX4_changed_12
set_option maxHeartbeats 4000000 in
set_option maxRecDepth 100000 in
theorem ct_X4_get (l : Launch) (D : va_G) (cy : Nat → ClassId) (z n : Nat) (Y : mY) (V : mV) (G : mG) (a0 : Nat) (b1 : Int32) (b2 : Int32) (x : Int32) (hcf : cf_X4_get Y V G a0 b1 b2 = some x) : CT l yX4_get cX4_get 3 (some .int) (rmd 0) D cy z [.ref a0, .int b1, .int b2] Y n V G (some (.int x)) Y n V G := by
  refine ct_of (by decide) (Nat.le_of_ble_eq_true rfl) ?_
  intro p e s m args below meth c ls hx hb hr hml hown hts hlocks hnm hE hW hl
  have hS : va_S (zA z) s.heap s.heap [] := va_S.rf
  have hl : lv_has ls 3 [(0, .ref a0), (1, .int b1), (2, .int b2)] := hl
  have hown : s.vm.findClass RX4 = some m.cls := hown
  rw [cf_X4_get] at hcf
  refine lv_aload_n hx hb dX4_get_0 rfl (lv_at hl 0 rfl) ?_
  obtain ⟨q1, hcf⟩ := og hcf
  obtain ⟨r2, hr2, hcf⟩ := ob hcf
  refine gf_X4_7 hx hb hts hown hE hW q1 hr2 dX4_get_1 ?_
  refine lv_bipush (v := (16 : Int32)) hx hb dX4_get_4 (by decide) ?_
  refine lv_bipush (v := (13 : Int32)) hx hb dX4_get_6 (by decide) ?_
  refine lv_iload_n hx hb dX4_get_8 rfl (lv_at hl 1 rfl) ?_
  refine lv_imul hx hb dX4_get_9 ?_
  refine lv_iadd hx hb dX4_get_10 ?_
  refine lv_iload_n hx hb dX4_get_11 rfl (lv_at hl 2 rfl) ?_
  refine lv_iadd hx hb dX4_get_12 ?_
  obtain ⟨q3, hcf⟩ := og hcf
  obtain ⟨q4, hcf⟩ := og hcf
  refine wk_iald hx hb hE hW q3 q4 dX4_get_13 ?_
  have hcf := Option.some.inj hcf; subst hcf
  exact wk_iret hx hb hr hlocks hW hS dX4_get_14
set_option maxHeartbeats 4000000 in
set_option maxRecDepth 100000 in
theorem ct_X4_put (l : Launch) (D : va_G) (cy : Nat → ClassId) (z n : Nat) (Y : mY) (V : mV) (G : mG) (a0 : Nat) (b1 : Int32) (b2 : Int32) (b3 : Int32) (x : mV) (hcf : cf_X4_put Y V G a0 b1 b2 b3 = some x) : CT l yX4_put cX4_put 4 none (rmd 0) D cy z [.ref a0, .int b1, .int b2, .int b3] Y n V G none Y n x G := by
  refine ct_of (by decide) (Nat.le_of_ble_eq_true rfl) ?_
  intro p e s m args below meth c ls hx hb hr hml hown hts hlocks hnm hE hW hl
  have hS : va_S (zA z) s.heap s.heap [] := va_S.rf
  have hl : lv_has ls 4 [(0, .ref a0), (1, .int b1), (2, .int b2), (3, .int b3)] := hl
  have hown : s.vm.findClass RX4 = some m.cls := hown
  rw [cf_X4_put] at hcf
  refine lv_aload_n hx hb dX4_put_0 rfl (lv_at hl 0 rfl) ?_
  obtain ⟨q1, hcf⟩ := og hcf
  obtain ⟨r2, hr2, hcf⟩ := ob hcf
  refine gf_X4_7 hx hb hts hown hE hW q1 hr2 dX4_put_1 ?_
  refine lv_bipush (v := (16 : Int32)) hx hb dX4_put_4 (by decide) ?_
  refine lv_bipush (v := (13 : Int32)) hx hb dX4_put_6 (by decide) ?_
  refine lv_iload_n hx hb dX4_put_8 rfl (lv_at hl 1 rfl) ?_
  refine lv_imul hx hb dX4_put_9 ?_
  refine lv_iadd hx hb dX4_put_10 ?_
  refine lv_iload_n hx hb dX4_put_11 rfl (lv_at hl 2 rfl) ?_
  refine lv_iadd hx hb dX4_put_12 ?_
  refine lv_iload_n hx hb dX4_put_13 rfl (lv_at hl 3 rfl) ?_
  obtain ⟨q3, hcf⟩ := og hcf
  obtain ⟨q4, hcf⟩ := og hcf
  refine wk_iast hx hb hE hW hS q3 q4 dX4_put_14 (fun H locs hW hS => ?_)
  have hcf := Option.some.inj hcf; subst hcf
  exact wk_vret hx hb hr hlocks hW hS dX4_put_15
set_option maxHeartbeats 4000000 in
set_option maxRecDepth 100000 in
theorem wl_X4_bits_4 {p : Program} {l : Launch} {e : Env} {s : State} {m : MethodId} {args : Array Value} {below : List Frame} {meth : Method} {c : Code} {D : va_G} {cy : Nat → ClassId} {z : Nat} {n : Nat}  {Y : mY} {V : mV} {G : mG} (hx : p.tables.exec = Jvm.exec) (hb : c.code = cX4_bits) (hr : meth.sig.returnType = (some .int)) (hml : c.maxLocals = 3) (hown : s.vm.findClass RX4 = some m.cls) (hts : ∀ w ∈ lw_all, w.before args s = true) (hlocks : meth.locks = false) (hE : En D cy s) (x : Int32) : ∀ (k : Nat) (j0 : Int32) (j1 : Int32) (j2 : Int32) (H : Heap) (locs : List Loc) (ls : Array Slot), lp_X4_bits_4 k j0 j1 j2 = some x → Wd Y cy D z n V G H → va_S (zA z) s.heap H locs → lv_has ls 3 [(0, .int j0), (1, .int j1), (2, .int j2)] → W p l e (rmd 0) s m args below meth c H locs 0 0 (MQ below (QC D cy z Y n V G (some (.int x))) args s 0 0 (zA z)) (F0 m 4 ls []) := by
  intro k
  induction k with
  | zero =>
    intro j0 j1 j2 H locs ls hcf
    have hcf : none = some _ := hcf
    cases hcf
  | succ k ih =>
    intro j0 j1 j2 H locs ls hcf hW hS hl
    rw [lp_X4_bits_4] at hcf
    refine lv_iload_n hx hb dX4_bits_4 rfl (lv_at hl 2 rfl) ?_
    refine lv_if_le (tgt := 21) hx hb dX4_bits_5 (by decide) (fun q1 => ?_) (fun q1 => ?_)
    · replace hcf := (if_pos q1).symm.trans hcf
      refine lv_iload_n hx hb dX4_bits_21 rfl (lv_at hl 1 rfl) ?_
      have hcf := Option.some.inj hcf; subst hcf
      exact wk_iret hx hb hr hlocks hW hS dX4_bits_22
    · replace hcf := (if_neg q1).symm.trans hcf
      refine lv_iload_n hx hb dX4_bits_8 rfl (lv_at hl 1 rfl) ?_
      refine lv_iload_n hx hb dX4_bits_9 rfl (lv_at hl 2 rfl) ?_
      refine lv_iconst (v := (1 : Int32)) hx hb dX4_bits_10 (by decide) ?_
      refine lv_iand hx hb dX4_bits_11 ?_
      refine lv_iadd hx hb dX4_bits_12 ?_
      refine lv_istore_n (lv' := [(1, .int (j1 + (j2 &&& (1 : Int32)))), (0, .int j0), (2, .int j2)]) hx hb dX4_bits_13 rfl hl (by decide) rfl (fun ls hl => ?_)
      refine lv_iload_n hx hb dX4_bits_14 rfl (lv_at hl 2 rfl) ?_
      refine lv_iconst (v := (1 : Int32)) hx hb dX4_bits_15 (by decide) ?_
      refine lv_ishr hx hb dX4_bits_16 ?_
      refine lv_istore_n (lv' := [(2, .int (j2 >>> ((1 : Int32) &&& 31))), (1, .int (j1 + (j2 &&& (1 : Int32)))), (0, .int j0)]) hx hb dX4_bits_17 rfl hl (by decide) rfl (fun ls hl => ?_)
      refine lv_goto (tgt := 4) hx hb dX4_bits_18 (by decide) ?_
      exact ih j0 (j1 + (j2 &&& (1 : Int32))) (j2 >>> ((1 : Int32) &&& 31)) _ _ _ hcf hW hS (lv_sub hl [2, 1, 0] rfl)
set_option maxHeartbeats 4000000 in
set_option maxRecDepth 100000 in
theorem ct_X4_bits (l : Launch) (D : va_G) (cy : Nat → ClassId) (z n : Nat) (Y : mY) (V : mV) (G : mG) (b1 : Int32) (x : Int32) (hcf : cf_X4_bits b1 = some x) : CT l yX4_bits cX4_bits 3 (some .int) (rmd 0) D cy z [.int b1] Y n V G (some (.int x)) Y n V G := by
  refine ct_of (by decide) (Nat.le_of_ble_eq_true rfl) ?_
  intro p e s m args below meth c ls hx hb hr hml hown hts hlocks hnm hE hW hl
  have hS : va_S (zA z) s.heap s.heap [] := va_S.rf
  have hl : lv_has ls 3 [(0, .int b1)] := hl
  have hown : s.vm.findClass RX4 = some m.cls := hown
  rw [cf_X4_bits] at hcf
  refine lv_iconst (v := (0 : Int32)) hx hb dX4_bits_0 (by decide) ?_
  refine lv_istore_n (lv' := [(1, .int (0 : Int32)), (0, .int b1)]) hx hb dX4_bits_1 rfl hl (by decide) rfl (fun ls hl => ?_)
  refine lv_iload_n hx hb dX4_bits_2 rfl (lv_at hl 1 rfl) ?_
  refine lv_istore_n (lv' := [(2, .int b1), (1, .int (0 : Int32)), (0, .int b1)]) hx hb dX4_bits_3 rfl hl (by decide) rfl (fun ls hl => ?_)
  exact wl_X4_bits_4 hx hb hr hml hown hts hlocks hE x fuB b1 (0 : Int32) b1 _ _ _ hcf hW hS (lv_sub hl [2, 1, 0] rfl)
set_option maxHeartbeats 4000000 in
set_option maxRecDepth 100000 in
theorem ct_X4_isCondition (l : Launch) (D : va_G) (cy : Nat → ClassId) (z n : Nat) (Y : mY) (V : mV) (G : mG) (a0 : Nat) (b1 : Int32) (x : Int32) (hcf : cf_X4_isCondition Y V G a0 b1 = some x) : CT l yX4_isCondition cX4_isCondition 2 (some .boolean) (rmd 1) D cy z [.ref a0, .int b1] Y n V G (some (.int x)) Y n V G := by
  refine ct_of (by decide) (Nat.le_of_ble_eq_true rfl) ?_
  intro p e s m args below meth c ls hx hb hr hml hown hts hlocks hnm hE hW hl
  have hS : va_S (zA z) s.heap s.heap [] := va_S.rf
  have hl : lv_has ls 2 [(0, .ref a0), (1, .int b1)] := hl
  have hown : s.vm.findClass RX4 = some m.cls := hown
  rw [cf_X4_isCondition] at hcf
  refine lv_iload_n hx hb dX4_isCondition_0 rfl (lv_at hl 1 rfl) ?_
  refine lv_i2l hx hb dX4_isCondition_1 rfl ?_
  refine lv_lconst (v := (0 : Int64)) hx hb dX4_isCondition_2 (by decide) ?_
  refine lv_aload_n hx hb dX4_isCondition_3 rfl (lv_at hl 0 rfl) ?_
  obtain ⟨q1, hcf⟩ := og hcf
  obtain ⟨r2, hr2, hcf⟩ := ob hcf
  refine gf_X4_7 hx hb hts hown hE hW q1 hr2 dX4_isCondition_4 ?_
  refine lv_iconst (v := (1 : Int32)) hx hb dX4_isCondition_7 (by decide) ?_
  obtain ⟨q3, hcf⟩ := og hcf
  obtain ⟨q4, hcf⟩ := og hcf
  refine wk_iald hx hb hE hW q3 q4 dX4_isCondition_8 ?_
  refine lv_i2l hx hb dX4_isCondition_9 rfl ?_
  refine lv_lconst (v := (1 : Int64)) hx hb dX4_isCondition_10 (by decide) ?_
  refine lv_lsub hx hb dX4_isCondition_11 ?_
  obtain ⟨x5, hx5, hcf⟩ := ob hcf
  refine iv_X4_40 (As := [.long ((b1).toInt64), .long (0 : Int64), .long (((V r2 (1 : Int32).toNatClampNeg)).toInt64 - (1 : Int64))]) (rest := []) hx hb hml hown hts hE (ct_X4_in l D cy z n Y V G ((b1).toInt64) (0 : Int64) (((V r2 (1 : Int32).toNatClampNeg)).toInt64 - (1 : Int64)) x5 hx5) hW hS rfl rfl hl.1 (Nat.le_of_ble_eq_true rfl) ⟨Nat.le_of_ble_eq_true rfl, Nat.le_of_ble_eq_true rfl⟩ dX4_isCondition_12 ⟨Nat.zero_le _, Nat.zero_le _⟩ (fun H locs hW hS => ?_)
  obtain ⟨q6, hcf⟩ := og hcf
  have hcf := Option.some.inj hcf; subst hcf
  exact wk_zret hx hb hr hlocks q6 hW hS dX4_isCondition_15
set_option maxHeartbeats 4000000 in
set_option maxRecDepth 100000 in
theorem ct_X4_isStage (l : Launch) (D : va_G) (cy : Nat → ClassId) (z n : Nat) (Y : mY) (V : mV) (G : mG) (b1 : Int32) (x : Int32) (hcf : cf_X4_isStage b1 = some x) : CT l yX4_isStage cX4_isStage 1 (some .boolean) (rmd 1) D cy z [.int b1] Y n V G (some (.int x)) Y n V G := by
  refine ct_of (by decide) (Nat.le_of_ble_eq_true rfl) ?_
  intro p e s m args below meth c ls hx hb hr hml hown hts hlocks hnm hE hW hl
  have hS : va_S (zA z) s.heap s.heap [] := va_S.rf
  have hl : lv_has ls 1 [(0, .int b1)] := hl
  have hown : s.vm.findClass RX4 = some m.cls := hown
  rw [cf_X4_isStage] at hcf
  refine lv_iload_n hx hb dX4_isStage_0 rfl (lv_at hl 0 rfl) ?_
  refine lv_i2l hx hb dX4_isStage_1 rfl ?_
  refine lv_lconst (v := (0 : Int64)) hx hb dX4_isStage_2 (by decide) ?_
  refine lv_ldc2 hx hb hown (hts _ q666) dX4_isStage_3 ?_
  obtain ⟨x1, hx1, hcf⟩ := ob hcf
  refine iv_X4_40 (As := [.long ((b1).toInt64), .long (0 : Int64), .long (4 : Int64)]) (rest := []) hx hb hml hown hts hE (ct_X4_in l D cy z n Y V G ((b1).toInt64) (0 : Int64) (4 : Int64) x1 hx1) hW hS rfl rfl hl.1 (Nat.le_of_ble_eq_true rfl) ⟨Nat.le_of_ble_eq_true rfl, Nat.le_of_ble_eq_true rfl⟩ dX4_isStage_6 ⟨Nat.zero_le _, Nat.zero_le _⟩ (fun H locs hW hS => ?_)
  obtain ⟨q2, hcf⟩ := og hcf
  have hcf := Option.some.inj hcf; subst hcf
  exact wk_zret hx hb hr hlocks q2 hW hS dX4_isStage_9
set_option maxHeartbeats 4000000 in
set_option maxRecDepth 100000 in
theorem ct_X4_allParts (l : Launch) (D : va_G) (cy : Nat → ClassId) (z n : Nat) (Y : mY) (V : mV) (G : mG) (a0 : Nat) (b1 : Int32) (x : Int32) (hcf : cf_X4_allParts Y V G a0 b1 = some x) : CT l yX4_allParts cX4_allParts 2 (some .int) (rmd 1) D cy z [.ref a0, .int b1] Y n V G (some (.int x)) Y n V G := by
  refine ct_of (by decide) (Nat.le_of_ble_eq_true rfl) ?_
  intro p e s m args below meth c ls hx hb hr hml hown hts hlocks hnm hE hW hl
  have hS : va_S (zA z) s.heap s.heap [] := va_S.rf
  have hl : lv_has ls 2 [(0, .ref a0), (1, .int b1)] := hl
  have hown : s.vm.findClass RX4 = some m.cls := hown
  rw [cf_X4_allParts] at hcf
  refine lv_iconst (v := (1 : Int32)) hx hb dX4_allParts_0 (by decide) ?_
  refine lv_aload_n hx hb dX4_allParts_1 rfl (lv_at hl 0 rfl) ?_
  refine lv_iload_n hx hb dX4_allParts_2 rfl (lv_at hl 1 rfl) ?_
  refine lv_iconst (v := (3 : Int32)) hx hb dX4_allParts_3 (by decide) ?_
  obtain ⟨q1, hcf⟩ := og hcf
  obtain ⟨x2, hx2, hcf⟩ := ob hcf
  refine iv_X4_46 (As := [.int b1, .int (3 : Int32)]) (rest := [.int (1 : Int32)]) hx hb hml hown hts hE (ct_X4_get l D cy z n Y V G a0 b1 (3 : Int32) x2 hx2) hW hS q1 rfl rfl hl.1 (Nat.le_of_ble_eq_true rfl) ⟨Nat.le_of_ble_eq_true rfl, Nat.le_of_ble_eq_true rfl⟩ dX4_allParts_4 ⟨Nat.zero_le _, Nat.zero_le _⟩ (fun H locs hW hS => ?_)
  refine lv_ishl hx hb dX4_allParts_7 ?_
  refine lv_iconst (v := (1 : Int32)) hx hb dX4_allParts_8 (by decide) ?_
  refine lv_isub hx hb dX4_allParts_9 ?_
  have hcf := Option.some.inj hcf; subst hcf
  exact wk_iret hx hb hr hlocks hW hS dX4_allParts_10
set_option maxHeartbeats 4000000 in
set_option maxRecDepth 100000 in
theorem ct_X4_hasBegun (l : Launch) (D : va_G) (cy : Nat → ClassId) (z n : Nat) (Y : mY) (V : mV) (G : mG) (a0 : Nat) (b1 : Int32) (x : Int32) (hcf : cf_X4_hasBegun Y V G a0 b1 = some x) : CT l yX4_hasBegun cX4_hasBegun 2 (some .boolean) (rmd 0) D cy z [.ref a0, .int b1] Y n V G (some (.int x)) Y n V G := by
  refine ct_of (by decide) (Nat.le_of_ble_eq_true rfl) ?_
  intro p e s m args below meth c ls hx hb hr hml hown hts hlocks hnm hE hW hl
  have hS : va_S (zA z) s.heap s.heap [] := va_S.rf
  have hl : lv_has ls 2 [(0, .ref a0), (1, .int b1)] := hl
  have hown : s.vm.findClass RX4 = some m.cls := hown
  rw [cf_X4_hasBegun] at hcf
  refine lv_aload_n hx hb dX4_hasBegun_0 rfl (lv_at hl 0 rfl) ?_
  obtain ⟨q1, hcf⟩ := og hcf
  obtain ⟨r2, hr2, hcf⟩ := ob hcf
  refine gf_X4_7 hx hb hts hown hE hW q1 hr2 dX4_hasBegun_1 ?_
  refine lv_bipush (v := (6 : Int32)) hx hb dX4_hasBegun_4 (by decide) ?_
  refine lv_iload_n hx hb dX4_hasBegun_6 rfl (lv_at hl 1 rfl) ?_
  refine lv_iadd hx hb dX4_hasBegun_7 ?_
  obtain ⟨q3, hcf⟩ := og hcf
  obtain ⟨q4, hcf⟩ := og hcf
  refine wk_iald hx hb hE hW q3 q4 dX4_hasBegun_8 ?_
  refine lv_iconst (v := (-1 : Int32)) hx hb dX4_hasBegun_9 (by decide) ?_
  refine lv_icmp_eq (tgt := 17) hx hb dX4_hasBegun_10 (by decide) (fun q5 => ?_) (fun q5 => ?_)
  · replace hcf := (if_pos q5).symm.trans hcf
    refine lv_iconst (v := (0 : Int32)) hx hb dX4_hasBegun_17 (by decide) ?_
    have hcf := Option.some.inj hcf; subst hcf
    exact wk_zret hx hb hr hlocks (Or.inl rfl) hW hS dX4_hasBegun_18
  · replace hcf := (if_neg q5).symm.trans hcf
    refine lv_iconst (v := (1 : Int32)) hx hb dX4_hasBegun_13 (by decide) ?_
    refine lv_goto (tgt := 18) hx hb dX4_hasBegun_14 (by decide) ?_
    have hcf := Option.some.inj hcf; subst hcf
    exact wk_zret hx hb hr hlocks (Or.inr rfl) hW hS dX4_hasBegun_18
set_option maxHeartbeats 4000000 in
set_option maxRecDepth 100000 in
theorem ct_X4_isFinished (l : Launch) (D : va_G) (cy : Nat → ClassId) (z n : Nat) (Y : mY) (V : mV) (G : mG) (a0 : Nat) (b1 : Int32) (x : Int32) (hcf : cf_X4_isFinished Y V G a0 b1 = some x) : CT l yX4_isFinished cX4_isFinished 2 (some .boolean) (rmd 0) D cy z [.ref a0, .int b1] Y n V G (some (.int x)) Y n V G := by
  refine ct_of (by decide) (Nat.le_of_ble_eq_true rfl) ?_
  intro p e s m args below meth c ls hx hb hr hml hown hts hlocks hnm hE hW hl
  have hS : va_S (zA z) s.heap s.heap [] := va_S.rf
  have hl : lv_has ls 2 [(0, .ref a0), (1, .int b1)] := hl
  have hown : s.vm.findClass RX4 = some m.cls := hown
  rw [cf_X4_isFinished] at hcf
  refine lv_aload_n hx hb dX4_isFinished_0 rfl (lv_at hl 0 rfl) ?_
  obtain ⟨q1, hcf⟩ := og hcf
  obtain ⟨r2, hr2, hcf⟩ := ob hcf
  refine gf_X4_7 hx hb hts hown hE hW q1 hr2 dX4_isFinished_1 ?_
  refine lv_bipush (v := (11 : Int32)) hx hb dX4_isFinished_4 (by decide) ?_
  refine lv_iload_n hx hb dX4_isFinished_6 rfl (lv_at hl 1 rfl) ?_
  refine lv_iadd hx hb dX4_isFinished_7 ?_
  obtain ⟨q3, hcf⟩ := og hcf
  obtain ⟨q4, hcf⟩ := og hcf
  refine wk_iald hx hb hE hW q3 q4 dX4_isFinished_8 ?_
  refine lv_iconst (v := (-1 : Int32)) hx hb dX4_isFinished_9 (by decide) ?_
  refine lv_icmp_eq (tgt := 17) hx hb dX4_isFinished_10 (by decide) (fun q5 => ?_) (fun q5 => ?_)
  · replace hcf := (if_pos q5).symm.trans hcf
    refine lv_iconst (v := (0 : Int32)) hx hb dX4_isFinished_17 (by decide) ?_
    have hcf := Option.some.inj hcf; subst hcf
    exact wk_zret hx hb hr hlocks (Or.inl rfl) hW hS dX4_isFinished_18
  · replace hcf := (if_neg q5).symm.trans hcf
    refine lv_iconst (v := (1 : Int32)) hx hb dX4_isFinished_13 (by decide) ?_
    refine lv_goto (tgt := 18) hx hb dX4_isFinished_14 (by decide) ?_
    have hcf := Option.some.inj hcf; subst hcf
    exact wk_zret hx hb hr hlocks (Or.inr rfl) hW hS dX4_isFinished_18
set_option maxHeartbeats 4000000 in
set_option maxRecDepth 100000 in
theorem ct_X4_isMet (l : Launch) (D : va_G) (cy : Nat → ClassId) (z n : Nat) (Y : mY) (V : mV) (G : mG) (a0 : Nat) (b1 : Int32) (x : Int32) (hcf : cf_X4_isMet Y V G a0 b1 = some x) : CT l yX4_isMet cX4_isMet 2 (some .boolean) (rmd 2) D cy z [.ref a0, .int b1] Y n V G (some (.int x)) Y n V G := by
  refine ct_of (by decide) (Nat.le_of_ble_eq_true rfl) ?_
  intro p e s m args below meth c ls hx hb hr hml hown hts hlocks hnm hE hW hl
  have hS : va_S (zA z) s.heap s.heap [] := va_S.rf
  have hl : lv_has ls 2 [(0, .ref a0), (1, .int b1)] := hl
  have hown : s.vm.findClass RX4 = some m.cls := hown
  rw [cf_X4_isMet] at hcf
  refine lv_aload_n hx hb dX4_isMet_0 rfl (lv_at hl 0 rfl) ?_
  refine lv_iload_n hx hb dX4_isMet_1 rfl (lv_at hl 1 rfl) ?_
  refine lv_iconst (v := (0 : Int32)) hx hb dX4_isMet_2 (by decide) ?_
  obtain ⟨q1, hcf⟩ := og hcf
  obtain ⟨x2, hx2, hcf⟩ := ob hcf
  refine iv_X4_46 (As := [.int b1, .int (0 : Int32)]) (rest := []) hx hb hml hown hts hE (ct_X4_get l D cy z n Y V G a0 b1 (0 : Int32) x2 hx2) hW hS q1 rfl rfl hl.1 (Nat.le_of_ble_eq_true rfl) ⟨Nat.le_of_ble_eq_true rfl, Nat.le_of_ble_eq_true rfl⟩ dX4_isMet_3 ⟨Nat.zero_le _, Nat.zero_le _⟩ (fun H locs hW hS => ?_)
  refine lv_iconst (v := (2 : Int32)) hx hb dX4_isMet_6 (by decide) ?_
  refine lv_icmp_ne (tgt := 34) hx hb dX4_isMet_7 (by decide) (fun q3 => ?_) (fun q3 => ?_)
  · replace hcf := (if_neg q3).symm.trans hcf
    refine lv_aload_n hx hb dX4_isMet_34 rfl (lv_at hl 0 rfl) ?_
    refine lv_iload_n hx hb dX4_isMet_35 rfl (lv_at hl 1 rfl) ?_
    refine lv_iconst (v := (4 : Int32)) hx hb dX4_isMet_36 (by decide) ?_
    obtain ⟨x4, hx4, hcf⟩ := ob hcf
    refine iv_X4_46 (As := [.int b1, .int (4 : Int32)]) (rest := []) hx hb hml hown hts hE (ct_X4_get l D cy z n Y V G a0 b1 (4 : Int32) x4 hx4) hW hS q1 rfl rfl hl.1 (Nat.le_of_ble_eq_true rfl) ⟨Nat.le_of_ble_eq_true rfl, Nat.le_of_ble_eq_true rfl⟩ dX4_isMet_37 ⟨Nat.zero_le _, Nat.zero_le _⟩ (fun H locs hW hS => ?_)
    refine lv_aload_n hx hb dX4_isMet_40 rfl (lv_at hl 0 rfl) ?_
    refine lv_iload_n hx hb dX4_isMet_41 rfl (lv_at hl 1 rfl) ?_
    obtain ⟨x5, hx5, hcf⟩ := ob hcf
    refine iv_X4_50 (As := [.int b1]) (rest := [.int x4]) hx hb hml hown hts hE (ct_X4_allParts l D cy z n Y V G a0 b1 x5 hx5) hW hS q1 rfl rfl hl.1 (Nat.le_of_ble_eq_true rfl) ⟨Nat.le_of_ble_eq_true rfl, Nat.le_of_ble_eq_true rfl⟩ dX4_isMet_42 ⟨Nat.zero_le _, Nat.zero_le _⟩ (fun H locs hW hS => ?_)
    refine lv_icmp_ne (tgt := 52) hx hb dX4_isMet_45 (by decide) (fun q6 => ?_) (fun q6 => ?_)
    · replace hcf := (if_neg q6).symm.trans hcf
      refine lv_iconst (v := (0 : Int32)) hx hb dX4_isMet_52 (by decide) ?_
      have hcf := Option.some.inj hcf; subst hcf
      exact wk_zret hx hb hr hlocks (Or.inl rfl) hW hS dX4_isMet_53
    · replace hcf := (if_pos q6).symm.trans hcf
      refine lv_iconst (v := (1 : Int32)) hx hb dX4_isMet_48 (by decide) ?_
      refine lv_goto (tgt := 53) hx hb dX4_isMet_49 (by decide) ?_
      have hcf := Option.some.inj hcf; subst hcf
      exact wk_zret hx hb hr hlocks (Or.inr rfl) hW hS dX4_isMet_53
  · replace hcf := (if_pos q3).symm.trans hcf
    refine lv_aload_n hx hb dX4_isMet_10 rfl (lv_at hl 0 rfl) ?_
    refine lv_iload_n hx hb dX4_isMet_11 rfl (lv_at hl 1 rfl) ?_
    refine lv_bipush (v := (7 : Int32)) hx hb dX4_isMet_12 (by decide) ?_
    obtain ⟨x7, hx7, hcf⟩ := ob hcf
    refine iv_X4_46 (As := [.int b1, .int (7 : Int32)]) (rest := []) hx hb hml hown hts hE (ct_X4_get l D cy z n Y V G a0 b1 (7 : Int32) x7 hx7) hW hS q1 rfl rfl hl.1 (Nat.le_of_ble_eq_true rfl) ⟨Nat.le_of_ble_eq_true rfl, Nat.le_of_ble_eq_true rfl⟩ dX4_isMet_14 ⟨Nat.zero_le _, Nat.zero_le _⟩ (fun H locs hW hS => ?_)
    refine lv_aload_n hx hb dX4_isMet_17 rfl (lv_at hl 0 rfl) ?_
    refine lv_iload_n hx hb dX4_isMet_18 rfl (lv_at hl 1 rfl) ?_
    refine lv_iconst (v := (2 : Int32)) hx hb dX4_isMet_19 (by decide) ?_
    obtain ⟨x8, hx8, hcf⟩ := ob hcf
    refine iv_X4_46 (As := [.int b1, .int (2 : Int32)]) (rest := [.int x7]) hx hb hml hown hts hE (ct_X4_get l D cy z n Y V G a0 b1 (2 : Int32) x8 hx8) hW hS q1 rfl rfl hl.1 (Nat.le_of_ble_eq_true rfl) ⟨Nat.le_of_ble_eq_true rfl, Nat.le_of_ble_eq_true rfl⟩ dX4_isMet_20 ⟨Nat.zero_le _, Nat.zero_le _⟩ (fun H locs hW hS => ?_)
    refine lv_icmp_lt (tgt := 30) hx hb dX4_isMet_23 (by decide) (fun q9 => ?_) (fun q9 => ?_)
    · replace hcf := (if_pos q9).symm.trans hcf
      refine lv_iconst (v := (0 : Int32)) hx hb dX4_isMet_30 (by decide) ?_
      refine lv_goto (tgt := 53) hx hb dX4_isMet_31 (by decide) ?_
      have hcf := Option.some.inj hcf; subst hcf
      exact wk_zret hx hb hr hlocks (Or.inl rfl) hW hS dX4_isMet_53
    · replace hcf := (if_neg q9).symm.trans hcf
      refine lv_iconst (v := (1 : Int32)) hx hb dX4_isMet_26 (by decide) ?_
      refine lv_goto (tgt := 53) hx hb dX4_isMet_27 (by decide) ?_
      have hcf := Option.some.inj hcf; subst hcf
      exact wk_zret hx hb hr hlocks (Or.inr rfl) hW hS dX4_isMet_53
set_option maxHeartbeats 4000000 in
set_option maxRecDepth 100000 in
theorem ct_X4_isAsleep (l : Launch) (D : va_G) (cy : Nat → ClassId) (z n : Nat) (Y : mY) (V : mV) (G : mG) (a0 : Nat) (b1 : Int32) (x : Int32) (hcf : cf_X4_isAsleep Y V G a0 b1 = some x) : CT l yX4_isAsleep cX4_isAsleep 4 (some .boolean) (rmd 1) D cy z [.ref a0, .int b1] Y n V G (some (.int x)) Y n V G := by
  refine ct_of (by decide) (Nat.le_of_ble_eq_true rfl) ?_
  intro p e s m args below meth c ls hx hb hr hml hown hts hlocks hnm hE hW hl
  have hS : va_S (zA z) s.heap s.heap [] := va_S.rf
  have hl : lv_has ls 4 [(0, .ref a0), (1, .int b1)] := hl
  have hown : s.vm.findClass RX4 = some m.cls := hown
  rw [cf_X4_isAsleep] at hcf
  refine lv_aload_n hx hb dX4_isAsleep_0 rfl (lv_at hl 0 rfl) ?_
  refine lv_iload_n hx hb dX4_isAsleep_1 rfl (lv_at hl 1 rfl) ?_
  refine lv_iconst (v := (0 : Int32)) hx hb dX4_isAsleep_2 (by decide) ?_
  obtain ⟨q1, hcf⟩ := og hcf
  obtain ⟨x2, hx2, hcf⟩ := ob hcf
  refine iv_X4_46 (As := [.int b1, .int (0 : Int32)]) (rest := []) hx hb hml hown hts hE (ct_X4_get l D cy z n Y V G a0 b1 (0 : Int32) x2 hx2) hW hS q1 rfl rfl hl.1 (Nat.le_of_ble_eq_true rfl) ⟨Nat.le_of_ble_eq_true rfl, Nat.le_of_ble_eq_true rfl⟩ dX4_isAsleep_3 ⟨Nat.zero_le _, Nat.zero_le _⟩ (fun H locs hW hS => ?_)
  refine lv_istore_n (lv' := [(2, .int x2), (0, .ref a0), (1, .int b1)]) hx hb dX4_isAsleep_6 rfl hl (by decide) rfl (fun ls hl => ?_)
  refine lv_aload_n hx hb dX4_isAsleep_7 rfl (lv_at hl 1 rfl) ?_
  refine lv_iload_n hx hb dX4_isAsleep_8 rfl (lv_at hl 2 rfl) ?_
  refine lv_iconst (v := (1 : Int32)) hx hb dX4_isAsleep_9 (by decide) ?_
  obtain ⟨x3, hx3, hcf⟩ := ob hcf
  refine iv_X4_46 (As := [.int b1, .int (1 : Int32)]) (rest := []) hx hb hml hown hts hE (ct_X4_get l D cy z n Y V G a0 b1 (1 : Int32) x3 hx3) hW hS q1 rfl rfl hl.1 (Nat.le_of_ble_eq_true rfl) ⟨Nat.le_of_ble_eq_true rfl, Nat.le_of_ble_eq_true rfl⟩ dX4_isAsleep_10 ⟨Nat.zero_le _, Nat.zero_le _⟩ (fun H locs hW hS => ?_)
  refine lv_istore_n (lv' := [(3, .int x3), (2, .int x2), (0, .ref a0), (1, .int b1)]) hx hb dX4_isAsleep_13 rfl hl (by decide) rfl (fun ls hl => ?_)
  refine lv_iload_n hx hb dX4_isAsleep_14 rfl (lv_at hl 1 rfl) ?_
  refine lv_iconst (v := (1 : Int32)) hx hb dX4_isAsleep_15 (by decide) ?_
  refine lv_icmp_ne (tgt := 27) hx hb dX4_isAsleep_16 (by decide) (fun q4 => ?_) (fun q4 => ?_)
  · replace hcf := (if_neg q4).symm.trans hcf
    refine lv_iload_n hx hb dX4_isAsleep_27 rfl (lv_at hl 1 rfl) ?_
    refine lv_iconst (v := (2 : Int32)) hx hb dX4_isAsleep_28 (by decide) ?_
    refine lv_icmp_ne (tgt := 44) hx hb dX4_isAsleep_29 (by decide) (fun q5 => ?_) (fun q5 => ?_)
    · replace hcf := (if_neg q5).symm.trans hcf
      refine lv_iconst (v := (0 : Int32)) hx hb dX4_isAsleep_44 (by decide) ?_
      have hcf := Option.some.inj hcf; subst hcf
      exact wk_zret hx hb hr hlocks (Or.inl rfl) hW hS dX4_isAsleep_45
    · replace hcf := (if_pos q5).symm.trans hcf
      refine lv_aload_n hx hb dX4_isAsleep_32 rfl (lv_at hl 2 rfl) ?_
      refine lv_iload_n hx hb dX4_isAsleep_33 rfl (lv_at hl 0 rfl) ?_
      obtain ⟨x6, hx6, hcf⟩ := ob hcf
      refine iv_X4_57 (As := [.int x3]) (rest := []) hx hb hml hown hts hE (ct_X4_isFinished l D cy z n Y V G a0 x3 x6 hx6) hW hS q1 rfl rfl hl.1 (Nat.le_of_ble_eq_true rfl) ⟨Nat.le_of_ble_eq_true rfl, Nat.le_of_ble_eq_true rfl⟩ dX4_isAsleep_34 ⟨Nat.zero_le _, Nat.zero_le _⟩ (fun H locs hW hS => ?_)
      refine lv_if_ne (tgt := 44) hx hb dX4_isAsleep_37 (by decide) (fun q7 => ?_) (fun q7 => ?_)
      · replace hcf := (if_neg q7).symm.trans hcf
        refine lv_iconst (v := (0 : Int32)) hx hb dX4_isAsleep_44 (by decide) ?_
        have hcf := Option.some.inj hcf; subst hcf
        exact wk_zret hx hb hr hlocks (Or.inl rfl) hW hS dX4_isAsleep_45
      · replace hcf := (if_pos q7).symm.trans hcf
        refine lv_iconst (v := (1 : Int32)) hx hb dX4_isAsleep_40 (by decide) ?_
        refine lv_goto (tgt := 45) hx hb dX4_isAsleep_41 (by decide) ?_
        have hcf := Option.some.inj hcf; subst hcf
        exact wk_zret hx hb hr hlocks (Or.inr rfl) hW hS dX4_isAsleep_45
  · replace hcf := (if_pos q4).symm.trans hcf
    refine lv_aload_n hx hb dX4_isAsleep_19 rfl (lv_at hl 2 rfl) ?_
    refine lv_iload_n hx hb dX4_isAsleep_20 rfl (lv_at hl 0 rfl) ?_
    obtain ⟨x8, hx8, hcf⟩ := ob hcf
    refine iv_X4_54 (As := [.int x3]) (rest := []) hx hb hml hown hts hE (ct_X4_hasBegun l D cy z n Y V G a0 x3 x8 hx8) hW hS q1 rfl rfl hl.1 (Nat.le_of_ble_eq_true rfl) ⟨Nat.le_of_ble_eq_true rfl, Nat.le_of_ble_eq_true rfl⟩ dX4_isAsleep_21 ⟨Nat.zero_le _, Nat.zero_le _⟩ (fun H locs hW hS => ?_)
    refine lv_if_eq (tgt := 40) hx hb dX4_isAsleep_24 (by decide) (fun q9 => ?_) (fun q9 => ?_)
    · replace hcf := (if_pos q9).symm.trans hcf
      refine lv_iconst (v := (1 : Int32)) hx hb dX4_isAsleep_40 (by decide) ?_
      refine lv_goto (tgt := 45) hx hb dX4_isAsleep_41 (by decide) ?_
      have hcf := Option.some.inj hcf; subst hcf
      exact wk_zret hx hb hr hlocks (Or.inr rfl) hW hS dX4_isAsleep_45
    · replace hcf := (if_neg q9).symm.trans hcf
      refine lv_iload_n hx hb dX4_isAsleep_27 rfl (lv_at hl 1 rfl) ?_
      refine lv_iconst (v := (2 : Int32)) hx hb dX4_isAsleep_28 (by decide) ?_
      refine lv_icmp_ne (tgt := 44) hx hb dX4_isAsleep_29 (by decide) (fun q10 => ?_) (fun q10 => ?_)
      · replace hcf := (if_neg q10).symm.trans hcf
        refine lv_iconst (v := (0 : Int32)) hx hb dX4_isAsleep_44 (by decide) ?_
        have hcf := Option.some.inj hcf; subst hcf
        exact wk_zret hx hb hr hlocks (Or.inl rfl) hW hS dX4_isAsleep_45
      · replace hcf := (if_pos q10).symm.trans hcf
        refine lv_aload_n hx hb dX4_isAsleep_32 rfl (lv_at hl 2 rfl) ?_
        refine lv_iload_n hx hb dX4_isAsleep_33 rfl (lv_at hl 0 rfl) ?_
        obtain ⟨x11, hx11, hcf⟩ := ob hcf
        refine iv_X4_57 (As := [.int x3]) (rest := []) hx hb hml hown hts hE (ct_X4_isFinished l D cy z n Y V G a0 x3 x11 hx11) hW hS q1 rfl rfl hl.1 (Nat.le_of_ble_eq_true rfl) ⟨Nat.le_of_ble_eq_true rfl, Nat.le_of_ble_eq_true rfl⟩ dX4_isAsleep_34 ⟨Nat.zero_le _, Nat.zero_le _⟩ (fun H locs hW hS => ?_)
        refine lv_if_ne (tgt := 44) hx hb dX4_isAsleep_37 (by decide) (fun q12 => ?_) (fun q12 => ?_)
        · replace hcf := (if_neg q12).symm.trans hcf
          refine lv_iconst (v := (0 : Int32)) hx hb dX4_isAsleep_44 (by decide) ?_
          have hcf := Option.some.inj hcf; subst hcf
          exact wk_zret hx hb hr hlocks (Or.inl rfl) hW hS dX4_isAsleep_45
        · replace hcf := (if_pos q12).symm.trans hcf
          refine lv_iconst (v := (1 : Int32)) hx hb dX4_isAsleep_40 (by decide) ?_
          refine lv_goto (tgt := 45) hx hb dX4_isAsleep_41 (by decide) ?_
          have hcf := Option.some.inj hcf; subst hcf
          exact wk_zret hx hb hr hlocks (Or.inr rfl) hW hS dX4_isAsleep_45
set_option maxHeartbeats 4000000 in
set_option maxRecDepth 100000 in
theorem ct_X4_stateOf (l : Launch) (D : va_G) (cy : Nat → ClassId) (z n : Nat) (Y : mY) (V : mV) (G : mG) (a0 : Nat) (b1 : Int32) (x : Int32) (hcf : cf_X4_stateOf Y V G a0 b1 = some x) : CT l yX4_stateOf cX4_stateOf 2 (some .int) (rmd 3) D cy z [.ref a0, .int b1] Y n V G (some (.int x)) Y n V G := by
  refine ct_of (by decide) (Nat.le_of_ble_eq_true rfl) ?_
  intro p e s m args below meth c ls hx hb hr hml hown hts hlocks hnm hE hW hl
  have hS : va_S (zA z) s.heap s.heap [] := va_S.rf
  have hl : lv_has ls 2 [(0, .ref a0), (1, .int b1)] := hl
  have hown : s.vm.findClass RX4 = some m.cls := hown
  rw [cf_X4_stateOf] at hcf
  refine lv_aload_n hx hb dX4_stateOf_0 rfl (lv_at hl 0 rfl) ?_
  refine lv_iload_n hx hb dX4_stateOf_1 rfl (lv_at hl 1 rfl) ?_
  refine lv_bipush (v := (12 : Int32)) hx hb dX4_stateOf_2 (by decide) ?_
  obtain ⟨q1, hcf⟩ := og hcf
  obtain ⟨x2, hx2, hcf⟩ := ob hcf
  refine iv_X4_46 (As := [.int b1, .int (12 : Int32)]) (rest := []) hx hb hml hown hts hE (ct_X4_get l D cy z n Y V G a0 b1 (12 : Int32) x2 hx2) hW hS q1 rfl rfl hl.1 (Nat.le_of_ble_eq_true rfl) ⟨Nat.le_of_ble_eq_true rfl, Nat.le_of_ble_eq_true rfl⟩ dX4_stateOf_4 ⟨Nat.zero_le _, Nat.zero_le _⟩ (fun H locs hW hS => ?_)
  refine lv_iconst (v := (1 : Int32)) hx hb dX4_stateOf_7 (by decide) ?_
  refine lv_icmp_ne (tgt := 13) hx hb dX4_stateOf_8 (by decide) (fun q3 => ?_) (fun q3 => ?_)
  · replace hcf := (if_neg q3).symm.trans hcf
    refine lv_aload_n hx hb dX4_stateOf_13 rfl (lv_at hl 0 rfl) ?_
    refine lv_iload_n hx hb dX4_stateOf_14 rfl (lv_at hl 1 rfl) ?_
    refine lv_bipush (v := (8 : Int32)) hx hb dX4_stateOf_15 (by decide) ?_
    obtain ⟨x4, hx4, hcf⟩ := ob hcf
    refine iv_X4_46 (As := [.int b1, .int (8 : Int32)]) (rest := []) hx hb hml hown hts hE (ct_X4_get l D cy z n Y V G a0 b1 (8 : Int32) x4 hx4) hW hS q1 rfl rfl hl.1 (Nat.le_of_ble_eq_true rfl) ⟨Nat.le_of_ble_eq_true rfl, Nat.le_of_ble_eq_true rfl⟩ dX4_stateOf_17 ⟨Nat.zero_le _, Nat.zero_le _⟩ (fun H locs hW hS => ?_)
    refine lv_iconst (v := (1 : Int32)) hx hb dX4_stateOf_20 (by decide) ?_
    refine lv_icmp_ne (tgt := 26) hx hb dX4_stateOf_21 (by decide) (fun q5 => ?_) (fun q5 => ?_)
    · replace hcf := (if_neg q5).symm.trans hcf
      refine lv_aload_n hx hb dX4_stateOf_26 rfl (lv_at hl 0 rfl) ?_
      refine lv_iload_n hx hb dX4_stateOf_27 rfl (lv_at hl 1 rfl) ?_
      obtain ⟨x6, hx6, hcf⟩ := ob hcf
      refine iv_X4_60 (As := [.int b1]) (rest := []) hx hb hml hown hts hE (ct_X4_isMet l D cy z n Y V G a0 b1 x6 hx6) hW hS q1 rfl rfl hl.1 (Nat.le_of_ble_eq_true rfl) ⟨Nat.le_of_ble_eq_true rfl, Nat.le_of_ble_eq_true rfl⟩ dX4_stateOf_28 ⟨Nat.zero_le _, Nat.zero_le _⟩ (fun H locs hW hS => ?_)
      refine lv_if_eq (tgt := 38) hx hb dX4_stateOf_31 (by decide) (fun q7 => ?_) (fun q7 => ?_)
      · replace hcf := (if_pos q7).symm.trans hcf
        refine lv_aload_n hx hb dX4_stateOf_38 rfl (lv_at hl 0 rfl) ?_
        refine lv_iload_n hx hb dX4_stateOf_39 rfl (lv_at hl 1 rfl) ?_
        obtain ⟨x8, hx8, hcf⟩ := ob hcf
        refine iv_X4_63 (As := [.int b1]) (rest := []) hx hb hml hown hts hE (ct_X4_isAsleep l D cy z n Y V G a0 b1 x8 hx8) hW hS q1 rfl rfl hl.1 (Nat.le_of_ble_eq_true rfl) ⟨Nat.le_of_ble_eq_true rfl, Nat.le_of_ble_eq_true rfl⟩ dX4_stateOf_40 ⟨Nat.zero_le _, Nat.zero_le _⟩ (fun H locs hW hS => ?_)
        refine lv_if_eq (tgt := 50) hx hb dX4_stateOf_43 (by decide) (fun q9 => ?_) (fun q9 => ?_)
        · replace hcf := (if_pos q9).symm.trans hcf
          refine lv_iconst (v := (1 : Int32)) hx hb dX4_stateOf_50 (by decide) ?_
          have hcf := Option.some.inj hcf; subst hcf
          exact wk_iret hx hb hr hlocks hW hS dX4_stateOf_51
        · replace hcf := (if_neg q9).symm.trans hcf
          refine lv_iconst (v := (0 : Int32)) hx hb dX4_stateOf_46 (by decide) ?_
          refine lv_goto (tgt := 51) hx hb dX4_stateOf_47 (by decide) ?_
          have hcf := Option.some.inj hcf; subst hcf
          exact wk_iret hx hb hr hlocks hW hS dX4_stateOf_51
      · replace hcf := (if_neg q7).symm.trans hcf
        refine lv_iconst (v := (2 : Int32)) hx hb dX4_stateOf_34 (by decide) ?_
        refine lv_goto (tgt := 51) hx hb dX4_stateOf_35 (by decide) ?_
        have hcf := Option.some.inj hcf; subst hcf
        exact wk_iret hx hb hr hlocks hW hS dX4_stateOf_51
    · replace hcf := (if_pos q5).symm.trans hcf
      refine lv_iconst (v := (3 : Int32)) hx hb dX4_stateOf_24 (by decide) ?_
      have hcf := Option.some.inj hcf; subst hcf
      exact wk_iret hx hb hr hlocks hW hS dX4_stateOf_25
  · replace hcf := (if_pos q3).symm.trans hcf
    refine lv_iconst (v := (4 : Int32)) hx hb dX4_stateOf_11 (by decide) ?_
    have hcf := Option.some.inj hcf; subst hcf
    exact wk_iret hx hb hr hlocks hW hS dX4_stateOf_12
set_option maxHeartbeats 4000000 in
set_option maxRecDepth 100000 in
theorem ct_X4_breaks (l : Launch) (D : va_G) (cy : Nat → ClassId) (z n : Nat) (Y : mY) (V : mV) (G : mG) (a0 : Nat) (b1 : Int32) (x : mV) (hcf : cf_X4_breaks Y V G a0 b1 = some x) : CT l yX4_breaks cX4_breaks 2 none (rmd 1) D cy z [.ref a0, .int b1] Y n V G none Y n x G := by
  refine ct_of (by decide) (Nat.le_of_ble_eq_true rfl) ?_
  intro p e s m args below meth c ls hx hb hr hml hown hts hlocks hnm hE hW hl
  have hS : va_S (zA z) s.heap s.heap [] := va_S.rf
  have hl : lv_has ls 2 [(0, .ref a0), (1, .int b1)] := hl
  have hown : s.vm.findClass RX4 = some m.cls := hown
  rw [cf_X4_breaks] at hcf
  refine lv_aload_n hx hb dX4_breaks_0 rfl (lv_at hl 0 rfl) ?_
  refine lv_iload_n hx hb dX4_breaks_1 rfl (lv_at hl 1 rfl) ?_
  refine lv_bipush (v := (8 : Int32)) hx hb dX4_breaks_2 (by decide) ?_
  refine lv_iconst (v := (1 : Int32)) hx hb dX4_breaks_4 (by decide) ?_
  obtain ⟨q1, hcf⟩ := og hcf
  obtain ⟨x2, hx2, hcf⟩ := ob hcf
  refine iv_X4_66 (As := [.int b1, .int (8 : Int32), .int (1 : Int32)]) (rest := []) hx hb hml hown hts hE (ct_X4_put l D cy z n Y V G a0 b1 (8 : Int32) (1 : Int32) x2 hx2) hW hS q1 rfl rfl hl.1 (Nat.le_of_ble_eq_true rfl) ⟨Nat.le_of_ble_eq_true rfl, Nat.le_of_ble_eq_true rfl⟩ dX4_breaks_5 ⟨Nat.zero_le _, Nat.zero_le _⟩ (fun H locs hW hS => ?_)
  refine lv_aload_n hx hb dX4_breaks_8 rfl (lv_at hl 0 rfl) ?_
  refine lv_iload_n hx hb dX4_breaks_9 rfl (lv_at hl 1 rfl) ?_
  refine lv_bipush (v := (9 : Int32)) hx hb dX4_breaks_10 (by decide) ?_
  refine lv_iconst (v := (0 : Int32)) hx hb dX4_breaks_12 (by decide) ?_
  obtain ⟨x3, hx3, hcf⟩ := ob hcf
  refine iv_X4_66 (As := [.int b1, .int (9 : Int32), .int (0 : Int32)]) (rest := []) hx hb hml hown hts hE (ct_X4_put l D cy z n Y x2 G a0 b1 (9 : Int32) (0 : Int32) x3 hx3) hW hS q1 rfl rfl hl.1 (Nat.le_of_ble_eq_true rfl) ⟨Nat.le_of_ble_eq_true rfl, Nat.le_of_ble_eq_true rfl⟩ dX4_breaks_13 ⟨Nat.zero_le _, Nat.zero_le _⟩ (fun H locs hW hS => ?_)
  refine lv_aload_n hx hb dX4_breaks_16 rfl (lv_at hl 0 rfl) ?_
  refine lv_iload_n hx hb dX4_breaks_17 rfl (lv_at hl 1 rfl) ?_
  refine lv_bipush (v := (10 : Int32)) hx hb dX4_breaks_18 (by decide) ?_
  refine lv_iconst (v := (-1 : Int32)) hx hb dX4_breaks_20 (by decide) ?_
  obtain ⟨x4, hx4, hcf⟩ := ob hcf
  refine iv_X4_66 (As := [.int b1, .int (10 : Int32), .int (-1 : Int32)]) (rest := []) hx hb hml hown hts hE (ct_X4_put l D cy z n Y x3 G a0 b1 (10 : Int32) (-1 : Int32) x4 hx4) hW hS q1 rfl rfl hl.1 (Nat.le_of_ble_eq_true rfl) ⟨Nat.le_of_ble_eq_true rfl, Nat.le_of_ble_eq_true rfl⟩ dX4_breaks_21 ⟨Nat.zero_le _, Nat.zero_le _⟩ (fun H locs hW hS => ?_)
  refine lv_aload_n hx hb dX4_breaks_24 rfl (lv_at hl 0 rfl) ?_
  obtain ⟨r5, hr5, hcf⟩ := ob hcf
  refine gf_X4_7 hx hb hts hown hE hW q1 hr5 dX4_breaks_25 ?_
  refine lv_iconst (v := (4 : Int32)) hx hb dX4_breaks_28 (by decide) ?_
  refine lv_dup2_11 hx hb dX4_breaks_29 rfl rfl ?_
  obtain ⟨q6, hcf⟩ := og hcf
  obtain ⟨q7, hcf⟩ := og hcf
  refine wk_iald hx hb hE hW q6 q7 dX4_breaks_30 ?_
  refine lv_iconst (v := (1 : Int32)) hx hb dX4_breaks_31 (by decide) ?_
  refine lv_iadd hx hb dX4_breaks_32 ?_
  obtain ⟨q8, hcf⟩ := og hcf
  refine wk_iast hx hb hE hW hS q6 q8 dX4_breaks_33 (fun H locs hW hS => ?_)
  have hcf := Option.some.inj hcf; subst hcf
  exact wk_vret hx hb hr hlocks hW hS dX4_breaks_34
set_option maxHeartbeats 4000000 in
set_option maxRecDepth 100000 in
theorem ct_X4_mends (l : Launch) (D : va_G) (cy : Nat → ClassId) (z n : Nat) (Y : mY) (V : mV) (G : mG) (a0 : Nat) (b1 : Int32) (x : mV) (hcf : cf_X4_mends Y V G a0 b1 = some x) : CT l yX4_mends cX4_mends 2 none (rmd 1) D cy z [.ref a0, .int b1] Y n V G none Y n x G := by
  refine ct_of (by decide) (Nat.le_of_ble_eq_true rfl) ?_
  intro p e s m args below meth c ls hx hb hr hml hown hts hlocks hnm hE hW hl
  have hS : va_S (zA z) s.heap s.heap [] := va_S.rf
  have hl : lv_has ls 2 [(0, .ref a0), (1, .int b1)] := hl
  have hown : s.vm.findClass RX4 = some m.cls := hown
  rw [cf_X4_mends] at hcf
  refine lv_aload_n hx hb dX4_mends_0 rfl (lv_at hl 0 rfl) ?_
  refine lv_iload_n hx hb dX4_mends_1 rfl (lv_at hl 1 rfl) ?_
  refine lv_bipush (v := (8 : Int32)) hx hb dX4_mends_2 (by decide) ?_
  refine lv_iconst (v := (0 : Int32)) hx hb dX4_mends_4 (by decide) ?_
  obtain ⟨q1, hcf⟩ := og hcf
  obtain ⟨x2, hx2, hcf⟩ := ob hcf
  refine iv_X4_66 (As := [.int b1, .int (8 : Int32), .int (0 : Int32)]) (rest := []) hx hb hml hown hts hE (ct_X4_put l D cy z n Y V G a0 b1 (8 : Int32) (0 : Int32) x2 hx2) hW hS q1 rfl rfl hl.1 (Nat.le_of_ble_eq_true rfl) ⟨Nat.le_of_ble_eq_true rfl, Nat.le_of_ble_eq_true rfl⟩ dX4_mends_5 ⟨Nat.zero_le _, Nat.zero_le _⟩ (fun H locs hW hS => ?_)
  refine lv_aload_n hx hb dX4_mends_8 rfl (lv_at hl 0 rfl) ?_
  refine lv_iload_n hx hb dX4_mends_9 rfl (lv_at hl 1 rfl) ?_
  refine lv_bipush (v := (9 : Int32)) hx hb dX4_mends_10 (by decide) ?_
  refine lv_iconst (v := (0 : Int32)) hx hb dX4_mends_12 (by decide) ?_
  obtain ⟨x3, hx3, hcf⟩ := ob hcf
  refine iv_X4_66 (As := [.int b1, .int (9 : Int32), .int (0 : Int32)]) (rest := []) hx hb hml hown hts hE (ct_X4_put l D cy z n Y x2 G a0 b1 (9 : Int32) (0 : Int32) x3 hx3) hW hS q1 rfl rfl hl.1 (Nat.le_of_ble_eq_true rfl) ⟨Nat.le_of_ble_eq_true rfl, Nat.le_of_ble_eq_true rfl⟩ dX4_mends_13 ⟨Nat.zero_le _, Nat.zero_le _⟩ (fun H locs hW hS => ?_)
  refine lv_aload_n hx hb dX4_mends_16 rfl (lv_at hl 0 rfl) ?_
  refine lv_iload_n hx hb dX4_mends_17 rfl (lv_at hl 1 rfl) ?_
  refine lv_bipush (v := (10 : Int32)) hx hb dX4_mends_18 (by decide) ?_
  refine lv_iconst (v := (-1 : Int32)) hx hb dX4_mends_20 (by decide) ?_
  obtain ⟨x4, hx4, hcf⟩ := ob hcf
  refine iv_X4_66 (As := [.int b1, .int (10 : Int32), .int (-1 : Int32)]) (rest := []) hx hb hml hown hts hE (ct_X4_put l D cy z n Y x3 G a0 b1 (10 : Int32) (-1 : Int32) x4 hx4) hW hS q1 rfl rfl hl.1 (Nat.le_of_ble_eq_true rfl) ⟨Nat.le_of_ble_eq_true rfl, Nat.le_of_ble_eq_true rfl⟩ dX4_mends_21 ⟨Nat.zero_le _, Nat.zero_le _⟩ (fun H locs hW hS => ?_)
  have hcf := Option.some.inj hcf; subst hcf
  exact wk_vret hx hb hr hlocks hW hS dX4_mends_24
set_option maxHeartbeats 4000000 in
set_option maxRecDepth 100000 in
theorem ct_X4_approves (l : Launch) (D : va_G) (cy : Nat → ClassId) (z n : Nat) (Y : mY) (V : mV) (G : mG) (a0 : Nat) (b1 : Int32) (b2 : Int32) (x : mV) (hcf : cf_X4_approves Y V G a0 b1 b2 = some x) : CT l yX4_approves cX4_approves 3 none (rmd 3) D cy z [.ref a0, .int b1, .int b2] Y n V G none Y n x G := by
  refine ct_of (by decide) (Nat.le_of_ble_eq_true rfl) ?_
  intro p e s m args below meth c ls hx hb hr hml hown hts hlocks hnm hE hW hl
  have hS : va_S (zA z) s.heap s.heap [] := va_S.rf
  have hl : lv_has ls 3 [(0, .ref a0), (1, .int b1), (2, .int b2)] := hl
  have hown : s.vm.findClass RX4 = some m.cls := hown
  rw [cf_X4_approves] at hcf
  refine lv_aload_n hx hb dX4_approves_0 rfl (lv_at hl 0 rfl) ?_
  refine lv_iload_n hx hb dX4_approves_1 rfl (lv_at hl 1 rfl) ?_
  refine lv_iconst (v := (4 : Int32)) hx hb dX4_approves_2 (by decide) ?_
  refine lv_aload_n hx hb dX4_approves_3 rfl (lv_at hl 0 rfl) ?_
  refine lv_iload_n hx hb dX4_approves_4 rfl (lv_at hl 1 rfl) ?_
  refine lv_iconst (v := (4 : Int32)) hx hb dX4_approves_5 (by decide) ?_
  obtain ⟨q1, hcf⟩ := og hcf
  obtain ⟨x2, hx2, hcf⟩ := ob hcf
  refine iv_X4_46 (As := [.int b1, .int (4 : Int32)]) (rest := [.int (4 : Int32), .int b1, .ref a0]) hx hb hml hown hts hE (ct_X4_get l D cy z n Y V G a0 b1 (4 : Int32) x2 hx2) hW hS q1 rfl rfl hl.1 (Nat.le_of_ble_eq_true rfl) ⟨Nat.le_of_ble_eq_true rfl, Nat.le_of_ble_eq_true rfl⟩ dX4_approves_6 ⟨Nat.zero_le _, Nat.zero_le _⟩ (fun H locs hW hS => ?_)
  refine lv_iload_n hx hb dX4_approves_9 rfl (lv_at hl 2 rfl) ?_
  refine lv_ior hx hb dX4_approves_10 ?_
  obtain ⟨x3, hx3, hcf⟩ := ob hcf
  refine iv_X4_66 (As := [.int b1, .int (4 : Int32), .int (x2 ||| b2)]) (rest := []) hx hb hml hown hts hE (ct_X4_put l D cy z n Y V G a0 b1 (4 : Int32) (x2 ||| b2) x3 hx3) hW hS q1 rfl rfl hl.1 (Nat.le_of_ble_eq_true rfl) ⟨Nat.le_of_ble_eq_true rfl, Nat.le_of_ble_eq_true rfl⟩ dX4_approves_11 ⟨Nat.zero_le _, Nat.zero_le _⟩ (fun H locs hW hS => ?_)
  refine lv_aload_n hx hb dX4_approves_14 rfl (lv_at hl 0 rfl) ?_
  refine lv_iload_n hx hb dX4_approves_15 rfl (lv_at hl 1 rfl) ?_
  refine lv_iconst (v := (5 : Int32)) hx hb dX4_approves_16 (by decide) ?_
  refine lv_iconst (v := (0 : Int32)) hx hb dX4_approves_17 (by decide) ?_
  obtain ⟨x4, hx4, hcf⟩ := ob hcf
  refine iv_X4_66 (As := [.int b1, .int (5 : Int32), .int (0 : Int32)]) (rest := []) hx hb hml hown hts hE (ct_X4_put l D cy z n Y x3 G a0 b1 (5 : Int32) (0 : Int32) x4 hx4) hW hS q1 rfl rfl hl.1 (Nat.le_of_ble_eq_true rfl) ⟨Nat.le_of_ble_eq_true rfl, Nat.le_of_ble_eq_true rfl⟩ dX4_approves_18 ⟨Nat.zero_le _, Nat.zero_le _⟩ (fun H locs hW hS => ?_)
  refine lv_aload_n hx hb dX4_approves_21 rfl (lv_at hl 0 rfl) ?_
  refine lv_iload_n hx hb dX4_approves_22 rfl (lv_at hl 1 rfl) ?_
  refine lv_bipush (v := (6 : Int32)) hx hb dX4_approves_23 (by decide) ?_
  refine lv_iconst (v := (0 : Int32)) hx hb dX4_approves_25 (by decide) ?_
  obtain ⟨x5, hx5, hcf⟩ := ob hcf
  refine iv_X4_66 (As := [.int b1, .int (6 : Int32), .int (0 : Int32)]) (rest := []) hx hb hml hown hts hE (ct_X4_put l D cy z n Y x4 G a0 b1 (6 : Int32) (0 : Int32) x5 hx5) hW hS q1 rfl rfl hl.1 (Nat.le_of_ble_eq_true rfl) ⟨Nat.le_of_ble_eq_true rfl, Nat.le_of_ble_eq_true rfl⟩ dX4_approves_26 ⟨Nat.zero_le _, Nat.zero_le _⟩ (fun H locs hW hS => ?_)
  refine lv_aload_n hx hb dX4_approves_29 rfl (lv_at hl 0 rfl) ?_
  refine lv_iload_n hx hb dX4_approves_30 rfl (lv_at hl 1 rfl) ?_
  obtain ⟨x6, hx6, hcf⟩ := ob hcf
  refine iv_X4_60 (As := [.int b1]) (rest := []) hx hb hml hown hts hE (ct_X4_isMet l D cy z n Y x5 G a0 b1 x6 hx6) hW hS q1 rfl rfl hl.1 (Nat.le_of_ble_eq_true rfl) ⟨Nat.le_of_ble_eq_true rfl, Nat.le_of_ble_eq_true rfl⟩ dX4_approves_31 ⟨Nat.zero_le _, Nat.zero_le _⟩ (fun H locs hW hS => ?_)
  refine lv_if_eq (tgt := 53) hx hb dX4_approves_34 (by decide) (fun q7 => ?_) (fun q7 => ?_)
  · replace hcf := (if_pos q7).symm.trans hcf
    have hcf := Option.some.inj hcf; subst hcf
    exact wk_vret hx hb hr hlocks hW hS dX4_approves_53
  · replace hcf := (if_neg q7).symm.trans hcf
    refine lv_aload_n hx hb dX4_approves_37 rfl (lv_at hl 0 rfl) ?_
    refine lv_iload_n hx hb dX4_approves_38 rfl (lv_at hl 1 rfl) ?_
    refine lv_bipush (v := (8 : Int32)) hx hb dX4_approves_39 (by decide) ?_
    obtain ⟨x8, hx8, hcf⟩ := ob hcf
    refine iv_X4_46 (As := [.int b1, .int (8 : Int32)]) (rest := []) hx hb hml hown hts hE (ct_X4_get l D cy z n Y x5 G a0 b1 (8 : Int32) x8 hx8) hW hS q1 rfl rfl hl.1 (Nat.le_of_ble_eq_true rfl) ⟨Nat.le_of_ble_eq_true rfl, Nat.le_of_ble_eq_true rfl⟩ dX4_approves_41 ⟨Nat.zero_le _, Nat.zero_le _⟩ (fun H locs hW hS => ?_)
    refine lv_iconst (v := (1 : Int32)) hx hb dX4_approves_44 (by decide) ?_
    refine lv_icmp_ne (tgt := 53) hx hb dX4_approves_45 (by decide) (fun q9 => ?_) (fun q9 => ?_)
    · replace hcf := (if_neg q9).symm.trans hcf
      have hcf := Option.some.inj hcf; subst hcf
      exact wk_vret hx hb hr hlocks hW hS dX4_approves_53
    · replace hcf := (if_pos q9).symm.trans hcf
      refine lv_aload_n hx hb dX4_approves_48 rfl (lv_at hl 0 rfl) ?_
      refine lv_iload_n hx hb dX4_approves_49 rfl (lv_at hl 1 rfl) ?_
      obtain ⟨x10, hx10, hcf⟩ := ob hcf
      refine iv_X4_70 (As := [.int b1]) (rest := []) hx hb hml hown hts hE (ct_X4_mends l D cy z n Y x5 G a0 b1 x10 hx10) hW hS q1 rfl rfl hl.1 (Nat.le_of_ble_eq_true rfl) ⟨Nat.le_of_ble_eq_true rfl, Nat.le_of_ble_eq_true rfl⟩ dX4_approves_50 ⟨Nat.zero_le _, Nat.zero_le _⟩ (fun H locs hW hS => ?_)
      have hcf := Option.some.inj hcf; subst hcf
      exact wk_vret hx hb hr hlocks hW hS dX4_approves_53
set_option maxHeartbeats 4000000 in
set_option maxRecDepth 100000 in
theorem ct_X4_areDays (l : Launch) (D : va_G) (cy : Nat → ClassId) (z n : Nat) (Y : mY) (V : mV) (G : mG) (b1 : Int32) (b2 : Int32) (x : Int32) (hcf : cf_X4_areDays b1 b2 = some x) : CT l yX4_areDays cX4_areDays 2 (some .boolean) (rmd 1) D cy z [.int b1, .int b2] Y n V G (some (.int x)) Y n V G := by
  refine ct_of (by decide) (Nat.le_of_ble_eq_true rfl) ?_
  intro p e s m args below meth c ls hx hb hr hml hown hts hlocks hnm hE hW hl
  have hS : va_S (zA z) s.heap s.heap [] := va_S.rf
  have hl : lv_has ls 2 [(0, .int b1), (1, .int b2)] := hl
  have hown : s.vm.findClass RX4 = some m.cls := hown
  rw [cf_X4_areDays] at hcf
  refine lv_iload_n hx hb dX4_areDays_0 rfl (lv_at hl 1 rfl) ?_
  refine lv_i2l hx hb dX4_areDays_1 rfl ?_
  refine lv_iload_n hx hb dX4_areDays_2 rfl (lv_at hl 0 rfl) ?_
  refine lv_iconst (v := (2 : Int32)) hx hb dX4_areDays_3 (by decide) ?_
  refine lv_icmp_ne (tgt := 11) hx hb dX4_areDays_4 (by decide) (fun q1 => ?_) (fun q1 => ?_)
  · replace hcf := (if_neg q1).symm.trans hcf
    refine lv_lconst (v := (0 : Int64)) hx hb dX4_areDays_11 (by decide) ?_
    refine lv_ldc2 hx hb hown (hts _ q670) dX4_areDays_12 ?_
    obtain ⟨x2, hx2, hcf⟩ := ob hcf
    refine iv_X4_40 (As := [.long ((b2).toInt64), .long (0 : Int64), .long (365 : Int64)]) (rest := []) hx hb hml hown hts hE (ct_X4_in l D cy z n Y V G ((b2).toInt64) (0 : Int64) (365 : Int64) x2 hx2) hW hS rfl rfl hl.1 (Nat.le_of_ble_eq_true rfl) ⟨Nat.le_of_ble_eq_true rfl, Nat.le_of_ble_eq_true rfl⟩ dX4_areDays_15 ⟨Nat.zero_le _, Nat.zero_le _⟩ (fun H locs hW hS => ?_)
    obtain ⟨q3, hcf⟩ := og hcf
    have hcf := Option.some.inj hcf; subst hcf
    exact wk_zret hx hb hr hlocks q3 hW hS dX4_areDays_18
  · replace hcf := (if_pos q1).symm.trans hcf
    refine lv_lconst (v := (1 : Int64)) hx hb dX4_areDays_7 (by decide) ?_
    refine lv_goto (tgt := 12) hx hb dX4_areDays_8 (by decide) ?_
    refine lv_ldc2 hx hb hown (hts _ q670) dX4_areDays_12 ?_
    obtain ⟨x4, hx4, hcf⟩ := ob hcf
    refine iv_X4_40 (As := [.long ((b2).toInt64), .long (1 : Int64), .long (365 : Int64)]) (rest := []) hx hb hml hown hts hE (ct_X4_in l D cy z n Y V G ((b2).toInt64) (1 : Int64) (365 : Int64) x4 hx4) hW hS rfl rfl hl.1 (Nat.le_of_ble_eq_true rfl) ⟨Nat.le_of_ble_eq_true rfl, Nat.le_of_ble_eq_true rfl⟩ dX4_areDays_15 ⟨Nat.zero_le _, Nat.zero_le _⟩ (fun H locs hW hS => ?_)
    obtain ⟨q5, hcf⟩ := og hcf
    have hcf := Option.some.inj hcf; subst hcf
    exact wk_zret hx hb hr hlocks q5 hW hS dX4_areDays_18
set_option maxHeartbeats 4000000 in
set_option maxRecDepth 100000 in
theorem wl_X4_doCondition_89 {p : Program} {l : Launch} {e : Env} {s : State} {m : MethodId} {args : Array Value} {below : List Frame} {meth : Method} {c : Code} {D : va_G} {cy : Nat → ClassId} {z : Nat} {n : Nat} {Y : mY} {G : mG} (hx : p.tables.exec = Jvm.exec) (hb : c.code = cX4_doCondition) (hr : meth.sig.returnType = (some .int)) (hml : c.maxLocals = 7) (hown : s.vm.findClass RX4 = some m.cls) (hts : ∀ w ∈ lw_all, w.before args s = true) (hlocks : meth.locks = false) (hE : En D cy s) (x : Int32 × mV) : ∀ (k : Nat) (V : mV) (j0 : Nat) (j1 : Int32) (j2 : Int32) (j3 : Int32) (j4 : Int32) (j5 : Int32) (j6 : Int32) (H : Heap) (locs : List Loc) (ls : Array Slot), lp_X4_doCondition_89 Y G k V j0 j1 j2 j3 j4 j5 j6 = some x → Wd Y cy D z n V G H → va_S (zA z) s.heap H locs → lv_has ls 7 [(0, .ref j0), (1, .int j1), (2, .int j2), (3, .int j3), (4, .int j4), (5, .int j5), (6, .int j6)] → W p l e (rmd 2) s m args below meth c H locs 0 0 (MQ below (QC D cy z Y n x.2 G (some (.int x.1))) args s 0 0 (zA z)) (F0 m 89 ls []) := by
  intro k
  induction k with
  | zero =>
    intro V j0 j1 j2 j3 j4 j5 j6 H locs ls hcf
    have hcf : none = some _ := hcf
    cases hcf
  | succ k ih =>
    intro V j0 j1 j2 j3 j4 j5 j6 H locs ls hcf hW hS hl
    rw [lp_X4_doCondition_89] at hcf
    refine lv_iload hx hb dX4_doCondition_89 (lv_at hl 6 rfl) ?_
    refine lv_bipush (v := (13 : Int32)) hx hb dX4_doCondition_91 (by decide) ?_
    refine lv_icmp_ge (tgt := 111) hx hb dX4_doCondition_93 (by decide) (fun q19 => ?_) (fun q19 => ?_)
    · replace hcf := (if_pos q19).symm.trans hcf
      refine lv_aload_n hx hb dX4_doCondition_111 rfl (lv_at hl 0 rfl) ?_
      refine lv_iload hx hb dX4_doCondition_112 (lv_at hl 5 rfl) ?_
      refine lv_iconst (v := (0 : Int32)) hx hb dX4_doCondition_114 (by decide) ?_
      refine lv_iload_n hx hb dX4_doCondition_115 rfl (lv_at hl 1 rfl) ?_
      obtain ⟨q20, hcf⟩ := og hcf
      obtain ⟨x21, hx21, hcf⟩ := ob hcf
      refine iv_X4_66 (As := [.int j5, .int (0 : Int32), .int j1]) (rest := []) hx hb hml hown hts hE (ct_X4_put l D cy z n Y V G j0 j5 (0 : Int32) j1 x21 hx21) hW hS q20 rfl rfl hl.1 (Nat.le_of_ble_eq_true rfl) ⟨Nat.le_of_ble_eq_true rfl, Nat.le_of_ble_eq_true rfl⟩ dX4_doCondition_116 ⟨Nat.zero_le _, Nat.zero_le _⟩ (fun H locs hW hS => ?_)
      refine lv_aload_n hx hb dX4_doCondition_119 rfl (lv_at hl 0 rfl) ?_
      refine lv_iload hx hb dX4_doCondition_120 (lv_at hl 5 rfl) ?_
      refine lv_iconst (v := (1 : Int32)) hx hb dX4_doCondition_122 (by decide) ?_
      refine lv_iload_n hx hb dX4_doCondition_123 rfl (lv_at hl 2 rfl) ?_
      obtain ⟨x22, hx22, hcf⟩ := ob hcf
      refine iv_X4_66 (As := [.int j5, .int (1 : Int32), .int j2]) (rest := []) hx hb hml hown hts hE (ct_X4_put l D cy z n Y x21 G j0 j5 (1 : Int32) j2 x22 hx22) hW hS q20 rfl rfl hl.1 (Nat.le_of_ble_eq_true rfl) ⟨Nat.le_of_ble_eq_true rfl, Nat.le_of_ble_eq_true rfl⟩ dX4_doCondition_124 ⟨Nat.zero_le _, Nat.zero_le _⟩ (fun H locs hW hS => ?_)
      refine lv_aload_n hx hb dX4_doCondition_127 rfl (lv_at hl 0 rfl) ?_
      refine lv_iload hx hb dX4_doCondition_128 (lv_at hl 5 rfl) ?_
      refine lv_iconst (v := (2 : Int32)) hx hb dX4_doCondition_130 (by decide) ?_
      refine lv_iload_n hx hb dX4_doCondition_131 rfl (lv_at hl 3 rfl) ?_
      obtain ⟨x23, hx23, hcf⟩ := ob hcf
      refine iv_X4_66 (As := [.int j5, .int (2 : Int32), .int j3]) (rest := []) hx hb hml hown hts hE (ct_X4_put l D cy z n Y x22 G j0 j5 (2 : Int32) j3 x23 hx23) hW hS q20 rfl rfl hl.1 (Nat.le_of_ble_eq_true rfl) ⟨Nat.le_of_ble_eq_true rfl, Nat.le_of_ble_eq_true rfl⟩ dX4_doCondition_132 ⟨Nat.zero_le _, Nat.zero_le _⟩ (fun H locs hW hS => ?_)
      refine lv_aload_n hx hb dX4_doCondition_135 rfl (lv_at hl 0 rfl) ?_
      refine lv_iload hx hb dX4_doCondition_136 (lv_at hl 5 rfl) ?_
      refine lv_iconst (v := (3 : Int32)) hx hb dX4_doCondition_138 (by decide) ?_
      refine lv_iload hx hb dX4_doCondition_139 (lv_at hl 4 rfl) ?_
      obtain ⟨x24, hx24, hcf⟩ := ob hcf
      refine iv_X4_66 (As := [.int j5, .int (3 : Int32), .int j4]) (rest := []) hx hb hml hown hts hE (ct_X4_put l D cy z n Y x23 G j0 j5 (3 : Int32) j4 x24 hx24) hW hS q20 rfl rfl hl.1 (Nat.le_of_ble_eq_true rfl) ⟨Nat.le_of_ble_eq_true rfl, Nat.le_of_ble_eq_true rfl⟩ dX4_doCondition_141 ⟨Nat.zero_le _, Nat.zero_le _⟩ (fun H locs hW hS => ?_)
      refine lv_aload_n hx hb dX4_doCondition_144 rfl (lv_at hl 0 rfl) ?_
      refine lv_iload hx hb dX4_doCondition_145 (lv_at hl 5 rfl) ?_
      refine lv_bipush (v := (10 : Int32)) hx hb dX4_doCondition_147 (by decide) ?_
      refine lv_iconst (v := (-1 : Int32)) hx hb dX4_doCondition_149 (by decide) ?_
      obtain ⟨x25, hx25, hcf⟩ := ob hcf
      refine iv_X4_66 (As := [.int j5, .int (10 : Int32), .int (-1 : Int32)]) (rest := []) hx hb hml hown hts hE (ct_X4_put l D cy z n Y x24 G j0 j5 (10 : Int32) (-1 : Int32) x25 hx25) hW hS q20 rfl rfl hl.1 (Nat.le_of_ble_eq_true rfl) ⟨Nat.le_of_ble_eq_true rfl, Nat.le_of_ble_eq_true rfl⟩ dX4_doCondition_150 ⟨Nat.zero_le _, Nat.zero_le _⟩ (fun H locs hW hS => ?_)
      refine lv_iload hx hb dX4_doCondition_153 (lv_at hl 5 rfl) ?_
      have hcf := Option.some.inj hcf; subst hcf
      exact wk_iret hx hb hr hlocks hW hS dX4_doCondition_155
    · replace hcf := (if_neg q19).symm.trans hcf
      refine lv_aload_n hx hb dX4_doCondition_96 rfl (lv_at hl 0 rfl) ?_
      refine lv_iload hx hb dX4_doCondition_97 (lv_at hl 5 rfl) ?_
      refine lv_iload hx hb dX4_doCondition_99 (lv_at hl 6 rfl) ?_
      refine lv_iconst (v := (0 : Int32)) hx hb dX4_doCondition_101 (by decide) ?_
      obtain ⟨q26, hcf⟩ := og hcf
      obtain ⟨x27, hx27, hcf⟩ := ob hcf
      refine iv_X4_66 (As := [.int j5, .int j6, .int (0 : Int32)]) (rest := []) hx hb hml hown hts hE (ct_X4_put l D cy z n Y V G j0 j5 j6 (0 : Int32) x27 hx27) hW hS q26 rfl rfl hl.1 (Nat.le_of_ble_eq_true rfl) ⟨Nat.le_of_ble_eq_true rfl, Nat.le_of_ble_eq_true rfl⟩ dX4_doCondition_102 ⟨Nat.zero_le _, Nat.zero_le _⟩ (fun H locs hW hS => ?_)
      refine lv_iinc (v := (j6 + 1)) (lv' := [(6, .int (j6 + 1)), (0, .ref j0), (1, .int j1), (2, .int j2), (3, .int j3), (4, .int j4), (5, .int j5)]) hx hb dX4_doCondition_105 hl (k := 6) rfl rfl (by decide) rfl (fun ls hl => ?_)
      refine lv_goto (tgt := 89) hx hb dX4_doCondition_108 (by decide) ?_
      exact ih x27 j0 j1 j2 j3 j4 j5 (j6 + 1) _ _ _ hcf hW hS (lv_sub hl [1, 2, 3, 4, 5, 6, 0] rfl)
set_option maxHeartbeats 4000000 in
set_option maxRecDepth 100000 in
theorem ct_X4_doCondition (l : Launch) (D : va_G) (cy : Nat → ClassId) (z n : Nat) (Y : mY) (V : mV) (G : mG) (a0 : Nat) (b1 : Int32) (b2 : Int32) (b3 : Int32) (b4 : Int32) (x : Int32 × mV) (hcf : cf_X4_doCondition Y V G a0 b1 b2 b3 b4 = some x) : CT l yX4_doCondition cX4_doCondition 7 (some .int) (rmd 2) D cy z [.ref a0, .int b1, .int b2, .int b3, .int b4] Y n V G (some (.int x.1)) Y n x.2 G := by
  refine ct_of (by decide) (Nat.le_of_ble_eq_true rfl) ?_
  intro p e s m args below meth c ls hx hb hr hml hown hts hlocks hnm hE hW hl
  have hS : va_S (zA z) s.heap s.heap [] := va_S.rf
  have hl : lv_has ls 7 [(0, .ref a0), (1, .int b1), (2, .int b2), (3, .int b3), (4, .int b4)] := hl
  have hown : s.vm.findClass RX4 = some m.cls := hown
  rw [cf_X4_doCondition] at hcf
  refine lv_iload_n hx hb dX4_doCondition_0 rfl (lv_at hl 1 rfl) ?_
  refine lv_i2l hx hb dX4_doCondition_1 rfl ?_
  refine lv_lconst (v := (0 : Int64)) hx hb dX4_doCondition_2 (by decide) ?_
  refine lv_ldc2 hx hb hown (hts _ q659) dX4_doCondition_3 ?_
  obtain ⟨x1, hx1, hcf⟩ := ob hcf
  refine iv_X4_40 (As := [.long ((b1).toInt64), .long (0 : Int64), .long (2 : Int64)]) (rest := []) hx hb hml hown hts hE (ct_X4_in l D cy z n Y V G ((b1).toInt64) (0 : Int64) (2 : Int64) x1 hx1) hW hS rfl rfl hl.1 (Nat.le_of_ble_eq_true rfl) ⟨Nat.le_of_ble_eq_true rfl, Nat.le_of_ble_eq_true rfl⟩ dX4_doCondition_6 ⟨Nat.zero_le _, Nat.zero_le _⟩ (fun H locs hW hS => ?_)
  refine lv_if_eq (tgt := 40) hx hb dX4_doCondition_9 (by decide) (fun q2 => ?_) (fun q2 => ?_)
  · replace hcf := (if_pos q2).symm.trans hcf
    refine lv_ldc hx hb hown (hts _ q672) dX4_doCondition_40 ?_
    have hcf := Option.some.inj hcf; subst hcf
    exact wk_iret hx hb hr hlocks hW hS dX4_doCondition_42
  · replace hcf := (if_neg q2).symm.trans hcf
    refine lv_iload_n hx hb dX4_doCondition_12 rfl (lv_at hl 2 rfl) ?_
    obtain ⟨x3, hx3, hcf⟩ := ob hcf
    refine iv_X4_78 (As := [.int b2]) (rest := []) hx hb hml hown hts hE (ct_X4_isStage l D cy z n Y V G b2 x3 hx3) hW hS rfl rfl hl.1 (Nat.le_of_ble_eq_true rfl) ⟨Nat.le_of_ble_eq_true rfl, Nat.le_of_ble_eq_true rfl⟩ dX4_doCondition_13 ⟨Nat.zero_le _, Nat.zero_le _⟩ (fun H locs hW hS => ?_)
    refine lv_if_eq (tgt := 40) hx hb dX4_doCondition_16 (by decide) (fun q4 => ?_) (fun q4 => ?_)
    · replace hcf := (if_pos q4).symm.trans hcf
      refine lv_ldc hx hb hown (hts _ q672) dX4_doCondition_40 ?_
      have hcf := Option.some.inj hcf; subst hcf
      exact wk_iret hx hb hr hlocks hW hS dX4_doCondition_42
    · replace hcf := (if_neg q4).symm.trans hcf
      refine lv_iload_n hx hb dX4_doCondition_19 rfl (lv_at hl 1 rfl) ?_
      refine lv_iload_n hx hb dX4_doCondition_20 rfl (lv_at hl 3 rfl) ?_
      obtain ⟨x5, hx5, hcf⟩ := ob hcf
      refine iv_X4_81 (As := [.int b1, .int b3]) (rest := []) hx hb hml hown hts hE (ct_X4_areDays l D cy z n Y V G b1 b3 x5 hx5) hW hS rfl rfl hl.1 (Nat.le_of_ble_eq_true rfl) ⟨Nat.le_of_ble_eq_true rfl, Nat.le_of_ble_eq_true rfl⟩ dX4_doCondition_21 ⟨Nat.zero_le _, Nat.zero_le _⟩ (fun H locs hW hS => ?_)
      refine lv_if_eq (tgt := 40) hx hb dX4_doCondition_24 (by decide) (fun q6 => ?_) (fun q6 => ?_)
      · replace hcf := (if_pos q6).symm.trans hcf
        refine lv_ldc hx hb hown (hts _ q672) dX4_doCondition_40 ?_
        have hcf := Option.some.inj hcf; subst hcf
        exact wk_iret hx hb hr hlocks hW hS dX4_doCondition_42
      · replace hcf := (if_neg q6).symm.trans hcf
        refine lv_iload hx hb dX4_doCondition_27 (lv_at hl 4 rfl) ?_
        refine lv_i2l hx hb dX4_doCondition_29 rfl ?_
        refine lv_lconst (v := (1 : Int64)) hx hb dX4_doCondition_30 (by decide) ?_
        refine lv_ldc2 hx hb hown (hts _ q671) dX4_doCondition_31 ?_
        obtain ⟨x7, hx7, hcf⟩ := ob hcf
        refine iv_X4_40 (As := [.long ((b4).toInt64), .long (1 : Int64), .long (6 : Int64)]) (rest := []) hx hb hml hown hts hE (ct_X4_in l D cy z n Y V G ((b4).toInt64) (1 : Int64) (6 : Int64) x7 hx7) hW hS rfl rfl hl.1 (Nat.le_of_ble_eq_true rfl) ⟨Nat.le_of_ble_eq_true rfl, Nat.le_of_ble_eq_true rfl⟩ dX4_doCondition_34 ⟨Nat.zero_le _, Nat.zero_le _⟩ (fun H locs hW hS => ?_)
        refine lv_if_ne (tgt := 43) hx hb dX4_doCondition_37 (by decide) (fun q8 => ?_) (fun q8 => ?_)
        · replace hcf := (if_neg q8).symm.trans hcf
          refine lv_aload_n hx hb dX4_doCondition_43 rfl (lv_at hl 0 rfl) ?_
          refine lv_iload_n hx hb dX4_doCondition_44 rfl (lv_at hl 2 rfl) ?_
          obtain ⟨q9, hcf⟩ := og hcf
          obtain ⟨x10, hx10, hcf⟩ := ob hcf
          refine iv_X4_54 (As := [.int b2]) (rest := []) hx hb hml hown hts hE (ct_X4_hasBegun l D cy z n Y V G a0 b2 x10 hx10) hW hS q9 rfl rfl hl.1 (Nat.le_of_ble_eq_true rfl) ⟨Nat.le_of_ble_eq_true rfl, Nat.le_of_ble_eq_true rfl⟩ dX4_doCondition_45 ⟨Nat.zero_le _, Nat.zero_le _⟩ (fun H locs hW hS => ?_)
          refine lv_if_eq (tgt := 54) hx hb dX4_doCondition_48 (by decide) (fun q11 => ?_) (fun q11 => ?_)
          · replace hcf := (if_pos q11).symm.trans hcf
            refine lv_aload_n hx hb dX4_doCondition_54 rfl (lv_at hl 0 rfl) ?_
            obtain ⟨r12, hr12, hcf⟩ := ob hcf
            refine gf_X4_7 hx hb hts hown hE hW q9 hr12 dX4_doCondition_55 ?_
            refine lv_iconst (v := (1 : Int32)) hx hb dX4_doCondition_58 (by decide) ?_
            obtain ⟨q13, hcf⟩ := og hcf
            obtain ⟨q14, hcf⟩ := og hcf
            refine wk_iald hx hb hE hW q13 q14 dX4_doCondition_59 ?_
            refine lv_bipush (v := (10 : Int32)) hx hb dX4_doCondition_60 (by decide) ?_
            refine lv_icmp_ne (tgt := 68) hx hb dX4_doCondition_62 (by decide) (fun q15 => ?_) (fun q15 => ?_)
            · replace hcf := (if_neg q15).symm.trans hcf
              refine lv_aload_n hx hb dX4_doCondition_68 rfl (lv_at hl 0 rfl) ?_
              refine gf_X4_7 hx hb hts hown hE hW q9 hr12 dX4_doCondition_69 ?_
              refine lv_iconst (v := (1 : Int32)) hx hb dX4_doCondition_72 (by decide) ?_
              obtain ⟨q16, hcf⟩ := og hcf
              refine wk_iald hx hb hE hW q13 q16 dX4_doCondition_73 ?_
              refine lv_istore (lv' := [(5, .int (V r12 (1 : Int32).toNatClampNeg)), (0, .ref a0), (1, .int b1), (2, .int b2), (3, .int b3), (4, .int b4)]) hx hb dX4_doCondition_74 hl (by decide) rfl (fun ls hl => ?_)
              refine lv_aload_n hx hb dX4_doCondition_76 rfl (lv_at hl 1 rfl) ?_
              refine gf_X4_7 hx hb hts hown hE hW q9 hr12 dX4_doCondition_77 ?_
              refine lv_iconst (v := (1 : Int32)) hx hb dX4_doCondition_80 (by decide) ?_
              refine lv_dup2_11 hx hb dX4_doCondition_81 rfl rfl ?_
              obtain ⟨q17, hcf⟩ := og hcf
              refine wk_iald hx hb hE hW q13 q17 dX4_doCondition_82 ?_
              refine lv_iconst (v := (1 : Int32)) hx hb dX4_doCondition_83 (by decide) ?_
              refine lv_iadd hx hb dX4_doCondition_84 ?_
              obtain ⟨q18, hcf⟩ := og hcf
              refine wk_iast hx hb hE hW hS q13 q18 dX4_doCondition_85 (fun H locs hW hS => ?_)
              refine lv_iconst (v := (0 : Int32)) hx hb dX4_doCondition_86 (by decide) ?_
              refine lv_istore (lv' := [(6, .int (0 : Int32)), (5, .int (V r12 (1 : Int32).toNatClampNeg)), (0, .ref a0), (1, .int b1), (2, .int b2), (3, .int b3), (4, .int b4)]) hx hb dX4_doCondition_87 hl (by decide) rfl (fun ls hl => ?_)
              exact wl_X4_doCondition_89 hx hb hr hml hown hts hlocks hE x fuB (up2 V r12 (1 : Int32).toNatClampNeg ((V r12 (1 : Int32).toNatClampNeg) + (1 : Int32))) a0 b1 b2 b3 b4 (V r12 (1 : Int32).toNatClampNeg) (0 : Int32) _ _ _ hcf hW hS (lv_sub hl [2, 3, 4, 5, 6, 1, 0] rfl)
            · replace hcf := (if_pos q15).symm.trans hcf
              refine lv_ldc hx hb hown (hts _ q678) dX4_doCondition_65 ?_
              have hcf := Option.some.inj hcf; subst hcf
              exact wk_iret hx hb hr hlocks hW hS dX4_doCondition_67
          · replace hcf := (if_neg q11).symm.trans hcf
            refine lv_ldc hx hb hown (hts _ q677) dX4_doCondition_51 ?_
            have hcf := Option.some.inj hcf; subst hcf
            exact wk_iret hx hb hr hlocks hW hS dX4_doCondition_53
        · replace hcf := (if_pos q8).symm.trans hcf
          refine lv_ldc hx hb hown (hts _ q672) dX4_doCondition_40 ?_
          have hcf := Option.some.inj hcf; subst hcf
          exact wk_iret hx hb hr hlocks hW hS dX4_doCondition_42
set_option maxHeartbeats 4000000 in
set_option maxRecDepth 100000 in
theorem ct_X4_mayBegin (l : Launch) (D : va_G) (cy : Nat → ClassId) (z n : Nat) (Y : mY) (V : mV) (G : mG) (a0 : Nat) (b1 : Int32) (x : Int32) (hcf : cf_X4_mayBegin Y V G a0 b1 = some x) : CT l yX4_mayBegin cX4_mayBegin 2 (some .boolean) (rmd 1) D cy z [.ref a0, .int b1] Y n V G (some (.int x)) Y n V G := by
  refine ct_of (by decide) (Nat.le_of_ble_eq_true rfl) ?_
  intro p e s m args below meth c ls hx hb hr hml hown hts hlocks hnm hE hW hl
  have hS : va_S (zA z) s.heap s.heap [] := va_S.rf
  have hl : lv_has ls 2 [(0, .ref a0), (1, .int b1)] := hl
  have hown : s.vm.findClass RX4 = some m.cls := hown
  rw [cf_X4_mayBegin] at hcf
  refine lv_aload_n hx hb dX4_mayBegin_0 rfl (lv_at hl 0 rfl) ?_
  refine lv_iload_n hx hb dX4_mayBegin_1 rfl (lv_at hl 1 rfl) ?_
  obtain ⟨q1, hcf⟩ := og hcf
  obtain ⟨x2, hx2, hcf⟩ := ob hcf
  refine iv_X4_54 (As := [.int b1]) (rest := []) hx hb hml hown hts hE (ct_X4_hasBegun l D cy z n Y V G a0 b1 x2 hx2) hW hS q1 rfl rfl hl.1 (Nat.le_of_ble_eq_true rfl) ⟨Nat.le_of_ble_eq_true rfl, Nat.le_of_ble_eq_true rfl⟩ dX4_mayBegin_2 ⟨Nat.zero_le _, Nat.zero_le _⟩ (fun H locs hW hS => ?_)
  refine lv_if_ne (tgt := 26) hx hb dX4_mayBegin_5 (by decide) (fun q3 => ?_) (fun q3 => ?_)
  · replace hcf := (if_neg q3).symm.trans hcf
    refine lv_iconst (v := (0 : Int32)) hx hb dX4_mayBegin_26 (by decide) ?_
    have hcf := Option.some.inj hcf; subst hcf
    exact wk_zret hx hb hr hlocks (Or.inl rfl) hW hS dX4_mayBegin_27
  · replace hcf := (if_pos q3).symm.trans hcf
    refine lv_iload_n hx hb dX4_mayBegin_8 rfl (lv_at hl 1 rfl) ?_
    refine lv_if_eq (tgt := 22) hx hb dX4_mayBegin_9 (by decide) (fun q4 => ?_) (fun q4 => ?_)
    · replace hcf := (if_pos q4).symm.trans hcf
      refine lv_iconst (v := (1 : Int32)) hx hb dX4_mayBegin_22 (by decide) ?_
      refine lv_goto (tgt := 27) hx hb dX4_mayBegin_23 (by decide) ?_
      have hcf := Option.some.inj hcf; subst hcf
      exact wk_zret hx hb hr hlocks (Or.inr rfl) hW hS dX4_mayBegin_27
    · replace hcf := (if_neg q4).symm.trans hcf
      refine lv_aload_n hx hb dX4_mayBegin_12 rfl (lv_at hl 0 rfl) ?_
      refine lv_iload_n hx hb dX4_mayBegin_13 rfl (lv_at hl 1 rfl) ?_
      refine lv_iconst (v := (1 : Int32)) hx hb dX4_mayBegin_14 (by decide) ?_
      refine lv_isub hx hb dX4_mayBegin_15 ?_
      obtain ⟨x5, hx5, hcf⟩ := ob hcf
      refine iv_X4_54 (As := [.int (b1 - (1 : Int32))]) (rest := []) hx hb hml hown hts hE (ct_X4_hasBegun l D cy z n Y V G a0 (b1 - (1 : Int32)) x5 hx5) hW hS q1 rfl rfl hl.1 (Nat.le_of_ble_eq_true rfl) ⟨Nat.le_of_ble_eq_true rfl, Nat.le_of_ble_eq_true rfl⟩ dX4_mayBegin_16 ⟨Nat.zero_le _, Nat.zero_le _⟩ (fun H locs hW hS => ?_)
      refine lv_if_eq (tgt := 26) hx hb dX4_mayBegin_19 (by decide) (fun q6 => ?_) (fun q6 => ?_)
      · replace hcf := (if_pos q6).symm.trans hcf
        refine lv_iconst (v := (0 : Int32)) hx hb dX4_mayBegin_26 (by decide) ?_
        have hcf := Option.some.inj hcf; subst hcf
        exact wk_zret hx hb hr hlocks (Or.inl rfl) hW hS dX4_mayBegin_27
      · replace hcf := (if_neg q6).symm.trans hcf
        refine lv_iconst (v := (1 : Int32)) hx hb dX4_mayBegin_22 (by decide) ?_
        refine lv_goto (tgt := 27) hx hb dX4_mayBegin_23 (by decide) ?_
        have hcf := Option.some.inj hcf; subst hcf
        exact wk_zret hx hb hr hlocks (Or.inr rfl) hW hS dX4_mayBegin_27
set_option maxHeartbeats 4000000 in
set_option maxRecDepth 100000 in
theorem wl_X4_unmetAhead_4 {p : Program} {l : Launch} {e : Env} {s : State} {m : MethodId} {args : Array Value} {below : List Frame} {meth : Method} {c : Code} {D : va_G} {cy : Nat → ClassId} {z : Nat} {n : Nat} {Y : mY} {V : mV} {G : mG} (hx : p.tables.exec = Jvm.exec) (hb : c.code = cX4_unmetAhead) (hr : meth.sig.returnType = (some .int)) (hml : c.maxLocals = 4) (hown : s.vm.findClass RX4 = some m.cls) (hts : ∀ w ∈ lw_all, w.before args s = true) (hlocks : meth.locks = false) (hE : En D cy s) (x : Int32) : ∀ (k : Nat) (j0 : Nat) (j1 : Int32) (j2 : Int32) (j3 : Int32) (H : Heap) (locs : List Loc) (ls : Array Slot), lp_X4_unmetAhead_4 Y V G k j0 j1 j2 j3 = some x → Wd Y cy D z n V G H → va_S (zA z) s.heap H locs → lv_has ls 4 [(0, .ref j0), (1, .int j1), (2, .int j2), (3, .int j3)] → W p l e (rmd 3) s m args below meth c H locs 0 0 (MQ below (QC D cy z Y n V G (some (.int x))) args s 0 0 (zA z)) (F0 m 4 ls []) := by
  intro k
  induction k with
  | zero =>
    intro j0 j1 j2 j3 H locs ls hcf
    have hcf : none = some _ := hcf
    cases hcf
  | succ k ih =>
    intro j0 j1 j2 j3 H locs ls hcf hW hS hl
    rw [lp_X4_unmetAhead_4] at hcf
    refine lv_iload_n hx hb dX4_unmetAhead_4 rfl (lv_at hl 3 rfl) ?_
    refine lv_aload_n hx hb dX4_unmetAhead_5 rfl (lv_at hl 0 rfl) ?_
    obtain ⟨q1, hcf⟩ := og hcf
    obtain ⟨r2, hr2, hcf⟩ := ob hcf
    refine gf_X4_7 hx hb hts hown hE hW q1 hr2 dX4_unmetAhead_6 ?_
    refine lv_iconst (v := (1 : Int32)) hx hb dX4_unmetAhead_9 (by decide) ?_
    obtain ⟨q3, hcf⟩ := og hcf
    obtain ⟨q4, hcf⟩ := og hcf
    refine wk_iald hx hb hE hW q3 q4 dX4_unmetAhead_10 ?_
    refine lv_icmp_ge (tgt := 57) hx hb dX4_unmetAhead_11 (by decide) (fun q5 => ?_) (fun q5 => ?_)
    · replace hcf := (if_pos q5).symm.trans hcf
      refine lv_iload_n hx hb dX4_unmetAhead_57 rfl (lv_at hl 2 rfl) ?_
      have hcf := Option.some.inj hcf; subst hcf
      exact wk_iret hx hb hr hlocks hW hS dX4_unmetAhead_58
    · replace hcf := (if_neg q5).symm.trans hcf
      refine lv_iload_n hx hb dX4_unmetAhead_14 rfl (lv_at hl 2 rfl) ?_
      refine lv_aload_n hx hb dX4_unmetAhead_15 rfl (lv_at hl 0 rfl) ?_
      refine lv_iload_n hx hb dX4_unmetAhead_16 rfl (lv_at hl 3 rfl) ?_
      refine lv_iconst (v := (0 : Int32)) hx hb dX4_unmetAhead_17 (by decide) ?_
      obtain ⟨x6, hx6, hcf⟩ := ob hcf
      refine iv_X4_46 (As := [.int j3, .int (0 : Int32)]) (rest := [.int j2]) hx hb hml hown hts hE (ct_X4_get l D cy z n Y V G j0 j3 (0 : Int32) x6 hx6) hW hS q1 rfl rfl hl.1 (Nat.le_of_ble_eq_true rfl) ⟨Nat.le_of_ble_eq_true rfl, Nat.le_of_ble_eq_true rfl⟩ dX4_unmetAhead_18 ⟨Nat.zero_le _, Nat.zero_le _⟩ (fun H locs hW hS => ?_)
      refine lv_if_ne (tgt := 48) hx hb dX4_unmetAhead_21 (by decide) (fun q7 => ?_) (fun q7 => ?_)
      · replace hcf := (if_neg q7).symm.trans hcf
        refine lv_iconst (v := (0 : Int32)) hx hb dX4_unmetAhead_48 (by decide) ?_
        refine lv_ior hx hb dX4_unmetAhead_49 ?_
        refine lv_istore_n (lv' := [(2, .int (j2 ||| (0 : Int32))), (0, .ref j0), (1, .int j1), (3, .int j3)]) hx hb dX4_unmetAhead_50 rfl hl (by decide) rfl (fun ls hl => ?_)
        refine lv_iinc (v := (j3 + 1)) (lv' := [(3, .int (j3 + 1)), (2, .int (j2 ||| (0 : Int32))), (0, .ref j0), (1, .int j1)]) hx hb dX4_unmetAhead_51 hl (k := 3) rfl rfl (by decide) rfl (fun ls hl => ?_)
        refine lv_goto (tgt := 4) hx hb dX4_unmetAhead_54 (by decide) ?_
        exact ih j0 j1 (j2 ||| (0 : Int32)) (j3 + 1) _ _ _ hcf hW hS (lv_sub hl [2, 3, 1, 0] rfl)
      · replace hcf := (if_pos q7).symm.trans hcf
        refine lv_aload_n hx hb dX4_unmetAhead_24 rfl (lv_at hl 0 rfl) ?_
        refine lv_iload_n hx hb dX4_unmetAhead_25 rfl (lv_at hl 3 rfl) ?_
        refine lv_iconst (v := (1 : Int32)) hx hb dX4_unmetAhead_26 (by decide) ?_
        obtain ⟨x8, hx8, hcf⟩ := ob hcf
        refine iv_X4_46 (As := [.int j3, .int (1 : Int32)]) (rest := [.int j2]) hx hb hml hown hts hE (ct_X4_get l D cy z n Y V G j0 j3 (1 : Int32) x8 hx8) hW hS q1 rfl rfl hl.1 (Nat.le_of_ble_eq_true rfl) ⟨Nat.le_of_ble_eq_true rfl, Nat.le_of_ble_eq_true rfl⟩ dX4_unmetAhead_27 ⟨Nat.zero_le _, Nat.zero_le _⟩ (fun H locs hW hS => ?_)
        refine lv_iload_n hx hb dX4_unmetAhead_30 rfl (lv_at hl 1 rfl) ?_
        refine lv_icmp_ne (tgt := 48) hx hb dX4_unmetAhead_31 (by decide) (fun q9 => ?_) (fun q9 => ?_)
        · replace hcf := (if_neg q9).symm.trans hcf
          refine lv_iconst (v := (0 : Int32)) hx hb dX4_unmetAhead_48 (by decide) ?_
          refine lv_ior hx hb dX4_unmetAhead_49 ?_
          refine lv_istore_n (lv' := [(2, .int (j2 ||| (0 : Int32))), (0, .ref j0), (1, .int j1), (3, .int j3)]) hx hb dX4_unmetAhead_50 rfl hl (by decide) rfl (fun ls hl => ?_)
          refine lv_iinc (v := (j3 + 1)) (lv' := [(3, .int (j3 + 1)), (2, .int (j2 ||| (0 : Int32))), (0, .ref j0), (1, .int j1)]) hx hb dX4_unmetAhead_51 hl (k := 3) rfl rfl (by decide) rfl (fun ls hl => ?_)
          refine lv_goto (tgt := 4) hx hb dX4_unmetAhead_54 (by decide) ?_
          exact ih j0 j1 (j2 ||| (0 : Int32)) (j3 + 1) _ _ _ hcf hW hS (lv_sub hl [2, 3, 1, 0] rfl)
        · replace hcf := (if_pos q9).symm.trans hcf
          refine lv_aload_n hx hb dX4_unmetAhead_34 rfl (lv_at hl 0 rfl) ?_
          refine lv_iload_n hx hb dX4_unmetAhead_35 rfl (lv_at hl 3 rfl) ?_
          obtain ⟨x10, hx10, hcf⟩ := ob hcf
          refine iv_X4_60 (As := [.int j3]) (rest := [.int j2]) hx hb hml hown hts hE (ct_X4_isMet l D cy z n Y V G j0 j3 x10 hx10) hW hS q1 rfl rfl hl.1 (Nat.le_of_ble_eq_true rfl) ⟨Nat.le_of_ble_eq_true rfl, Nat.le_of_ble_eq_true rfl⟩ dX4_unmetAhead_36 ⟨Nat.zero_le _, Nat.zero_le _⟩ (fun H locs hW hS => ?_)
          refine lv_if_ne (tgt := 48) hx hb dX4_unmetAhead_39 (by decide) (fun q11 => ?_) (fun q11 => ?_)
          · replace hcf := (if_neg q11).symm.trans hcf
            refine lv_iconst (v := (0 : Int32)) hx hb dX4_unmetAhead_48 (by decide) ?_
            refine lv_ior hx hb dX4_unmetAhead_49 ?_
            refine lv_istore_n (lv' := [(2, .int (j2 ||| (0 : Int32))), (0, .ref j0), (1, .int j1), (3, .int j3)]) hx hb dX4_unmetAhead_50 rfl hl (by decide) rfl (fun ls hl => ?_)
            refine lv_iinc (v := (j3 + 1)) (lv' := [(3, .int (j3 + 1)), (2, .int (j2 ||| (0 : Int32))), (0, .ref j0), (1, .int j1)]) hx hb dX4_unmetAhead_51 hl (k := 3) rfl rfl (by decide) rfl (fun ls hl => ?_)
            refine lv_goto (tgt := 4) hx hb dX4_unmetAhead_54 (by decide) ?_
            exact ih j0 j1 (j2 ||| (0 : Int32)) (j3 + 1) _ _ _ hcf hW hS (lv_sub hl [2, 3, 1, 0] rfl)
          · replace hcf := (if_pos q11).symm.trans hcf
            refine lv_iconst (v := (1 : Int32)) hx hb dX4_unmetAhead_42 (by decide) ?_
            refine lv_iload_n hx hb dX4_unmetAhead_43 rfl (lv_at hl 3 rfl) ?_
            refine lv_ishl hx hb dX4_unmetAhead_44 ?_
            refine lv_goto (tgt := 49) hx hb dX4_unmetAhead_45 (by decide) ?_
            refine lv_ior hx hb dX4_unmetAhead_49 ?_
            refine lv_istore_n (lv' := [(2, .int (j2 ||| ((1 : Int32) <<< (j3 &&& 31)))), (0, .ref j0), (1, .int j1), (3, .int j3)]) hx hb dX4_unmetAhead_50 rfl hl (by decide) rfl (fun ls hl => ?_)
            refine lv_iinc (v := (j3 + 1)) (lv' := [(3, .int (j3 + 1)), (2, .int (j2 ||| ((1 : Int32) <<< (j3 &&& 31)))), (0, .ref j0), (1, .int j1)]) hx hb dX4_unmetAhead_51 hl (k := 3) rfl rfl (by decide) rfl (fun ls hl => ?_)
            refine lv_goto (tgt := 4) hx hb dX4_unmetAhead_54 (by decide) ?_
            exact ih j0 j1 (j2 ||| ((1 : Int32) <<< (j3 &&& 31))) (j3 + 1) _ _ _ hcf hW hS (lv_sub hl [2, 3, 1, 0] rfl)
set_option maxHeartbeats 4000000 in
set_option maxRecDepth 100000 in
theorem ct_X4_unmetAhead (l : Launch) (D : va_G) (cy : Nat → ClassId) (z n : Nat) (Y : mY) (V : mV) (G : mG) (a0 : Nat) (b1 : Int32) (x : Int32) (hcf : cf_X4_unmetAhead Y V G a0 b1 = some x) : CT l yX4_unmetAhead cX4_unmetAhead 4 (some .int) (rmd 3) D cy z [.ref a0, .int b1] Y n V G (some (.int x)) Y n V G := by
  refine ct_of (by decide) (Nat.le_of_ble_eq_true rfl) ?_
  intro p e s m args below meth c ls hx hb hr hml hown hts hlocks hnm hE hW hl
  have hS : va_S (zA z) s.heap s.heap [] := va_S.rf
  have hl : lv_has ls 4 [(0, .ref a0), (1, .int b1)] := hl
  have hown : s.vm.findClass RX4 = some m.cls := hown
  rw [cf_X4_unmetAhead] at hcf
  refine lv_iconst (v := (0 : Int32)) hx hb dX4_unmetAhead_0 (by decide) ?_
  refine lv_istore_n (lv' := [(2, .int (0 : Int32)), (0, .ref a0), (1, .int b1)]) hx hb dX4_unmetAhead_1 rfl hl (by decide) rfl (fun ls hl => ?_)
  refine lv_iconst (v := (0 : Int32)) hx hb dX4_unmetAhead_2 (by decide) ?_
  refine lv_istore_n (lv' := [(3, .int (0 : Int32)), (2, .int (0 : Int32)), (0, .ref a0), (1, .int b1)]) hx hb dX4_unmetAhead_3 rfl hl (by decide) rfl (fun ls hl => ?_)
  exact wl_X4_unmetAhead_4 hx hb hr hml hown hts hlocks hE x fuB a0 b1 (0 : Int32) (0 : Int32) _ _ _ hcf hW hS (lv_sub hl [2, 3, 1, 0] rfl)
set_option maxHeartbeats 4000000 in
set_option maxRecDepth 100000 in
theorem wl_X4_doBegin_44 {p : Program} {l : Launch} {e : Env} {s : State} {m : MethodId} {args : Array Value} {below : List Frame} {meth : Method} {c : Code} {D : va_G} {cy : Nat → ClassId} {z : Nat} {n : Nat} {Y : mY} {G : mG} (hx : p.tables.exec = Jvm.exec) (hb : c.code = cX4_doBegin) (hr : meth.sig.returnType = (some .int)) (hml : c.maxLocals = 4) (hown : s.vm.findClass RX4 = some m.cls) (hts : ∀ w ∈ lw_all, w.before args s = true) (hlocks : meth.locks = false) (hE : En D cy s) (x : Int32 × mV) : ∀ (k : Nat) (V : mV) (j0 : Nat) (j1 : Int32) (j2 : Int32) (j3 : Int32) (H : Heap) (locs : List Loc) (ls : Array Slot), lp_X4_doBegin_44 Y G k V j0 j1 j2 j3 = some x → Wd Y cy D z n V G H → va_S (zA z) s.heap H locs → lv_has ls 4 [(0, .ref j0), (1, .int j1), (2, .int j2), (3, .int j3)] → W p l e (rmd 4) s m args below meth c H locs 0 0 (MQ below (QC D cy z Y n x.2 G (some (.int x.1))) args s 0 0 (zA z)) (F0 m 44 ls []) := by
  intro k
  induction k with
  | zero =>
    intro V j0 j1 j2 j3 H locs ls hcf
    have hcf : none = some _ := hcf
    cases hcf
  | succ k ih =>
    intro V j0 j1 j2 j3 H locs ls hcf hW hS hl
    rw [lp_X4_doBegin_44] at hcf
    refine lv_iload_n hx hb dX4_doBegin_44 rfl (lv_at hl 3 rfl) ?_
    refine lv_aload_n hx hb dX4_doBegin_45 rfl (lv_at hl 0 rfl) ?_
    obtain ⟨q11, hcf⟩ := og hcf
    obtain ⟨r12, hr12, hcf⟩ := ob hcf
    refine gf_X4_7 hx hb hts hown hE hW q11 hr12 dX4_doBegin_46 ?_
    refine lv_iconst (v := (1 : Int32)) hx hb dX4_doBegin_49 (by decide) ?_
    obtain ⟨q13, hcf⟩ := og hcf
    obtain ⟨q14, hcf⟩ := og hcf
    refine wk_iald hx hb hE hW q13 q14 dX4_doBegin_50 ?_
    refine lv_icmp_ge (tgt := 74) hx hb dX4_doBegin_51 (by decide) (fun q15 => ?_) (fun q15 => ?_)
    · replace hcf := (if_pos q15).symm.trans hcf
      refine lv_iload_n hx hb dX4_doBegin_74 rfl (lv_at hl 2 rfl) ?_
      have hcf := Option.some.inj hcf; subst hcf
      exact wk_iret hx hb hr hlocks hW hS dX4_doBegin_75
    · replace hcf := (if_neg q15).symm.trans hcf
      refine lv_iload_n hx hb dX4_doBegin_54 rfl (lv_at hl 2 rfl) ?_
      refine lv_iload_n hx hb dX4_doBegin_55 rfl (lv_at hl 3 rfl) ?_
      refine lv_ishr hx hb dX4_doBegin_56 ?_
      refine lv_iconst (v := (1 : Int32)) hx hb dX4_doBegin_57 (by decide) ?_
      refine lv_iand hx hb dX4_doBegin_58 ?_
      refine lv_iconst (v := (1 : Int32)) hx hb dX4_doBegin_59 (by decide) ?_
      refine lv_icmp_ne (tgt := 68) hx hb dX4_doBegin_60 (by decide) (fun q16 => ?_) (fun q16 => ?_)
      · replace hcf := (if_neg q16).symm.trans hcf
        refine lv_iinc (v := (j3 + 1)) (lv' := [(3, .int (j3 + 1)), (0, .ref j0), (1, .int j1), (2, .int j2)]) hx hb dX4_doBegin_68 hl (k := 3) rfl rfl (by decide) rfl (fun ls hl => ?_)
        refine lv_goto (tgt := 44) hx hb dX4_doBegin_71 (by decide) ?_
        exact ih V j0 j1 j2 (j3 + 1) _ _ _ hcf hW hS (lv_sub hl [1, 2, 3, 0] rfl)
      · replace hcf := (if_pos q16).symm.trans hcf
        refine lv_aload_n hx hb dX4_doBegin_63 rfl (lv_at hl 0 rfl) ?_
        refine lv_iload_n hx hb dX4_doBegin_64 rfl (lv_at hl 3 rfl) ?_
        obtain ⟨x17, hx17, hcf⟩ := ob hcf
        refine iv_X4_96 (As := [.int j3]) (rest := []) hx hb hml hown hts hE (ct_X4_breaks l D cy z n Y V G j0 j3 x17 hx17) hW hS q11 rfl rfl hl.1 (Nat.le_of_ble_eq_true rfl) ⟨Nat.le_of_ble_eq_true rfl, Nat.le_of_ble_eq_true rfl⟩ dX4_doBegin_65 ⟨Nat.zero_le _, Nat.zero_le _⟩ (fun H locs hW hS => ?_)
        refine lv_iinc (v := (j3 + 1)) (lv' := [(3, .int (j3 + 1)), (0, .ref j0), (1, .int j1), (2, .int j2)]) hx hb dX4_doBegin_68 hl (k := 3) rfl rfl (by decide) rfl (fun ls hl => ?_)
        refine lv_goto (tgt := 44) hx hb dX4_doBegin_71 (by decide) ?_
        exact ih x17 j0 j1 j2 (j3 + 1) _ _ _ hcf hW hS (lv_sub hl [1, 2, 3, 0] rfl)
set_option maxHeartbeats 4000000 in
set_option maxRecDepth 100000 in
theorem ct_X4_doBegin (l : Launch) (D : va_G) (cy : Nat → ClassId) (z n : Nat) (Y : mY) (V : mV) (G : mG) (a0 : Nat) (b1 : Int32) (x : Int32 × mV) (hcf : cf_X4_doBegin Y V G a0 b1 = some x) : CT l yX4_doBegin cX4_doBegin 4 (some .int) (rmd 4) D cy z [.ref a0, .int b1] Y n V G (some (.int x.1)) Y n x.2 G := by
  refine ct_of (by decide) (Nat.le_of_ble_eq_true rfl) ?_
  intro p e s m args below meth c ls hx hb hr hml hown hts hlocks hnm hE hW hl
  have hS : va_S (zA z) s.heap s.heap [] := va_S.rf
  have hl : lv_has ls 4 [(0, .ref a0), (1, .int b1)] := hl
  have hown : s.vm.findClass RX4 = some m.cls := hown
  rw [cf_X4_doBegin] at hcf
  refine lv_iload_n hx hb dX4_doBegin_0 rfl (lv_at hl 1 rfl) ?_
  obtain ⟨x1, hx1, hcf⟩ := ob hcf
  refine iv_X4_78 (As := [.int b1]) (rest := []) hx hb hml hown hts hE (ct_X4_isStage l D cy z n Y V G b1 x1 hx1) hW hS rfl rfl hl.1 (Nat.le_of_ble_eq_true rfl) ⟨Nat.le_of_ble_eq_true rfl, Nat.le_of_ble_eq_true rfl⟩ dX4_doBegin_1 ⟨Nat.zero_le _, Nat.zero_le _⟩ (fun H locs hW hS => ?_)
  refine lv_if_ne (tgt := 10) hx hb dX4_doBegin_4 (by decide) (fun q2 => ?_) (fun q2 => ?_)
  · replace hcf := (if_neg q2).symm.trans hcf
    refine lv_aload_n hx hb dX4_doBegin_10 rfl (lv_at hl 0 rfl) ?_
    refine lv_iload_n hx hb dX4_doBegin_11 rfl (lv_at hl 1 rfl) ?_
    obtain ⟨q3, hcf⟩ := og hcf
    obtain ⟨x4, hx4, hcf⟩ := ob hcf
    refine iv_X4_90 (As := [.int b1]) (rest := []) hx hb hml hown hts hE (ct_X4_mayBegin l D cy z n Y V G a0 b1 x4 hx4) hW hS q3 rfl rfl hl.1 (Nat.le_of_ble_eq_true rfl) ⟨Nat.le_of_ble_eq_true rfl, Nat.le_of_ble_eq_true rfl⟩ dX4_doBegin_12 ⟨Nat.zero_le _, Nat.zero_le _⟩ (fun H locs hW hS => ?_)
    refine lv_if_ne (tgt := 21) hx hb dX4_doBegin_15 (by decide) (fun q5 => ?_) (fun q5 => ?_)
    · replace hcf := (if_neg q5).symm.trans hcf
      refine lv_aload_n hx hb dX4_doBegin_21 rfl (lv_at hl 0 rfl) ?_
      obtain ⟨r6, hr6, hcf⟩ := ob hcf
      refine gf_X4_7 hx hb hts hown hE hW q3 hr6 dX4_doBegin_22 ?_
      refine lv_bipush (v := (6 : Int32)) hx hb dX4_doBegin_25 (by decide) ?_
      refine lv_iload_n hx hb dX4_doBegin_27 rfl (lv_at hl 1 rfl) ?_
      refine lv_iadd hx hb dX4_doBegin_28 ?_
      refine lv_aload_n hx hb dX4_doBegin_29 rfl (lv_at hl 0 rfl) ?_
      refine gf_X4_7 hx hb hts hown hE hW q3 hr6 dX4_doBegin_30 ?_
      refine lv_iconst (v := (0 : Int32)) hx hb dX4_doBegin_33 (by decide) ?_
      obtain ⟨q7, hcf⟩ := og hcf
      obtain ⟨q8, hcf⟩ := og hcf
      refine wk_iald hx hb hE hW q7 q8 dX4_doBegin_34 ?_
      obtain ⟨q9, hcf⟩ := og hcf
      refine wk_iast hx hb hE hW hS q7 q9 dX4_doBegin_35 (fun H locs hW hS => ?_)
      refine lv_aload_n hx hb dX4_doBegin_36 rfl (lv_at hl 0 rfl) ?_
      refine lv_iload_n hx hb dX4_doBegin_37 rfl (lv_at hl 1 rfl) ?_
      obtain ⟨x10, hx10, hcf⟩ := ob hcf
      refine iv_X4_93 (As := [.int b1]) (rest := []) hx hb hml hown hts hE (ct_X4_unmetAhead l D cy z n Y (up2 V r6 ((6 : Int32) + b1).toNatClampNeg (V r6 (0 : Int32).toNatClampNeg)) G a0 b1 x10 hx10) hW hS q3 rfl rfl hl.1 (Nat.le_of_ble_eq_true rfl) ⟨Nat.le_of_ble_eq_true rfl, Nat.le_of_ble_eq_true rfl⟩ dX4_doBegin_38 ⟨Nat.zero_le _, Nat.zero_le _⟩ (fun H locs hW hS => ?_)
      refine lv_istore_n (lv' := [(2, .int x10), (0, .ref a0), (1, .int b1)]) hx hb dX4_doBegin_41 rfl hl (by decide) rfl (fun ls hl => ?_)
      refine lv_iconst (v := (0 : Int32)) hx hb dX4_doBegin_42 (by decide) ?_
      refine lv_istore_n (lv' := [(3, .int (0 : Int32)), (2, .int x10), (0, .ref a0), (1, .int b1)]) hx hb dX4_doBegin_43 rfl hl (by decide) rfl (fun ls hl => ?_)
      exact wl_X4_doBegin_44 hx hb hr hml hown hts hlocks hE x fuB (up2 V r6 ((6 : Int32) + b1).toNatClampNeg (V r6 (0 : Int32).toNatClampNeg)) a0 b1 x10 (0 : Int32) _ _ _ hcf hW hS (lv_sub hl [2, 3, 1, 0] rfl)
    · replace hcf := (if_pos q5).symm.trans hcf
      refine lv_ldc hx hb hown (hts _ q677) dX4_doBegin_18 ?_
      have hcf := Option.some.inj hcf; subst hcf
      exact wk_iret hx hb hr hlocks hW hS dX4_doBegin_20
  · replace hcf := (if_pos q2).symm.trans hcf
    refine lv_ldc hx hb hown (hts _ q672) dX4_doBegin_7 ?_
    have hcf := Option.some.inj hcf; subst hcf
    exact wk_iret hx hb hr hlocks hW hS dX4_doBegin_9
set_option maxHeartbeats 4000000 in
set_option maxRecDepth 100000 in
theorem ct_X4_doFinish (l : Launch) (D : va_G) (cy : Nat → ClassId) (z n : Nat) (Y : mY) (V : mV) (G : mG) (a0 : Nat) (b1 : Int32) (x : Int32 × mV) (hcf : cf_X4_doFinish Y V G a0 b1 = some x) : CT l yX4_doFinish cX4_doFinish 2 (some .int) (rmd 2) D cy z [.ref a0, .int b1] Y n V G (some (.int x.1)) Y n x.2 G := by
  refine ct_of (by decide) (Nat.le_of_ble_eq_true rfl) ?_
  intro p e s m args below meth c ls hx hb hr hml hown hts hlocks hnm hE hW hl
  have hS : va_S (zA z) s.heap s.heap [] := va_S.rf
  have hl : lv_has ls 2 [(0, .ref a0), (1, .int b1)] := hl
  have hown : s.vm.findClass RX4 = some m.cls := hown
  rw [cf_X4_doFinish] at hcf
  refine lv_iload_n hx hb dX4_doFinish_0 rfl (lv_at hl 1 rfl) ?_
  obtain ⟨x1, hx1, hcf⟩ := ob hcf
  refine iv_X4_78 (As := [.int b1]) (rest := []) hx hb hml hown hts hE (ct_X4_isStage l D cy z n Y V G b1 x1 hx1) hW hS rfl rfl hl.1 (Nat.le_of_ble_eq_true rfl) ⟨Nat.le_of_ble_eq_true rfl, Nat.le_of_ble_eq_true rfl⟩ dX4_doFinish_1 ⟨Nat.zero_le _, Nat.zero_le _⟩ (fun H locs hW hS => ?_)
  refine lv_if_ne (tgt := 10) hx hb dX4_doFinish_4 (by decide) (fun q2 => ?_) (fun q2 => ?_)
  · replace hcf := (if_neg q2).symm.trans hcf
    refine lv_aload_n hx hb dX4_doFinish_10 rfl (lv_at hl 0 rfl) ?_
    refine lv_iload_n hx hb dX4_doFinish_11 rfl (lv_at hl 1 rfl) ?_
    obtain ⟨q3, hcf⟩ := og hcf
    obtain ⟨x4, hx4, hcf⟩ := ob hcf
    refine iv_X4_54 (As := [.int b1]) (rest := []) hx hb hml hown hts hE (ct_X4_hasBegun l D cy z n Y V G a0 b1 x4 hx4) hW hS q3 rfl rfl hl.1 (Nat.le_of_ble_eq_true rfl) ⟨Nat.le_of_ble_eq_true rfl, Nat.le_of_ble_eq_true rfl⟩ dX4_doFinish_12 ⟨Nat.zero_le _, Nat.zero_le _⟩ (fun H locs hW hS => ?_)
    refine lv_if_eq (tgt := 26) hx hb dX4_doFinish_15 (by decide) (fun q5 => ?_) (fun q5 => ?_)
    · replace hcf := (if_pos q5).symm.trans hcf
      refine lv_ldc hx hb hown (hts _ q677) dX4_doFinish_26 ?_
      have hcf := Option.some.inj hcf; subst hcf
      exact wk_iret hx hb hr hlocks hW hS dX4_doFinish_28
    · replace hcf := (if_neg q5).symm.trans hcf
      refine lv_aload_n hx hb dX4_doFinish_18 rfl (lv_at hl 0 rfl) ?_
      refine lv_iload_n hx hb dX4_doFinish_19 rfl (lv_at hl 1 rfl) ?_
      obtain ⟨x6, hx6, hcf⟩ := ob hcf
      refine iv_X4_57 (As := [.int b1]) (rest := []) hx hb hml hown hts hE (ct_X4_isFinished l D cy z n Y V G a0 b1 x6 hx6) hW hS q3 rfl rfl hl.1 (Nat.le_of_ble_eq_true rfl) ⟨Nat.le_of_ble_eq_true rfl, Nat.le_of_ble_eq_true rfl⟩ dX4_doFinish_20 ⟨Nat.zero_le _, Nat.zero_le _⟩ (fun H locs hW hS => ?_)
      refine lv_if_eq (tgt := 29) hx hb dX4_doFinish_23 (by decide) (fun q7 => ?_) (fun q7 => ?_)
      · replace hcf := (if_pos q7).symm.trans hcf
        refine lv_aload_n hx hb dX4_doFinish_29 rfl (lv_at hl 0 rfl) ?_
        obtain ⟨r8, hr8, hcf⟩ := ob hcf
        refine gf_X4_7 hx hb hts hown hE hW q3 hr8 dX4_doFinish_30 ?_
        refine lv_bipush (v := (11 : Int32)) hx hb dX4_doFinish_33 (by decide) ?_
        refine lv_iload_n hx hb dX4_doFinish_35 rfl (lv_at hl 1 rfl) ?_
        refine lv_iadd hx hb dX4_doFinish_36 ?_
        refine lv_aload_n hx hb dX4_doFinish_37 rfl (lv_at hl 0 rfl) ?_
        refine gf_X4_7 hx hb hts hown hE hW q3 hr8 dX4_doFinish_38 ?_
        refine lv_iconst (v := (0 : Int32)) hx hb dX4_doFinish_41 (by decide) ?_
        obtain ⟨q9, hcf⟩ := og hcf
        obtain ⟨q10, hcf⟩ := og hcf
        refine wk_iald hx hb hE hW q9 q10 dX4_doFinish_42 ?_
        obtain ⟨q11, hcf⟩ := og hcf
        refine wk_iast hx hb hE hW hS q9 q11 dX4_doFinish_43 (fun H locs hW hS => ?_)
        refine lv_aload_n hx hb dX4_doFinish_44 rfl (lv_at hl 0 rfl) ?_
        refine gf_X4_7 hx hb hts hown hE hW q3 hr8 dX4_doFinish_45 ?_
        refine lv_iconst (v := (0 : Int32)) hx hb dX4_doFinish_48 (by decide) ?_
        obtain ⟨q12, hcf⟩ := og hcf
        refine wk_iald hx hb hE hW q9 q12 dX4_doFinish_49 ?_
        refine lv_aload_n hx hb dX4_doFinish_50 rfl (lv_at hl 0 rfl) ?_
        refine gf_X4_7 hx hb hts hown hE hW q3 hr8 dX4_doFinish_51 ?_
        refine lv_bipush (v := (6 : Int32)) hx hb dX4_doFinish_54 (by decide) ?_
        refine lv_iload_n hx hb dX4_doFinish_56 rfl (lv_at hl 1 rfl) ?_
        refine lv_iadd hx hb dX4_doFinish_57 ?_
        obtain ⟨q13, hcf⟩ := og hcf
        refine wk_iald hx hb hE hW q9 q13 dX4_doFinish_58 ?_
        refine lv_isub hx hb dX4_doFinish_59 ?_
        have hcf := Option.some.inj hcf; subst hcf
        exact wk_iret hx hb hr hlocks hW hS dX4_doFinish_60
      · replace hcf := (if_neg q7).symm.trans hcf
        refine lv_ldc hx hb hown (hts _ q677) dX4_doFinish_26 ?_
        have hcf := Option.some.inj hcf; subst hcf
        exact wk_iret hx hb hr hlocks hW hS dX4_doFinish_28
  · replace hcf := (if_pos q2).symm.trans hcf
    refine lv_ldc hx hb hown (hts _ q672) dX4_doFinish_7 ?_
    have hcf := Option.some.inj hcf; subst hcf
    exact wk_iret hx hb hr hlocks hW hS dX4_doFinish_9
set_option maxHeartbeats 4000000 in
set_option maxRecDepth 100000 in
theorem ct_X4_doApply (l : Launch) (D : va_G) (cy : Nat → ClassId) (z n : Nat) (Y : mY) (V : mV) (G : mG) (a0 : Nat) (b1 : Int32) (b2 : Int32) (x : Int32 × mV) (hcf : cf_X4_doApply Y V G a0 b1 b2 = some x) : CT l yX4_doApply cX4_doApply 3 (some .int) (rmd 2) D cy z [.ref a0, .int b1, .int b2] Y n V G (some (.int x.1)) Y n x.2 G := by
  refine ct_of (by decide) (Nat.le_of_ble_eq_true rfl) ?_
  intro p e s m args below meth c ls hx hb hr hml hown hts hlocks hnm hE hW hl
  have hS : va_S (zA z) s.heap s.heap [] := va_S.rf
  have hl : lv_has ls 3 [(0, .ref a0), (1, .int b1), (2, .int b2)] := hl
  have hown : s.vm.findClass RX4 = some m.cls := hown
  rw [cf_X4_doApply] at hcf
  refine lv_aload_n hx hb dX4_doApply_0 rfl (lv_at hl 0 rfl) ?_
  refine lv_iload_n hx hb dX4_doApply_1 rfl (lv_at hl 1 rfl) ?_
  obtain ⟨q1, hcf⟩ := og hcf
  obtain ⟨x2, hx2, hcf⟩ := ob hcf
  refine iv_X4_99 (As := [.int b1]) (rest := []) hx hb hml hown hts hE (ct_X4_isCondition l D cy z n Y V G a0 b1 x2 hx2) hW hS q1 rfl rfl hl.1 (Nat.le_of_ble_eq_true rfl) ⟨Nat.le_of_ble_eq_true rfl, Nat.le_of_ble_eq_true rfl⟩ dX4_doApply_2 ⟨Nat.zero_le _, Nat.zero_le _⟩ (fun H locs hW hS => ?_)
  refine lv_if_eq (tgt := 23) hx hb dX4_doApply_5 (by decide) (fun q3 => ?_) (fun q3 => ?_)
  · replace hcf := (if_pos q3).symm.trans hcf
    refine lv_ldc hx hb hown (hts _ q672) dX4_doApply_23 ?_
    have hcf := Option.some.inj hcf; subst hcf
    exact wk_iret hx hb hr hlocks hW hS dX4_doApply_25
  · replace hcf := (if_neg q3).symm.trans hcf
    refine lv_iload_n hx hb dX4_doApply_8 rfl (lv_at hl 2 rfl) ?_
    refine lv_i2l hx hb dX4_doApply_9 rfl ?_
    refine lv_lconst (v := (1 : Int64)) hx hb dX4_doApply_10 (by decide) ?_
    refine lv_aload_n hx hb dX4_doApply_11 rfl (lv_at hl 0 rfl) ?_
    refine lv_iload_n hx hb dX4_doApply_12 rfl (lv_at hl 1 rfl) ?_
    obtain ⟨x4, hx4, hcf⟩ := ob hcf
    refine iv_X4_50 (As := [.int b1]) (rest := [.long (1 : Int64), .long ((b2).toInt64)]) hx hb hml hown hts hE (ct_X4_allParts l D cy z n Y V G a0 b1 x4 hx4) hW hS q1 rfl rfl hl.1 (Nat.le_of_ble_eq_true rfl) ⟨Nat.le_of_ble_eq_true rfl, Nat.le_of_ble_eq_true rfl⟩ dX4_doApply_13 ⟨Nat.zero_le _, Nat.zero_le _⟩ (fun H locs hW hS => ?_)
    refine lv_i2l hx hb dX4_doApply_16 rfl ?_
    obtain ⟨x5, hx5, hcf⟩ := ob hcf
    refine iv_X4_40 (As := [.long ((b2).toInt64), .long (1 : Int64), .long ((x4).toInt64)]) (rest := []) hx hb hml hown hts hE (ct_X4_in l D cy z n Y V G ((b2).toInt64) (1 : Int64) ((x4).toInt64) x5 hx5) hW hS rfl rfl hl.1 (Nat.le_of_ble_eq_true rfl) ⟨Nat.le_of_ble_eq_true rfl, Nat.le_of_ble_eq_true rfl⟩ dX4_doApply_17 ⟨Nat.zero_le _, Nat.zero_le _⟩ (fun H locs hW hS => ?_)
    refine lv_if_ne (tgt := 26) hx hb dX4_doApply_20 (by decide) (fun q6 => ?_) (fun q6 => ?_)
    · replace hcf := (if_neg q6).symm.trans hcf
      refine lv_aload_n hx hb dX4_doApply_26 rfl (lv_at hl 0 rfl) ?_
      refine lv_iload_n hx hb dX4_doApply_27 rfl (lv_at hl 1 rfl) ?_
      refine lv_iconst (v := (0 : Int32)) hx hb dX4_doApply_28 (by decide) ?_
      obtain ⟨x7, hx7, hcf⟩ := ob hcf
      refine iv_X4_46 (As := [.int b1, .int (0 : Int32)]) (rest := []) hx hb hml hown hts hE (ct_X4_get l D cy z n Y V G a0 b1 (0 : Int32) x7 hx7) hW hS q1 rfl rfl hl.1 (Nat.le_of_ble_eq_true rfl) ⟨Nat.le_of_ble_eq_true rfl, Nat.le_of_ble_eq_true rfl⟩ dX4_doApply_29 ⟨Nat.zero_le _, Nat.zero_le _⟩ (fun H locs hW hS => ?_)
      refine lv_iconst (v := (2 : Int32)) hx hb dX4_doApply_32 (by decide) ?_
      refine lv_icmp_eq (tgt := 56) hx hb dX4_doApply_33 (by decide) (fun q8 => ?_) (fun q8 => ?_)
      · replace hcf := (if_pos q8).symm.trans hcf
        refine lv_ldc hx hb hown (hts _ q677) dX4_doApply_56 ?_
        have hcf := Option.some.inj hcf; subst hcf
        exact wk_iret hx hb hr hlocks hW hS dX4_doApply_58
      · replace hcf := (if_neg q8).symm.trans hcf
        refine lv_aload_n hx hb dX4_doApply_36 rfl (lv_at hl 0 rfl) ?_
        refine lv_iload_n hx hb dX4_doApply_37 rfl (lv_at hl 1 rfl) ?_
        refine lv_iconst (v := (5 : Int32)) hx hb dX4_doApply_38 (by decide) ?_
        obtain ⟨x9, hx9, hcf⟩ := ob hcf
        refine iv_X4_46 (As := [.int b1, .int (5 : Int32)]) (rest := []) hx hb hml hown hts hE (ct_X4_get l D cy z n Y V G a0 b1 (5 : Int32) x9 hx9) hW hS q1 rfl rfl hl.1 (Nat.le_of_ble_eq_true rfl) ⟨Nat.le_of_ble_eq_true rfl, Nat.le_of_ble_eq_true rfl⟩ dX4_doApply_39 ⟨Nat.zero_le _, Nat.zero_le _⟩ (fun H locs hW hS => ?_)
        refine lv_if_ne (tgt := 56) hx hb dX4_doApply_42 (by decide) (fun q10 => ?_) (fun q10 => ?_)
        · replace hcf := (if_neg q10).symm.trans hcf
          refine lv_ldc hx hb hown (hts _ q677) dX4_doApply_56 ?_
          have hcf := Option.some.inj hcf; subst hcf
          exact wk_iret hx hb hr hlocks hW hS dX4_doApply_58
        · replace hcf := (if_pos q10).symm.trans hcf
          refine lv_aload_n hx hb dX4_doApply_45 rfl (lv_at hl 0 rfl) ?_
          refine lv_iload_n hx hb dX4_doApply_46 rfl (lv_at hl 1 rfl) ?_
          refine lv_iconst (v := (4 : Int32)) hx hb dX4_doApply_47 (by decide) ?_
          obtain ⟨x11, hx11, hcf⟩ := ob hcf
          refine iv_X4_46 (As := [.int b1, .int (4 : Int32)]) (rest := []) hx hb hml hown hts hE (ct_X4_get l D cy z n Y V G a0 b1 (4 : Int32) x11 hx11) hW hS q1 rfl rfl hl.1 (Nat.le_of_ble_eq_true rfl) ⟨Nat.le_of_ble_eq_true rfl, Nat.le_of_ble_eq_true rfl⟩ dX4_doApply_48 ⟨Nat.zero_le _, Nat.zero_le _⟩ (fun H locs hW hS => ?_)
          refine lv_iload_n hx hb dX4_doApply_51 rfl (lv_at hl 2 rfl) ?_
          refine lv_iand hx hb dX4_doApply_52 ?_
          refine lv_if_eq (tgt := 59) hx hb dX4_doApply_53 (by decide) (fun q12 => ?_) (fun q12 => ?_)
          · replace hcf := (if_pos q12).symm.trans hcf
            refine lv_aload_n hx hb dX4_doApply_59 rfl (lv_at hl 0 rfl) ?_
            refine lv_iload_n hx hb dX4_doApply_60 rfl (lv_at hl 1 rfl) ?_
            refine lv_iconst (v := (5 : Int32)) hx hb dX4_doApply_61 (by decide) ?_
            refine lv_iload_n hx hb dX4_doApply_62 rfl (lv_at hl 2 rfl) ?_
            obtain ⟨x13, hx13, hcf⟩ := ob hcf
            refine iv_X4_66 (As := [.int b1, .int (5 : Int32), .int b2]) (rest := []) hx hb hml hown hts hE (ct_X4_put l D cy z n Y V G a0 b1 (5 : Int32) b2 x13 hx13) hW hS q1 rfl rfl hl.1 (Nat.le_of_ble_eq_true rfl) ⟨Nat.le_of_ble_eq_true rfl, Nat.le_of_ble_eq_true rfl⟩ dX4_doApply_63 ⟨Nat.zero_le _, Nat.zero_le _⟩ (fun H locs hW hS => ?_)
            refine lv_aload_n hx hb dX4_doApply_66 rfl (lv_at hl 0 rfl) ?_
            refine lv_iload_n hx hb dX4_doApply_67 rfl (lv_at hl 1 rfl) ?_
            refine lv_bipush (v := (6 : Int32)) hx hb dX4_doApply_68 (by decide) ?_
            refine lv_iconst (v := (0 : Int32)) hx hb dX4_doApply_70 (by decide) ?_
            obtain ⟨x14, hx14, hcf⟩ := ob hcf
            refine iv_X4_66 (As := [.int b1, .int (6 : Int32), .int (0 : Int32)]) (rest := []) hx hb hml hown hts hE (ct_X4_put l D cy z n Y x13 G a0 b1 (6 : Int32) (0 : Int32) x14 hx14) hW hS q1 rfl rfl hl.1 (Nat.le_of_ble_eq_true rfl) ⟨Nat.le_of_ble_eq_true rfl, Nat.le_of_ble_eq_true rfl⟩ dX4_doApply_71 ⟨Nat.zero_le _, Nat.zero_le _⟩ (fun H locs hW hS => ?_)
            refine lv_aload_n hx hb dX4_doApply_74 rfl (lv_at hl 0 rfl) ?_
            obtain ⟨r15, hr15, hcf⟩ := ob hcf
            refine gf_X4_7 hx hb hts hown hE hW q1 hr15 dX4_doApply_75 ?_
            refine lv_iconst (v := (2 : Int32)) hx hb dX4_doApply_78 (by decide) ?_
            obtain ⟨q16, hcf⟩ := og hcf
            obtain ⟨q17, hcf⟩ := og hcf
            refine wk_iald hx hb hE hW q16 q17 dX4_doApply_79 ?_
            have hcf := Option.some.inj hcf; subst hcf
            exact wk_iret hx hb hr hlocks hW hS dX4_doApply_80
          · replace hcf := (if_neg q12).symm.trans hcf
            refine lv_ldc hx hb hown (hts _ q677) dX4_doApply_56 ?_
            have hcf := Option.some.inj hcf; subst hcf
            exact wk_iret hx hb hr hlocks hW hS dX4_doApply_58
    · replace hcf := (if_pos q6).symm.trans hcf
      refine lv_ldc hx hb hown (hts _ q672) dX4_doApply_23 ?_
      have hcf := Option.some.inj hcf; subst hcf
      exact wk_iret hx hb hr hlocks hW hS dX4_doApply_25
set_option maxHeartbeats 4000000 in
set_option maxRecDepth 100000 in
theorem ct_X4_doDecide (l : Launch) (D : va_G) (cy : Nat → ClassId) (z n : Nat) (Y : mY) (V : mV) (G : mG) (a0 : Nat) (b1 : Int32) (b2 : Int32) (x : Int32 × mV) (hcf : cf_X4_doDecide Y V G a0 b1 b2 = some x) : CT l yX4_doDecide cX4_doDecide 3 (some .int) (rmd 4) D cy z [.ref a0, .int b1, .int b2] Y n V G (some (.int x.1)) Y n x.2 G := by
  refine ct_of (by decide) (Nat.le_of_ble_eq_true rfl) ?_
  intro p e s m args below meth c ls hx hb hr hml hown hts hlocks hnm hE hW hl
  have hS : va_S (zA z) s.heap s.heap [] := va_S.rf
  have hl : lv_has ls 3 [(0, .ref a0), (1, .int b1), (2, .int b2)] := hl
  have hown : s.vm.findClass RX4 = some m.cls := hown
  rw [cf_X4_doDecide] at hcf
  refine lv_aload_n hx hb dX4_doDecide_0 rfl (lv_at hl 0 rfl) ?_
  refine lv_iload_n hx hb dX4_doDecide_1 rfl (lv_at hl 1 rfl) ?_
  obtain ⟨q1, hcf⟩ := og hcf
  obtain ⟨x2, hx2, hcf⟩ := ob hcf
  refine iv_X4_99 (As := [.int b1]) (rest := []) hx hb hml hown hts hE (ct_X4_isCondition l D cy z n Y V G a0 b1 x2 hx2) hW hS q1 rfl rfl hl.1 (Nat.le_of_ble_eq_true rfl) ⟨Nat.le_of_ble_eq_true rfl, Nat.le_of_ble_eq_true rfl⟩ dX4_doDecide_2 ⟨Nat.zero_le _, Nat.zero_le _⟩ (fun H locs hW hS => ?_)
  refine lv_if_eq (tgt := 23) hx hb dX4_doDecide_5 (by decide) (fun q3 => ?_) (fun q3 => ?_)
  · replace hcf := (if_pos q3).symm.trans hcf
    refine lv_ldc hx hb hown (hts _ q672) dX4_doDecide_23 ?_
    have hcf := Option.some.inj hcf; subst hcf
    exact wk_iret hx hb hr hlocks hW hS dX4_doDecide_25
  · replace hcf := (if_neg q3).symm.trans hcf
    refine lv_iload_n hx hb dX4_doDecide_8 rfl (lv_at hl 2 rfl) ?_
    refine lv_i2l hx hb dX4_doDecide_9 rfl ?_
    refine lv_lconst (v := (0 : Int64)) hx hb dX4_doDecide_10 (by decide) ?_
    refine lv_aload_n hx hb dX4_doDecide_11 rfl (lv_at hl 0 rfl) ?_
    refine lv_iload_n hx hb dX4_doDecide_12 rfl (lv_at hl 1 rfl) ?_
    obtain ⟨x4, hx4, hcf⟩ := ob hcf
    refine iv_X4_50 (As := [.int b1]) (rest := [.long (0 : Int64), .long ((b2).toInt64)]) hx hb hml hown hts hE (ct_X4_allParts l D cy z n Y V G a0 b1 x4 hx4) hW hS q1 rfl rfl hl.1 (Nat.le_of_ble_eq_true rfl) ⟨Nat.le_of_ble_eq_true rfl, Nat.le_of_ble_eq_true rfl⟩ dX4_doDecide_13 ⟨Nat.zero_le _, Nat.zero_le _⟩ (fun H locs hW hS => ?_)
    refine lv_i2l hx hb dX4_doDecide_16 rfl ?_
    obtain ⟨x5, hx5, hcf⟩ := ob hcf
    refine iv_X4_40 (As := [.long ((b2).toInt64), .long (0 : Int64), .long ((x4).toInt64)]) (rest := []) hx hb hml hown hts hE (ct_X4_in l D cy z n Y V G ((b2).toInt64) (0 : Int64) ((x4).toInt64) x5 hx5) hW hS rfl rfl hl.1 (Nat.le_of_ble_eq_true rfl) ⟨Nat.le_of_ble_eq_true rfl, Nat.le_of_ble_eq_true rfl⟩ dX4_doDecide_17 ⟨Nat.zero_le _, Nat.zero_le _⟩ (fun H locs hW hS => ?_)
    refine lv_if_ne (tgt := 26) hx hb dX4_doDecide_20 (by decide) (fun q6 => ?_) (fun q6 => ?_)
    · replace hcf := (if_neg q6).symm.trans hcf
      refine lv_aload_n hx hb dX4_doDecide_26 rfl (lv_at hl 0 rfl) ?_
      refine lv_iload_n hx hb dX4_doDecide_27 rfl (lv_at hl 1 rfl) ?_
      refine lv_iconst (v := (5 : Int32)) hx hb dX4_doDecide_28 (by decide) ?_
      obtain ⟨x7, hx7, hcf⟩ := ob hcf
      refine iv_X4_46 (As := [.int b1, .int (5 : Int32)]) (rest := []) hx hb hml hown hts hE (ct_X4_get l D cy z n Y V G a0 b1 (5 : Int32) x7 hx7) hW hS q1 rfl rfl hl.1 (Nat.le_of_ble_eq_true rfl) ⟨Nat.le_of_ble_eq_true rfl, Nat.le_of_ble_eq_true rfl⟩ dX4_doDecide_29 ⟨Nat.zero_le _, Nat.zero_le _⟩ (fun H locs hW hS => ?_)
      refine lv_if_eq (tgt := 48) hx hb dX4_doDecide_32 (by decide) (fun q8 => ?_) (fun q8 => ?_)
      · replace hcf := (if_pos q8).symm.trans hcf
        refine lv_ldc hx hb hown (hts _ q677) dX4_doDecide_48 ?_
        have hcf := Option.some.inj hcf; subst hcf
        exact wk_iret hx hb hr hlocks hW hS dX4_doDecide_50
      · replace hcf := (if_neg q8).symm.trans hcf
        refine lv_iload_n hx hb dX4_doDecide_35 rfl (lv_at hl 2 rfl) ?_
        refine lv_aload_n hx hb dX4_doDecide_36 rfl (lv_at hl 0 rfl) ?_
        refine lv_iload_n hx hb dX4_doDecide_37 rfl (lv_at hl 1 rfl) ?_
        refine lv_iconst (v := (5 : Int32)) hx hb dX4_doDecide_38 (by decide) ?_
        obtain ⟨x9, hx9, hcf⟩ := ob hcf
        refine iv_X4_46 (As := [.int b1, .int (5 : Int32)]) (rest := [.int b2]) hx hb hml hown hts hE (ct_X4_get l D cy z n Y V G a0 b1 (5 : Int32) x9 hx9) hW hS q1 rfl rfl hl.1 (Nat.le_of_ble_eq_true rfl) ⟨Nat.le_of_ble_eq_true rfl, Nat.le_of_ble_eq_true rfl⟩ dX4_doDecide_39 ⟨Nat.zero_le _, Nat.zero_le _⟩ (fun H locs hW hS => ?_)
        refine lv_iconst (v := (-1 : Int32)) hx hb dX4_doDecide_42 (by decide) ?_
        refine lv_ixor hx hb dX4_doDecide_43 ?_
        refine lv_iand hx hb dX4_doDecide_44 ?_
        refine lv_if_eq (tgt := 51) hx hb dX4_doDecide_45 (by decide) (fun q10 => ?_) (fun q10 => ?_)
        · replace hcf := (if_pos q10).symm.trans hcf
          refine lv_aload_n hx hb dX4_doDecide_51 rfl (lv_at hl 0 rfl) ?_
          refine lv_iload_n hx hb dX4_doDecide_52 rfl (lv_at hl 1 rfl) ?_
          refine lv_iload_n hx hb dX4_doDecide_53 rfl (lv_at hl 2 rfl) ?_
          obtain ⟨x11, hx11, hcf⟩ := ob hcf
          refine iv_X4_102 (As := [.int b1, .int b2]) (rest := []) hx hb hml hown hts hE (ct_X4_approves l D cy z n Y V G a0 b1 b2 x11 hx11) hW hS q1 rfl rfl hl.1 (Nat.le_of_ble_eq_true rfl) ⟨Nat.le_of_ble_eq_true rfl, Nat.le_of_ble_eq_true rfl⟩ dX4_doDecide_54 ⟨Nat.zero_le _, Nat.zero_le _⟩ (fun H locs hW hS => ?_)
          refine lv_aload_n hx hb dX4_doDecide_57 rfl (lv_at hl 0 rfl) ?_
          refine lv_iload_n hx hb dX4_doDecide_58 rfl (lv_at hl 1 rfl) ?_
          refine lv_iconst (v := (3 : Int32)) hx hb dX4_doDecide_59 (by decide) ?_
          obtain ⟨x12, hx12, hcf⟩ := ob hcf
          refine iv_X4_46 (As := [.int b1, .int (3 : Int32)]) (rest := []) hx hb hml hown hts hE (ct_X4_get l D cy z n Y x11 G a0 b1 (3 : Int32) x12 hx12) hW hS q1 rfl rfl hl.1 (Nat.le_of_ble_eq_true rfl) ⟨Nat.le_of_ble_eq_true rfl, Nat.le_of_ble_eq_true rfl⟩ dX4_doDecide_60 ⟨Nat.zero_le _, Nat.zero_le _⟩ (fun H locs hW hS => ?_)
          refine lv_aload_n hx hb dX4_doDecide_63 rfl (lv_at hl 0 rfl) ?_
          refine lv_iload_n hx hb dX4_doDecide_64 rfl (lv_at hl 1 rfl) ?_
          refine lv_iconst (v := (4 : Int32)) hx hb dX4_doDecide_65 (by decide) ?_
          obtain ⟨x13, hx13, hcf⟩ := ob hcf
          refine iv_X4_46 (As := [.int b1, .int (4 : Int32)]) (rest := [.int x12]) hx hb hml hown hts hE (ct_X4_get l D cy z n Y x11 G a0 b1 (4 : Int32) x13 hx13) hW hS q1 rfl rfl hl.1 (Nat.le_of_ble_eq_true rfl) ⟨Nat.le_of_ble_eq_true rfl, Nat.le_of_ble_eq_true rfl⟩ dX4_doDecide_66 ⟨Nat.zero_le _, Nat.zero_le _⟩ (fun H locs hW hS => ?_)
          obtain ⟨x14, hx14, hcf⟩ := ob hcf
          refine iv_X4_106 (As := [.int x13]) (rest := [.int x12]) hx hb hml hown hts hE (ct_X4_bits l D cy z n Y x11 G x13 x14 hx14) hW hS rfl rfl hl.1 (Nat.le_of_ble_eq_true rfl) ⟨Nat.le_of_ble_eq_true rfl, Nat.le_of_ble_eq_true rfl⟩ dX4_doDecide_69 ⟨Nat.zero_le _, Nat.zero_le _⟩ (fun H locs hW hS => ?_)
          refine lv_isub hx hb dX4_doDecide_72 ?_
          have hcf := Option.some.inj hcf; subst hcf
          exact wk_iret hx hb hr hlocks hW hS dX4_doDecide_73
        · replace hcf := (if_neg q10).symm.trans hcf
          refine lv_ldc hx hb hown (hts _ q677) dX4_doDecide_48 ?_
          have hcf := Option.some.inj hcf; subst hcf
          exact wk_iret hx hb hr hlocks hW hS dX4_doDecide_50
    · replace hcf := (if_pos q6).symm.trans hcf
      refine lv_ldc hx hb hown (hts _ q672) dX4_doDecide_23 ?_
      have hcf := Option.some.inj hcf; subst hcf
      exact wk_iret hx hb hr hlocks hW hS dX4_doDecide_25
set_option maxHeartbeats 4000000 in
set_option maxRecDepth 100000 in
theorem ct_X4_doLapse (l : Launch) (D : va_G) (cy : Nat → ClassId) (z n : Nat) (Y : mY) (V : mV) (G : mG) (a0 : Nat) (b1 : Int32) (x : Int32 × mV) (hcf : cf_X4_doLapse Y V G a0 b1 = some x) : CT l yX4_doLapse cX4_doLapse 2 (some .int) (rmd 4) D cy z [.ref a0, .int b1] Y n V G (some (.int x.1)) Y n x.2 G := by
  refine ct_of (by decide) (Nat.le_of_ble_eq_true rfl) ?_
  intro p e s m args below meth c ls hx hb hr hml hown hts hlocks hnm hE hW hl
  have hS : va_S (zA z) s.heap s.heap [] := va_S.rf
  have hl : lv_has ls 2 [(0, .ref a0), (1, .int b1)] := hl
  have hown : s.vm.findClass RX4 = some m.cls := hown
  rw [cf_X4_doLapse] at hcf
  refine lv_aload_n hx hb dX4_doLapse_0 rfl (lv_at hl 0 rfl) ?_
  refine lv_iload_n hx hb dX4_doLapse_1 rfl (lv_at hl 1 rfl) ?_
  obtain ⟨q1, hcf⟩ := og hcf
  obtain ⟨x2, hx2, hcf⟩ := ob hcf
  refine iv_X4_99 (As := [.int b1]) (rest := []) hx hb hml hown hts hE (ct_X4_isCondition l D cy z n Y V G a0 b1 x2 hx2) hW hS q1 rfl rfl hl.1 (Nat.le_of_ble_eq_true rfl) ⟨Nat.le_of_ble_eq_true rfl, Nat.le_of_ble_eq_true rfl⟩ dX4_doLapse_2 ⟨Nat.zero_le _, Nat.zero_le _⟩ (fun H locs hW hS => ?_)
  refine lv_if_ne (tgt := 11) hx hb dX4_doLapse_5 (by decide) (fun q3 => ?_) (fun q3 => ?_)
  · replace hcf := (if_neg q3).symm.trans hcf
    refine lv_aload_n hx hb dX4_doLapse_11 rfl (lv_at hl 0 rfl) ?_
    refine lv_iload_n hx hb dX4_doLapse_12 rfl (lv_at hl 1 rfl) ?_
    refine lv_iconst (v := (0 : Int32)) hx hb dX4_doLapse_13 (by decide) ?_
    obtain ⟨x4, hx4, hcf⟩ := ob hcf
    refine iv_X4_46 (As := [.int b1, .int (0 : Int32)]) (rest := []) hx hb hml hown hts hE (ct_X4_get l D cy z n Y V G a0 b1 (0 : Int32) x4 hx4) hW hS q1 rfl rfl hl.1 (Nat.le_of_ble_eq_true rfl) ⟨Nat.le_of_ble_eq_true rfl, Nat.le_of_ble_eq_true rfl⟩ dX4_doLapse_14 ⟨Nat.zero_le _, Nat.zero_le _⟩ (fun H locs hW hS => ?_)
    refine lv_iconst (v := (2 : Int32)) hx hb dX4_doLapse_17 (by decide) ?_
    refine lv_icmp_ne (tgt := 30) hx hb dX4_doLapse_18 (by decide) (fun q5 => ?_) (fun q5 => ?_)
    · replace hcf := (if_neg q5).symm.trans hcf
      refine lv_ldc hx hb hown (hts _ q677) dX4_doLapse_30 ?_
      have hcf := Option.some.inj hcf; subst hcf
      exact wk_iret hx hb hr hlocks hW hS dX4_doLapse_32
    · replace hcf := (if_pos q5).symm.trans hcf
      refine lv_aload_n hx hb dX4_doLapse_21 rfl (lv_at hl 0 rfl) ?_
      refine lv_iload_n hx hb dX4_doLapse_22 rfl (lv_at hl 1 rfl) ?_
      obtain ⟨x6, hx6, hcf⟩ := ob hcf
      refine iv_X4_109 (As := [.int b1]) (rest := []) hx hb hml hown hts hE (ct_X4_stateOf l D cy z n Y V G a0 b1 x6 hx6) hW hS q1 rfl rfl hl.1 (Nat.le_of_ble_eq_true rfl) ⟨Nat.le_of_ble_eq_true rfl, Nat.le_of_ble_eq_true rfl⟩ dX4_doLapse_23 ⟨Nat.zero_le _, Nat.zero_le _⟩ (fun H locs hW hS => ?_)
      refine lv_iconst (v := (1 : Int32)) hx hb dX4_doLapse_26 (by decide) ?_
      refine lv_icmp_eq (tgt := 33) hx hb dX4_doLapse_27 (by decide) (fun q7 => ?_) (fun q7 => ?_)
      · replace hcf := (if_pos q7).symm.trans hcf
        refine lv_aload_n hx hb dX4_doLapse_33 rfl (lv_at hl 0 rfl) ?_
        refine lv_iload_n hx hb dX4_doLapse_34 rfl (lv_at hl 1 rfl) ?_
        obtain ⟨x8, hx8, hcf⟩ := ob hcf
        refine iv_X4_96 (As := [.int b1]) (rest := []) hx hb hml hown hts hE (ct_X4_breaks l D cy z n Y V G a0 b1 x8 hx8) hW hS q1 rfl rfl hl.1 (Nat.le_of_ble_eq_true rfl) ⟨Nat.le_of_ble_eq_true rfl, Nat.le_of_ble_eq_true rfl⟩ dX4_doLapse_35 ⟨Nat.zero_le _, Nat.zero_le _⟩ (fun H locs hW hS => ?_)
        refine lv_aload_n hx hb dX4_doLapse_38 rfl (lv_at hl 0 rfl) ?_
        refine lv_iload_n hx hb dX4_doLapse_39 rfl (lv_at hl 1 rfl) ?_
        refine lv_bipush (v := (7 : Int32)) hx hb dX4_doLapse_40 (by decide) ?_
        obtain ⟨x9, hx9, hcf⟩ := ob hcf
        refine iv_X4_46 (As := [.int b1, .int (7 : Int32)]) (rest := []) hx hb hml hown hts hE (ct_X4_get l D cy z n Y x8 G a0 b1 (7 : Int32) x9 hx9) hW hS q1 rfl rfl hl.1 (Nat.le_of_ble_eq_true rfl) ⟨Nat.le_of_ble_eq_true rfl, Nat.le_of_ble_eq_true rfl⟩ dX4_doLapse_42 ⟨Nat.zero_le _, Nat.zero_le _⟩ (fun H locs hW hS => ?_)
        have hcf := Option.some.inj hcf; subst hcf
        exact wk_iret hx hb hr hlocks hW hS dX4_doLapse_45
      · replace hcf := (if_neg q7).symm.trans hcf
        refine lv_ldc hx hb hown (hts _ q677) dX4_doLapse_30 ?_
        have hcf := Option.some.inj hcf; subst hcf
        exact wk_iret hx hb hr hlocks hW hS dX4_doLapse_32
  · replace hcf := (if_pos q3).symm.trans hcf
    refine lv_ldc hx hb hown (hts _ q672) dX4_doLapse_8 ?_
    have hcf := Option.some.inj hcf; subst hcf
    exact wk_iret hx hb hr hlocks hW hS dX4_doLapse_10
set_option maxHeartbeats 4000000 in
set_option maxRecDepth 100000 in
theorem ct_X4_doCure (l : Launch) (D : va_G) (cy : Nat → ClassId) (z n : Nat) (Y : mY) (V : mV) (G : mG) (a0 : Nat) (b1 : Int32) (x : Int32 × mV) (hcf : cf_X4_doCure Y V G a0 b1 = some x) : CT l yX4_doCure cX4_doCure 3 (some .int) (rmd 4) D cy z [.ref a0, .int b1] Y n V G (some (.int x.1)) Y n x.2 G := by
  refine ct_of (by decide) (Nat.le_of_ble_eq_true rfl) ?_
  intro p e s m args below meth c ls hx hb hr hml hown hts hlocks hnm hE hW hl
  have hS : va_S (zA z) s.heap s.heap [] := va_S.rf
  have hl : lv_has ls 3 [(0, .ref a0), (1, .int b1)] := hl
  have hown : s.vm.findClass RX4 = some m.cls := hown
  rw [cf_X4_doCure] at hcf
  refine lv_aload_n hx hb dX4_doCure_0 rfl (lv_at hl 0 rfl) ?_
  refine lv_iload_n hx hb dX4_doCure_1 rfl (lv_at hl 1 rfl) ?_
  obtain ⟨q1, hcf⟩ := og hcf
  obtain ⟨x2, hx2, hcf⟩ := ob hcf
  refine iv_X4_99 (As := [.int b1]) (rest := []) hx hb hml hown hts hE (ct_X4_isCondition l D cy z n Y V G a0 b1 x2 hx2) hW hS q1 rfl rfl hl.1 (Nat.le_of_ble_eq_true rfl) ⟨Nat.le_of_ble_eq_true rfl, Nat.le_of_ble_eq_true rfl⟩ dX4_doCure_2 ⟨Nat.zero_le _, Nat.zero_le _⟩ (fun H locs hW hS => ?_)
  refine lv_if_ne (tgt := 11) hx hb dX4_doCure_5 (by decide) (fun q3 => ?_) (fun q3 => ?_)
  · replace hcf := (if_neg q3).symm.trans hcf
    refine lv_aload_n hx hb dX4_doCure_11 rfl (lv_at hl 0 rfl) ?_
    refine lv_iload_n hx hb dX4_doCure_12 rfl (lv_at hl 1 rfl) ?_
    refine lv_iconst (v := (0 : Int32)) hx hb dX4_doCure_13 (by decide) ?_
    obtain ⟨x4, hx4, hcf⟩ := ob hcf
    refine iv_X4_46 (As := [.int b1, .int (0 : Int32)]) (rest := []) hx hb hml hown hts hE (ct_X4_get l D cy z n Y V G a0 b1 (0 : Int32) x4 hx4) hW hS q1 rfl rfl hl.1 (Nat.le_of_ble_eq_true rfl) ⟨Nat.le_of_ble_eq_true rfl, Nat.le_of_ble_eq_true rfl⟩ dX4_doCure_14 ⟨Nat.zero_le _, Nat.zero_le _⟩ (fun H locs hW hS => ?_)
    refine lv_iconst (v := (2 : Int32)) hx hb dX4_doCure_17 (by decide) ?_
    refine lv_icmp_ne (tgt := 30) hx hb dX4_doCure_18 (by decide) (fun q5 => ?_) (fun q5 => ?_)
    · replace hcf := (if_neg q5).symm.trans hcf
      refine lv_ldc hx hb hown (hts _ q677) dX4_doCure_30 ?_
      have hcf := Option.some.inj hcf; subst hcf
      exact wk_iret hx hb hr hlocks hW hS dX4_doCure_32
    · replace hcf := (if_pos q5).symm.trans hcf
      refine lv_aload_n hx hb dX4_doCure_21 rfl (lv_at hl 0 rfl) ?_
      refine lv_iload_n hx hb dX4_doCure_22 rfl (lv_at hl 1 rfl) ?_
      obtain ⟨x6, hx6, hcf⟩ := ob hcf
      refine iv_X4_109 (As := [.int b1]) (rest := []) hx hb hml hown hts hE (ct_X4_stateOf l D cy z n Y V G a0 b1 x6 hx6) hW hS q1 rfl rfl hl.1 (Nat.le_of_ble_eq_true rfl) ⟨Nat.le_of_ble_eq_true rfl, Nat.le_of_ble_eq_true rfl⟩ dX4_doCure_23 ⟨Nat.zero_le _, Nat.zero_le _⟩ (fun H locs hW hS => ?_)
      refine lv_iconst (v := (3 : Int32)) hx hb dX4_doCure_26 (by decide) ?_
      refine lv_icmp_eq (tgt := 33) hx hb dX4_doCure_27 (by decide) (fun q7 => ?_) (fun q7 => ?_)
      · replace hcf := (if_pos q7).symm.trans hcf
        refine lv_aload_n hx hb dX4_doCure_33 rfl (lv_at hl 0 rfl) ?_
        refine lv_iload_n hx hb dX4_doCure_34 rfl (lv_at hl 1 rfl) ?_
        refine lv_bipush (v := (9 : Int32)) hx hb dX4_doCure_35 (by decide) ?_
        obtain ⟨x8, hx8, hcf⟩ := ob hcf
        refine iv_X4_46 (As := [.int b1, .int (9 : Int32)]) (rest := []) hx hb hml hown hts hE (ct_X4_get l D cy z n Y V G a0 b1 (9 : Int32) x8 hx8) hW hS q1 rfl rfl hl.1 (Nat.le_of_ble_eq_true rfl) ⟨Nat.le_of_ble_eq_true rfl, Nat.le_of_ble_eq_true rfl⟩ dX4_doCure_37 ⟨Nat.zero_le _, Nat.zero_le _⟩ (fun H locs hW hS => ?_)
        refine lv_istore_n (lv' := [(2, .int x8), (0, .ref a0), (1, .int b1)]) hx hb dX4_doCure_40 rfl hl (by decide) rfl (fun ls hl => ?_)
        refine lv_aload_n hx hb dX4_doCure_41 rfl (lv_at hl 1 rfl) ?_
        refine lv_iload_n hx hb dX4_doCure_42 rfl (lv_at hl 2 rfl) ?_
        obtain ⟨x9, hx9, hcf⟩ := ob hcf
        refine iv_X4_70 (As := [.int b1]) (rest := []) hx hb hml hown hts hE (ct_X4_mends l D cy z n Y V G a0 b1 x9 hx9) hW hS q1 rfl rfl hl.1 (Nat.le_of_ble_eq_true rfl) ⟨Nat.le_of_ble_eq_true rfl, Nat.le_of_ble_eq_true rfl⟩ dX4_doCure_43 ⟨Nat.zero_le _, Nat.zero_le _⟩ (fun H locs hW hS => ?_)
        refine lv_iload_n hx hb dX4_doCure_46 rfl (lv_at hl 0 rfl) ?_
        have hcf := Option.some.inj hcf; subst hcf
        exact wk_iret hx hb hr hlocks hW hS dX4_doCure_47
      · replace hcf := (if_neg q7).symm.trans hcf
        refine lv_ldc hx hb hown (hts _ q677) dX4_doCure_30 ?_
        have hcf := Option.some.inj hcf; subst hcf
        exact wk_iret hx hb hr hlocks hW hS dX4_doCure_32
  · replace hcf := (if_pos q3).symm.trans hcf
    refine lv_ldc hx hb hown (hts _ q672) dX4_doCure_8 ?_
    have hcf := Option.some.inj hcf; subst hcf
    exact wk_iret hx hb hr hlocks hW hS dX4_doCure_10
set_option maxHeartbeats 4000000 in
set_option maxRecDepth 100000 in
theorem ct_X4_doServe (l : Launch) (D : va_G) (cy : Nat → ClassId) (z n : Nat) (Y : mY) (V : mV) (G : mG) (a0 : Nat) (b1 : Int32) (b2 : Int32) (x : Int32 × mV) (hcf : cf_X4_doServe Y V G a0 b1 b2 = some x) : CT l yX4_doServe cX4_doServe 3 (some .int) (rmd 4) D cy z [.ref a0, .int b1, .int b2] Y n V G (some (.int x.1)) Y n x.2 G := by
  refine ct_of (by decide) (Nat.le_of_ble_eq_true rfl) ?_
  intro p e s m args below meth c ls hx hb hr hml hown hts hlocks hnm hE hW hl
  have hS : va_S (zA z) s.heap s.heap [] := va_S.rf
  have hl : lv_has ls 3 [(0, .ref a0), (1, .int b1), (2, .int b2)] := hl
  have hown : s.vm.findClass RX4 = some m.cls := hown
  rw [cf_X4_doServe] at hcf
  refine lv_aload_n hx hb dX4_doServe_0 rfl (lv_at hl 0 rfl) ?_
  refine lv_iload_n hx hb dX4_doServe_1 rfl (lv_at hl 1 rfl) ?_
  obtain ⟨q1, hcf⟩ := og hcf
  obtain ⟨x2, hx2, hcf⟩ := ob hcf
  refine iv_X4_99 (As := [.int b1]) (rest := []) hx hb hml hown hts hE (ct_X4_isCondition l D cy z n Y V G a0 b1 x2 hx2) hW hS q1 rfl rfl hl.1 (Nat.le_of_ble_eq_true rfl) ⟨Nat.le_of_ble_eq_true rfl, Nat.le_of_ble_eq_true rfl⟩ dX4_doServe_2 ⟨Nat.zero_le _, Nat.zero_le _⟩ (fun H locs hW hS => ?_)
  refine lv_if_eq (tgt := 20) hx hb dX4_doServe_5 (by decide) (fun q3 => ?_) (fun q3 => ?_)
  · replace hcf := (if_pos q3).symm.trans hcf
    refine lv_ldc hx hb hown (hts _ q672) dX4_doServe_20 ?_
    have hcf := Option.some.inj hcf; subst hcf
    exact wk_iret hx hb hr hlocks hW hS dX4_doServe_22
  · replace hcf := (if_neg q3).symm.trans hcf
    refine lv_iload_n hx hb dX4_doServe_8 rfl (lv_at hl 2 rfl) ?_
    refine lv_i2l hx hb dX4_doServe_9 rfl ?_
    refine lv_lconst (v := (1 : Int64)) hx hb dX4_doServe_10 (by decide) ?_
    refine lv_ldc2 hx hb hown (hts _ q802) dX4_doServe_11 ?_
    obtain ⟨x4, hx4, hcf⟩ := ob hcf
    refine iv_X4_40 (As := [.long ((b2).toInt64), .long (1 : Int64), .long (99 : Int64)]) (rest := []) hx hb hml hown hts hE (ct_X4_in l D cy z n Y V G ((b2).toInt64) (1 : Int64) (99 : Int64) x4 hx4) hW hS rfl rfl hl.1 (Nat.le_of_ble_eq_true rfl) ⟨Nat.le_of_ble_eq_true rfl, Nat.le_of_ble_eq_true rfl⟩ dX4_doServe_14 ⟨Nat.zero_le _, Nat.zero_le _⟩ (fun H locs hW hS => ?_)
    refine lv_if_ne (tgt := 23) hx hb dX4_doServe_17 (by decide) (fun q5 => ?_) (fun q5 => ?_)
    · replace hcf := (if_neg q5).symm.trans hcf
      refine lv_aload_n hx hb dX4_doServe_23 rfl (lv_at hl 0 rfl) ?_
      refine lv_iload_n hx hb dX4_doServe_24 rfl (lv_at hl 1 rfl) ?_
      obtain ⟨x6, hx6, hcf⟩ := ob hcf
      refine iv_X4_109 (As := [.int b1]) (rest := []) hx hb hml hown hts hE (ct_X4_stateOf l D cy z n Y V G a0 b1 x6 hx6) hW hS q1 rfl rfl hl.1 (Nat.le_of_ble_eq_true rfl) ⟨Nat.le_of_ble_eq_true rfl, Nat.le_of_ble_eq_true rfl⟩ dX4_doServe_25 ⟨Nat.zero_le _, Nat.zero_le _⟩ (fun H locs hW hS => ?_)
      refine lv_iconst (v := (3 : Int32)) hx hb dX4_doServe_28 (by decide) ?_
      refine lv_icmp_eq (tgt := 35) hx hb dX4_doServe_29 (by decide) (fun q7 => ?_) (fun q7 => ?_)
      · replace hcf := (if_pos q7).symm.trans hcf
        refine lv_aload_n hx hb dX4_doServe_35 rfl (lv_at hl 0 rfl) ?_
        refine lv_iload_n hx hb dX4_doServe_36 rfl (lv_at hl 1 rfl) ?_
        refine lv_bipush (v := (10 : Int32)) hx hb dX4_doServe_37 (by decide) ?_
        refine lv_iload_n hx hb dX4_doServe_39 rfl (lv_at hl 2 rfl) ?_
        obtain ⟨x8, hx8, hcf⟩ := ob hcf
        refine iv_X4_66 (As := [.int b1, .int (10 : Int32), .int b2]) (rest := []) hx hb hml hown hts hE (ct_X4_put l D cy z n Y V G a0 b1 (10 : Int32) b2 x8 hx8) hW hS q1 rfl rfl hl.1 (Nat.le_of_ble_eq_true rfl) ⟨Nat.le_of_ble_eq_true rfl, Nat.le_of_ble_eq_true rfl⟩ dX4_doServe_40 ⟨Nat.zero_le _, Nat.zero_le _⟩ (fun H locs hW hS => ?_)
        refine lv_aload_n hx hb dX4_doServe_43 rfl (lv_at hl 0 rfl) ?_
        refine lv_iload_n hx hb dX4_doServe_44 rfl (lv_at hl 1 rfl) ?_
        refine lv_bipush (v := (9 : Int32)) hx hb dX4_doServe_45 (by decide) ?_
        obtain ⟨x9, hx9, hcf⟩ := ob hcf
        refine iv_X4_46 (As := [.int b1, .int (9 : Int32)]) (rest := []) hx hb hml hown hts hE (ct_X4_get l D cy z n Y x8 G a0 b1 (9 : Int32) x9 hx9) hW hS q1 rfl rfl hl.1 (Nat.le_of_ble_eq_true rfl) ⟨Nat.le_of_ble_eq_true rfl, Nat.le_of_ble_eq_true rfl⟩ dX4_doServe_47 ⟨Nat.zero_le _, Nat.zero_le _⟩ (fun H locs hW hS => ?_)
        have hcf := Option.some.inj hcf; subst hcf
        exact wk_iret hx hb hr hlocks hW hS dX4_doServe_50
      · replace hcf := (if_neg q7).symm.trans hcf
        refine lv_ldc hx hb hown (hts _ q677) dX4_doServe_32 ?_
        have hcf := Option.some.inj hcf; subst hcf
        exact wk_iret hx hb hr hlocks hW hS dX4_doServe_34
    · replace hcf := (if_pos q5).symm.trans hcf
      refine lv_ldc hx hb hown (hts _ q672) dX4_doServe_20 ?_
      have hcf := Option.some.inj hcf; subst hcf
      exact wk_iret hx hb hr hlocks hW hS dX4_doServe_22
set_option maxHeartbeats 4000000 in
set_option maxRecDepth 100000 in
theorem ct_X4_isValue (l : Launch) (D : va_G) (cy : Nat → ClassId) (z n : Nat) (Y : mY) (V : mV) (G : mG) (a0 : Nat) (b1 : Int32) (b2 : Int32) (b3 : Int32) (x : Int32) (hcf : cf_X4_isValue Y V G a0 b1 b2 b3 = some x) : CT l yX4_isValue cX4_isValue 4 (some .boolean) (rmd 2) D cy z [.ref a0, .int b1, .int b2, .int b3] Y n V G (some (.int x)) Y n V G := by
  refine ct_of (by decide) (Nat.le_of_ble_eq_true rfl) ?_
  intro p e s m args below meth c ls hx hb hr hml hown hts hlocks hnm hE hW hl
  have hS : va_S (zA z) s.heap s.heap [] := va_S.rf
  have hl : lv_has ls 4 [(0, .ref a0), (1, .int b1), (2, .int b2), (3, .int b3)] := hl
  have hown : s.vm.findClass RX4 = some m.cls := hown
  rw [cf_X4_isValue] at hcf
  refine lv_iload_n hx hb dX4_isValue_0 rfl (lv_at hl 2 rfl) ?_
  refine lv_if_ne (tgt := 17) hx hb dX4_isValue_1 (by decide) (fun q1 => ?_) (fun q1 => ?_)
  · replace hcf := (if_neg q1).symm.trans hcf
    refine lv_iload_n hx hb dX4_isValue_17 rfl (lv_at hl 2 rfl) ?_
    refine lv_iconst (v := (1 : Int32)) hx hb dX4_isValue_18 (by decide) ?_
    refine lv_icmp_ne (tgt := 34) hx hb dX4_isValue_19 (by decide) (fun q2 => ?_) (fun q2 => ?_)
    · replace hcf := (if_neg q2).symm.trans hcf
      refine lv_iload_n hx hb dX4_isValue_34 rfl (lv_at hl 2 rfl) ?_
      refine lv_iconst (v := (2 : Int32)) hx hb dX4_isValue_35 (by decide) ?_
      refine lv_icmp_ne (tgt := 50) hx hb dX4_isValue_36 (by decide) (fun q3 => ?_) (fun q3 => ?_)
      · replace hcf := (if_neg q3).symm.trans hcf
        refine lv_iconst (v := (0 : Int32)) hx hb dX4_isValue_50 (by decide) ?_
        have hcf := Option.some.inj hcf; subst hcf
        exact wk_zret hx hb hr hlocks (Or.inl rfl) hW hS dX4_isValue_51
      · replace hcf := (if_pos q3).symm.trans hcf
        refine lv_iload_n hx hb dX4_isValue_39 rfl (lv_at hl 3 rfl) ?_
        obtain ⟨x4, hx4, hcf⟩ := ob hcf
        refine iv_X4_78 (As := [.int b3]) (rest := []) hx hb hml hown hts hE (ct_X4_isStage l D cy z n Y V G b3 x4 hx4) hW hS rfl rfl hl.1 (Nat.le_of_ble_eq_true rfl) ⟨Nat.le_of_ble_eq_true rfl, Nat.le_of_ble_eq_true rfl⟩ dX4_isValue_40 ⟨Nat.zero_le _, Nat.zero_le _⟩ (fun H locs hW hS => ?_)
        refine lv_if_eq (tgt := 50) hx hb dX4_isValue_43 (by decide) (fun q5 => ?_) (fun q5 => ?_)
        · replace hcf := (if_pos q5).symm.trans hcf
          refine lv_iconst (v := (0 : Int32)) hx hb dX4_isValue_50 (by decide) ?_
          have hcf := Option.some.inj hcf; subst hcf
          exact wk_zret hx hb hr hlocks (Or.inl rfl) hW hS dX4_isValue_51
        · replace hcf := (if_neg q5).symm.trans hcf
          refine lv_iconst (v := (1 : Int32)) hx hb dX4_isValue_46 (by decide) ?_
          refine lv_goto (tgt := 51) hx hb dX4_isValue_47 (by decide) ?_
          have hcf := Option.some.inj hcf; subst hcf
          exact wk_zret hx hb hr hlocks (Or.inr rfl) hW hS dX4_isValue_51
    · replace hcf := (if_pos q2).symm.trans hcf
      refine lv_iload_n hx hb dX4_isValue_22 rfl (lv_at hl 3 rfl) ?_
      refine lv_i2l hx hb dX4_isValue_23 rfl ?_
      refine lv_lconst (v := (1 : Int64)) hx hb dX4_isValue_24 (by decide) ?_
      refine lv_ldc2 hx hb hown (hts _ q671) dX4_isValue_25 ?_
      obtain ⟨x6, hx6, hcf⟩ := ob hcf
      refine iv_X4_40 (As := [.long ((b3).toInt64), .long (1 : Int64), .long (6 : Int64)]) (rest := []) hx hb hml hown hts hE (ct_X4_in l D cy z n Y V G ((b3).toInt64) (1 : Int64) (6 : Int64) x6 hx6) hW hS rfl rfl hl.1 (Nat.le_of_ble_eq_true rfl) ⟨Nat.le_of_ble_eq_true rfl, Nat.le_of_ble_eq_true rfl⟩ dX4_isValue_28 ⟨Nat.zero_le _, Nat.zero_le _⟩ (fun H locs hW hS => ?_)
      refine lv_goto (tgt := 51) hx hb dX4_isValue_31 (by decide) ?_
      obtain ⟨q7, hcf⟩ := og hcf
      have hcf := Option.some.inj hcf; subst hcf
      exact wk_zret hx hb hr hlocks q7 hW hS dX4_isValue_51
  · replace hcf := (if_pos q1).symm.trans hcf
    refine lv_aload_n hx hb dX4_isValue_4 rfl (lv_at hl 0 rfl) ?_
    refine lv_iload_n hx hb dX4_isValue_5 rfl (lv_at hl 1 rfl) ?_
    refine lv_iconst (v := (0 : Int32)) hx hb dX4_isValue_6 (by decide) ?_
    obtain ⟨q8, hcf⟩ := og hcf
    obtain ⟨x9, hx9, hcf⟩ := ob hcf
    refine iv_X4_46 (As := [.int b1, .int (0 : Int32)]) (rest := []) hx hb hml hown hts hE (ct_X4_get l D cy z n Y V G a0 b1 (0 : Int32) x9 hx9) hW hS q8 rfl rfl hl.1 (Nat.le_of_ble_eq_true rfl) ⟨Nat.le_of_ble_eq_true rfl, Nat.le_of_ble_eq_true rfl⟩ dX4_isValue_7 ⟨Nat.zero_le _, Nat.zero_le _⟩ (fun H locs hW hS => ?_)
    refine lv_iload_n hx hb dX4_isValue_10 rfl (lv_at hl 3 rfl) ?_
    obtain ⟨x10, hx10, hcf⟩ := ob hcf
    refine iv_X4_81 (As := [.int x9, .int b3]) (rest := []) hx hb hml hown hts hE (ct_X4_areDays l D cy z n Y V G x9 b3 x10 hx10) hW hS rfl rfl hl.1 (Nat.le_of_ble_eq_true rfl) ⟨Nat.le_of_ble_eq_true rfl, Nat.le_of_ble_eq_true rfl⟩ dX4_isValue_11 ⟨Nat.zero_le _, Nat.zero_le _⟩ (fun H locs hW hS => ?_)
    refine lv_goto (tgt := 51) hx hb dX4_isValue_14 (by decide) ?_
    obtain ⟨q11, hcf⟩ := og hcf
    have hcf := Option.some.inj hcf; subst hcf
    exact wk_zret hx hb hr hlocks q11 hW hS dX4_isValue_51
set_option maxHeartbeats 4000000 in
set_option maxRecDepth 100000 in
theorem ct_X4_mayVary (l : Launch) (D : va_G) (cy : Nat → ClassId) (z n : Nat) (Y : mY) (V : mV) (G : mG) (a0 : Nat) (b1 : Int32) (b2 : Int32) (b3 : Int32) (x : Int32) (hcf : cf_X4_mayVary Y V G a0 b1 b2 b3 = some x) : CT l yX4_mayVary cX4_mayVary 5 (some .boolean) (rmd 1) D cy z [.ref a0, .int b1, .int b2, .int b3] Y n V G (some (.int x)) Y n V G := by
  refine ct_of (by decide) (Nat.le_of_ble_eq_true rfl) ?_
  intro p e s m args below meth c ls hx hb hr hml hown hts hlocks hnm hE hW hl
  have hS : va_S (zA z) s.heap s.heap [] := va_S.rf
  have hl : lv_has ls 5 [(0, .ref a0), (1, .int b1), (2, .int b2), (3, .int b3)] := hl
  have hown : s.vm.findClass RX4 = some m.cls := hown
  rw [cf_X4_mayVary] at hcf
  refine lv_iload_n hx hb dX4_mayVary_0 rfl (lv_at hl 2 rfl) ?_
  refine lv_if_ne (tgt := 49) hx hb dX4_mayVary_1 (by decide) (fun q1 => ?_) (fun q1 => ?_)
  · replace hcf := (if_neg q1).symm.trans hcf
    refine lv_iload_n hx hb dX4_mayVary_49 rfl (lv_at hl 2 rfl) ?_
    refine lv_iconst (v := (1 : Int32)) hx hb dX4_mayVary_50 (by decide) ?_
    refine lv_icmp_ne (tgt := 72) hx hb dX4_mayVary_51 (by decide) (fun q2 => ?_) (fun q2 => ?_)
    · replace hcf := (if_neg q2).symm.trans hcf
      refine lv_aload_n hx hb dX4_mayVary_72 rfl (lv_at hl 0 rfl) ?_
      refine lv_iload_n hx hb dX4_mayVary_73 rfl (lv_at hl 3 rfl) ?_
      obtain ⟨q3, hcf⟩ := og hcf
      obtain ⟨x4, hx4, hcf⟩ := ob hcf
      refine iv_X4_54 (As := [.int b3]) (rest := []) hx hb hml hown hts hE (ct_X4_hasBegun l D cy z n Y V G a0 b3 x4 hx4) hW hS q3 rfl rfl hl.1 (Nat.le_of_ble_eq_true rfl) ⟨Nat.le_of_ble_eq_true rfl, Nat.le_of_ble_eq_true rfl⟩ dX4_mayVary_74 ⟨Nat.zero_le _, Nat.zero_le _⟩ (fun H locs hW hS => ?_)
      refine lv_if_ne (tgt := 84) hx hb dX4_mayVary_77 (by decide) (fun q5 => ?_) (fun q5 => ?_)
      · replace hcf := (if_neg q5).symm.trans hcf
        refine lv_iconst (v := (0 : Int32)) hx hb dX4_mayVary_84 (by decide) ?_
        have hcf := Option.some.inj hcf; subst hcf
        exact wk_zret hx hb hr hlocks (Or.inl rfl) hW hS dX4_mayVary_85
      · replace hcf := (if_pos q5).symm.trans hcf
        refine lv_iconst (v := (1 : Int32)) hx hb dX4_mayVary_80 (by decide) ?_
        refine lv_goto (tgt := 85) hx hb dX4_mayVary_81 (by decide) ?_
        have hcf := Option.some.inj hcf; subst hcf
        exact wk_zret hx hb hr hlocks (Or.inr rfl) hW hS dX4_mayVary_85
    · replace hcf := (if_pos q2).symm.trans hcf
      refine lv_iload_n hx hb dX4_mayVary_54 rfl (lv_at hl 3 rfl) ?_
      refine lv_aload_n hx hb dX4_mayVary_55 rfl (lv_at hl 0 rfl) ?_
      refine lv_iload_n hx hb dX4_mayVary_56 rfl (lv_at hl 1 rfl) ?_
      refine lv_iconst (v := (3 : Int32)) hx hb dX4_mayVary_57 (by decide) ?_
      obtain ⟨q6, hcf⟩ := og hcf
      obtain ⟨x7, hx7, hcf⟩ := ob hcf
      refine iv_X4_46 (As := [.int b1, .int (3 : Int32)]) (rest := [.int b3]) hx hb hml hown hts hE (ct_X4_get l D cy z n Y V G a0 b1 (3 : Int32) x7 hx7) hW hS q6 rfl rfl hl.1 (Nat.le_of_ble_eq_true rfl) ⟨Nat.le_of_ble_eq_true rfl, Nat.le_of_ble_eq_true rfl⟩ dX4_mayVary_58 ⟨Nat.zero_le _, Nat.zero_le _⟩ (fun H locs hW hS => ?_)
      refine lv_icmp_le (tgt := 68) hx hb dX4_mayVary_61 (by decide) (fun q8 => ?_) (fun q8 => ?_)
      · replace hcf := (if_pos q8).symm.trans hcf
        refine lv_iconst (v := (0 : Int32)) hx hb dX4_mayVary_68 (by decide) ?_
        refine lv_goto (tgt := 85) hx hb dX4_mayVary_69 (by decide) ?_
        have hcf := Option.some.inj hcf; subst hcf
        exact wk_zret hx hb hr hlocks (Or.inl rfl) hW hS dX4_mayVary_85
      · replace hcf := (if_neg q8).symm.trans hcf
        refine lv_iconst (v := (1 : Int32)) hx hb dX4_mayVary_64 (by decide) ?_
        refine lv_goto (tgt := 85) hx hb dX4_mayVary_65 (by decide) ?_
        have hcf := Option.some.inj hcf; subst hcf
        exact wk_zret hx hb hr hlocks (Or.inr rfl) hW hS dX4_mayVary_85
  · replace hcf := (if_pos q1).symm.trans hcf
    refine lv_aload_n hx hb dX4_mayVary_4 rfl (lv_at hl 0 rfl) ?_
    refine lv_iload_n hx hb dX4_mayVary_5 rfl (lv_at hl 1 rfl) ?_
    refine lv_bipush (v := (7 : Int32)) hx hb dX4_mayVary_6 (by decide) ?_
    obtain ⟨q9, hcf⟩ := og hcf
    obtain ⟨x10, hx10, hcf⟩ := ob hcf
    refine iv_X4_46 (As := [.int b1, .int (7 : Int32)]) (rest := []) hx hb hml hown hts hE (ct_X4_get l D cy z n Y V G a0 b1 (7 : Int32) x10 hx10) hW hS q9 rfl rfl hl.1 (Nat.le_of_ble_eq_true rfl) ⟨Nat.le_of_ble_eq_true rfl, Nat.le_of_ble_eq_true rfl⟩ dX4_mayVary_8 ⟨Nat.zero_le _, Nat.zero_le _⟩ (fun H locs hW hS => ?_)
    refine lv_istore (lv' := [(4, .int x10), (0, .ref a0), (1, .int b1), (2, .int b2), (3, .int b3)]) hx hb dX4_mayVary_11 hl (by decide) rfl (fun ls hl => ?_)
    refine lv_aload_n hx hb dX4_mayVary_13 rfl (lv_at hl 1 rfl) ?_
    refine lv_iload_n hx hb dX4_mayVary_14 rfl (lv_at hl 2 rfl) ?_
    refine lv_iconst (v := (0 : Int32)) hx hb dX4_mayVary_15 (by decide) ?_
    obtain ⟨x11, hx11, hcf⟩ := ob hcf
    refine iv_X4_46 (As := [.int b1, .int (0 : Int32)]) (rest := []) hx hb hml hown hts hE (ct_X4_get l D cy z n Y V G a0 b1 (0 : Int32) x11 hx11) hW hS q9 rfl rfl hl.1 (Nat.le_of_ble_eq_true rfl) ⟨Nat.le_of_ble_eq_true rfl, Nat.le_of_ble_eq_true rfl⟩ dX4_mayVary_16 ⟨Nat.zero_le _, Nat.zero_le _⟩ (fun H locs hW hS => ?_)
    refine lv_iconst (v := (2 : Int32)) hx hb dX4_mayVary_19 (by decide) ?_
    refine lv_icmp_ne (tgt := 37) hx hb dX4_mayVary_20 (by decide) (fun q12 => ?_) (fun q12 => ?_)
    · replace hcf := (if_neg q12).symm.trans hcf
      refine lv_iload hx hb dX4_mayVary_37 (lv_at hl 0 rfl) ?_
      refine lv_iload_n hx hb dX4_mayVary_39 rfl (lv_at hl 4 rfl) ?_
      refine lv_icmp_gt (tgt := 47) hx hb dX4_mayVary_40 (by decide) (fun q13 => ?_) (fun q13 => ?_)
      · replace hcf := (if_pos q13).symm.trans hcf
        refine lv_iconst (v := (0 : Int32)) hx hb dX4_mayVary_47 (by decide) ?_
        have hcf := Option.some.inj hcf; subst hcf
        exact wk_zret hx hb hr hlocks (Or.inl rfl) hW hS dX4_mayVary_48
      · replace hcf := (if_neg q13).symm.trans hcf
        refine lv_iconst (v := (1 : Int32)) hx hb dX4_mayVary_43 (by decide) ?_
        refine lv_goto (tgt := 48) hx hb dX4_mayVary_44 (by decide) ?_
        have hcf := Option.some.inj hcf; subst hcf
        exact wk_zret hx hb hr hlocks (Or.inr rfl) hW hS dX4_mayVary_48
    · replace hcf := (if_pos q12).symm.trans hcf
      refine lv_iload hx hb dX4_mayVary_23 (lv_at hl 0 rfl) ?_
      refine lv_iload_n hx hb dX4_mayVary_25 rfl (lv_at hl 4 rfl) ?_
      refine lv_icmp_ge (tgt := 33) hx hb dX4_mayVary_26 (by decide) (fun q14 => ?_) (fun q14 => ?_)
      · replace hcf := (if_pos q14).symm.trans hcf
        refine lv_iconst (v := (0 : Int32)) hx hb dX4_mayVary_33 (by decide) ?_
        refine lv_goto (tgt := 48) hx hb dX4_mayVary_34 (by decide) ?_
        have hcf := Option.some.inj hcf; subst hcf
        exact wk_zret hx hb hr hlocks (Or.inl rfl) hW hS dX4_mayVary_48
      · replace hcf := (if_neg q14).symm.trans hcf
        refine lv_iconst (v := (1 : Int32)) hx hb dX4_mayVary_29 (by decide) ?_
        refine lv_goto (tgt := 48) hx hb dX4_mayVary_30 (by decide) ?_
        have hcf := Option.some.inj hcf; subst hcf
        exact wk_zret hx hb hr hlocks (Or.inr rfl) hW hS dX4_mayVary_48
set_option maxHeartbeats 4000000 in
set_option maxRecDepth 100000 in
theorem ct_X4_doVary (l : Launch) (D : va_G) (cy : Nat → ClassId) (z n : Nat) (Y : mY) (V : mV) (G : mG) (a0 : Nat) (b1 : Int32) (b2 : Int32) (b3 : Int32) (x : Int32 × mV) (hcf : cf_X4_doVary Y V G a0 b1 b2 b3 = some x) : CT l yX4_doVary cX4_doVary 6 (some .int) (rmd 4) D cy z [.ref a0, .int b1, .int b2, .int b3] Y n V G (some (.int x.1)) Y n x.2 G := by
  refine ct_of (by decide) (Nat.le_of_ble_eq_true rfl) ?_
  intro p e s m args below meth c ls hx hb hr hml hown hts hlocks hnm hE hW hl
  have hS : va_S (zA z) s.heap s.heap [] := va_S.rf
  have hl : lv_has ls 6 [(0, .ref a0), (1, .int b1), (2, .int b2), (3, .int b3)] := hl
  have hown : s.vm.findClass RX4 = some m.cls := hown
  rw [cf_X4_doVary] at hcf
  refine lv_aload_n hx hb dX4_doVary_0 rfl (lv_at hl 0 rfl) ?_
  refine lv_iload_n hx hb dX4_doVary_1 rfl (lv_at hl 1 rfl) ?_
  obtain ⟨q1, hcf⟩ := og hcf
  obtain ⟨x2, hx2, hcf⟩ := ob hcf
  refine iv_X4_99 (As := [.int b1]) (rest := []) hx hb hml hown hts hE (ct_X4_isCondition l D cy z n Y V G a0 b1 x2 hx2) hW hS q1 rfl rfl hl.1 (Nat.le_of_ble_eq_true rfl) ⟨Nat.le_of_ble_eq_true rfl, Nat.le_of_ble_eq_true rfl⟩ dX4_doVary_2 ⟨Nat.zero_le _, Nat.zero_le _⟩ (fun H locs hW hS => ?_)
  refine lv_if_eq (tgt := 18) hx hb dX4_doVary_5 (by decide) (fun q3 => ?_) (fun q3 => ?_)
  · replace hcf := (if_pos q3).symm.trans hcf
    refine lv_ldc hx hb hown (hts _ q672) dX4_doVary_18 ?_
    have hcf := Option.some.inj hcf; subst hcf
    exact wk_iret hx hb hr hlocks hW hS dX4_doVary_20
  · replace hcf := (if_neg q3).symm.trans hcf
    refine lv_aload_n hx hb dX4_doVary_8 rfl (lv_at hl 0 rfl) ?_
    refine lv_iload_n hx hb dX4_doVary_9 rfl (lv_at hl 1 rfl) ?_
    refine lv_iload_n hx hb dX4_doVary_10 rfl (lv_at hl 2 rfl) ?_
    refine lv_iload_n hx hb dX4_doVary_11 rfl (lv_at hl 3 rfl) ?_
    obtain ⟨x4, hx4, hcf⟩ := ob hcf
    refine iv_X4_114 (As := [.int b1, .int b2, .int b3]) (rest := []) hx hb hml hown hts hE (ct_X4_isValue l D cy z n Y V G a0 b1 b2 b3 x4 hx4) hW hS q1 rfl rfl hl.1 (Nat.le_of_ble_eq_true rfl) ⟨Nat.le_of_ble_eq_true rfl, Nat.le_of_ble_eq_true rfl⟩ dX4_doVary_12 ⟨Nat.zero_le _, Nat.zero_le _⟩ (fun H locs hW hS => ?_)
    refine lv_if_ne (tgt := 21) hx hb dX4_doVary_15 (by decide) (fun q5 => ?_) (fun q5 => ?_)
    · replace hcf := (if_neg q5).symm.trans hcf
      refine lv_aload_n hx hb dX4_doVary_21 rfl (lv_at hl 0 rfl) ?_
      refine lv_iload_n hx hb dX4_doVary_22 rfl (lv_at hl 1 rfl) ?_
      obtain ⟨x6, hx6, hcf⟩ := ob hcf
      refine iv_X4_109 (As := [.int b1]) (rest := []) hx hb hml hown hts hE (ct_X4_stateOf l D cy z n Y V G a0 b1 x6 hx6) hW hS q1 rfl rfl hl.1 (Nat.le_of_ble_eq_true rfl) ⟨Nat.le_of_ble_eq_true rfl, Nat.le_of_ble_eq_true rfl⟩ dX4_doVary_23 ⟨Nat.zero_le _, Nat.zero_le _⟩ (fun H locs hW hS => ?_)
      refine lv_iconst (v := (1 : Int32)) hx hb dX4_doVary_26 (by decide) ?_
      refine lv_icmp_gt (tgt := 49) hx hb dX4_doVary_27 (by decide) (fun q7 => ?_) (fun q7 => ?_)
      · replace hcf := (if_pos q7).symm.trans hcf
        refine lv_ldc hx hb hown (hts _ q677) dX4_doVary_49 ?_
        have hcf := Option.some.inj hcf; subst hcf
        exact wk_iret hx hb hr hlocks hW hS dX4_doVary_51
      · replace hcf := (if_neg q7).symm.trans hcf
        refine lv_aload_n hx hb dX4_doVary_30 rfl (lv_at hl 0 rfl) ?_
        refine lv_iload_n hx hb dX4_doVary_31 rfl (lv_at hl 1 rfl) ?_
        refine lv_iconst (v := (5 : Int32)) hx hb dX4_doVary_32 (by decide) ?_
        obtain ⟨x8, hx8, hcf⟩ := ob hcf
        refine iv_X4_46 (As := [.int b1, .int (5 : Int32)]) (rest := []) hx hb hml hown hts hE (ct_X4_get l D cy z n Y V G a0 b1 (5 : Int32) x8 hx8) hW hS q1 rfl rfl hl.1 (Nat.le_of_ble_eq_true rfl) ⟨Nat.le_of_ble_eq_true rfl, Nat.le_of_ble_eq_true rfl⟩ dX4_doVary_33 ⟨Nat.zero_le _, Nat.zero_le _⟩ (fun H locs hW hS => ?_)
        refine lv_if_ne (tgt := 49) hx hb dX4_doVary_36 (by decide) (fun q9 => ?_) (fun q9 => ?_)
        · replace hcf := (if_neg q9).symm.trans hcf
          refine lv_ldc hx hb hown (hts _ q677) dX4_doVary_49 ?_
          have hcf := Option.some.inj hcf; subst hcf
          exact wk_iret hx hb hr hlocks hW hS dX4_doVary_51
        · replace hcf := (if_pos q9).symm.trans hcf
          refine lv_aload_n hx hb dX4_doVary_39 rfl (lv_at hl 0 rfl) ?_
          refine lv_iload_n hx hb dX4_doVary_40 rfl (lv_at hl 1 rfl) ?_
          refine lv_iload_n hx hb dX4_doVary_41 rfl (lv_at hl 2 rfl) ?_
          refine lv_iload_n hx hb dX4_doVary_42 rfl (lv_at hl 3 rfl) ?_
          obtain ⟨x10, hx10, hcf⟩ := ob hcf
          refine iv_X4_118 (As := [.int b1, .int b2, .int b3]) (rest := []) hx hb hml hown hts hE (ct_X4_mayVary l D cy z n Y V G a0 b1 b2 b3 x10 hx10) hW hS q1 rfl rfl hl.1 (Nat.le_of_ble_eq_true rfl) ⟨Nat.le_of_ble_eq_true rfl, Nat.le_of_ble_eq_true rfl⟩ dX4_doVary_43 ⟨Nat.zero_le _, Nat.zero_le _⟩ (fun H locs hW hS => ?_)
          refine lv_if_ne (tgt := 52) hx hb dX4_doVary_46 (by decide) (fun q11 => ?_) (fun q11 => ?_)
          · replace hcf := (if_neg q11).symm.trans hcf
            refine lv_iload_n hx hb dX4_doVary_52 rfl (lv_at hl 2 rfl) ?_
            refine lv_if_ne (tgt := 60) hx hb dX4_doVary_53 (by decide) (fun q12 => ?_) (fun q12 => ?_)
            · replace hcf := (if_neg q12).symm.trans hcf
              refine lv_iload_n hx hb dX4_doVary_60 rfl (lv_at hl 2 rfl) ?_
              refine lv_iconst (v := (1 : Int32)) hx hb dX4_doVary_61 (by decide) ?_
              refine lv_icmp_ne (tgt := 69) hx hb dX4_doVary_62 (by decide) (fun q13 => ?_) (fun q13 => ?_)
              · replace hcf := (if_neg q13).symm.trans hcf
                refine lv_iconst (v := (1 : Int32)) hx hb dX4_doVary_69 (by decide) ?_
                refine lv_istore (lv' := [(4, .int (1 : Int32)), (0, .ref a0), (1, .int b1), (2, .int b2), (3, .int b3)]) hx hb dX4_doVary_70 hl (by decide) rfl (fun ls hl => ?_)
                refine lv_aload_n hx hb dX4_doVary_72 rfl (lv_at hl 1 rfl) ?_
                refine lv_iload_n hx hb dX4_doVary_73 rfl (lv_at hl 2 rfl) ?_
                refine lv_iload hx hb dX4_doVary_74 (lv_at hl 0 rfl) ?_
                obtain ⟨x14, hx14, hcf⟩ := ob hcf
                refine iv_X4_46 (As := [.int b1, .int (1 : Int32)]) (rest := []) hx hb hml hown hts hE (ct_X4_get l D cy z n Y V G a0 b1 (1 : Int32) x14 hx14) hW hS q1 rfl rfl hl.1 (Nat.le_of_ble_eq_true rfl) ⟨Nat.le_of_ble_eq_true rfl, Nat.le_of_ble_eq_true rfl⟩ dX4_doVary_76 ⟨Nat.zero_le _, Nat.zero_le _⟩ (fun H locs hW hS => ?_)
                refine lv_istore (lv' := [(5, .int x14), (4, .int (1 : Int32)), (0, .ref a0), (1, .int b1), (2, .int b2), (3, .int b3)]) hx hb dX4_doVary_79 hl (by decide) rfl (fun ls hl => ?_)
                refine lv_aload_n hx hb dX4_doVary_81 rfl (lv_at hl 2 rfl) ?_
                refine lv_iload_n hx hb dX4_doVary_82 rfl (lv_at hl 3 rfl) ?_
                refine lv_iload hx hb dX4_doVary_83 (lv_at hl 1 rfl) ?_
                refine lv_iload_n hx hb dX4_doVary_85 rfl (lv_at hl 5 rfl) ?_
                obtain ⟨x15, hx15, hcf⟩ := ob hcf
                refine iv_X4_66 (As := [.int b1, .int (1 : Int32), .int b3]) (rest := []) hx hb hml hown hts hE (ct_X4_put l D cy z n Y V G a0 b1 (1 : Int32) b3 x15 hx15) hW hS q1 rfl rfl hl.1 (Nat.le_of_ble_eq_true rfl) ⟨Nat.le_of_ble_eq_true rfl, Nat.le_of_ble_eq_true rfl⟩ dX4_doVary_86 ⟨Nat.zero_le _, Nat.zero_le _⟩ (fun H locs hW hS => ?_)
                refine lv_iload_n hx hb dX4_doVary_89 rfl (lv_at hl 4 rfl) ?_
                refine lv_iconst (v := (2 : Int32)) hx hb dX4_doVary_90 (by decide) ?_
                refine lv_icmp_ne (tgt := 102) hx hb dX4_doVary_91 (by decide) (fun q16 => ?_) (fun q16 => ?_)
                · replace hcf := (if_neg q16).symm.trans hcf
                  refine lv_iload hx hb dX4_doVary_102 (lv_at hl 0 rfl) ?_
                  have hcf := Option.some.inj hcf; subst hcf
                  exact wk_iret hx hb hr hlocks hW hS dX4_doVary_104
                · replace hcf := (if_pos q16).symm.trans hcf
                  refine lv_aload_n hx hb dX4_doVary_94 rfl (lv_at hl 2 rfl) ?_
                  refine lv_iload_n hx hb dX4_doVary_95 rfl (lv_at hl 3 rfl) ?_
                  refine lv_bipush (v := (7 : Int32)) hx hb dX4_doVary_96 (by decide) ?_
                  refine lv_iconst (v := (0 : Int32)) hx hb dX4_doVary_98 (by decide) ?_
                  obtain ⟨x17, hx17, hcf⟩ := ob hcf
                  refine iv_X4_66 (As := [.int b1, .int (7 : Int32), .int (0 : Int32)]) (rest := []) hx hb hml hown hts hE (ct_X4_put l D cy z n Y x15 G a0 b1 (7 : Int32) (0 : Int32) x17 hx17) hW hS q1 rfl rfl hl.1 (Nat.le_of_ble_eq_true rfl) ⟨Nat.le_of_ble_eq_true rfl, Nat.le_of_ble_eq_true rfl⟩ dX4_doVary_99 ⟨Nat.zero_le _, Nat.zero_le _⟩ (fun H locs hW hS => ?_)
                  refine lv_iload hx hb dX4_doVary_102 (lv_at hl 0 rfl) ?_
                  have hcf := Option.some.inj hcf; subst hcf
                  exact wk_iret hx hb hr hlocks hW hS dX4_doVary_104
              · replace hcf := (if_pos q13).symm.trans hcf
                refine lv_iconst (v := (3 : Int32)) hx hb dX4_doVary_65 (by decide) ?_
                refine lv_goto (tgt := 70) hx hb dX4_doVary_66 (by decide) ?_
                refine lv_istore (lv' := [(4, .int (3 : Int32)), (0, .ref a0), (1, .int b1), (2, .int b2), (3, .int b3)]) hx hb dX4_doVary_70 hl (by decide) rfl (fun ls hl => ?_)
                refine lv_aload_n hx hb dX4_doVary_72 rfl (lv_at hl 1 rfl) ?_
                refine lv_iload_n hx hb dX4_doVary_73 rfl (lv_at hl 2 rfl) ?_
                refine lv_iload hx hb dX4_doVary_74 (lv_at hl 0 rfl) ?_
                obtain ⟨x18, hx18, hcf⟩ := ob hcf
                refine iv_X4_46 (As := [.int b1, .int (3 : Int32)]) (rest := []) hx hb hml hown hts hE (ct_X4_get l D cy z n Y V G a0 b1 (3 : Int32) x18 hx18) hW hS q1 rfl rfl hl.1 (Nat.le_of_ble_eq_true rfl) ⟨Nat.le_of_ble_eq_true rfl, Nat.le_of_ble_eq_true rfl⟩ dX4_doVary_76 ⟨Nat.zero_le _, Nat.zero_le _⟩ (fun H locs hW hS => ?_)
                refine lv_istore (lv' := [(5, .int x18), (4, .int (3 : Int32)), (0, .ref a0), (1, .int b1), (2, .int b2), (3, .int b3)]) hx hb dX4_doVary_79 hl (by decide) rfl (fun ls hl => ?_)
                refine lv_aload_n hx hb dX4_doVary_81 rfl (lv_at hl 2 rfl) ?_
                refine lv_iload_n hx hb dX4_doVary_82 rfl (lv_at hl 3 rfl) ?_
                refine lv_iload hx hb dX4_doVary_83 (lv_at hl 1 rfl) ?_
                refine lv_iload_n hx hb dX4_doVary_85 rfl (lv_at hl 5 rfl) ?_
                obtain ⟨x19, hx19, hcf⟩ := ob hcf
                refine iv_X4_66 (As := [.int b1, .int (3 : Int32), .int b3]) (rest := []) hx hb hml hown hts hE (ct_X4_put l D cy z n Y V G a0 b1 (3 : Int32) b3 x19 hx19) hW hS q1 rfl rfl hl.1 (Nat.le_of_ble_eq_true rfl) ⟨Nat.le_of_ble_eq_true rfl, Nat.le_of_ble_eq_true rfl⟩ dX4_doVary_86 ⟨Nat.zero_le _, Nat.zero_le _⟩ (fun H locs hW hS => ?_)
                refine lv_iload_n hx hb dX4_doVary_89 rfl (lv_at hl 4 rfl) ?_
                refine lv_iconst (v := (2 : Int32)) hx hb dX4_doVary_90 (by decide) ?_
                refine lv_icmp_ne (tgt := 102) hx hb dX4_doVary_91 (by decide) (fun q20 => ?_) (fun q20 => ?_)
                · replace hcf := (if_neg q20).symm.trans hcf
                  refine lv_iload hx hb dX4_doVary_102 (lv_at hl 0 rfl) ?_
                  have hcf := Option.some.inj hcf; subst hcf
                  exact wk_iret hx hb hr hlocks hW hS dX4_doVary_104
                · replace hcf := (if_pos q20).symm.trans hcf
                  refine lv_aload_n hx hb dX4_doVary_94 rfl (lv_at hl 2 rfl) ?_
                  refine lv_iload_n hx hb dX4_doVary_95 rfl (lv_at hl 3 rfl) ?_
                  refine lv_bipush (v := (7 : Int32)) hx hb dX4_doVary_96 (by decide) ?_
                  refine lv_iconst (v := (0 : Int32)) hx hb dX4_doVary_98 (by decide) ?_
                  obtain ⟨x21, hx21, hcf⟩ := ob hcf
                  refine iv_X4_66 (As := [.int b1, .int (7 : Int32), .int (0 : Int32)]) (rest := []) hx hb hml hown hts hE (ct_X4_put l D cy z n Y x19 G a0 b1 (7 : Int32) (0 : Int32) x21 hx21) hW hS q1 rfl rfl hl.1 (Nat.le_of_ble_eq_true rfl) ⟨Nat.le_of_ble_eq_true rfl, Nat.le_of_ble_eq_true rfl⟩ dX4_doVary_99 ⟨Nat.zero_le _, Nat.zero_le _⟩ (fun H locs hW hS => ?_)
                  refine lv_iload hx hb dX4_doVary_102 (lv_at hl 0 rfl) ?_
                  have hcf := Option.some.inj hcf; subst hcf
                  exact wk_iret hx hb hr hlocks hW hS dX4_doVary_104
            · replace hcf := (if_pos q12).symm.trans hcf
              refine lv_iconst (v := (2 : Int32)) hx hb dX4_doVary_56 (by decide) ?_
              refine lv_goto (tgt := 70) hx hb dX4_doVary_57 (by decide) ?_
              refine lv_istore (lv' := [(4, .int (2 : Int32)), (0, .ref a0), (1, .int b1), (2, .int b2), (3, .int b3)]) hx hb dX4_doVary_70 hl (by decide) rfl (fun ls hl => ?_)
              refine lv_aload_n hx hb dX4_doVary_72 rfl (lv_at hl 1 rfl) ?_
              refine lv_iload_n hx hb dX4_doVary_73 rfl (lv_at hl 2 rfl) ?_
              refine lv_iload hx hb dX4_doVary_74 (lv_at hl 0 rfl) ?_
              obtain ⟨x22, hx22, hcf⟩ := ob hcf
              refine iv_X4_46 (As := [.int b1, .int (2 : Int32)]) (rest := []) hx hb hml hown hts hE (ct_X4_get l D cy z n Y V G a0 b1 (2 : Int32) x22 hx22) hW hS q1 rfl rfl hl.1 (Nat.le_of_ble_eq_true rfl) ⟨Nat.le_of_ble_eq_true rfl, Nat.le_of_ble_eq_true rfl⟩ dX4_doVary_76 ⟨Nat.zero_le _, Nat.zero_le _⟩ (fun H locs hW hS => ?_)
              refine lv_istore (lv' := [(5, .int x22), (4, .int (2 : Int32)), (0, .ref a0), (1, .int b1), (2, .int b2), (3, .int b3)]) hx hb dX4_doVary_79 hl (by decide) rfl (fun ls hl => ?_)
              refine lv_aload_n hx hb dX4_doVary_81 rfl (lv_at hl 2 rfl) ?_
              refine lv_iload_n hx hb dX4_doVary_82 rfl (lv_at hl 3 rfl) ?_
              refine lv_iload hx hb dX4_doVary_83 (lv_at hl 1 rfl) ?_
              refine lv_iload_n hx hb dX4_doVary_85 rfl (lv_at hl 5 rfl) ?_
              obtain ⟨x23, hx23, hcf⟩ := ob hcf
              refine iv_X4_66 (As := [.int b1, .int (2 : Int32), .int b3]) (rest := []) hx hb hml hown hts hE (ct_X4_put l D cy z n Y V G a0 b1 (2 : Int32) b3 x23 hx23) hW hS q1 rfl rfl hl.1 (Nat.le_of_ble_eq_true rfl) ⟨Nat.le_of_ble_eq_true rfl, Nat.le_of_ble_eq_true rfl⟩ dX4_doVary_86 ⟨Nat.zero_le _, Nat.zero_le _⟩ (fun H locs hW hS => ?_)
              refine lv_iload_n hx hb dX4_doVary_89 rfl (lv_at hl 4 rfl) ?_
              refine lv_iconst (v := (2 : Int32)) hx hb dX4_doVary_90 (by decide) ?_
              refine lv_icmp_ne (tgt := 102) hx hb dX4_doVary_91 (by decide) (fun q24 => ?_) (fun q24 => ?_)
              · replace hcf := (if_neg q24).symm.trans hcf
                refine lv_iload hx hb dX4_doVary_102 (lv_at hl 0 rfl) ?_
                have hcf := Option.some.inj hcf; subst hcf
                exact wk_iret hx hb hr hlocks hW hS dX4_doVary_104
              · replace hcf := (if_pos q24).symm.trans hcf
                refine lv_aload_n hx hb dX4_doVary_94 rfl (lv_at hl 2 rfl) ?_
                refine lv_iload_n hx hb dX4_doVary_95 rfl (lv_at hl 3 rfl) ?_
                refine lv_bipush (v := (7 : Int32)) hx hb dX4_doVary_96 (by decide) ?_
                refine lv_iconst (v := (0 : Int32)) hx hb dX4_doVary_98 (by decide) ?_
                obtain ⟨x25, hx25, hcf⟩ := ob hcf
                refine iv_X4_66 (As := [.int b1, .int (7 : Int32), .int (0 : Int32)]) (rest := []) hx hb hml hown hts hE (ct_X4_put l D cy z n Y x23 G a0 b1 (7 : Int32) (0 : Int32) x25 hx25) hW hS q1 rfl rfl hl.1 (Nat.le_of_ble_eq_true rfl) ⟨Nat.le_of_ble_eq_true rfl, Nat.le_of_ble_eq_true rfl⟩ dX4_doVary_99 ⟨Nat.zero_le _, Nat.zero_le _⟩ (fun H locs hW hS => ?_)
                refine lv_iload hx hb dX4_doVary_102 (lv_at hl 0 rfl) ?_
                have hcf := Option.some.inj hcf; subst hcf
                exact wk_iret hx hb hr hlocks hW hS dX4_doVary_104
          · replace hcf := (if_pos q11).symm.trans hcf
            refine lv_ldc hx hb hown (hts _ q677) dX4_doVary_49 ?_
            have hcf := Option.some.inj hcf; subst hcf
            exact wk_iret hx hb hr hlocks hW hS dX4_doVary_51
    · replace hcf := (if_pos q5).symm.trans hcf
      refine lv_ldc hx hb hown (hts _ q672) dX4_doVary_18 ?_
      have hcf := Option.some.inj hcf; subst hcf
      exact wk_iret hx hb hr hlocks hW hS dX4_doVary_20
set_option maxHeartbeats 4000000 in
set_option maxRecDepth 100000 in
theorem ct_X4_waitsOn (l : Launch) (D : va_G) (cy : Nat → ClassId) (z n : Nat) (Y : mY) (V : mV) (G : mG) (a0 : Nat) (b1 : Int32) (x : mV) (hcf : cf_X4_waitsOn Y V G a0 b1 = some x) : CT l yX4_waitsOn cX4_waitsOn 2 none (rmd 4) D cy z [.ref a0, .int b1] Y n V G none Y n x G := by
  refine ct_of (by decide) (Nat.le_of_ble_eq_true rfl) ?_
  intro p e s m args below meth c ls hx hb hr hml hown hts hlocks hnm hE hW hl
  have hS : va_S (zA z) s.heap s.heap [] := va_S.rf
  have hl : lv_has ls 2 [(0, .ref a0), (1, .int b1)] := hl
  have hown : s.vm.findClass RX4 = some m.cls := hown
  rw [cf_X4_waitsOn] at hcf
  refine lv_aload_n hx hb dX4_waitsOn_0 rfl (lv_at hl 0 rfl) ?_
  refine lv_iload_n hx hb dX4_waitsOn_1 rfl (lv_at hl 1 rfl) ?_
  refine lv_iconst (v := (5 : Int32)) hx hb dX4_waitsOn_2 (by decide) ?_
  obtain ⟨q1, hcf⟩ := og hcf
  obtain ⟨x2, hx2, hcf⟩ := ob hcf
  refine iv_X4_46 (As := [.int b1, .int (5 : Int32)]) (rest := []) hx hb hml hown hts hE (ct_X4_get l D cy z n Y V G a0 b1 (5 : Int32) x2 hx2) hW hS q1 rfl rfl hl.1 (Nat.le_of_ble_eq_true rfl) ⟨Nat.le_of_ble_eq_true rfl, Nat.le_of_ble_eq_true rfl⟩ dX4_waitsOn_3 ⟨Nat.zero_le _, Nat.zero_le _⟩ (fun H locs hW hS => ?_)
  refine lv_if_ne (tgt := 10) hx hb dX4_waitsOn_6 (by decide) (fun q3 => ?_) (fun q3 => ?_)
  · replace hcf := (if_neg q3).symm.trans hcf
    refine lv_aload_n hx hb dX4_waitsOn_10 rfl (lv_at hl 0 rfl) ?_
    refine lv_iload_n hx hb dX4_waitsOn_11 rfl (lv_at hl 1 rfl) ?_
    refine lv_bipush (v := (6 : Int32)) hx hb dX4_waitsOn_12 (by decide) ?_
    refine lv_aload_n hx hb dX4_waitsOn_14 rfl (lv_at hl 0 rfl) ?_
    refine lv_iload_n hx hb dX4_waitsOn_15 rfl (lv_at hl 1 rfl) ?_
    refine lv_bipush (v := (6 : Int32)) hx hb dX4_waitsOn_16 (by decide) ?_
    obtain ⟨x4, hx4, hcf⟩ := ob hcf
    refine iv_X4_46 (As := [.int b1, .int (6 : Int32)]) (rest := [.int (6 : Int32), .int b1, .ref a0]) hx hb hml hown hts hE (ct_X4_get l D cy z n Y V G a0 b1 (6 : Int32) x4 hx4) hW hS q1 rfl rfl hl.1 (Nat.le_of_ble_eq_true rfl) ⟨Nat.le_of_ble_eq_true rfl, Nat.le_of_ble_eq_true rfl⟩ dX4_waitsOn_18 ⟨Nat.zero_le _, Nat.zero_le _⟩ (fun H locs hW hS => ?_)
    refine lv_iconst (v := (1 : Int32)) hx hb dX4_waitsOn_21 (by decide) ?_
    refine lv_iadd hx hb dX4_waitsOn_22 ?_
    obtain ⟨x5, hx5, hcf⟩ := ob hcf
    refine iv_X4_66 (As := [.int b1, .int (6 : Int32), .int (x4 + (1 : Int32))]) (rest := []) hx hb hml hown hts hE (ct_X4_put l D cy z n Y V G a0 b1 (6 : Int32) (x4 + (1 : Int32)) x5 hx5) hW hS q1 rfl rfl hl.1 (Nat.le_of_ble_eq_true rfl) ⟨Nat.le_of_ble_eq_true rfl, Nat.le_of_ble_eq_true rfl⟩ dX4_waitsOn_23 ⟨Nat.zero_le _, Nat.zero_le _⟩ (fun H locs hW hS => ?_)
    refine lv_aload_n hx hb dX4_waitsOn_26 rfl (lv_at hl 0 rfl) ?_
    refine lv_iload_n hx hb dX4_waitsOn_27 rfl (lv_at hl 1 rfl) ?_
    refine lv_bipush (v := (6 : Int32)) hx hb dX4_waitsOn_28 (by decide) ?_
    obtain ⟨x6, hx6, hcf⟩ := ob hcf
    refine iv_X4_46 (As := [.int b1, .int (6 : Int32)]) (rest := []) hx hb hml hown hts hE (ct_X4_get l D cy z n Y x5 G a0 b1 (6 : Int32) x6 hx6) hW hS q1 rfl rfl hl.1 (Nat.le_of_ble_eq_true rfl) ⟨Nat.le_of_ble_eq_true rfl, Nat.le_of_ble_eq_true rfl⟩ dX4_waitsOn_30 ⟨Nat.zero_le _, Nat.zero_le _⟩ (fun H locs hW hS => ?_)
    refine lv_aload_n hx hb dX4_waitsOn_33 rfl (lv_at hl 0 rfl) ?_
    obtain ⟨r7, hr7, hcf⟩ := ob hcf
    refine gf_X4_7 hx hb hts hown hE hW q1 hr7 dX4_waitsOn_34 ?_
    refine lv_iconst (v := (2 : Int32)) hx hb dX4_waitsOn_37 (by decide) ?_
    obtain ⟨q8, hcf⟩ := og hcf
    obtain ⟨q9, hcf⟩ := og hcf
    refine wk_iald hx hb hE hW q8 q9 dX4_waitsOn_38 ?_
    refine lv_icmp_lt (tgt := 71) hx hb dX4_waitsOn_39 (by decide) (fun q10 => ?_) (fun q10 => ?_)
    · replace hcf := (if_pos q10).symm.trans hcf
      have hcf := Option.some.inj hcf; subst hcf
      exact wk_vret hx hb hr hlocks hW hS dX4_waitsOn_71
    · replace hcf := (if_neg q10).symm.trans hcf
      refine lv_aload_n hx hb dX4_waitsOn_42 rfl (lv_at hl 0 rfl) ?_
      refine gf_X4_7 hx hb hts hown hE hW q1 hr7 dX4_waitsOn_43 ?_
      refine lv_iconst (v := (5 : Int32)) hx hb dX4_waitsOn_46 (by decide) ?_
      refine lv_dup2_11 hx hb dX4_waitsOn_47 rfl rfl ?_
      obtain ⟨q11, hcf⟩ := og hcf
      refine wk_iald hx hb hE hW q8 q11 dX4_waitsOn_48 ?_
      refine lv_aload_n hx hb dX4_waitsOn_49 rfl (lv_at hl 0 rfl) ?_
      refine lv_iload_n hx hb dX4_waitsOn_50 rfl (lv_at hl 1 rfl) ?_
      refine lv_iconst (v := (5 : Int32)) hx hb dX4_waitsOn_51 (by decide) ?_
      obtain ⟨x12, hx12, hcf⟩ := ob hcf
      refine iv_X4_46 (As := [.int b1, .int (5 : Int32)]) (rest := [.int (x5 r7 (5 : Int32).toNatClampNeg), .int (5 : Int32), .ref r7]) hx hb hml hown hts hE (ct_X4_get l D cy z n Y x5 G a0 b1 (5 : Int32) x12 hx12) hW hS q1 rfl rfl hl.1 (Nat.le_of_ble_eq_true rfl) ⟨Nat.le_of_ble_eq_true rfl, Nat.le_of_ble_eq_true rfl⟩ dX4_waitsOn_52 ⟨Nat.zero_le _, Nat.zero_le _⟩ (fun H locs hW hS => ?_)
      obtain ⟨x13, hx13, hcf⟩ := ob hcf
      refine iv_X4_106 (As := [.int x12]) (rest := [.int (x5 r7 (5 : Int32).toNatClampNeg), .int (5 : Int32), .ref r7]) hx hb hml hown hts hE (ct_X4_bits l D cy z n Y x5 G x12 x13 hx13) hW hS rfl rfl hl.1 (Nat.le_of_ble_eq_true rfl) ⟨Nat.le_of_ble_eq_true rfl, Nat.le_of_ble_eq_true rfl⟩ dX4_waitsOn_55 ⟨Nat.zero_le _, Nat.zero_le _⟩ (fun H locs hW hS => ?_)
      refine lv_iadd hx hb dX4_waitsOn_58 ?_
      obtain ⟨q14, hcf⟩ := og hcf
      refine wk_iast hx hb hE hW hS q8 q14 dX4_waitsOn_59 (fun H locs hW hS => ?_)
      refine lv_aload_n hx hb dX4_waitsOn_60 rfl (lv_at hl 0 rfl) ?_
      refine lv_iload_n hx hb dX4_waitsOn_61 rfl (lv_at hl 1 rfl) ?_
      refine lv_aload_n hx hb dX4_waitsOn_62 rfl (lv_at hl 0 rfl) ?_
      refine lv_iload_n hx hb dX4_waitsOn_63 rfl (lv_at hl 1 rfl) ?_
      refine lv_iconst (v := (5 : Int32)) hx hb dX4_waitsOn_64 (by decide) ?_
      obtain ⟨x15, hx15, hcf⟩ := ob hcf
      refine iv_X4_46 (As := [.int b1, .int (5 : Int32)]) (rest := [.int b1, .ref a0]) hx hb hml hown hts hE (ct_X4_get l D cy z n Y (up2 x5 r7 (5 : Int32).toNatClampNeg ((x5 r7 (5 : Int32).toNatClampNeg) + x13)) G a0 b1 (5 : Int32) x15 hx15) hW hS q1 rfl rfl hl.1 (Nat.le_of_ble_eq_true rfl) ⟨Nat.le_of_ble_eq_true rfl, Nat.le_of_ble_eq_true rfl⟩ dX4_waitsOn_65 ⟨Nat.zero_le _, Nat.zero_le _⟩ (fun H locs hW hS => ?_)
      obtain ⟨x16, hx16, hcf⟩ := ob hcf
      refine iv_X4_102 (As := [.int b1, .int x15]) (rest := []) hx hb hml hown hts hE (ct_X4_approves l D cy z n Y (up2 x5 r7 (5 : Int32).toNatClampNeg ((x5 r7 (5 : Int32).toNatClampNeg) + x13)) G a0 b1 x15 x16 hx16) hW hS q1 rfl rfl hl.1 (Nat.le_of_ble_eq_true rfl) ⟨Nat.le_of_ble_eq_true rfl, Nat.le_of_ble_eq_true rfl⟩ dX4_waitsOn_68 ⟨Nat.zero_le _, Nat.zero_le _⟩ (fun H locs hW hS => ?_)
      have hcf := Option.some.inj hcf; subst hcf
      exact wk_vret hx hb hr hlocks hW hS dX4_waitsOn_71
  · replace hcf := (if_pos q3).symm.trans hcf
    have hcf := Option.some.inj hcf; subst hcf
    exact wk_vret hx hb hr hlocks hW hS dX4_waitsOn_9
set_option maxHeartbeats 4000000 in
set_option maxRecDepth 100000 in
theorem ct_X4_runsOn (l : Launch) (D : va_G) (cy : Nat → ClassId) (z n : Nat) (Y : mY) (V : mV) (G : mG) (a0 : Nat) (b1 : Int32) (x : mV) (hcf : cf_X4_runsOn Y V G a0 b1 = some x) : CT l yX4_runsOn cX4_runsOn 4 none (rmd 4) D cy z [.ref a0, .int b1] Y n V G none Y n x G := by
  refine ct_of (by decide) (Nat.le_of_ble_eq_true rfl) ?_
  intro p e s m args below meth c ls hx hb hr hml hown hts hlocks hnm hE hW hl
  have hS : va_S (zA z) s.heap s.heap [] := va_S.rf
  have hl : lv_has ls 4 [(0, .ref a0), (1, .int b1)] := hl
  have hown : s.vm.findClass RX4 = some m.cls := hown
  rw [cf_X4_runsOn] at hcf
  refine lv_aload_n hx hb dX4_runsOn_0 rfl (lv_at hl 0 rfl) ?_
  refine lv_iload_n hx hb dX4_runsOn_1 rfl (lv_at hl 1 rfl) ?_
  refine lv_iconst (v := (0 : Int32)) hx hb dX4_runsOn_2 (by decide) ?_
  obtain ⟨q1, hcf⟩ := og hcf
  obtain ⟨x2, hx2, hcf⟩ := ob hcf
  refine iv_X4_46 (As := [.int b1, .int (0 : Int32)]) (rest := []) hx hb hml hown hts hE (ct_X4_get l D cy z n Y V G a0 b1 (0 : Int32) x2 hx2) hW hS q1 rfl rfl hl.1 (Nat.le_of_ble_eq_true rfl) ⟨Nat.le_of_ble_eq_true rfl, Nat.le_of_ble_eq_true rfl⟩ dX4_runsOn_3 ⟨Nat.zero_le _, Nat.zero_le _⟩ (fun H locs hW hS => ?_)
  refine lv_istore_n (lv' := [(2, .int x2), (0, .ref a0), (1, .int b1)]) hx hb dX4_runsOn_6 rfl hl (by decide) rfl (fun ls hl => ?_)
  refine lv_aload_n hx hb dX4_runsOn_7 rfl (lv_at hl 1 rfl) ?_
  refine lv_iload_n hx hb dX4_runsOn_8 rfl (lv_at hl 2 rfl) ?_
  obtain ⟨x3, hx3, hcf⟩ := ob hcf
  refine iv_X4_109 (As := [.int b1]) (rest := []) hx hb hml hown hts hE (ct_X4_stateOf l D cy z n Y V G a0 b1 x3 hx3) hW hS q1 rfl rfl hl.1 (Nat.le_of_ble_eq_true rfl) ⟨Nat.le_of_ble_eq_true rfl, Nat.le_of_ble_eq_true rfl⟩ dX4_runsOn_9 ⟨Nat.zero_le _, Nat.zero_le _⟩ (fun H locs hW hS => ?_)
  refine lv_iconst (v := (1 : Int32)) hx hb dX4_runsOn_12 (by decide) ?_
  refine lv_icmp_ne (tgt := 39) hx hb dX4_runsOn_13 (by decide) (fun q4 => ?_) (fun q4 => ?_)
  · replace hcf := (if_neg q4).symm.trans hcf
    refine lv_iconst (v := (0 : Int32)) hx hb dX4_runsOn_39 (by decide) ?_
    refine lv_istore_n (lv' := [(3, .int (0 : Int32)), (2, .int x2), (0, .ref a0), (1, .int b1)]) hx hb dX4_runsOn_40 rfl hl (by decide) rfl (fun ls hl => ?_)
    refine lv_iload_n hx hb dX4_runsOn_41 rfl (lv_at hl 0 rfl) ?_
    refine lv_if_eq (tgt := 87) hx hb dX4_runsOn_42 (by decide) (fun q5 => ?_) (fun q5 => ?_)
    · replace hcf := (if_pos q5).symm.trans hcf
      have hcf := Option.some.inj hcf; subst hcf
      exact wk_vret hx hb hr hlocks hW hS dX4_runsOn_87
    · replace hcf := (if_neg q5).symm.trans hcf
      refine lv_aload_n hx hb dX4_runsOn_45 rfl (lv_at hl 2 rfl) ?_
      refine lv_iload_n hx hb dX4_runsOn_46 rfl (lv_at hl 3 rfl) ?_
      refine lv_bipush (v := (7 : Int32)) hx hb dX4_runsOn_47 (by decide) ?_
      refine lv_aload_n hx hb dX4_runsOn_49 rfl (lv_at hl 2 rfl) ?_
      refine lv_iload_n hx hb dX4_runsOn_50 rfl (lv_at hl 3 rfl) ?_
      refine lv_bipush (v := (7 : Int32)) hx hb dX4_runsOn_51 (by decide) ?_
      obtain ⟨x6, hx6, hcf⟩ := ob hcf
      refine iv_X4_46 (As := [.int b1, .int (7 : Int32)]) (rest := [.int (7 : Int32), .int b1, .ref a0]) hx hb hml hown hts hE (ct_X4_get l D cy z n Y V G a0 b1 (7 : Int32) x6 hx6) hW hS q1 rfl rfl hl.1 (Nat.le_of_ble_eq_true rfl) ⟨Nat.le_of_ble_eq_true rfl, Nat.le_of_ble_eq_true rfl⟩ dX4_runsOn_53 ⟨Nat.zero_le _, Nat.zero_le _⟩ (fun H locs hW hS => ?_)
      refine lv_iconst (v := (1 : Int32)) hx hb dX4_runsOn_56 (by decide) ?_
      refine lv_iadd hx hb dX4_runsOn_57 ?_
      obtain ⟨x7, hx7, hcf⟩ := ob hcf
      refine iv_X4_66 (As := [.int b1, .int (7 : Int32), .int (x6 + (1 : Int32))]) (rest := []) hx hb hml hown hts hE (ct_X4_put l D cy z n Y V G a0 b1 (7 : Int32) (x6 + (1 : Int32)) x7 hx7) hW hS q1 rfl rfl hl.1 (Nat.le_of_ble_eq_true rfl) ⟨Nat.le_of_ble_eq_true rfl, Nat.le_of_ble_eq_true rfl⟩ dX4_runsOn_58 ⟨Nat.zero_le _, Nat.zero_le _⟩ (fun H locs hW hS => ?_)
      refine lv_iload_n hx hb dX4_runsOn_61 rfl (lv_at hl 1 rfl) ?_
      refine lv_iconst (v := (1 : Int32)) hx hb dX4_runsOn_62 (by decide) ?_
      refine lv_icmp_ne (tgt := 87) hx hb dX4_runsOn_63 (by decide) (fun q8 => ?_) (fun q8 => ?_)
      · replace hcf := (if_neg q8).symm.trans hcf
        have hcf := Option.some.inj hcf; subst hcf
        exact wk_vret hx hb hr hlocks hW hS dX4_runsOn_87
      · replace hcf := (if_pos q8).symm.trans hcf
        refine lv_aload_n hx hb dX4_runsOn_66 rfl (lv_at hl 2 rfl) ?_
        refine lv_iload_n hx hb dX4_runsOn_67 rfl (lv_at hl 3 rfl) ?_
        refine lv_bipush (v := (7 : Int32)) hx hb dX4_runsOn_68 (by decide) ?_
        obtain ⟨x9, hx9, hcf⟩ := ob hcf
        refine iv_X4_46 (As := [.int b1, .int (7 : Int32)]) (rest := []) hx hb hml hown hts hE (ct_X4_get l D cy z n Y x7 G a0 b1 (7 : Int32) x9 hx9) hW hS q1 rfl rfl hl.1 (Nat.le_of_ble_eq_true rfl) ⟨Nat.le_of_ble_eq_true rfl, Nat.le_of_ble_eq_true rfl⟩ dX4_runsOn_70 ⟨Nat.zero_le _, Nat.zero_le _⟩ (fun H locs hW hS => ?_)
        refine lv_aload_n hx hb dX4_runsOn_73 rfl (lv_at hl 2 rfl) ?_
        refine lv_iload_n hx hb dX4_runsOn_74 rfl (lv_at hl 3 rfl) ?_
        refine lv_iconst (v := (2 : Int32)) hx hb dX4_runsOn_75 (by decide) ?_
        obtain ⟨x10, hx10, hcf⟩ := ob hcf
        refine iv_X4_46 (As := [.int b1, .int (2 : Int32)]) (rest := [.int x9]) hx hb hml hown hts hE (ct_X4_get l D cy z n Y x7 G a0 b1 (2 : Int32) x10 hx10) hW hS q1 rfl rfl hl.1 (Nat.le_of_ble_eq_true rfl) ⟨Nat.le_of_ble_eq_true rfl, Nat.le_of_ble_eq_true rfl⟩ dX4_runsOn_76 ⟨Nat.zero_le _, Nat.zero_le _⟩ (fun H locs hW hS => ?_)
        refine lv_icmp_le (tgt := 87) hx hb dX4_runsOn_79 (by decide) (fun q11 => ?_) (fun q11 => ?_)
        · replace hcf := (if_pos q11).symm.trans hcf
          have hcf := Option.some.inj hcf; subst hcf
          exact wk_vret hx hb hr hlocks hW hS dX4_runsOn_87
        · replace hcf := (if_neg q11).symm.trans hcf
          refine lv_aload_n hx hb dX4_runsOn_82 rfl (lv_at hl 2 rfl) ?_
          refine lv_iload_n hx hb dX4_runsOn_83 rfl (lv_at hl 3 rfl) ?_
          obtain ⟨x12, hx12, hcf⟩ := ob hcf
          refine iv_X4_96 (As := [.int b1]) (rest := []) hx hb hml hown hts hE (ct_X4_breaks l D cy z n Y x7 G a0 b1 x12 hx12) hW hS q1 rfl rfl hl.1 (Nat.le_of_ble_eq_true rfl) ⟨Nat.le_of_ble_eq_true rfl, Nat.le_of_ble_eq_true rfl⟩ dX4_runsOn_84 ⟨Nat.zero_le _, Nat.zero_le _⟩ (fun H locs hW hS => ?_)
          have hcf := Option.some.inj hcf; subst hcf
          exact wk_vret hx hb hr hlocks hW hS dX4_runsOn_87
  · replace hcf := (if_pos q4).symm.trans hcf
    refine lv_iload_n hx hb dX4_runsOn_16 rfl (lv_at hl 0 rfl) ?_
    refine lv_iconst (v := (2 : Int32)) hx hb dX4_runsOn_17 (by decide) ?_
    refine lv_icmp_eq (tgt := 35) hx hb dX4_runsOn_18 (by decide) (fun q13 => ?_) (fun q13 => ?_)
    · replace hcf := (if_pos q13).symm.trans hcf
      refine lv_iconst (v := (1 : Int32)) hx hb dX4_runsOn_35 (by decide) ?_
      refine lv_goto (tgt := 40) hx hb dX4_runsOn_36 (by decide) ?_
      refine lv_istore_n (lv' := [(3, .int (1 : Int32)), (2, .int x2), (0, .ref a0), (1, .int b1)]) hx hb dX4_runsOn_40 rfl hl (by decide) rfl (fun ls hl => ?_)
      refine lv_iload_n hx hb dX4_runsOn_41 rfl (lv_at hl 0 rfl) ?_
      refine lv_if_eq (tgt := 87) hx hb dX4_runsOn_42 (by decide) (fun q14 => ?_) (fun q14 => ?_)
      · replace hcf := (if_pos q14).symm.trans hcf
        have hcf := Option.some.inj hcf; subst hcf
        exact wk_vret hx hb hr hlocks hW hS dX4_runsOn_87
      · replace hcf := (if_neg q14).symm.trans hcf
        refine lv_aload_n hx hb dX4_runsOn_45 rfl (lv_at hl 2 rfl) ?_
        refine lv_iload_n hx hb dX4_runsOn_46 rfl (lv_at hl 3 rfl) ?_
        refine lv_bipush (v := (7 : Int32)) hx hb dX4_runsOn_47 (by decide) ?_
        refine lv_aload_n hx hb dX4_runsOn_49 rfl (lv_at hl 2 rfl) ?_
        refine lv_iload_n hx hb dX4_runsOn_50 rfl (lv_at hl 3 rfl) ?_
        refine lv_bipush (v := (7 : Int32)) hx hb dX4_runsOn_51 (by decide) ?_
        obtain ⟨x15, hx15, hcf⟩ := ob hcf
        refine iv_X4_46 (As := [.int b1, .int (7 : Int32)]) (rest := [.int (7 : Int32), .int b1, .ref a0]) hx hb hml hown hts hE (ct_X4_get l D cy z n Y V G a0 b1 (7 : Int32) x15 hx15) hW hS q1 rfl rfl hl.1 (Nat.le_of_ble_eq_true rfl) ⟨Nat.le_of_ble_eq_true rfl, Nat.le_of_ble_eq_true rfl⟩ dX4_runsOn_53 ⟨Nat.zero_le _, Nat.zero_le _⟩ (fun H locs hW hS => ?_)
        refine lv_iconst (v := (1 : Int32)) hx hb dX4_runsOn_56 (by decide) ?_
        refine lv_iadd hx hb dX4_runsOn_57 ?_
        obtain ⟨x16, hx16, hcf⟩ := ob hcf
        refine iv_X4_66 (As := [.int b1, .int (7 : Int32), .int (x15 + (1 : Int32))]) (rest := []) hx hb hml hown hts hE (ct_X4_put l D cy z n Y V G a0 b1 (7 : Int32) (x15 + (1 : Int32)) x16 hx16) hW hS q1 rfl rfl hl.1 (Nat.le_of_ble_eq_true rfl) ⟨Nat.le_of_ble_eq_true rfl, Nat.le_of_ble_eq_true rfl⟩ dX4_runsOn_58 ⟨Nat.zero_le _, Nat.zero_le _⟩ (fun H locs hW hS => ?_)
        refine lv_iload_n hx hb dX4_runsOn_61 rfl (lv_at hl 1 rfl) ?_
        refine lv_iconst (v := (1 : Int32)) hx hb dX4_runsOn_62 (by decide) ?_
        refine lv_icmp_ne (tgt := 87) hx hb dX4_runsOn_63 (by decide) (fun q17 => ?_) (fun q17 => ?_)
        · replace hcf := (if_neg q17).symm.trans hcf
          have hcf := Option.some.inj hcf; subst hcf
          exact wk_vret hx hb hr hlocks hW hS dX4_runsOn_87
        · replace hcf := (if_pos q17).symm.trans hcf
          refine lv_aload_n hx hb dX4_runsOn_66 rfl (lv_at hl 2 rfl) ?_
          refine lv_iload_n hx hb dX4_runsOn_67 rfl (lv_at hl 3 rfl) ?_
          refine lv_bipush (v := (7 : Int32)) hx hb dX4_runsOn_68 (by decide) ?_
          obtain ⟨x18, hx18, hcf⟩ := ob hcf
          refine iv_X4_46 (As := [.int b1, .int (7 : Int32)]) (rest := []) hx hb hml hown hts hE (ct_X4_get l D cy z n Y x16 G a0 b1 (7 : Int32) x18 hx18) hW hS q1 rfl rfl hl.1 (Nat.le_of_ble_eq_true rfl) ⟨Nat.le_of_ble_eq_true rfl, Nat.le_of_ble_eq_true rfl⟩ dX4_runsOn_70 ⟨Nat.zero_le _, Nat.zero_le _⟩ (fun H locs hW hS => ?_)
          refine lv_aload_n hx hb dX4_runsOn_73 rfl (lv_at hl 2 rfl) ?_
          refine lv_iload_n hx hb dX4_runsOn_74 rfl (lv_at hl 3 rfl) ?_
          refine lv_iconst (v := (2 : Int32)) hx hb dX4_runsOn_75 (by decide) ?_
          obtain ⟨x19, hx19, hcf⟩ := ob hcf
          refine iv_X4_46 (As := [.int b1, .int (2 : Int32)]) (rest := [.int x18]) hx hb hml hown hts hE (ct_X4_get l D cy z n Y x16 G a0 b1 (2 : Int32) x19 hx19) hW hS q1 rfl rfl hl.1 (Nat.le_of_ble_eq_true rfl) ⟨Nat.le_of_ble_eq_true rfl, Nat.le_of_ble_eq_true rfl⟩ dX4_runsOn_76 ⟨Nat.zero_le _, Nat.zero_le _⟩ (fun H locs hW hS => ?_)
          refine lv_icmp_le (tgt := 87) hx hb dX4_runsOn_79 (by decide) (fun q20 => ?_) (fun q20 => ?_)
          · replace hcf := (if_pos q20).symm.trans hcf
            have hcf := Option.some.inj hcf; subst hcf
            exact wk_vret hx hb hr hlocks hW hS dX4_runsOn_87
          · replace hcf := (if_neg q20).symm.trans hcf
            refine lv_aload_n hx hb dX4_runsOn_82 rfl (lv_at hl 2 rfl) ?_
            refine lv_iload_n hx hb dX4_runsOn_83 rfl (lv_at hl 3 rfl) ?_
            obtain ⟨x21, hx21, hcf⟩ := ob hcf
            refine iv_X4_96 (As := [.int b1]) (rest := []) hx hb hml hown hts hE (ct_X4_breaks l D cy z n Y x16 G a0 b1 x21 hx21) hW hS q1 rfl rfl hl.1 (Nat.le_of_ble_eq_true rfl) ⟨Nat.le_of_ble_eq_true rfl, Nat.le_of_ble_eq_true rfl⟩ dX4_runsOn_84 ⟨Nat.zero_le _, Nat.zero_le _⟩ (fun H locs hW hS => ?_)
            have hcf := Option.some.inj hcf; subst hcf
            exact wk_vret hx hb hr hlocks hW hS dX4_runsOn_87
    · replace hcf := (if_neg q13).symm.trans hcf
      refine lv_iload_n hx hb dX4_runsOn_21 rfl (lv_at hl 0 rfl) ?_
      refine lv_iconst (v := (1 : Int32)) hx hb dX4_runsOn_22 (by decide) ?_
      refine lv_icmp_ne (tgt := 39) hx hb dX4_runsOn_23 (by decide) (fun q22 => ?_) (fun q22 => ?_)
      · replace hcf := (if_neg q22).symm.trans hcf
        refine lv_iconst (v := (0 : Int32)) hx hb dX4_runsOn_39 (by decide) ?_
        refine lv_istore_n (lv' := [(3, .int (0 : Int32)), (2, .int x2), (0, .ref a0), (1, .int b1)]) hx hb dX4_runsOn_40 rfl hl (by decide) rfl (fun ls hl => ?_)
        refine lv_iload_n hx hb dX4_runsOn_41 rfl (lv_at hl 0 rfl) ?_
        refine lv_if_eq (tgt := 87) hx hb dX4_runsOn_42 (by decide) (fun q23 => ?_) (fun q23 => ?_)
        · replace hcf := (if_pos q23).symm.trans hcf
          have hcf := Option.some.inj hcf; subst hcf
          exact wk_vret hx hb hr hlocks hW hS dX4_runsOn_87
        · replace hcf := (if_neg q23).symm.trans hcf
          refine lv_aload_n hx hb dX4_runsOn_45 rfl (lv_at hl 2 rfl) ?_
          refine lv_iload_n hx hb dX4_runsOn_46 rfl (lv_at hl 3 rfl) ?_
          refine lv_bipush (v := (7 : Int32)) hx hb dX4_runsOn_47 (by decide) ?_
          refine lv_aload_n hx hb dX4_runsOn_49 rfl (lv_at hl 2 rfl) ?_
          refine lv_iload_n hx hb dX4_runsOn_50 rfl (lv_at hl 3 rfl) ?_
          refine lv_bipush (v := (7 : Int32)) hx hb dX4_runsOn_51 (by decide) ?_
          obtain ⟨x24, hx24, hcf⟩ := ob hcf
          refine iv_X4_46 (As := [.int b1, .int (7 : Int32)]) (rest := [.int (7 : Int32), .int b1, .ref a0]) hx hb hml hown hts hE (ct_X4_get l D cy z n Y V G a0 b1 (7 : Int32) x24 hx24) hW hS q1 rfl rfl hl.1 (Nat.le_of_ble_eq_true rfl) ⟨Nat.le_of_ble_eq_true rfl, Nat.le_of_ble_eq_true rfl⟩ dX4_runsOn_53 ⟨Nat.zero_le _, Nat.zero_le _⟩ (fun H locs hW hS => ?_)
          refine lv_iconst (v := (1 : Int32)) hx hb dX4_runsOn_56 (by decide) ?_
          refine lv_iadd hx hb dX4_runsOn_57 ?_
          obtain ⟨x25, hx25, hcf⟩ := ob hcf
          refine iv_X4_66 (As := [.int b1, .int (7 : Int32), .int (x24 + (1 : Int32))]) (rest := []) hx hb hml hown hts hE (ct_X4_put l D cy z n Y V G a0 b1 (7 : Int32) (x24 + (1 : Int32)) x25 hx25) hW hS q1 rfl rfl hl.1 (Nat.le_of_ble_eq_true rfl) ⟨Nat.le_of_ble_eq_true rfl, Nat.le_of_ble_eq_true rfl⟩ dX4_runsOn_58 ⟨Nat.zero_le _, Nat.zero_le _⟩ (fun H locs hW hS => ?_)
          refine lv_iload_n hx hb dX4_runsOn_61 rfl (lv_at hl 1 rfl) ?_
          refine lv_iconst (v := (1 : Int32)) hx hb dX4_runsOn_62 (by decide) ?_
          refine lv_icmp_ne (tgt := 87) hx hb dX4_runsOn_63 (by decide) (fun q26 => ?_) (fun q26 => ?_)
          · replace hcf := (if_neg q26).symm.trans hcf
            have hcf := Option.some.inj hcf; subst hcf
            exact wk_vret hx hb hr hlocks hW hS dX4_runsOn_87
          · replace hcf := (if_pos q26).symm.trans hcf
            refine lv_aload_n hx hb dX4_runsOn_66 rfl (lv_at hl 2 rfl) ?_
            refine lv_iload_n hx hb dX4_runsOn_67 rfl (lv_at hl 3 rfl) ?_
            refine lv_bipush (v := (7 : Int32)) hx hb dX4_runsOn_68 (by decide) ?_
            obtain ⟨x27, hx27, hcf⟩ := ob hcf
            refine iv_X4_46 (As := [.int b1, .int (7 : Int32)]) (rest := []) hx hb hml hown hts hE (ct_X4_get l D cy z n Y x25 G a0 b1 (7 : Int32) x27 hx27) hW hS q1 rfl rfl hl.1 (Nat.le_of_ble_eq_true rfl) ⟨Nat.le_of_ble_eq_true rfl, Nat.le_of_ble_eq_true rfl⟩ dX4_runsOn_70 ⟨Nat.zero_le _, Nat.zero_le _⟩ (fun H locs hW hS => ?_)
            refine lv_aload_n hx hb dX4_runsOn_73 rfl (lv_at hl 2 rfl) ?_
            refine lv_iload_n hx hb dX4_runsOn_74 rfl (lv_at hl 3 rfl) ?_
            refine lv_iconst (v := (2 : Int32)) hx hb dX4_runsOn_75 (by decide) ?_
            obtain ⟨x28, hx28, hcf⟩ := ob hcf
            refine iv_X4_46 (As := [.int b1, .int (2 : Int32)]) (rest := [.int x27]) hx hb hml hown hts hE (ct_X4_get l D cy z n Y x25 G a0 b1 (2 : Int32) x28 hx28) hW hS q1 rfl rfl hl.1 (Nat.le_of_ble_eq_true rfl) ⟨Nat.le_of_ble_eq_true rfl, Nat.le_of_ble_eq_true rfl⟩ dX4_runsOn_76 ⟨Nat.zero_le _, Nat.zero_le _⟩ (fun H locs hW hS => ?_)
            refine lv_icmp_le (tgt := 87) hx hb dX4_runsOn_79 (by decide) (fun q29 => ?_) (fun q29 => ?_)
            · replace hcf := (if_pos q29).symm.trans hcf
              have hcf := Option.some.inj hcf; subst hcf
              exact wk_vret hx hb hr hlocks hW hS dX4_runsOn_87
            · replace hcf := (if_neg q29).symm.trans hcf
              refine lv_aload_n hx hb dX4_runsOn_82 rfl (lv_at hl 2 rfl) ?_
              refine lv_iload_n hx hb dX4_runsOn_83 rfl (lv_at hl 3 rfl) ?_
              obtain ⟨x30, hx30, hcf⟩ := ob hcf
              refine iv_X4_96 (As := [.int b1]) (rest := []) hx hb hml hown hts hE (ct_X4_breaks l D cy z n Y x25 G a0 b1 x30 hx30) hW hS q1 rfl rfl hl.1 (Nat.le_of_ble_eq_true rfl) ⟨Nat.le_of_ble_eq_true rfl, Nat.le_of_ble_eq_true rfl⟩ dX4_runsOn_84 ⟨Nat.zero_le _, Nat.zero_le _⟩ (fun H locs hW hS => ?_)
              have hcf := Option.some.inj hcf; subst hcf
              exact wk_vret hx hb hr hlocks hW hS dX4_runsOn_87
      · replace hcf := (if_pos q22).symm.trans hcf
        refine lv_aload_n hx hb dX4_runsOn_26 rfl (lv_at hl 1 rfl) ?_
        refine lv_iload_n hx hb dX4_runsOn_27 rfl (lv_at hl 2 rfl) ?_
        refine lv_iconst (v := (5 : Int32)) hx hb dX4_runsOn_28 (by decide) ?_
        obtain ⟨x31, hx31, hcf⟩ := ob hcf
        refine iv_X4_46 (As := [.int b1, .int (5 : Int32)]) (rest := []) hx hb hml hown hts hE (ct_X4_get l D cy z n Y V G a0 b1 (5 : Int32) x31 hx31) hW hS q1 rfl rfl hl.1 (Nat.le_of_ble_eq_true rfl) ⟨Nat.le_of_ble_eq_true rfl, Nat.le_of_ble_eq_true rfl⟩ dX4_runsOn_29 ⟨Nat.zero_le _, Nat.zero_le _⟩ (fun H locs hW hS => ?_)
        refine lv_if_ne (tgt := 39) hx hb dX4_runsOn_32 (by decide) (fun q32 => ?_) (fun q32 => ?_)
        · replace hcf := (if_neg q32).symm.trans hcf
          refine lv_iconst (v := (0 : Int32)) hx hb dX4_runsOn_39 (by decide) ?_
          refine lv_istore_n (lv' := [(3, .int (0 : Int32)), (2, .int x2), (0, .ref a0), (1, .int b1)]) hx hb dX4_runsOn_40 rfl hl (by decide) rfl (fun ls hl => ?_)
          refine lv_iload_n hx hb dX4_runsOn_41 rfl (lv_at hl 0 rfl) ?_
          refine lv_if_eq (tgt := 87) hx hb dX4_runsOn_42 (by decide) (fun q33 => ?_) (fun q33 => ?_)
          · replace hcf := (if_pos q33).symm.trans hcf
            have hcf := Option.some.inj hcf; subst hcf
            exact wk_vret hx hb hr hlocks hW hS dX4_runsOn_87
          · replace hcf := (if_neg q33).symm.trans hcf
            refine lv_aload_n hx hb dX4_runsOn_45 rfl (lv_at hl 2 rfl) ?_
            refine lv_iload_n hx hb dX4_runsOn_46 rfl (lv_at hl 3 rfl) ?_
            refine lv_bipush (v := (7 : Int32)) hx hb dX4_runsOn_47 (by decide) ?_
            refine lv_aload_n hx hb dX4_runsOn_49 rfl (lv_at hl 2 rfl) ?_
            refine lv_iload_n hx hb dX4_runsOn_50 rfl (lv_at hl 3 rfl) ?_
            refine lv_bipush (v := (7 : Int32)) hx hb dX4_runsOn_51 (by decide) ?_
            obtain ⟨x34, hx34, hcf⟩ := ob hcf
            refine iv_X4_46 (As := [.int b1, .int (7 : Int32)]) (rest := [.int (7 : Int32), .int b1, .ref a0]) hx hb hml hown hts hE (ct_X4_get l D cy z n Y V G a0 b1 (7 : Int32) x34 hx34) hW hS q1 rfl rfl hl.1 (Nat.le_of_ble_eq_true rfl) ⟨Nat.le_of_ble_eq_true rfl, Nat.le_of_ble_eq_true rfl⟩ dX4_runsOn_53 ⟨Nat.zero_le _, Nat.zero_le _⟩ (fun H locs hW hS => ?_)
            refine lv_iconst (v := (1 : Int32)) hx hb dX4_runsOn_56 (by decide) ?_
            refine lv_iadd hx hb dX4_runsOn_57 ?_
            obtain ⟨x35, hx35, hcf⟩ := ob hcf
            refine iv_X4_66 (As := [.int b1, .int (7 : Int32), .int (x34 + (1 : Int32))]) (rest := []) hx hb hml hown hts hE (ct_X4_put l D cy z n Y V G a0 b1 (7 : Int32) (x34 + (1 : Int32)) x35 hx35) hW hS q1 rfl rfl hl.1 (Nat.le_of_ble_eq_true rfl) ⟨Nat.le_of_ble_eq_true rfl, Nat.le_of_ble_eq_true rfl⟩ dX4_runsOn_58 ⟨Nat.zero_le _, Nat.zero_le _⟩ (fun H locs hW hS => ?_)
            refine lv_iload_n hx hb dX4_runsOn_61 rfl (lv_at hl 1 rfl) ?_
            refine lv_iconst (v := (1 : Int32)) hx hb dX4_runsOn_62 (by decide) ?_
            refine lv_icmp_ne (tgt := 87) hx hb dX4_runsOn_63 (by decide) (fun q36 => ?_) (fun q36 => ?_)
            · replace hcf := (if_neg q36).symm.trans hcf
              have hcf := Option.some.inj hcf; subst hcf
              exact wk_vret hx hb hr hlocks hW hS dX4_runsOn_87
            · replace hcf := (if_pos q36).symm.trans hcf
              refine lv_aload_n hx hb dX4_runsOn_66 rfl (lv_at hl 2 rfl) ?_
              refine lv_iload_n hx hb dX4_runsOn_67 rfl (lv_at hl 3 rfl) ?_
              refine lv_bipush (v := (7 : Int32)) hx hb dX4_runsOn_68 (by decide) ?_
              obtain ⟨x37, hx37, hcf⟩ := ob hcf
              refine iv_X4_46 (As := [.int b1, .int (7 : Int32)]) (rest := []) hx hb hml hown hts hE (ct_X4_get l D cy z n Y x35 G a0 b1 (7 : Int32) x37 hx37) hW hS q1 rfl rfl hl.1 (Nat.le_of_ble_eq_true rfl) ⟨Nat.le_of_ble_eq_true rfl, Nat.le_of_ble_eq_true rfl⟩ dX4_runsOn_70 ⟨Nat.zero_le _, Nat.zero_le _⟩ (fun H locs hW hS => ?_)
              refine lv_aload_n hx hb dX4_runsOn_73 rfl (lv_at hl 2 rfl) ?_
              refine lv_iload_n hx hb dX4_runsOn_74 rfl (lv_at hl 3 rfl) ?_
              refine lv_iconst (v := (2 : Int32)) hx hb dX4_runsOn_75 (by decide) ?_
              obtain ⟨x38, hx38, hcf⟩ := ob hcf
              refine iv_X4_46 (As := [.int b1, .int (2 : Int32)]) (rest := [.int x37]) hx hb hml hown hts hE (ct_X4_get l D cy z n Y x35 G a0 b1 (2 : Int32) x38 hx38) hW hS q1 rfl rfl hl.1 (Nat.le_of_ble_eq_true rfl) ⟨Nat.le_of_ble_eq_true rfl, Nat.le_of_ble_eq_true rfl⟩ dX4_runsOn_76 ⟨Nat.zero_le _, Nat.zero_le _⟩ (fun H locs hW hS => ?_)
              refine lv_icmp_le (tgt := 87) hx hb dX4_runsOn_79 (by decide) (fun q39 => ?_) (fun q39 => ?_)
              · replace hcf := (if_pos q39).symm.trans hcf
                have hcf := Option.some.inj hcf; subst hcf
                exact wk_vret hx hb hr hlocks hW hS dX4_runsOn_87
              · replace hcf := (if_neg q39).symm.trans hcf
                refine lv_aload_n hx hb dX4_runsOn_82 rfl (lv_at hl 2 rfl) ?_
                refine lv_iload_n hx hb dX4_runsOn_83 rfl (lv_at hl 3 rfl) ?_
                obtain ⟨x40, hx40, hcf⟩ := ob hcf
                refine iv_X4_96 (As := [.int b1]) (rest := []) hx hb hml hown hts hE (ct_X4_breaks l D cy z n Y x35 G a0 b1 x40 hx40) hW hS q1 rfl rfl hl.1 (Nat.le_of_ble_eq_true rfl) ⟨Nat.le_of_ble_eq_true rfl, Nat.le_of_ble_eq_true rfl⟩ dX4_runsOn_84 ⟨Nat.zero_le _, Nat.zero_le _⟩ (fun H locs hW hS => ?_)
                have hcf := Option.some.inj hcf; subst hcf
                exact wk_vret hx hb hr hlocks hW hS dX4_runsOn_87
        · replace hcf := (if_pos q32).symm.trans hcf
          refine lv_iconst (v := (1 : Int32)) hx hb dX4_runsOn_35 (by decide) ?_
          refine lv_goto (tgt := 40) hx hb dX4_runsOn_36 (by decide) ?_
          refine lv_istore_n (lv' := [(3, .int (1 : Int32)), (2, .int x2), (0, .ref a0), (1, .int b1)]) hx hb dX4_runsOn_40 rfl hl (by decide) rfl (fun ls hl => ?_)
          refine lv_iload_n hx hb dX4_runsOn_41 rfl (lv_at hl 0 rfl) ?_
          refine lv_if_eq (tgt := 87) hx hb dX4_runsOn_42 (by decide) (fun q41 => ?_) (fun q41 => ?_)
          · replace hcf := (if_pos q41).symm.trans hcf
            have hcf := Option.some.inj hcf; subst hcf
            exact wk_vret hx hb hr hlocks hW hS dX4_runsOn_87
          · replace hcf := (if_neg q41).symm.trans hcf
            refine lv_aload_n hx hb dX4_runsOn_45 rfl (lv_at hl 2 rfl) ?_
            refine lv_iload_n hx hb dX4_runsOn_46 rfl (lv_at hl 3 rfl) ?_
            refine lv_bipush (v := (7 : Int32)) hx hb dX4_runsOn_47 (by decide) ?_
            refine lv_aload_n hx hb dX4_runsOn_49 rfl (lv_at hl 2 rfl) ?_
            refine lv_iload_n hx hb dX4_runsOn_50 rfl (lv_at hl 3 rfl) ?_
            refine lv_bipush (v := (7 : Int32)) hx hb dX4_runsOn_51 (by decide) ?_
            obtain ⟨x42, hx42, hcf⟩ := ob hcf
            refine iv_X4_46 (As := [.int b1, .int (7 : Int32)]) (rest := [.int (7 : Int32), .int b1, .ref a0]) hx hb hml hown hts hE (ct_X4_get l D cy z n Y V G a0 b1 (7 : Int32) x42 hx42) hW hS q1 rfl rfl hl.1 (Nat.le_of_ble_eq_true rfl) ⟨Nat.le_of_ble_eq_true rfl, Nat.le_of_ble_eq_true rfl⟩ dX4_runsOn_53 ⟨Nat.zero_le _, Nat.zero_le _⟩ (fun H locs hW hS => ?_)
            refine lv_iconst (v := (1 : Int32)) hx hb dX4_runsOn_56 (by decide) ?_
            refine lv_iadd hx hb dX4_runsOn_57 ?_
            obtain ⟨x43, hx43, hcf⟩ := ob hcf
            refine iv_X4_66 (As := [.int b1, .int (7 : Int32), .int (x42 + (1 : Int32))]) (rest := []) hx hb hml hown hts hE (ct_X4_put l D cy z n Y V G a0 b1 (7 : Int32) (x42 + (1 : Int32)) x43 hx43) hW hS q1 rfl rfl hl.1 (Nat.le_of_ble_eq_true rfl) ⟨Nat.le_of_ble_eq_true rfl, Nat.le_of_ble_eq_true rfl⟩ dX4_runsOn_58 ⟨Nat.zero_le _, Nat.zero_le _⟩ (fun H locs hW hS => ?_)
            refine lv_iload_n hx hb dX4_runsOn_61 rfl (lv_at hl 1 rfl) ?_
            refine lv_iconst (v := (1 : Int32)) hx hb dX4_runsOn_62 (by decide) ?_
            refine lv_icmp_ne (tgt := 87) hx hb dX4_runsOn_63 (by decide) (fun q44 => ?_) (fun q44 => ?_)
            · replace hcf := (if_neg q44).symm.trans hcf
              have hcf := Option.some.inj hcf; subst hcf
              exact wk_vret hx hb hr hlocks hW hS dX4_runsOn_87
            · replace hcf := (if_pos q44).symm.trans hcf
              refine lv_aload_n hx hb dX4_runsOn_66 rfl (lv_at hl 2 rfl) ?_
              refine lv_iload_n hx hb dX4_runsOn_67 rfl (lv_at hl 3 rfl) ?_
              refine lv_bipush (v := (7 : Int32)) hx hb dX4_runsOn_68 (by decide) ?_
              obtain ⟨x45, hx45, hcf⟩ := ob hcf
              refine iv_X4_46 (As := [.int b1, .int (7 : Int32)]) (rest := []) hx hb hml hown hts hE (ct_X4_get l D cy z n Y x43 G a0 b1 (7 : Int32) x45 hx45) hW hS q1 rfl rfl hl.1 (Nat.le_of_ble_eq_true rfl) ⟨Nat.le_of_ble_eq_true rfl, Nat.le_of_ble_eq_true rfl⟩ dX4_runsOn_70 ⟨Nat.zero_le _, Nat.zero_le _⟩ (fun H locs hW hS => ?_)
              refine lv_aload_n hx hb dX4_runsOn_73 rfl (lv_at hl 2 rfl) ?_
              refine lv_iload_n hx hb dX4_runsOn_74 rfl (lv_at hl 3 rfl) ?_
              refine lv_iconst (v := (2 : Int32)) hx hb dX4_runsOn_75 (by decide) ?_
              obtain ⟨x46, hx46, hcf⟩ := ob hcf
              refine iv_X4_46 (As := [.int b1, .int (2 : Int32)]) (rest := [.int x45]) hx hb hml hown hts hE (ct_X4_get l D cy z n Y x43 G a0 b1 (2 : Int32) x46 hx46) hW hS q1 rfl rfl hl.1 (Nat.le_of_ble_eq_true rfl) ⟨Nat.le_of_ble_eq_true rfl, Nat.le_of_ble_eq_true rfl⟩ dX4_runsOn_76 ⟨Nat.zero_le _, Nat.zero_le _⟩ (fun H locs hW hS => ?_)
              refine lv_icmp_le (tgt := 87) hx hb dX4_runsOn_79 (by decide) (fun q47 => ?_) (fun q47 => ?_)
              · replace hcf := (if_pos q47).symm.trans hcf
                have hcf := Option.some.inj hcf; subst hcf
                exact wk_vret hx hb hr hlocks hW hS dX4_runsOn_87
              · replace hcf := (if_neg q47).symm.trans hcf
                refine lv_aload_n hx hb dX4_runsOn_82 rfl (lv_at hl 2 rfl) ?_
                refine lv_iload_n hx hb dX4_runsOn_83 rfl (lv_at hl 3 rfl) ?_
                obtain ⟨x48, hx48, hcf⟩ := ob hcf
                refine iv_X4_96 (As := [.int b1]) (rest := []) hx hb hml hown hts hE (ct_X4_breaks l D cy z n Y x43 G a0 b1 x48 hx48) hW hS q1 rfl rfl hl.1 (Nat.le_of_ble_eq_true rfl) ⟨Nat.le_of_ble_eq_true rfl, Nat.le_of_ble_eq_true rfl⟩ dX4_runsOn_84 ⟨Nat.zero_le _, Nat.zero_le _⟩ (fun H locs hW hS => ?_)
                have hcf := Option.some.inj hcf; subst hcf
                exact wk_vret hx hb hr hlocks hW hS dX4_runsOn_87
set_option maxHeartbeats 4000000 in
set_option maxRecDepth 100000 in
theorem ct_X4_ages (l : Launch) (D : va_G) (cy : Nat → ClassId) (z n : Nat) (Y : mY) (V : mV) (G : mG) (a0 : Nat) (b1 : Int32) (x : mV) (hcf : cf_X4_ages Y V G a0 b1 = some x) : CT l yX4_ages cX4_ages 3 none (rmd 2) D cy z [.ref a0, .int b1] Y n V G none Y n x G := by
  refine ct_of (by decide) (Nat.le_of_ble_eq_true rfl) ?_
  intro p e s m args below meth c ls hx hb hr hml hown hts hlocks hnm hE hW hl
  have hS : va_S (zA z) s.heap s.heap [] := va_S.rf
  have hl : lv_has ls 3 [(0, .ref a0), (1, .int b1)] := hl
  have hown : s.vm.findClass RX4 = some m.cls := hown
  rw [cf_X4_ages] at hcf
  refine lv_aload_n hx hb dX4_ages_0 rfl (lv_at hl 0 rfl) ?_
  refine lv_iload_n hx hb dX4_ages_1 rfl (lv_at hl 1 rfl) ?_
  refine lv_bipush (v := (9 : Int32)) hx hb dX4_ages_2 (by decide) ?_
  refine lv_aload_n hx hb dX4_ages_4 rfl (lv_at hl 0 rfl) ?_
  refine lv_iload_n hx hb dX4_ages_5 rfl (lv_at hl 1 rfl) ?_
  refine lv_bipush (v := (9 : Int32)) hx hb dX4_ages_6 (by decide) ?_
  obtain ⟨q1, hcf⟩ := og hcf
  obtain ⟨x2, hx2, hcf⟩ := ob hcf
  refine iv_X4_46 (As := [.int b1, .int (9 : Int32)]) (rest := [.int (9 : Int32), .int b1, .ref a0]) hx hb hml hown hts hE (ct_X4_get l D cy z n Y V G a0 b1 (9 : Int32) x2 hx2) hW hS q1 rfl rfl hl.1 (Nat.le_of_ble_eq_true rfl) ⟨Nat.le_of_ble_eq_true rfl, Nat.le_of_ble_eq_true rfl⟩ dX4_ages_8 ⟨Nat.zero_le _, Nat.zero_le _⟩ (fun H locs hW hS => ?_)
  refine lv_iconst (v := (1 : Int32)) hx hb dX4_ages_11 (by decide) ?_
  refine lv_iadd hx hb dX4_ages_12 ?_
  obtain ⟨x3, hx3, hcf⟩ := ob hcf
  refine iv_X4_66 (As := [.int b1, .int (9 : Int32), .int (x2 + (1 : Int32))]) (rest := []) hx hb hml hown hts hE (ct_X4_put l D cy z n Y V G a0 b1 (9 : Int32) (x2 + (1 : Int32)) x3 hx3) hW hS q1 rfl rfl hl.1 (Nat.le_of_ble_eq_true rfl) ⟨Nat.le_of_ble_eq_true rfl, Nat.le_of_ble_eq_true rfl⟩ dX4_ages_13 ⟨Nat.zero_le _, Nat.zero_le _⟩ (fun H locs hW hS => ?_)
  refine lv_aload_n hx hb dX4_ages_16 rfl (lv_at hl 0 rfl) ?_
  refine lv_iload_n hx hb dX4_ages_17 rfl (lv_at hl 1 rfl) ?_
  refine lv_bipush (v := (10 : Int32)) hx hb dX4_ages_18 (by decide) ?_
  obtain ⟨x4, hx4, hcf⟩ := ob hcf
  refine iv_X4_46 (As := [.int b1, .int (10 : Int32)]) (rest := []) hx hb hml hown hts hE (ct_X4_get l D cy z n Y x3 G a0 b1 (10 : Int32) x4 hx4) hW hS q1 rfl rfl hl.1 (Nat.le_of_ble_eq_true rfl) ⟨Nat.le_of_ble_eq_true rfl, Nat.le_of_ble_eq_true rfl⟩ dX4_ages_20 ⟨Nat.zero_le _, Nat.zero_le _⟩ (fun H locs hW hS => ?_)
  refine lv_istore_n (lv' := [(2, .int x4), (0, .ref a0), (1, .int b1)]) hx hb dX4_ages_23 rfl hl (by decide) rfl (fun ls hl => ?_)
  refine lv_iload_n hx hb dX4_ages_24 rfl (lv_at hl 0 rfl) ?_
  refine lv_if_le (tgt := 41) hx hb dX4_ages_25 (by decide) (fun q5 => ?_) (fun q5 => ?_)
  · replace hcf := (if_pos q5).symm.trans hcf
    refine lv_iload_n hx hb dX4_ages_41 rfl (lv_at hl 0 rfl) ?_
    refine lv_if_ne (tgt := 64) hx hb dX4_ages_42 (by decide) (fun q6 => ?_) (fun q6 => ?_)
    · replace hcf := (if_neg q6).symm.trans hcf
      refine lv_aload_n hx hb dX4_ages_64 rfl (lv_at hl 1 rfl) ?_
      refine lv_iload_n hx hb dX4_ages_65 rfl (lv_at hl 2 rfl) ?_
      refine lv_bipush (v := (9 : Int32)) hx hb dX4_ages_66 (by decide) ?_
      obtain ⟨x7, hx7, hcf⟩ := ob hcf
      refine iv_X4_46 (As := [.int b1, .int (9 : Int32)]) (rest := []) hx hb hml hown hts hE (ct_X4_get l D cy z n Y x3 G a0 b1 (9 : Int32) x7 hx7) hW hS q1 rfl rfl hl.1 (Nat.le_of_ble_eq_true rfl) ⟨Nat.le_of_ble_eq_true rfl, Nat.le_of_ble_eq_true rfl⟩ dX4_ages_68 ⟨Nat.zero_le _, Nat.zero_le _⟩ (fun H locs hW hS => ?_)
      refine lv_aload_n hx hb dX4_ages_71 rfl (lv_at hl 1 rfl) ?_
      obtain ⟨r8, hr8, hcf⟩ := ob hcf
      refine gf_X4_7 hx hb hts hown hE hW q1 hr8 dX4_ages_72 ?_
      refine lv_iconst (v := (3 : Int32)) hx hb dX4_ages_75 (by decide) ?_
      obtain ⟨q9, hcf⟩ := og hcf
      obtain ⟨q10, hcf⟩ := og hcf
      refine wk_iald hx hb hE hW q9 q10 dX4_ages_76 ?_
      refine lv_icmp_lt (tgt := 93) hx hb dX4_ages_77 (by decide) (fun q11 => ?_) (fun q11 => ?_)
      · replace hcf := (if_pos q11).symm.trans hcf
        have hcf := Option.some.inj hcf; subst hcf
        exact wk_vret hx hb hr hlocks hW hS dX4_ages_93
      · replace hcf := (if_neg q11).symm.trans hcf
        refine lv_aload_n hx hb dX4_ages_80 rfl (lv_at hl 1 rfl) ?_
        refine lv_iload_n hx hb dX4_ages_81 rfl (lv_at hl 2 rfl) ?_
        obtain ⟨x12, hx12, hcf⟩ := ob hcf
        refine iv_X4_70 (As := [.int b1]) (rest := []) hx hb hml hown hts hE (ct_X4_mends l D cy z n Y x3 G a0 b1 x12 hx12) hW hS q1 rfl rfl hl.1 (Nat.le_of_ble_eq_true rfl) ⟨Nat.le_of_ble_eq_true rfl, Nat.le_of_ble_eq_true rfl⟩ dX4_ages_82 ⟨Nat.zero_le _, Nat.zero_le _⟩ (fun H locs hW hS => ?_)
        refine lv_aload_n hx hb dX4_ages_85 rfl (lv_at hl 1 rfl) ?_
        refine lv_iload_n hx hb dX4_ages_86 rfl (lv_at hl 2 rfl) ?_
        refine lv_bipush (v := (12 : Int32)) hx hb dX4_ages_87 (by decide) ?_
        refine lv_iconst (v := (1 : Int32)) hx hb dX4_ages_89 (by decide) ?_
        obtain ⟨x13, hx13, hcf⟩ := ob hcf
        refine iv_X4_66 (As := [.int b1, .int (12 : Int32), .int (1 : Int32)]) (rest := []) hx hb hml hown hts hE (ct_X4_put l D cy z n Y x12 G a0 b1 (12 : Int32) (1 : Int32) x13 hx13) hW hS q1 rfl rfl hl.1 (Nat.le_of_ble_eq_true rfl) ⟨Nat.le_of_ble_eq_true rfl, Nat.le_of_ble_eq_true rfl⟩ dX4_ages_90 ⟨Nat.zero_le _, Nat.zero_le _⟩ (fun H locs hW hS => ?_)
        have hcf := Option.some.inj hcf; subst hcf
        exact wk_vret hx hb hr hlocks hW hS dX4_ages_93
    · replace hcf := (if_pos q6).symm.trans hcf
      refine lv_aload_n hx hb dX4_ages_45 rfl (lv_at hl 1 rfl) ?_
      refine lv_iload_n hx hb dX4_ages_46 rfl (lv_at hl 2 rfl) ?_
      refine lv_bipush (v := (11 : Int32)) hx hb dX4_ages_47 (by decide) ?_
      refine lv_aload_n hx hb dX4_ages_49 rfl (lv_at hl 1 rfl) ?_
      refine lv_iload_n hx hb dX4_ages_50 rfl (lv_at hl 2 rfl) ?_
      refine lv_bipush (v := (11 : Int32)) hx hb dX4_ages_51 (by decide) ?_
      obtain ⟨x14, hx14, hcf⟩ := ob hcf
      refine iv_X4_46 (As := [.int b1, .int (11 : Int32)]) (rest := [.int (11 : Int32), .int b1, .ref a0]) hx hb hml hown hts hE (ct_X4_get l D cy z n Y x3 G a0 b1 (11 : Int32) x14 hx14) hW hS q1 rfl rfl hl.1 (Nat.le_of_ble_eq_true rfl) ⟨Nat.le_of_ble_eq_true rfl, Nat.le_of_ble_eq_true rfl⟩ dX4_ages_53 ⟨Nat.zero_le _, Nat.zero_le _⟩ (fun H locs hW hS => ?_)
      refine lv_iconst (v := (1 : Int32)) hx hb dX4_ages_56 (by decide) ?_
      refine lv_iadd hx hb dX4_ages_57 ?_
      obtain ⟨x15, hx15, hcf⟩ := ob hcf
      refine iv_X4_66 (As := [.int b1, .int (11 : Int32), .int (x14 + (1 : Int32))]) (rest := []) hx hb hml hown hts hE (ct_X4_put l D cy z n Y x3 G a0 b1 (11 : Int32) (x14 + (1 : Int32)) x15 hx15) hW hS q1 rfl rfl hl.1 (Nat.le_of_ble_eq_true rfl) ⟨Nat.le_of_ble_eq_true rfl, Nat.le_of_ble_eq_true rfl⟩ dX4_ages_58 ⟨Nat.zero_le _, Nat.zero_le _⟩ (fun H locs hW hS => ?_)
      refine lv_goto (tgt := 93) hx hb dX4_ages_61 (by decide) ?_
      have hcf := Option.some.inj hcf; subst hcf
      exact wk_vret hx hb hr hlocks hW hS dX4_ages_93
  · replace hcf := (if_neg q5).symm.trans hcf
    refine lv_aload_n hx hb dX4_ages_28 rfl (lv_at hl 1 rfl) ?_
    refine lv_iload_n hx hb dX4_ages_29 rfl (lv_at hl 2 rfl) ?_
    refine lv_bipush (v := (10 : Int32)) hx hb dX4_ages_30 (by decide) ?_
    refine lv_iload_n hx hb dX4_ages_32 rfl (lv_at hl 0 rfl) ?_
    refine lv_iconst (v := (1 : Int32)) hx hb dX4_ages_33 (by decide) ?_
    refine lv_isub hx hb dX4_ages_34 ?_
    obtain ⟨x16, hx16, hcf⟩ := ob hcf
    refine iv_X4_66 (As := [.int b1, .int (10 : Int32), .int (x4 - (1 : Int32))]) (rest := []) hx hb hml hown hts hE (ct_X4_put l D cy z n Y x3 G a0 b1 (10 : Int32) (x4 - (1 : Int32)) x16 hx16) hW hS q1 rfl rfl hl.1 (Nat.le_of_ble_eq_true rfl) ⟨Nat.le_of_ble_eq_true rfl, Nat.le_of_ble_eq_true rfl⟩ dX4_ages_35 ⟨Nat.zero_le _, Nat.zero_le _⟩ (fun H locs hW hS => ?_)
    refine lv_goto (tgt := 93) hx hb dX4_ages_38 (by decide) ?_
    have hcf := Option.some.inj hcf; subst hcf
    exact wk_vret hx hb hr hlocks hW hS dX4_ages_93
set_option maxHeartbeats 4000000 in
set_option maxRecDepth 100000 in
theorem wl_X4_passDay_90 {p : Program} {l : Launch} {e : Env} {s : State} {m : MethodId} {args : Array Value} {below : List Frame} {meth : Method} {c : Code} {D : va_G} {cy : Nat → ClassId} {z : Nat} {n : Nat} {Y : mY} {G : mG} (hx : p.tables.exec = Jvm.exec) (hb : c.code = cX4_passDay) (hr : meth.sig.returnType = none) (hml : c.maxLocals = 3) (hown : s.vm.findClass RX4 = some m.cls) (hts : ∀ w ∈ lw_all, w.before args s = true) (hlocks : meth.locks = false) (hE : En D cy s) (x : mV) : ∀ (k : Nat) (V : mV) (j0 : Nat) (j1 : Int32) (j2 : Int32) (H : Heap) (locs : List Loc) (ls : Array Slot), lp_X4_passDay_90 Y G k V j0 j1 j2 = some x → Wd Y cy D z n V G H → va_S (zA z) s.heap H locs → lv_has ls 3 [(0, .ref j0), (1, .int j1), (2, .int j2)] → W p l e (rmd 5) s m args below meth c H locs 0 0 (MQ below (QC D cy z Y n x G none) args s 0 0 (zA z)) (F0 m 90 ls []) := by
  intro k
  induction k with
  | zero =>
    intro V j0 j1 j2 H locs ls hcf
    have hcf : none = some _ := hcf
    cases hcf
  | succ k ih =>
    intro V j0 j1 j2 H locs ls hcf hW hS hl
    rw [lp_X4_passDay_90] at hcf
    refine lv_iload_n hx hb dX4_passDay_90 rfl (lv_at hl 2 rfl) ?_
    refine lv_aload_n hx hb dX4_passDay_91 rfl (lv_at hl 0 rfl) ?_
    obtain ⟨q21, hcf⟩ := og hcf
    obtain ⟨r22, hr22, hcf⟩ := ob hcf
    refine gf_X4_7 hx hb hts hown hE hW q21 hr22 dX4_passDay_92 ?_
    refine lv_iconst (v := (1 : Int32)) hx hb dX4_passDay_95 (by decide) ?_
    obtain ⟨q23, hcf⟩ := og hcf
    obtain ⟨q24, hcf⟩ := og hcf
    refine wk_iald hx hb hE hW q23 q24 dX4_passDay_96 ?_
    refine lv_icmp_ge (tgt := 131) hx hb dX4_passDay_97 (by decide) (fun q25 => ?_) (fun q25 => ?_)
    · replace hcf := (if_pos q25).symm.trans hcf
      have hcf := Option.some.inj hcf; subst hcf
      exact wk_vret hx hb hr hlocks hW hS dX4_passDay_131
    · replace hcf := (if_neg q25).symm.trans hcf
      refine lv_iload_n hx hb dX4_passDay_100 rfl (lv_at hl 1 rfl) ?_
      refine lv_iload_n hx hb dX4_passDay_101 rfl (lv_at hl 2 rfl) ?_
      refine lv_ishr hx hb dX4_passDay_102 ?_
      refine lv_iconst (v := (1 : Int32)) hx hb dX4_passDay_103 (by decide) ?_
      refine lv_iand hx hb dX4_passDay_104 ?_
      refine lv_iconst (v := (1 : Int32)) hx hb dX4_passDay_105 (by decide) ?_
      refine lv_icmp_ne (tgt := 125) hx hb dX4_passDay_106 (by decide) (fun q26 => ?_) (fun q26 => ?_)
      · replace hcf := (if_neg q26).symm.trans hcf
        refine lv_iinc (v := (j2 + 1)) (lv' := [(2, .int (j2 + 1)), (0, .ref j0), (1, .int j1)]) hx hb dX4_passDay_125 hl (k := 2) rfl rfl (by decide) rfl (fun ls hl => ?_)
        refine lv_goto (tgt := 90) hx hb dX4_passDay_128 (by decide) ?_
        exact ih V j0 j1 (j2 + 1) _ _ _ hcf hW hS (lv_sub hl [1, 2, 0] rfl)
      · replace hcf := (if_pos q26).symm.trans hcf
        refine lv_aload_n hx hb dX4_passDay_109 rfl (lv_at hl 0 rfl) ?_
        refine lv_iload_n hx hb dX4_passDay_110 rfl (lv_at hl 2 rfl) ?_
        refine lv_bipush (v := (8 : Int32)) hx hb dX4_passDay_111 (by decide) ?_
        obtain ⟨x27, hx27, hcf⟩ := ob hcf
        refine iv_X4_46 (As := [.int j2, .int (8 : Int32)]) (rest := []) hx hb hml hown hts hE (ct_X4_get l D cy z n Y V G j0 j2 (8 : Int32) x27 hx27) hW hS q21 rfl rfl hl.1 (Nat.le_of_ble_eq_true rfl) ⟨Nat.le_of_ble_eq_true rfl, Nat.le_of_ble_eq_true rfl⟩ dX4_passDay_113 ⟨Nat.zero_le _, Nat.zero_le _⟩ (fun H locs hW hS => ?_)
        refine lv_iconst (v := (1 : Int32)) hx hb dX4_passDay_116 (by decide) ?_
        refine lv_icmp_ne (tgt := 125) hx hb dX4_passDay_117 (by decide) (fun q28 => ?_) (fun q28 => ?_)
        · replace hcf := (if_neg q28).symm.trans hcf
          refine lv_iinc (v := (j2 + 1)) (lv' := [(2, .int (j2 + 1)), (0, .ref j0), (1, .int j1)]) hx hb dX4_passDay_125 hl (k := 2) rfl rfl (by decide) rfl (fun ls hl => ?_)
          refine lv_goto (tgt := 90) hx hb dX4_passDay_128 (by decide) ?_
          exact ih V j0 j1 (j2 + 1) _ _ _ hcf hW hS (lv_sub hl [1, 2, 0] rfl)
        · replace hcf := (if_pos q28).symm.trans hcf
          refine lv_aload_n hx hb dX4_passDay_120 rfl (lv_at hl 0 rfl) ?_
          refine lv_iload_n hx hb dX4_passDay_121 rfl (lv_at hl 2 rfl) ?_
          obtain ⟨x29, hx29, hcf⟩ := ob hcf
          refine iv_X4_127 (As := [.int j2]) (rest := []) hx hb hml hown hts hE (ct_X4_ages l D cy z n Y V G j0 j2 x29 hx29) hW hS q21 rfl rfl hl.1 (Nat.le_of_ble_eq_true rfl) ⟨Nat.le_of_ble_eq_true rfl, Nat.le_of_ble_eq_true rfl⟩ dX4_passDay_122 ⟨Nat.zero_le _, Nat.zero_le _⟩ (fun H locs hW hS => ?_)
          refine lv_iinc (v := (j2 + 1)) (lv' := [(2, .int (j2 + 1)), (0, .ref j0), (1, .int j1)]) hx hb dX4_passDay_125 hl (k := 2) rfl rfl (by decide) rfl (fun ls hl => ?_)
          refine lv_goto (tgt := 90) hx hb dX4_passDay_128 (by decide) ?_
          exact ih x29 j0 j1 (j2 + 1) _ _ _ hcf hW hS (lv_sub hl [1, 2, 0] rfl)
set_option maxHeartbeats 4000000 in
set_option maxRecDepth 100000 in
theorem wl_X4_passDay_67 {p : Program} {l : Launch} {e : Env} {s : State} {m : MethodId} {args : Array Value} {below : List Frame} {meth : Method} {c : Code} {D : va_G} {cy : Nat → ClassId} {z : Nat} {n : Nat} {Y : mY} {G : mG} (hx : p.tables.exec = Jvm.exec) (hb : c.code = cX4_passDay) (hr : meth.sig.returnType = none) (hml : c.maxLocals = 3) (hown : s.vm.findClass RX4 = some m.cls) (hts : ∀ w ∈ lw_all, w.before args s = true) (hlocks : meth.locks = false) (hE : En D cy s) (x : mV) : ∀ (k : Nat) (V : mV) (j0 : Nat) (j1 : Int32) (j2 : Int32) (H : Heap) (locs : List Loc) (ls : Array Slot), lp_X4_passDay_67 Y G k V j0 j1 j2 = some x → Wd Y cy D z n V G H → va_S (zA z) s.heap H locs → lv_has ls 3 [(0, .ref j0), (1, .int j1), (2, .int j2)] → W p l e (rmd 5) s m args below meth c H locs 0 0 (MQ below (QC D cy z Y n x G none) args s 0 0 (zA z)) (F0 m 67 ls []) := by
  intro k
  induction k with
  | zero =>
    intro V j0 j1 j2 H locs ls hcf
    have hcf : none = some _ := hcf
    cases hcf
  | succ k ih =>
    intro V j0 j1 j2 H locs ls hcf hW hS hl
    rw [lp_X4_passDay_67] at hcf
    refine lv_iload_n hx hb dX4_passDay_67 rfl (lv_at hl 2 rfl) ?_
    refine lv_aload_n hx hb dX4_passDay_68 rfl (lv_at hl 0 rfl) ?_
    obtain ⟨q16, hcf⟩ := og hcf
    obtain ⟨r17, hr17, hcf⟩ := ob hcf
    refine gf_X4_7 hx hb hts hown hE hW q16 hr17 dX4_passDay_69 ?_
    refine lv_iconst (v := (1 : Int32)) hx hb dX4_passDay_72 (by decide) ?_
    obtain ⟨q18, hcf⟩ := og hcf
    obtain ⟨q19, hcf⟩ := og hcf
    refine wk_iald hx hb hE hW q18 q19 dX4_passDay_73 ?_
    refine lv_icmp_ge (tgt := 88) hx hb dX4_passDay_74 (by decide) (fun q20 => ?_) (fun q20 => ?_)
    · replace hcf := (if_pos q20).symm.trans hcf
      refine lv_iconst (v := (0 : Int32)) hx hb dX4_passDay_88 (by decide) ?_
      refine lv_istore_n (lv' := [(2, .int (0 : Int32)), (0, .ref j0), (1, .int j1)]) hx hb dX4_passDay_89 rfl hl (by decide) rfl (fun ls hl => ?_)
      exact wl_X4_passDay_90 hx hb hr hml hown hts hlocks hE x fuB V j0 j1 (0 : Int32) _ _ _ hcf hW hS (lv_sub hl [1, 2, 0] rfl)
    · replace hcf := (if_neg q20).symm.trans hcf
      refine lv_aload_n hx hb dX4_passDay_77 rfl (lv_at hl 0 rfl) ?_
      refine lv_iload_n hx hb dX4_passDay_78 rfl (lv_at hl 2 rfl) ?_
      obtain ⟨x30, hx30, hcf⟩ := ob hcf
      refine iv_X4_124 (As := [.int j2]) (rest := []) hx hb hml hown hts hE (ct_X4_runsOn l D cy z n Y V G j0 j2 x30 hx30) hW hS q16 rfl rfl hl.1 (Nat.le_of_ble_eq_true rfl) ⟨Nat.le_of_ble_eq_true rfl, Nat.le_of_ble_eq_true rfl⟩ dX4_passDay_79 ⟨Nat.zero_le _, Nat.zero_le _⟩ (fun H locs hW hS => ?_)
      refine lv_iinc (v := (j2 + 1)) (lv' := [(2, .int (j2 + 1)), (0, .ref j0), (1, .int j1)]) hx hb dX4_passDay_82 hl (k := 2) rfl rfl (by decide) rfl (fun ls hl => ?_)
      refine lv_goto (tgt := 67) hx hb dX4_passDay_85 (by decide) ?_
      exact ih x30 j0 j1 (j2 + 1) _ _ _ hcf hW hS (lv_sub hl [1, 2, 0] rfl)
set_option maxHeartbeats 4000000 in
set_option maxRecDepth 100000 in
theorem wl_X4_passDay_44 {p : Program} {l : Launch} {e : Env} {s : State} {m : MethodId} {args : Array Value} {below : List Frame} {meth : Method} {c : Code} {D : va_G} {cy : Nat → ClassId} {z : Nat} {n : Nat} {Y : mY} {G : mG} (hx : p.tables.exec = Jvm.exec) (hb : c.code = cX4_passDay) (hr : meth.sig.returnType = none) (hml : c.maxLocals = 3) (hown : s.vm.findClass RX4 = some m.cls) (hts : ∀ w ∈ lw_all, w.before args s = true) (hlocks : meth.locks = false) (hE : En D cy s) (x : mV) : ∀ (k : Nat) (V : mV) (j0 : Nat) (j1 : Int32) (j2 : Int32) (H : Heap) (locs : List Loc) (ls : Array Slot), lp_X4_passDay_44 Y G k V j0 j1 j2 = some x → Wd Y cy D z n V G H → va_S (zA z) s.heap H locs → lv_has ls 3 [(0, .ref j0), (1, .int j1), (2, .int j2)] → W p l e (rmd 5) s m args below meth c H locs 0 0 (MQ below (QC D cy z Y n x G none) args s 0 0 (zA z)) (F0 m 44 ls []) := by
  intro k
  induction k with
  | zero =>
    intro V j0 j1 j2 H locs ls hcf
    have hcf : none = some _ := hcf
    cases hcf
  | succ k ih =>
    intro V j0 j1 j2 H locs ls hcf hW hS hl
    rw [lp_X4_passDay_44] at hcf
    refine lv_iload_n hx hb dX4_passDay_44 rfl (lv_at hl 2 rfl) ?_
    refine lv_aload_n hx hb dX4_passDay_45 rfl (lv_at hl 0 rfl) ?_
    obtain ⟨q11, hcf⟩ := og hcf
    obtain ⟨r12, hr12, hcf⟩ := ob hcf
    refine gf_X4_7 hx hb hts hown hE hW q11 hr12 dX4_passDay_46 ?_
    refine lv_iconst (v := (1 : Int32)) hx hb dX4_passDay_49 (by decide) ?_
    obtain ⟨q13, hcf⟩ := og hcf
    obtain ⟨q14, hcf⟩ := og hcf
    refine wk_iald hx hb hE hW q13 q14 dX4_passDay_50 ?_
    refine lv_icmp_ge (tgt := 65) hx hb dX4_passDay_51 (by decide) (fun q15 => ?_) (fun q15 => ?_)
    · replace hcf := (if_pos q15).symm.trans hcf
      refine lv_iconst (v := (0 : Int32)) hx hb dX4_passDay_65 (by decide) ?_
      refine lv_istore_n (lv' := [(2, .int (0 : Int32)), (0, .ref j0), (1, .int j1)]) hx hb dX4_passDay_66 rfl hl (by decide) rfl (fun ls hl => ?_)
      exact wl_X4_passDay_67 hx hb hr hml hown hts hlocks hE x fuB V j0 j1 (0 : Int32) _ _ _ hcf hW hS (lv_sub hl [1, 2, 0] rfl)
    · replace hcf := (if_neg q15).symm.trans hcf
      refine lv_aload_n hx hb dX4_passDay_54 rfl (lv_at hl 0 rfl) ?_
      refine lv_iload_n hx hb dX4_passDay_55 rfl (lv_at hl 2 rfl) ?_
      obtain ⟨x31, hx31, hcf⟩ := ob hcf
      refine iv_X4_121 (As := [.int j2]) (rest := []) hx hb hml hown hts hE (ct_X4_waitsOn l D cy z n Y V G j0 j2 x31 hx31) hW hS q11 rfl rfl hl.1 (Nat.le_of_ble_eq_true rfl) ⟨Nat.le_of_ble_eq_true rfl, Nat.le_of_ble_eq_true rfl⟩ dX4_passDay_56 ⟨Nat.zero_le _, Nat.zero_le _⟩ (fun H locs hW hS => ?_)
      refine lv_iinc (v := (j2 + 1)) (lv' := [(2, .int (j2 + 1)), (0, .ref j0), (1, .int j1)]) hx hb dX4_passDay_59 hl (k := 2) rfl rfl (by decide) rfl (fun ls hl => ?_)
      refine lv_goto (tgt := 44) hx hb dX4_passDay_62 (by decide) ?_
      exact ih x31 j0 j1 (j2 + 1) _ _ _ hcf hW hS (lv_sub hl [1, 2, 0] rfl)
set_option maxHeartbeats 4000000 in
set_option maxRecDepth 100000 in
theorem wl_X4_passDay_14 {p : Program} {l : Launch} {e : Env} {s : State} {m : MethodId} {args : Array Value} {below : List Frame} {meth : Method} {c : Code} {D : va_G} {cy : Nat → ClassId} {z : Nat} {n : Nat} {Y : mY} {G : mG} (hx : p.tables.exec = Jvm.exec) (hb : c.code = cX4_passDay) (hr : meth.sig.returnType = none) (hml : c.maxLocals = 3) (hown : s.vm.findClass RX4 = some m.cls) (hts : ∀ w ∈ lw_all, w.before args s = true) (hlocks : meth.locks = false) (hE : En D cy s) (x : mV) : ∀ (k : Nat) (V : mV) (j0 : Nat) (j1 : Int32) (j2 : Int32) (H : Heap) (locs : List Loc) (ls : Array Slot), lp_X4_passDay_14 Y G k V j0 j1 j2 = some x → Wd Y cy D z n V G H → va_S (zA z) s.heap H locs → lv_has ls 3 [(0, .ref j0), (1, .int j1), (2, .int j2)] → W p l e (rmd 5) s m args below meth c H locs 0 0 (MQ below (QC D cy z Y n x G none) args s 0 0 (zA z)) (F0 m 14 ls []) := by
  intro k
  induction k with
  | zero =>
    intro V j0 j1 j2 H locs ls hcf
    have hcf : none = some _ := hcf
    cases hcf
  | succ k ih =>
    intro V j0 j1 j2 H locs ls hcf hW hS hl
    rw [lp_X4_passDay_14] at hcf
    refine lv_iload_n hx hb dX4_passDay_14 rfl (lv_at hl 2 rfl) ?_
    refine lv_aload_n hx hb dX4_passDay_15 rfl (lv_at hl 0 rfl) ?_
    obtain ⟨q6, hcf⟩ := og hcf
    obtain ⟨r7, hr7, hcf⟩ := ob hcf
    refine gf_X4_7 hx hb hts hown hE hW q6 hr7 dX4_passDay_16 ?_
    refine lv_iconst (v := (1 : Int32)) hx hb dX4_passDay_19 (by decide) ?_
    obtain ⟨q8, hcf⟩ := og hcf
    obtain ⟨q9, hcf⟩ := og hcf
    refine wk_iald hx hb hE hW q8 q9 dX4_passDay_20 ?_
    refine lv_icmp_ge (tgt := 42) hx hb dX4_passDay_21 (by decide) (fun q10 => ?_) (fun q10 => ?_)
    · replace hcf := (if_pos q10).symm.trans hcf
      refine lv_iconst (v := (0 : Int32)) hx hb dX4_passDay_42 (by decide) ?_
      refine lv_istore_n (lv' := [(2, .int (0 : Int32)), (0, .ref j0), (1, .int j1)]) hx hb dX4_passDay_43 rfl hl (by decide) rfl (fun ls hl => ?_)
      exact wl_X4_passDay_44 hx hb hr hml hown hts hlocks hE x fuB V j0 j1 (0 : Int32) _ _ _ hcf hW hS (lv_sub hl [1, 2, 0] rfl)
    · replace hcf := (if_neg q10).symm.trans hcf
      refine lv_iload_n hx hb dX4_passDay_24 rfl (lv_at hl 1 rfl) ?_
      refine lv_aload_n hx hb dX4_passDay_25 rfl (lv_at hl 0 rfl) ?_
      refine lv_iload_n hx hb dX4_passDay_26 rfl (lv_at hl 2 rfl) ?_
      refine lv_bipush (v := (8 : Int32)) hx hb dX4_passDay_27 (by decide) ?_
      obtain ⟨x32, hx32, hcf⟩ := ob hcf
      refine iv_X4_46 (As := [.int j2, .int (8 : Int32)]) (rest := [.int j1]) hx hb hml hown hts hE (ct_X4_get l D cy z n Y V G j0 j2 (8 : Int32) x32 hx32) hW hS q6 rfl rfl hl.1 (Nat.le_of_ble_eq_true rfl) ⟨Nat.le_of_ble_eq_true rfl, Nat.le_of_ble_eq_true rfl⟩ dX4_passDay_29 ⟨Nat.zero_le _, Nat.zero_le _⟩ (fun H locs hW hS => ?_)
      refine lv_iload_n hx hb dX4_passDay_32 rfl (lv_at hl 2 rfl) ?_
      refine lv_ishl hx hb dX4_passDay_33 ?_
      refine lv_ior hx hb dX4_passDay_34 ?_
      refine lv_istore_n (lv' := [(1, .int (j1 ||| (x32 <<< (j2 &&& 31)))), (0, .ref j0), (2, .int j2)]) hx hb dX4_passDay_35 rfl hl (by decide) rfl (fun ls hl => ?_)
      refine lv_iinc (v := (j2 + 1)) (lv' := [(2, .int (j2 + 1)), (1, .int (j1 ||| (x32 <<< (j2 &&& 31)))), (0, .ref j0)]) hx hb dX4_passDay_36 hl (k := 2) rfl rfl (by decide) rfl (fun ls hl => ?_)
      refine lv_goto (tgt := 14) hx hb dX4_passDay_39 (by decide) ?_
      exact ih V j0 (j1 ||| (x32 <<< (j2 &&& 31))) (j2 + 1) _ _ _ hcf hW hS (lv_sub hl [2, 1, 0] rfl)
set_option maxHeartbeats 4000000 in
set_option maxRecDepth 100000 in
theorem ct_X4_passDay (l : Launch) (D : va_G) (cy : Nat → ClassId) (z n : Nat) (Y : mY) (V : mV) (G : mG) (a0 : Nat) (x : mV) (hcf : cf_X4_passDay Y V G a0 = some x) : CT l yX4_passDay cX4_passDay 3 none (rmd 5) D cy z [.ref a0] Y n V G none Y n x G := by
  refine ct_of (by decide) (Nat.le_of_ble_eq_true rfl) ?_
  intro p e s m args below meth c ls hx hb hr hml hown hts hlocks hnm hE hW hl
  have hS : va_S (zA z) s.heap s.heap [] := va_S.rf
  have hl : lv_has ls 3 [(0, .ref a0)] := hl
  have hown : s.vm.findClass RX4 = some m.cls := hown
  rw [cf_X4_passDay] at hcf
  refine lv_aload_n hx hb dX4_passDay_0 rfl (lv_at hl 0 rfl) ?_
  obtain ⟨q1, hcf⟩ := og hcf
  obtain ⟨r2, hr2, hcf⟩ := ob hcf
  refine gf_X4_7 hx hb hts hown hE hW q1 hr2 dX4_passDay_1 ?_
  refine lv_iconst (v := (0 : Int32)) hx hb dX4_passDay_4 (by decide) ?_
  refine lv_dup2_11 hx hb dX4_passDay_5 rfl rfl ?_
  obtain ⟨q3, hcf⟩ := og hcf
  obtain ⟨q4, hcf⟩ := og hcf
  refine wk_iald hx hb hE hW q3 q4 dX4_passDay_6 ?_
  refine lv_iconst (v := (1 : Int32)) hx hb dX4_passDay_7 (by decide) ?_
  refine lv_iadd hx hb dX4_passDay_8 ?_
  obtain ⟨q5, hcf⟩ := og hcf
  refine wk_iast hx hb hE hW hS q3 q5 dX4_passDay_9 (fun H locs hW hS => ?_)
  refine lv_iconst (v := (0 : Int32)) hx hb dX4_passDay_10 (by decide) ?_
  refine lv_istore_n (lv' := [(1, .int (0 : Int32)), (0, .ref a0)]) hx hb dX4_passDay_11 rfl hl (by decide) rfl (fun ls hl => ?_)
  refine lv_iconst (v := (0 : Int32)) hx hb dX4_passDay_12 (by decide) ?_
  refine lv_istore_n (lv' := [(2, .int (0 : Int32)), (1, .int (0 : Int32)), (0, .ref a0)]) hx hb dX4_passDay_13 rfl hl (by decide) rfl (fun ls hl => ?_)
  exact wl_X4_passDay_14 hx hb hr hml hown hts hlocks hE x fuB (up2 V r2 (0 : Int32).toNatClampNeg ((V r2 (0 : Int32).toNatClampNeg) + (1 : Int32))) a0 (0 : Int32) (0 : Int32) _ _ _ hcf hW hS (lv_sub hl [2, 1, 0] rfl)
set_option maxHeartbeats 4000000 in
set_option maxRecDepth 100000 in
theorem wl_X4_doPass_34 {p : Program} {l : Launch} {e : Env} {s : State} {m : MethodId} {args : Array Value} {below : List Frame} {meth : Method} {c : Code} {D : va_G} {cy : Nat → ClassId} {z : Nat} {n : Nat} {Y : mY} {G : mG} (hx : p.tables.exec = Jvm.exec) (hb : c.code = cX4_doPass) (hr : meth.sig.returnType = (some .int)) (hml : c.maxLocals = 3) (hown : s.vm.findClass RX4 = some m.cls) (hts : ∀ w ∈ lw_all, w.before args s = true) (hlocks : meth.locks = false) (hE : En D cy s) (x : Int32 × mV) : ∀ (k : Nat) (V : mV) (j0 : Nat) (j1 : Int32) (j2 : Int32) (H : Heap) (locs : List Loc) (ls : Array Slot), lp_X4_doPass_34 Y G k V j0 j1 j2 = some x → Wd Y cy D z n V G H → va_S (zA z) s.heap H locs → lv_has ls 3 [(0, .ref j0), (1, .int j1), (2, .int j2)] → W p l e (rmd 6) s m args below meth c H locs 0 0 (MQ below (QC D cy z Y n x.2 G (some (.int x.1))) args s 0 0 (zA z)) (F0 m 34 ls []) := by
  intro k
  induction k with
  | zero =>
    intro V j0 j1 j2 H locs ls hcf
    have hcf : none = some _ := hcf
    cases hcf
  | succ k ih =>
    intro V j0 j1 j2 H locs ls hcf hW hS hl
    rw [lp_X4_doPass_34] at hcf
    refine lv_iload_n hx hb dX4_doPass_34 rfl (lv_at hl 2 rfl) ?_
    refine lv_iload_n hx hb dX4_doPass_35 rfl (lv_at hl 1 rfl) ?_
    refine lv_icmp_ge (tgt := 49) hx hb dX4_doPass_36 (by decide) (fun q8 => ?_) (fun q8 => ?_)
    · replace hcf := (if_pos q8).symm.trans hcf
      refine lv_aload_n hx hb dX4_doPass_49 rfl (lv_at hl 0 rfl) ?_
      obtain ⟨q9, hcf⟩ := og hcf
      obtain ⟨r10, hr10, hcf⟩ := ob hcf
      refine gf_X4_7 hx hb hts hown hE hW q9 hr10 dX4_doPass_50 ?_
      refine lv_iconst (v := (0 : Int32)) hx hb dX4_doPass_53 (by decide) ?_
      obtain ⟨q11, hcf⟩ := og hcf
      obtain ⟨q12, hcf⟩ := og hcf
      refine wk_iald hx hb hE hW q11 q12 dX4_doPass_54 ?_
      have hcf := Option.some.inj hcf; subst hcf
      exact wk_iret hx hb hr hlocks hW hS dX4_doPass_55
    · replace hcf := (if_neg q8).symm.trans hcf
      refine lv_aload_n hx hb dX4_doPass_39 rfl (lv_at hl 0 rfl) ?_
      obtain ⟨q13, hcf⟩ := og hcf
      obtain ⟨x14, hx14, hcf⟩ := ob hcf
      refine iv_X4_132 (As := []) (rest := []) hx hb hml hown hts hE (ct_X4_passDay l D cy z n Y V G j0 x14 hx14) hW hS q13 rfl rfl hl.1 (Nat.le_of_ble_eq_true rfl) ⟨Nat.le_of_ble_eq_true rfl, Nat.le_of_ble_eq_true rfl⟩ dX4_doPass_40 ⟨Nat.zero_le _, Nat.zero_le _⟩ (fun H locs hW hS => ?_)
      refine lv_iinc (v := (j2 + 1)) (lv' := [(2, .int (j2 + 1)), (0, .ref j0), (1, .int j1)]) hx hb dX4_doPass_43 hl (k := 2) rfl rfl (by decide) rfl (fun ls hl => ?_)
      refine lv_goto (tgt := 34) hx hb dX4_doPass_46 (by decide) ?_
      exact ih x14 j0 j1 (j2 + 1) _ _ _ hcf hW hS (lv_sub hl [1, 2, 0] rfl)
set_option maxHeartbeats 4000000 in
set_option maxRecDepth 100000 in
theorem ct_X4_doPass (l : Launch) (D : va_G) (cy : Nat → ClassId) (z n : Nat) (Y : mY) (V : mV) (G : mG) (a0 : Nat) (b1 : Int32) (x : Int32 × mV) (hcf : cf_X4_doPass Y V G a0 b1 = some x) : CT l yX4_doPass cX4_doPass 3 (some .int) (rmd 6) D cy z [.ref a0, .int b1] Y n V G (some (.int x.1)) Y n x.2 G := by
  refine ct_of (by decide) (Nat.le_of_ble_eq_true rfl) ?_
  intro p e s m args below meth c ls hx hb hr hml hown hts hlocks hnm hE hW hl
  have hS : va_S (zA z) s.heap s.heap [] := va_S.rf
  have hl : lv_has ls 3 [(0, .ref a0), (1, .int b1)] := hl
  have hown : s.vm.findClass RX4 = some m.cls := hown
  rw [cf_X4_doPass] at hcf
  refine lv_iload_n hx hb dX4_doPass_0 rfl (lv_at hl 1 rfl) ?_
  refine lv_i2l hx hb dX4_doPass_1 rfl ?_
  refine lv_lconst (v := (1 : Int64)) hx hb dX4_doPass_2 (by decide) ?_
  refine lv_ldc2 hx hb hown (hts _ q827) dX4_doPass_3 ?_
  obtain ⟨x1, hx1, hcf⟩ := ob hcf
  refine iv_X4_40 (As := [.long ((b1).toInt64), .long (1 : Int64), .long (400 : Int64)]) (rest := []) hx hb hml hown hts hE (ct_X4_in l D cy z n Y V G ((b1).toInt64) (1 : Int64) (400 : Int64) x1 hx1) hW hS rfl rfl hl.1 (Nat.le_of_ble_eq_true rfl) ⟨Nat.le_of_ble_eq_true rfl, Nat.le_of_ble_eq_true rfl⟩ dX4_doPass_6 ⟨Nat.zero_le _, Nat.zero_le _⟩ (fun H locs hW hS => ?_)
  refine lv_if_ne (tgt := 15) hx hb dX4_doPass_9 (by decide) (fun q2 => ?_) (fun q2 => ?_)
  · replace hcf := (if_neg q2).symm.trans hcf
    refine lv_aload_n hx hb dX4_doPass_15 rfl (lv_at hl 0 rfl) ?_
    obtain ⟨q3, hcf⟩ := og hcf
    obtain ⟨r4, hr4, hcf⟩ := ob hcf
    refine gf_X4_7 hx hb hts hown hE hW q3 hr4 dX4_doPass_16 ?_
    refine lv_iconst (v := (0 : Int32)) hx hb dX4_doPass_19 (by decide) ?_
    obtain ⟨q5, hcf⟩ := og hcf
    obtain ⟨q6, hcf⟩ := og hcf
    refine wk_iald hx hb hE hW q5 q6 dX4_doPass_20 ?_
    refine lv_iload_n hx hb dX4_doPass_21 rfl (lv_at hl 1 rfl) ?_
    refine lv_iadd hx hb dX4_doPass_22 ?_
    refine lv_sipush (v := (9999 : Int32)) hx hb dX4_doPass_23 (by decide) ?_
    refine lv_icmp_le (tgt := 32) hx hb dX4_doPass_26 (by decide) (fun q7 => ?_) (fun q7 => ?_)
    · replace hcf := (if_pos q7).symm.trans hcf
      refine lv_iconst (v := (0 : Int32)) hx hb dX4_doPass_32 (by decide) ?_
      refine lv_istore_n (lv' := [(2, .int (0 : Int32)), (0, .ref a0), (1, .int b1)]) hx hb dX4_doPass_33 rfl hl (by decide) rfl (fun ls hl => ?_)
      exact wl_X4_doPass_34 hx hb hr hml hown hts hlocks hE x fuB V a0 b1 (0 : Int32) _ _ _ hcf hW hS (lv_sub hl [1, 2, 0] rfl)
    · replace hcf := (if_neg q7).symm.trans hcf
      refine lv_ldc hx hb hown (hts _ q678) dX4_doPass_29 ?_
      have hcf := Option.some.inj hcf; subst hcf
      exact wk_iret hx hb hr hlocks hW hS dX4_doPass_31
  · replace hcf := (if_pos q2).symm.trans hcf
    refine lv_ldc hx hb hown (hts _ q672) dX4_doPass_12 ?_
    have hcf := Option.some.inj hcf; subst hcf
    exact wk_iret hx hb hr hlocks hW hS dX4_doPass_14
set_option maxHeartbeats 4000000 in
set_option maxRecDepth 100000 in
theorem ct_X4_doSet (l : Launch) (D : va_G) (cy : Nat → ClassId) (z n : Nat) (Y : mY) (V : mV) (G : mG) (a0 : Nat) (b1 : Int32) (b2 : Int32) (x : Int32 × mV) (hcf : cf_X4_doSet Y V G a0 b1 b2 = some x) : CT l yX4_doSet cX4_doSet 4 (some .int) (rmd 1) D cy z [.ref a0, .int b1, .int b2] Y n V G (some (.int x.1)) Y n x.2 G := by
  refine ct_of (by decide) (Nat.le_of_ble_eq_true rfl) ?_
  intro p e s m args below meth c ls hx hb hr hml hown hts hlocks hnm hE hW hl
  have hS : va_S (zA z) s.heap s.heap [] := va_S.rf
  have hl : lv_has ls 4 [(0, .ref a0), (1, .int b1), (2, .int b2)] := hl
  have hown : s.vm.findClass RX4 = some m.cls := hown
  rw [cf_X4_doSet] at hcf
  refine lv_iload_n hx hb dX4_doSet_0 rfl (lv_at hl 1 rfl) ?_
  refine lv_i2l hx hb dX4_doSet_1 rfl ?_
  refine lv_lconst (v := (0 : Int64)) hx hb dX4_doSet_2 (by decide) ?_
  refine lv_lconst (v := (1 : Int64)) hx hb dX4_doSet_3 (by decide) ?_
  obtain ⟨x1, hx1, hcf⟩ := ob hcf
  refine iv_X4_40 (As := [.long ((b1).toInt64), .long (0 : Int64), .long (1 : Int64)]) (rest := []) hx hb hml hown hts hE (ct_X4_in l D cy z n Y V G ((b1).toInt64) (0 : Int64) (1 : Int64) x1 hx1) hW hS rfl rfl hl.1 (Nat.le_of_ble_eq_true rfl) ⟨Nat.le_of_ble_eq_true rfl, Nat.le_of_ble_eq_true rfl⟩ dX4_doSet_4 ⟨Nat.zero_le _, Nat.zero_le _⟩ (fun H locs hW hS => ?_)
  refine lv_if_eq (tgt := 33) hx hb dX4_doSet_7 (by decide) (fun q2 => ?_) (fun q2 => ?_)
  · replace hcf := (if_pos q2).symm.trans hcf
    refine lv_ldc hx hb hown (hts _ q672) dX4_doSet_33 ?_
    have hcf := Option.some.inj hcf; subst hcf
    exact wk_iret hx hb hr hlocks hW hS dX4_doSet_35
  · replace hcf := (if_neg q2).symm.trans hcf
    refine lv_iload_n hx hb dX4_doSet_10 rfl (lv_at hl 2 rfl) ?_
    refine lv_i2l hx hb dX4_doSet_11 rfl ?_
    refine lv_iload_n hx hb dX4_doSet_12 rfl (lv_at hl 1 rfl) ?_
    refine lv_i2l hx hb dX4_doSet_13 rfl ?_
    refine lv_iload_n hx hb dX4_doSet_14 rfl (lv_at hl 1 rfl) ?_
    refine lv_if_ne (tgt := 24) hx hb dX4_doSet_15 (by decide) (fun q3 => ?_) (fun q3 => ?_)
    · replace hcf := (if_neg q3).symm.trans hcf
      refine lv_ldc2 hx hb hown (hts _ q670) dX4_doSet_24 ?_
      obtain ⟨x4, hx4, hcf⟩ := ob hcf
      refine iv_X4_40 (As := [.long ((b2).toInt64), .long ((b1).toInt64), .long (365 : Int64)]) (rest := []) hx hb hml hown hts hE (ct_X4_in l D cy z n Y V G ((b2).toInt64) ((b1).toInt64) (365 : Int64) x4 hx4) hW hS rfl rfl hl.1 (Nat.le_of_ble_eq_true rfl) ⟨Nat.le_of_ble_eq_true rfl, Nat.le_of_ble_eq_true rfl⟩ dX4_doSet_27 ⟨Nat.zero_le _, Nat.zero_le _⟩ (fun H locs hW hS => ?_)
      refine lv_if_ne (tgt := 36) hx hb dX4_doSet_30 (by decide) (fun q5 => ?_) (fun q5 => ?_)
      · replace hcf := (if_neg q5).symm.trans hcf
        refine lv_aload_n hx hb dX4_doSet_36 rfl (lv_at hl 0 rfl) ?_
        obtain ⟨q6, hcf⟩ := og hcf
        obtain ⟨r7, hr7, hcf⟩ := ob hcf
        refine gf_X4_7 hx hb hts hown hE hW q6 hr7 dX4_doSet_37 ?_
        refine lv_iconst (v := (2 : Int32)) hx hb dX4_doSet_40 (by decide) ?_
        refine lv_iload_n hx hb dX4_doSet_41 rfl (lv_at hl 1 rfl) ?_
        refine lv_iadd hx hb dX4_doSet_42 ?_
        obtain ⟨q8, hcf⟩ := og hcf
        obtain ⟨q9, hcf⟩ := og hcf
        refine wk_iald hx hb hE hW q8 q9 dX4_doSet_43 ?_
        refine lv_istore_n (lv' := [(3, .int (V r7 ((2 : Int32) + b1).toNatClampNeg)), (0, .ref a0), (1, .int b1), (2, .int b2)]) hx hb dX4_doSet_44 rfl hl (by decide) rfl (fun ls hl => ?_)
        refine lv_aload_n hx hb dX4_doSet_45 rfl (lv_at hl 1 rfl) ?_
        refine gf_X4_7 hx hb hts hown hE hW q6 hr7 dX4_doSet_46 ?_
        refine lv_iconst (v := (2 : Int32)) hx hb dX4_doSet_49 (by decide) ?_
        refine lv_iload_n hx hb dX4_doSet_50 rfl (lv_at hl 2 rfl) ?_
        refine lv_iadd hx hb dX4_doSet_51 ?_
        refine lv_iload_n hx hb dX4_doSet_52 rfl (lv_at hl 3 rfl) ?_
        obtain ⟨q10, hcf⟩ := og hcf
        refine wk_iast hx hb hE hW hS q8 q10 dX4_doSet_53 (fun H locs hW hS => ?_)
        refine lv_iload_n hx hb dX4_doSet_54 rfl (lv_at hl 0 rfl) ?_
        have hcf := Option.some.inj hcf; subst hcf
        exact wk_iret hx hb hr hlocks hW hS dX4_doSet_55
      · replace hcf := (if_pos q5).symm.trans hcf
        refine lv_ldc hx hb hown (hts _ q672) dX4_doSet_33 ?_
        have hcf := Option.some.inj hcf; subst hcf
        exact wk_iret hx hb hr hlocks hW hS dX4_doSet_35
    · replace hcf := (if_pos q3).symm.trans hcf
      refine lv_ldc2 hx hb hown (hts _ q802) dX4_doSet_18 ?_
      refine lv_goto (tgt := 27) hx hb dX4_doSet_21 (by decide) ?_
      obtain ⟨x11, hx11, hcf⟩ := ob hcf
      refine iv_X4_40 (As := [.long ((b2).toInt64), .long ((b1).toInt64), .long (99 : Int64)]) (rest := []) hx hb hml hown hts hE (ct_X4_in l D cy z n Y V G ((b2).toInt64) ((b1).toInt64) (99 : Int64) x11 hx11) hW hS rfl rfl hl.1 (Nat.le_of_ble_eq_true rfl) ⟨Nat.le_of_ble_eq_true rfl, Nat.le_of_ble_eq_true rfl⟩ dX4_doSet_27 ⟨Nat.zero_le _, Nat.zero_le _⟩ (fun H locs hW hS => ?_)
      refine lv_if_ne (tgt := 36) hx hb dX4_doSet_30 (by decide) (fun q12 => ?_) (fun q12 => ?_)
      · replace hcf := (if_neg q12).symm.trans hcf
        refine lv_aload_n hx hb dX4_doSet_36 rfl (lv_at hl 0 rfl) ?_
        obtain ⟨q13, hcf⟩ := og hcf
        obtain ⟨r14, hr14, hcf⟩ := ob hcf
        refine gf_X4_7 hx hb hts hown hE hW q13 hr14 dX4_doSet_37 ?_
        refine lv_iconst (v := (2 : Int32)) hx hb dX4_doSet_40 (by decide) ?_
        refine lv_iload_n hx hb dX4_doSet_41 rfl (lv_at hl 1 rfl) ?_
        refine lv_iadd hx hb dX4_doSet_42 ?_
        obtain ⟨q15, hcf⟩ := og hcf
        obtain ⟨q16, hcf⟩ := og hcf
        refine wk_iald hx hb hE hW q15 q16 dX4_doSet_43 ?_
        refine lv_istore_n (lv' := [(3, .int (V r14 ((2 : Int32) + b1).toNatClampNeg)), (0, .ref a0), (1, .int b1), (2, .int b2)]) hx hb dX4_doSet_44 rfl hl (by decide) rfl (fun ls hl => ?_)
        refine lv_aload_n hx hb dX4_doSet_45 rfl (lv_at hl 1 rfl) ?_
        refine gf_X4_7 hx hb hts hown hE hW q13 hr14 dX4_doSet_46 ?_
        refine lv_iconst (v := (2 : Int32)) hx hb dX4_doSet_49 (by decide) ?_
        refine lv_iload_n hx hb dX4_doSet_50 rfl (lv_at hl 2 rfl) ?_
        refine lv_iadd hx hb dX4_doSet_51 ?_
        refine lv_iload_n hx hb dX4_doSet_52 rfl (lv_at hl 3 rfl) ?_
        obtain ⟨q17, hcf⟩ := og hcf
        refine wk_iast hx hb hE hW hS q15 q17 dX4_doSet_53 (fun H locs hW hS => ?_)
        refine lv_iload_n hx hb dX4_doSet_54 rfl (lv_at hl 0 rfl) ?_
        have hcf := Option.some.inj hcf; subst hcf
        exact wk_iret hx hb hr hlocks hW hS dX4_doSet_55
      · replace hcf := (if_pos q12).symm.trans hcf
        refine lv_ldc hx hb hown (hts _ q672) dX4_doSet_33 ?_
        have hcf := Option.some.inj hcf; subst hcf
        exact wk_iret hx hb hr hlocks hW hS dX4_doSet_35
set_option maxHeartbeats 4000000 in
set_option maxRecDepth 100000 in
theorem ct_X4_condition (l : Launch) (D : va_G) (cy : Nat → ClassId) (z n : Nat) (Y : mY) (V : mV) (G : mG) (a0 : Nat) (b1 : Int32) (b2 : Int32) (b3 : Int32) (b4 : Int32) (x : Int32 × mV) (hcf : cf_X4_condition Y V G a0 b1 b2 b3 b4 = some x) : CT l yX4_condition cX4_condition 5 (some .int) (rmd 3) D cy z [.ref a0, .int b1, .int b2, .int b3, .int b4] Y n V G (some (.int x.1)) Y n x.2 G := by
  refine ct_of (by decide) (Nat.le_of_ble_eq_true rfl) ?_
  intro p e s m args below meth c ls hx hb hr hml hown hts hlocks hnm hE hW hl
  have hS : va_S (zA z) s.heap s.heap [] := va_S.rf
  have hl : lv_has ls 5 [(0, .ref a0), (1, .int b1), (2, .int b2), (3, .int b3), (4, .int b4)] := hl
  have hown : s.vm.findClass RX4 = some m.cls := hown
  rw [cf_X4_condition] at hcf
  refine lv_aload_n hx hb dX4_condition_0 rfl (lv_at hl 0 rfl) ?_
  obtain ⟨q1, hcf⟩ := og hcf
  obtain ⟨r2, hr2, hcf⟩ := ob hcf
  refine gf_X4_7 hx hb hts hown hE hW q1 hr2 dX4_condition_1 ?_
  refine lv_aload_n hx hb dX4_condition_4 rfl (lv_at hl 0 rfl) ?_
  obtain ⟨r3, hr3, hcf⟩ := ob hcf
  refine gf_X4_13 hx hb hts hown hE hW q1 hr3 dX4_condition_5 ?_
  obtain ⟨x4, hx4, hcf⟩ := ob hcf
  refine iv_X4_135 (As := [.ref r2, .ref r3]) (rest := []) hx hb hml hown hts hE (ct_X4_copy l D cy z n Y V G r2 r3 x4 hx4) hW hS rfl rfl hl.1 (Nat.le_of_ble_eq_true rfl) ⟨Nat.le_of_ble_eq_true rfl, Nat.le_of_ble_eq_true rfl⟩ dX4_condition_8 ⟨Nat.zero_le _, Nat.zero_le _⟩ (fun H locs hW hS => ?_)
  refine lv_aload_n hx hb dX4_condition_11 rfl (lv_at hl 0 rfl) ?_
  refine lv_aload_n hx hb dX4_condition_12 rfl (lv_at hl 0 rfl) ?_
  refine lv_iload_n hx hb dX4_condition_13 rfl (lv_at hl 1 rfl) ?_
  refine lv_iload_n hx hb dX4_condition_14 rfl (lv_at hl 2 rfl) ?_
  refine lv_iload_n hx hb dX4_condition_15 rfl (lv_at hl 3 rfl) ?_
  refine lv_iload hx hb dX4_condition_16 (lv_at hl 4 rfl) ?_
  obtain ⟨x5, hx5, hcf⟩ := ob hcf
  refine iv_X4_139 (As := [.int b1, .int b2, .int b3, .int b4]) (rest := [.ref a0]) hx hb hml hown hts hE (ct_X4_doCondition l D cy z n Y x4 G a0 b1 b2 b3 b4 x5 hx5) hW hS q1 rfl rfl hl.1 (Nat.le_of_ble_eq_true rfl) ⟨Nat.le_of_ble_eq_true rfl, Nat.le_of_ble_eq_true rfl⟩ dX4_condition_18 ⟨Nat.zero_le _, Nat.zero_le _⟩ (fun H locs hW hS => ?_)
  obtain ⟨x6, hx6, hcf⟩ := ob hcf
  refine iv_X4_143 (As := [.int x5.1]) (rest := []) hx hb hml hown hts hE (ct_X4_changed l D cy z n Y x5.2 G a0 x5.1 x6 hx6) hW hS q1 rfl rfl hl.1 (Nat.le_of_ble_eq_true rfl) ⟨Nat.le_of_ble_eq_true rfl, Nat.le_of_ble_eq_true rfl⟩ dX4_condition_21 ⟨Nat.zero_le _, Nat.zero_le _⟩ (fun H locs hW hS => ?_)
  have hcf := Option.some.inj hcf; subst hcf
  exact wk_iret hx hb hr hlocks hW hS dX4_condition_24
set_option maxHeartbeats 4000000 in
set_option maxRecDepth 100000 in
theorem ct_X4_begin (l : Launch) (D : va_G) (cy : Nat → ClassId) (z n : Nat) (Y : mY) (V : mV) (G : mG) (a0 : Nat) (b1 : Int32) (x : Int32 × mV) (hcf : cf_X4_begin Y V G a0 b1 = some x) : CT l yX4_begin cX4_begin 2 (some .int) (rmd 5) D cy z [.ref a0, .int b1] Y n V G (some (.int x.1)) Y n x.2 G := by
  refine ct_of (by decide) (Nat.le_of_ble_eq_true rfl) ?_
  intro p e s m args below meth c ls hx hb hr hml hown hts hlocks hnm hE hW hl
  have hS : va_S (zA z) s.heap s.heap [] := va_S.rf
  have hl : lv_has ls 2 [(0, .ref a0), (1, .int b1)] := hl
  have hown : s.vm.findClass RX4 = some m.cls := hown
  rw [cf_X4_begin] at hcf
  refine lv_aload_n hx hb dX4_begin_0 rfl (lv_at hl 0 rfl) ?_
  obtain ⟨q1, hcf⟩ := og hcf
  obtain ⟨r2, hr2, hcf⟩ := ob hcf
  refine gf_X4_7 hx hb hts hown hE hW q1 hr2 dX4_begin_1 ?_
  refine lv_aload_n hx hb dX4_begin_4 rfl (lv_at hl 0 rfl) ?_
  obtain ⟨r3, hr3, hcf⟩ := ob hcf
  refine gf_X4_13 hx hb hts hown hE hW q1 hr3 dX4_begin_5 ?_
  obtain ⟨x4, hx4, hcf⟩ := ob hcf
  refine iv_X4_135 (As := [.ref r2, .ref r3]) (rest := []) hx hb hml hown hts hE (ct_X4_copy l D cy z n Y V G r2 r3 x4 hx4) hW hS rfl rfl hl.1 (Nat.le_of_ble_eq_true rfl) ⟨Nat.le_of_ble_eq_true rfl, Nat.le_of_ble_eq_true rfl⟩ dX4_begin_8 ⟨Nat.zero_le _, Nat.zero_le _⟩ (fun H locs hW hS => ?_)
  refine lv_aload_n hx hb dX4_begin_11 rfl (lv_at hl 0 rfl) ?_
  refine lv_aload_n hx hb dX4_begin_12 rfl (lv_at hl 0 rfl) ?_
  refine lv_iload_n hx hb dX4_begin_13 rfl (lv_at hl 1 rfl) ?_
  obtain ⟨x5, hx5, hcf⟩ := ob hcf
  refine iv_X4_146 (As := [.int b1]) (rest := [.ref a0]) hx hb hml hown hts hE (ct_X4_doBegin l D cy z n Y x4 G a0 b1 x5 hx5) hW hS q1 rfl rfl hl.1 (Nat.le_of_ble_eq_true rfl) ⟨Nat.le_of_ble_eq_true rfl, Nat.le_of_ble_eq_true rfl⟩ dX4_begin_14 ⟨Nat.zero_le _, Nat.zero_le _⟩ (fun H locs hW hS => ?_)
  obtain ⟨x6, hx6, hcf⟩ := ob hcf
  refine iv_X4_143 (As := [.int x5.1]) (rest := []) hx hb hml hown hts hE (ct_X4_changed l D cy z n Y x5.2 G a0 x5.1 x6 hx6) hW hS q1 rfl rfl hl.1 (Nat.le_of_ble_eq_true rfl) ⟨Nat.le_of_ble_eq_true rfl, Nat.le_of_ble_eq_true rfl⟩ dX4_begin_17 ⟨Nat.zero_le _, Nat.zero_le _⟩ (fun H locs hW hS => ?_)
  have hcf := Option.some.inj hcf; subst hcf
  exact wk_iret hx hb hr hlocks hW hS dX4_begin_20
set_option maxHeartbeats 4000000 in
set_option maxRecDepth 100000 in
theorem ct_X4_finish (l : Launch) (D : va_G) (cy : Nat → ClassId) (z n : Nat) (Y : mY) (V : mV) (G : mG) (a0 : Nat) (b1 : Int32) (x : Int32 × mV) (hcf : cf_X4_finish Y V G a0 b1 = some x) : CT l yX4_finish cX4_finish 2 (some .int) (rmd 3) D cy z [.ref a0, .int b1] Y n V G (some (.int x.1)) Y n x.2 G := by
  refine ct_of (by decide) (Nat.le_of_ble_eq_true rfl) ?_
  intro p e s m args below meth c ls hx hb hr hml hown hts hlocks hnm hE hW hl
  have hS : va_S (zA z) s.heap s.heap [] := va_S.rf
  have hl : lv_has ls 2 [(0, .ref a0), (1, .int b1)] := hl
  have hown : s.vm.findClass RX4 = some m.cls := hown
  rw [cf_X4_finish] at hcf
  refine lv_aload_n hx hb dX4_finish_0 rfl (lv_at hl 0 rfl) ?_
  obtain ⟨q1, hcf⟩ := og hcf
  obtain ⟨r2, hr2, hcf⟩ := ob hcf
  refine gf_X4_7 hx hb hts hown hE hW q1 hr2 dX4_finish_1 ?_
  refine lv_aload_n hx hb dX4_finish_4 rfl (lv_at hl 0 rfl) ?_
  obtain ⟨r3, hr3, hcf⟩ := ob hcf
  refine gf_X4_13 hx hb hts hown hE hW q1 hr3 dX4_finish_5 ?_
  obtain ⟨x4, hx4, hcf⟩ := ob hcf
  refine iv_X4_135 (As := [.ref r2, .ref r3]) (rest := []) hx hb hml hown hts hE (ct_X4_copy l D cy z n Y V G r2 r3 x4 hx4) hW hS rfl rfl hl.1 (Nat.le_of_ble_eq_true rfl) ⟨Nat.le_of_ble_eq_true rfl, Nat.le_of_ble_eq_true rfl⟩ dX4_finish_8 ⟨Nat.zero_le _, Nat.zero_le _⟩ (fun H locs hW hS => ?_)
  refine lv_aload_n hx hb dX4_finish_11 rfl (lv_at hl 0 rfl) ?_
  refine lv_aload_n hx hb dX4_finish_12 rfl (lv_at hl 0 rfl) ?_
  refine lv_iload_n hx hb dX4_finish_13 rfl (lv_at hl 1 rfl) ?_
  obtain ⟨x5, hx5, hcf⟩ := ob hcf
  refine iv_X4_149 (As := [.int b1]) (rest := [.ref a0]) hx hb hml hown hts hE (ct_X4_doFinish l D cy z n Y x4 G a0 b1 x5 hx5) hW hS q1 rfl rfl hl.1 (Nat.le_of_ble_eq_true rfl) ⟨Nat.le_of_ble_eq_true rfl, Nat.le_of_ble_eq_true rfl⟩ dX4_finish_14 ⟨Nat.zero_le _, Nat.zero_le _⟩ (fun H locs hW hS => ?_)
  obtain ⟨x6, hx6, hcf⟩ := ob hcf
  refine iv_X4_143 (As := [.int x5.1]) (rest := []) hx hb hml hown hts hE (ct_X4_changed l D cy z n Y x5.2 G a0 x5.1 x6 hx6) hW hS q1 rfl rfl hl.1 (Nat.le_of_ble_eq_true rfl) ⟨Nat.le_of_ble_eq_true rfl, Nat.le_of_ble_eq_true rfl⟩ dX4_finish_17 ⟨Nat.zero_le _, Nat.zero_le _⟩ (fun H locs hW hS => ?_)
  have hcf := Option.some.inj hcf; subst hcf
  exact wk_iret hx hb hr hlocks hW hS dX4_finish_20
set_option maxHeartbeats 4000000 in
set_option maxRecDepth 100000 in
theorem ct_X4_apply (l : Launch) (D : va_G) (cy : Nat → ClassId) (z n : Nat) (Y : mY) (V : mV) (G : mG) (a0 : Nat) (b1 : Int32) (b2 : Int32) (x : Int32 × mV) (hcf : cf_X4_apply Y V G a0 b1 b2 = some x) : CT l yX4_apply cX4_apply 3 (some .int) (rmd 3) D cy z [.ref a0, .int b1, .int b2] Y n V G (some (.int x.1)) Y n x.2 G := by
  refine ct_of (by decide) (Nat.le_of_ble_eq_true rfl) ?_
  intro p e s m args below meth c ls hx hb hr hml hown hts hlocks hnm hE hW hl
  have hS : va_S (zA z) s.heap s.heap [] := va_S.rf
  have hl : lv_has ls 3 [(0, .ref a0), (1, .int b1), (2, .int b2)] := hl
  have hown : s.vm.findClass RX4 = some m.cls := hown
  rw [cf_X4_apply] at hcf
  refine lv_aload_n hx hb dX4_apply_0 rfl (lv_at hl 0 rfl) ?_
  obtain ⟨q1, hcf⟩ := og hcf
  obtain ⟨r2, hr2, hcf⟩ := ob hcf
  refine gf_X4_7 hx hb hts hown hE hW q1 hr2 dX4_apply_1 ?_
  refine lv_aload_n hx hb dX4_apply_4 rfl (lv_at hl 0 rfl) ?_
  obtain ⟨r3, hr3, hcf⟩ := ob hcf
  refine gf_X4_13 hx hb hts hown hE hW q1 hr3 dX4_apply_5 ?_
  obtain ⟨x4, hx4, hcf⟩ := ob hcf
  refine iv_X4_135 (As := [.ref r2, .ref r3]) (rest := []) hx hb hml hown hts hE (ct_X4_copy l D cy z n Y V G r2 r3 x4 hx4) hW hS rfl rfl hl.1 (Nat.le_of_ble_eq_true rfl) ⟨Nat.le_of_ble_eq_true rfl, Nat.le_of_ble_eq_true rfl⟩ dX4_apply_8 ⟨Nat.zero_le _, Nat.zero_le _⟩ (fun H locs hW hS => ?_)
  refine lv_aload_n hx hb dX4_apply_11 rfl (lv_at hl 0 rfl) ?_
  refine lv_aload_n hx hb dX4_apply_12 rfl (lv_at hl 0 rfl) ?_
  refine lv_iload_n hx hb dX4_apply_13 rfl (lv_at hl 1 rfl) ?_
  refine lv_iload_n hx hb dX4_apply_14 rfl (lv_at hl 2 rfl) ?_
  obtain ⟨x5, hx5, hcf⟩ := ob hcf
  refine iv_X4_152 (As := [.int b1, .int b2]) (rest := [.ref a0]) hx hb hml hown hts hE (ct_X4_doApply l D cy z n Y x4 G a0 b1 b2 x5 hx5) hW hS q1 rfl rfl hl.1 (Nat.le_of_ble_eq_true rfl) ⟨Nat.le_of_ble_eq_true rfl, Nat.le_of_ble_eq_true rfl⟩ dX4_apply_15 ⟨Nat.zero_le _, Nat.zero_le _⟩ (fun H locs hW hS => ?_)
  obtain ⟨x6, hx6, hcf⟩ := ob hcf
  refine iv_X4_143 (As := [.int x5.1]) (rest := []) hx hb hml hown hts hE (ct_X4_changed l D cy z n Y x5.2 G a0 x5.1 x6 hx6) hW hS q1 rfl rfl hl.1 (Nat.le_of_ble_eq_true rfl) ⟨Nat.le_of_ble_eq_true rfl, Nat.le_of_ble_eq_true rfl⟩ dX4_apply_18 ⟨Nat.zero_le _, Nat.zero_le _⟩ (fun H locs hW hS => ?_)
  have hcf := Option.some.inj hcf; subst hcf
  exact wk_iret hx hb hr hlocks hW hS dX4_apply_21
set_option maxHeartbeats 4000000 in
set_option maxRecDepth 100000 in
theorem ct_X4_decide (l : Launch) (D : va_G) (cy : Nat → ClassId) (z n : Nat) (Y : mY) (V : mV) (G : mG) (a0 : Nat) (b1 : Int32) (b2 : Int32) (x : Int32 × mV) (hcf : cf_X4_decide Y V G a0 b1 b2 = some x) : CT l yX4_decide cX4_decide 3 (some .int) (rmd 5) D cy z [.ref a0, .int b1, .int b2] Y n V G (some (.int x.1)) Y n x.2 G := by
  refine ct_of (by decide) (Nat.le_of_ble_eq_true rfl) ?_
  intro p e s m args below meth c ls hx hb hr hml hown hts hlocks hnm hE hW hl
  have hS : va_S (zA z) s.heap s.heap [] := va_S.rf
  have hl : lv_has ls 3 [(0, .ref a0), (1, .int b1), (2, .int b2)] := hl
  have hown : s.vm.findClass RX4 = some m.cls := hown
  rw [cf_X4_decide] at hcf
  refine lv_aload_n hx hb dX4_decide_0 rfl (lv_at hl 0 rfl) ?_
  obtain ⟨q1, hcf⟩ := og hcf
  obtain ⟨r2, hr2, hcf⟩ := ob hcf
  refine gf_X4_7 hx hb hts hown hE hW q1 hr2 dX4_decide_1 ?_
  refine lv_aload_n hx hb dX4_decide_4 rfl (lv_at hl 0 rfl) ?_
  obtain ⟨r3, hr3, hcf⟩ := ob hcf
  refine gf_X4_13 hx hb hts hown hE hW q1 hr3 dX4_decide_5 ?_
  obtain ⟨x4, hx4, hcf⟩ := ob hcf
  refine iv_X4_135 (As := [.ref r2, .ref r3]) (rest := []) hx hb hml hown hts hE (ct_X4_copy l D cy z n Y V G r2 r3 x4 hx4) hW hS rfl rfl hl.1 (Nat.le_of_ble_eq_true rfl) ⟨Nat.le_of_ble_eq_true rfl, Nat.le_of_ble_eq_true rfl⟩ dX4_decide_8 ⟨Nat.zero_le _, Nat.zero_le _⟩ (fun H locs hW hS => ?_)
  refine lv_aload_n hx hb dX4_decide_11 rfl (lv_at hl 0 rfl) ?_
  refine lv_aload_n hx hb dX4_decide_12 rfl (lv_at hl 0 rfl) ?_
  refine lv_iload_n hx hb dX4_decide_13 rfl (lv_at hl 1 rfl) ?_
  refine lv_iload_n hx hb dX4_decide_14 rfl (lv_at hl 2 rfl) ?_
  obtain ⟨x5, hx5, hcf⟩ := ob hcf
  refine iv_X4_155 (As := [.int b1, .int b2]) (rest := [.ref a0]) hx hb hml hown hts hE (ct_X4_doDecide l D cy z n Y x4 G a0 b1 b2 x5 hx5) hW hS q1 rfl rfl hl.1 (Nat.le_of_ble_eq_true rfl) ⟨Nat.le_of_ble_eq_true rfl, Nat.le_of_ble_eq_true rfl⟩ dX4_decide_15 ⟨Nat.zero_le _, Nat.zero_le _⟩ (fun H locs hW hS => ?_)
  obtain ⟨x6, hx6, hcf⟩ := ob hcf
  refine iv_X4_143 (As := [.int x5.1]) (rest := []) hx hb hml hown hts hE (ct_X4_changed l D cy z n Y x5.2 G a0 x5.1 x6 hx6) hW hS q1 rfl rfl hl.1 (Nat.le_of_ble_eq_true rfl) ⟨Nat.le_of_ble_eq_true rfl, Nat.le_of_ble_eq_true rfl⟩ dX4_decide_18 ⟨Nat.zero_le _, Nat.zero_le _⟩ (fun H locs hW hS => ?_)
  have hcf := Option.some.inj hcf; subst hcf
  exact wk_iret hx hb hr hlocks hW hS dX4_decide_21
set_option maxHeartbeats 4000000 in
set_option maxRecDepth 100000 in
theorem ct_X4_lapse (l : Launch) (D : va_G) (cy : Nat → ClassId) (z n : Nat) (Y : mY) (V : mV) (G : mG) (a0 : Nat) (b1 : Int32) (x : Int32 × mV) (hcf : cf_X4_lapse Y V G a0 b1 = some x) : CT l yX4_lapse cX4_lapse 2 (some .int) (rmd 5) D cy z [.ref a0, .int b1] Y n V G (some (.int x.1)) Y n x.2 G := by
  refine ct_of (by decide) (Nat.le_of_ble_eq_true rfl) ?_
  intro p e s m args below meth c ls hx hb hr hml hown hts hlocks hnm hE hW hl
  have hS : va_S (zA z) s.heap s.heap [] := va_S.rf
  have hl : lv_has ls 2 [(0, .ref a0), (1, .int b1)] := hl
  have hown : s.vm.findClass RX4 = some m.cls := hown
  rw [cf_X4_lapse] at hcf
  refine lv_aload_n hx hb dX4_lapse_0 rfl (lv_at hl 0 rfl) ?_
  obtain ⟨q1, hcf⟩ := og hcf
  obtain ⟨r2, hr2, hcf⟩ := ob hcf
  refine gf_X4_7 hx hb hts hown hE hW q1 hr2 dX4_lapse_1 ?_
  refine lv_aload_n hx hb dX4_lapse_4 rfl (lv_at hl 0 rfl) ?_
  obtain ⟨r3, hr3, hcf⟩ := ob hcf
  refine gf_X4_13 hx hb hts hown hE hW q1 hr3 dX4_lapse_5 ?_
  obtain ⟨x4, hx4, hcf⟩ := ob hcf
  refine iv_X4_135 (As := [.ref r2, .ref r3]) (rest := []) hx hb hml hown hts hE (ct_X4_copy l D cy z n Y V G r2 r3 x4 hx4) hW hS rfl rfl hl.1 (Nat.le_of_ble_eq_true rfl) ⟨Nat.le_of_ble_eq_true rfl, Nat.le_of_ble_eq_true rfl⟩ dX4_lapse_8 ⟨Nat.zero_le _, Nat.zero_le _⟩ (fun H locs hW hS => ?_)
  refine lv_aload_n hx hb dX4_lapse_11 rfl (lv_at hl 0 rfl) ?_
  refine lv_aload_n hx hb dX4_lapse_12 rfl (lv_at hl 0 rfl) ?_
  refine lv_iload_n hx hb dX4_lapse_13 rfl (lv_at hl 1 rfl) ?_
  obtain ⟨x5, hx5, hcf⟩ := ob hcf
  refine iv_X4_158 (As := [.int b1]) (rest := [.ref a0]) hx hb hml hown hts hE (ct_X4_doLapse l D cy z n Y x4 G a0 b1 x5 hx5) hW hS q1 rfl rfl hl.1 (Nat.le_of_ble_eq_true rfl) ⟨Nat.le_of_ble_eq_true rfl, Nat.le_of_ble_eq_true rfl⟩ dX4_lapse_14 ⟨Nat.zero_le _, Nat.zero_le _⟩ (fun H locs hW hS => ?_)
  obtain ⟨x6, hx6, hcf⟩ := ob hcf
  refine iv_X4_143 (As := [.int x5.1]) (rest := []) hx hb hml hown hts hE (ct_X4_changed l D cy z n Y x5.2 G a0 x5.1 x6 hx6) hW hS q1 rfl rfl hl.1 (Nat.le_of_ble_eq_true rfl) ⟨Nat.le_of_ble_eq_true rfl, Nat.le_of_ble_eq_true rfl⟩ dX4_lapse_17 ⟨Nat.zero_le _, Nat.zero_le _⟩ (fun H locs hW hS => ?_)
  have hcf := Option.some.inj hcf; subst hcf
  exact wk_iret hx hb hr hlocks hW hS dX4_lapse_20
set_option maxHeartbeats 4000000 in
set_option maxRecDepth 100000 in
theorem ct_X4_cure (l : Launch) (D : va_G) (cy : Nat → ClassId) (z n : Nat) (Y : mY) (V : mV) (G : mG) (a0 : Nat) (b1 : Int32) (x : Int32 × mV) (hcf : cf_X4_cure Y V G a0 b1 = some x) : CT l yX4_cure cX4_cure 2 (some .int) (rmd 5) D cy z [.ref a0, .int b1] Y n V G (some (.int x.1)) Y n x.2 G := by
  refine ct_of (by decide) (Nat.le_of_ble_eq_true rfl) ?_
  intro p e s m args below meth c ls hx hb hr hml hown hts hlocks hnm hE hW hl
  have hS : va_S (zA z) s.heap s.heap [] := va_S.rf
  have hl : lv_has ls 2 [(0, .ref a0), (1, .int b1)] := hl
  have hown : s.vm.findClass RX4 = some m.cls := hown
  rw [cf_X4_cure] at hcf
  refine lv_aload_n hx hb dX4_cure_0 rfl (lv_at hl 0 rfl) ?_
  obtain ⟨q1, hcf⟩ := og hcf
  obtain ⟨r2, hr2, hcf⟩ := ob hcf
  refine gf_X4_7 hx hb hts hown hE hW q1 hr2 dX4_cure_1 ?_
  refine lv_aload_n hx hb dX4_cure_4 rfl (lv_at hl 0 rfl) ?_
  obtain ⟨r3, hr3, hcf⟩ := ob hcf
  refine gf_X4_13 hx hb hts hown hE hW q1 hr3 dX4_cure_5 ?_
  obtain ⟨x4, hx4, hcf⟩ := ob hcf
  refine iv_X4_135 (As := [.ref r2, .ref r3]) (rest := []) hx hb hml hown hts hE (ct_X4_copy l D cy z n Y V G r2 r3 x4 hx4) hW hS rfl rfl hl.1 (Nat.le_of_ble_eq_true rfl) ⟨Nat.le_of_ble_eq_true rfl, Nat.le_of_ble_eq_true rfl⟩ dX4_cure_8 ⟨Nat.zero_le _, Nat.zero_le _⟩ (fun H locs hW hS => ?_)
  refine lv_aload_n hx hb dX4_cure_11 rfl (lv_at hl 0 rfl) ?_
  refine lv_aload_n hx hb dX4_cure_12 rfl (lv_at hl 0 rfl) ?_
  refine lv_iload_n hx hb dX4_cure_13 rfl (lv_at hl 1 rfl) ?_
  obtain ⟨x5, hx5, hcf⟩ := ob hcf
  refine iv_X4_161 (As := [.int b1]) (rest := [.ref a0]) hx hb hml hown hts hE (ct_X4_doCure l D cy z n Y x4 G a0 b1 x5 hx5) hW hS q1 rfl rfl hl.1 (Nat.le_of_ble_eq_true rfl) ⟨Nat.le_of_ble_eq_true rfl, Nat.le_of_ble_eq_true rfl⟩ dX4_cure_14 ⟨Nat.zero_le _, Nat.zero_le _⟩ (fun H locs hW hS => ?_)
  obtain ⟨x6, hx6, hcf⟩ := ob hcf
  refine iv_X4_143 (As := [.int x5.1]) (rest := []) hx hb hml hown hts hE (ct_X4_changed l D cy z n Y x5.2 G a0 x5.1 x6 hx6) hW hS q1 rfl rfl hl.1 (Nat.le_of_ble_eq_true rfl) ⟨Nat.le_of_ble_eq_true rfl, Nat.le_of_ble_eq_true rfl⟩ dX4_cure_17 ⟨Nat.zero_le _, Nat.zero_le _⟩ (fun H locs hW hS => ?_)
  have hcf := Option.some.inj hcf; subst hcf
  exact wk_iret hx hb hr hlocks hW hS dX4_cure_20
set_option maxHeartbeats 4000000 in
set_option maxRecDepth 100000 in
theorem ct_X4_serve (l : Launch) (D : va_G) (cy : Nat → ClassId) (z n : Nat) (Y : mY) (V : mV) (G : mG) (a0 : Nat) (b1 : Int32) (b2 : Int32) (x : Int32 × mV) (hcf : cf_X4_serve Y V G a0 b1 b2 = some x) : CT l yX4_serve cX4_serve 3 (some .int) (rmd 5) D cy z [.ref a0, .int b1, .int b2] Y n V G (some (.int x.1)) Y n x.2 G := by
  refine ct_of (by decide) (Nat.le_of_ble_eq_true rfl) ?_
  intro p e s m args below meth c ls hx hb hr hml hown hts hlocks hnm hE hW hl
  have hS : va_S (zA z) s.heap s.heap [] := va_S.rf
  have hl : lv_has ls 3 [(0, .ref a0), (1, .int b1), (2, .int b2)] := hl
  have hown : s.vm.findClass RX4 = some m.cls := hown
  rw [cf_X4_serve] at hcf
  refine lv_aload_n hx hb dX4_serve_0 rfl (lv_at hl 0 rfl) ?_
  obtain ⟨q1, hcf⟩ := og hcf
  obtain ⟨r2, hr2, hcf⟩ := ob hcf
  refine gf_X4_7 hx hb hts hown hE hW q1 hr2 dX4_serve_1 ?_
  refine lv_aload_n hx hb dX4_serve_4 rfl (lv_at hl 0 rfl) ?_
  obtain ⟨r3, hr3, hcf⟩ := ob hcf
  refine gf_X4_13 hx hb hts hown hE hW q1 hr3 dX4_serve_5 ?_
  obtain ⟨x4, hx4, hcf⟩ := ob hcf
  refine iv_X4_135 (As := [.ref r2, .ref r3]) (rest := []) hx hb hml hown hts hE (ct_X4_copy l D cy z n Y V G r2 r3 x4 hx4) hW hS rfl rfl hl.1 (Nat.le_of_ble_eq_true rfl) ⟨Nat.le_of_ble_eq_true rfl, Nat.le_of_ble_eq_true rfl⟩ dX4_serve_8 ⟨Nat.zero_le _, Nat.zero_le _⟩ (fun H locs hW hS => ?_)
  refine lv_aload_n hx hb dX4_serve_11 rfl (lv_at hl 0 rfl) ?_
  refine lv_aload_n hx hb dX4_serve_12 rfl (lv_at hl 0 rfl) ?_
  refine lv_iload_n hx hb dX4_serve_13 rfl (lv_at hl 1 rfl) ?_
  refine lv_iload_n hx hb dX4_serve_14 rfl (lv_at hl 2 rfl) ?_
  obtain ⟨x5, hx5, hcf⟩ := ob hcf
  refine iv_X4_164 (As := [.int b1, .int b2]) (rest := [.ref a0]) hx hb hml hown hts hE (ct_X4_doServe l D cy z n Y x4 G a0 b1 b2 x5 hx5) hW hS q1 rfl rfl hl.1 (Nat.le_of_ble_eq_true rfl) ⟨Nat.le_of_ble_eq_true rfl, Nat.le_of_ble_eq_true rfl⟩ dX4_serve_15 ⟨Nat.zero_le _, Nat.zero_le _⟩ (fun H locs hW hS => ?_)
  obtain ⟨x6, hx6, hcf⟩ := ob hcf
  refine iv_X4_143 (As := [.int x5.1]) (rest := []) hx hb hml hown hts hE (ct_X4_changed l D cy z n Y x5.2 G a0 x5.1 x6 hx6) hW hS q1 rfl rfl hl.1 (Nat.le_of_ble_eq_true rfl) ⟨Nat.le_of_ble_eq_true rfl, Nat.le_of_ble_eq_true rfl⟩ dX4_serve_18 ⟨Nat.zero_le _, Nat.zero_le _⟩ (fun H locs hW hS => ?_)
  have hcf := Option.some.inj hcf; subst hcf
  exact wk_iret hx hb hr hlocks hW hS dX4_serve_21
set_option maxHeartbeats 4000000 in
set_option maxRecDepth 100000 in
theorem ct_X4_vary (l : Launch) (D : va_G) (cy : Nat → ClassId) (z n : Nat) (Y : mY) (V : mV) (G : mG) (a0 : Nat) (b1 : Int32) (b2 : Int32) (b3 : Int32) (x : Int32 × mV) (hcf : cf_X4_vary Y V G a0 b1 b2 b3 = some x) : CT l yX4_vary cX4_vary 4 (some .int) (rmd 5) D cy z [.ref a0, .int b1, .int b2, .int b3] Y n V G (some (.int x.1)) Y n x.2 G := by
  refine ct_of (by decide) (Nat.le_of_ble_eq_true rfl) ?_
  intro p e s m args below meth c ls hx hb hr hml hown hts hlocks hnm hE hW hl
  have hS : va_S (zA z) s.heap s.heap [] := va_S.rf
  have hl : lv_has ls 4 [(0, .ref a0), (1, .int b1), (2, .int b2), (3, .int b3)] := hl
  have hown : s.vm.findClass RX4 = some m.cls := hown
  rw [cf_X4_vary] at hcf
  refine lv_aload_n hx hb dX4_vary_0 rfl (lv_at hl 0 rfl) ?_
  obtain ⟨q1, hcf⟩ := og hcf
  obtain ⟨r2, hr2, hcf⟩ := ob hcf
  refine gf_X4_7 hx hb hts hown hE hW q1 hr2 dX4_vary_1 ?_
  refine lv_aload_n hx hb dX4_vary_4 rfl (lv_at hl 0 rfl) ?_
  obtain ⟨r3, hr3, hcf⟩ := ob hcf
  refine gf_X4_13 hx hb hts hown hE hW q1 hr3 dX4_vary_5 ?_
  obtain ⟨x4, hx4, hcf⟩ := ob hcf
  refine iv_X4_135 (As := [.ref r2, .ref r3]) (rest := []) hx hb hml hown hts hE (ct_X4_copy l D cy z n Y V G r2 r3 x4 hx4) hW hS rfl rfl hl.1 (Nat.le_of_ble_eq_true rfl) ⟨Nat.le_of_ble_eq_true rfl, Nat.le_of_ble_eq_true rfl⟩ dX4_vary_8 ⟨Nat.zero_le _, Nat.zero_le _⟩ (fun H locs hW hS => ?_)
  refine lv_aload_n hx hb dX4_vary_11 rfl (lv_at hl 0 rfl) ?_
  refine lv_aload_n hx hb dX4_vary_12 rfl (lv_at hl 0 rfl) ?_
  refine lv_iload_n hx hb dX4_vary_13 rfl (lv_at hl 1 rfl) ?_
  refine lv_iload_n hx hb dX4_vary_14 rfl (lv_at hl 2 rfl) ?_
  refine lv_iload_n hx hb dX4_vary_15 rfl (lv_at hl 3 rfl) ?_
  obtain ⟨x5, hx5, hcf⟩ := ob hcf
  refine iv_X4_167 (As := [.int b1, .int b2, .int b3]) (rest := [.ref a0]) hx hb hml hown hts hE (ct_X4_doVary l D cy z n Y x4 G a0 b1 b2 b3 x5 hx5) hW hS q1 rfl rfl hl.1 (Nat.le_of_ble_eq_true rfl) ⟨Nat.le_of_ble_eq_true rfl, Nat.le_of_ble_eq_true rfl⟩ dX4_vary_16 ⟨Nat.zero_le _, Nat.zero_le _⟩ (fun H locs hW hS => ?_)
  obtain ⟨x6, hx6, hcf⟩ := ob hcf
  refine iv_X4_143 (As := [.int x5.1]) (rest := []) hx hb hml hown hts hE (ct_X4_changed l D cy z n Y x5.2 G a0 x5.1 x6 hx6) hW hS q1 rfl rfl hl.1 (Nat.le_of_ble_eq_true rfl) ⟨Nat.le_of_ble_eq_true rfl, Nat.le_of_ble_eq_true rfl⟩ dX4_vary_19 ⟨Nat.zero_le _, Nat.zero_le _⟩ (fun H locs hW hS => ?_)
  have hcf := Option.some.inj hcf; subst hcf
  exact wk_iret hx hb hr hlocks hW hS dX4_vary_22
set_option maxHeartbeats 4000000 in
set_option maxRecDepth 100000 in
theorem ct_X4_pass (l : Launch) (D : va_G) (cy : Nat → ClassId) (z n : Nat) (Y : mY) (V : mV) (G : mG) (a0 : Nat) (b1 : Int32) (x : Int32 × mV) (hcf : cf_X4_pass Y V G a0 b1 = some x) : CT l yX4_pass cX4_pass 2 (some .int) (rmd 7) D cy z [.ref a0, .int b1] Y n V G (some (.int x.1)) Y n x.2 G := by
  refine ct_of (by decide) (Nat.le_of_ble_eq_true rfl) ?_
  intro p e s m args below meth c ls hx hb hr hml hown hts hlocks hnm hE hW hl
  have hS : va_S (zA z) s.heap s.heap [] := va_S.rf
  have hl : lv_has ls 2 [(0, .ref a0), (1, .int b1)] := hl
  have hown : s.vm.findClass RX4 = some m.cls := hown
  rw [cf_X4_pass] at hcf
  refine lv_aload_n hx hb dX4_pass_0 rfl (lv_at hl 0 rfl) ?_
  obtain ⟨q1, hcf⟩ := og hcf
  obtain ⟨r2, hr2, hcf⟩ := ob hcf
  refine gf_X4_7 hx hb hts hown hE hW q1 hr2 dX4_pass_1 ?_
  refine lv_aload_n hx hb dX4_pass_4 rfl (lv_at hl 0 rfl) ?_
  obtain ⟨r3, hr3, hcf⟩ := ob hcf
  refine gf_X4_13 hx hb hts hown hE hW q1 hr3 dX4_pass_5 ?_
  obtain ⟨x4, hx4, hcf⟩ := ob hcf
  refine iv_X4_135 (As := [.ref r2, .ref r3]) (rest := []) hx hb hml hown hts hE (ct_X4_copy l D cy z n Y V G r2 r3 x4 hx4) hW hS rfl rfl hl.1 (Nat.le_of_ble_eq_true rfl) ⟨Nat.le_of_ble_eq_true rfl, Nat.le_of_ble_eq_true rfl⟩ dX4_pass_8 ⟨Nat.zero_le _, Nat.zero_le _⟩ (fun H locs hW hS => ?_)
  refine lv_aload_n hx hb dX4_pass_11 rfl (lv_at hl 0 rfl) ?_
  refine lv_aload_n hx hb dX4_pass_12 rfl (lv_at hl 0 rfl) ?_
  refine lv_iload_n hx hb dX4_pass_13 rfl (lv_at hl 1 rfl) ?_
  obtain ⟨x5, hx5, hcf⟩ := ob hcf
  refine iv_X4_171 (As := [.int b1]) (rest := [.ref a0]) hx hb hml hown hts hE (ct_X4_doPass l D cy z n Y x4 G a0 b1 x5 hx5) hW hS q1 rfl rfl hl.1 (Nat.le_of_ble_eq_true rfl) ⟨Nat.le_of_ble_eq_true rfl, Nat.le_of_ble_eq_true rfl⟩ dX4_pass_14 ⟨Nat.zero_le _, Nat.zero_le _⟩ (fun H locs hW hS => ?_)
  obtain ⟨x6, hx6, hcf⟩ := ob hcf
  refine iv_X4_143 (As := [.int x5.1]) (rest := []) hx hb hml hown hts hE (ct_X4_changed l D cy z n Y x5.2 G a0 x5.1 x6 hx6) hW hS q1 rfl rfl hl.1 (Nat.le_of_ble_eq_true rfl) ⟨Nat.le_of_ble_eq_true rfl, Nat.le_of_ble_eq_true rfl⟩ dX4_pass_17 ⟨Nat.zero_le _, Nat.zero_le _⟩ (fun H locs hW hS => ?_)
  have hcf := Option.some.inj hcf; subst hcf
  exact wk_iret hx hb hr hlocks hW hS dX4_pass_20
set_option maxHeartbeats 4000000 in
set_option maxRecDepth 100000 in
theorem ct_X4_set (l : Launch) (D : va_G) (cy : Nat → ClassId) (z n : Nat) (Y : mY) (V : mV) (G : mG) (a0 : Nat) (b1 : Int32) (b2 : Int32) (x : Int32 × mV) (hcf : cf_X4_set Y V G a0 b1 b2 = some x) : CT l yX4_set cX4_set 3 (some .int) (rmd 2) D cy z [.ref a0, .int b1, .int b2] Y n V G (some (.int x.1)) Y n x.2 G := by
  refine ct_of (by decide) (Nat.le_of_ble_eq_true rfl) ?_
  intro p e s m args below meth c ls hx hb hr hml hown hts hlocks hnm hE hW hl
  have hS : va_S (zA z) s.heap s.heap [] := va_S.rf
  have hl : lv_has ls 3 [(0, .ref a0), (1, .int b1), (2, .int b2)] := hl
  have hown : s.vm.findClass RX4 = some m.cls := hown
  rw [cf_X4_set] at hcf
  refine lv_aload_n hx hb dX4_set_0 rfl (lv_at hl 0 rfl) ?_
  obtain ⟨q1, hcf⟩ := og hcf
  obtain ⟨r2, hr2, hcf⟩ := ob hcf
  refine gf_X4_7 hx hb hts hown hE hW q1 hr2 dX4_set_1 ?_
  refine lv_aload_n hx hb dX4_set_4 rfl (lv_at hl 0 rfl) ?_
  obtain ⟨r3, hr3, hcf⟩ := ob hcf
  refine gf_X4_13 hx hb hts hown hE hW q1 hr3 dX4_set_5 ?_
  obtain ⟨x4, hx4, hcf⟩ := ob hcf
  refine iv_X4_135 (As := [.ref r2, .ref r3]) (rest := []) hx hb hml hown hts hE (ct_X4_copy l D cy z n Y V G r2 r3 x4 hx4) hW hS rfl rfl hl.1 (Nat.le_of_ble_eq_true rfl) ⟨Nat.le_of_ble_eq_true rfl, Nat.le_of_ble_eq_true rfl⟩ dX4_set_8 ⟨Nat.zero_le _, Nat.zero_le _⟩ (fun H locs hW hS => ?_)
  refine lv_aload_n hx hb dX4_set_11 rfl (lv_at hl 0 rfl) ?_
  refine lv_aload_n hx hb dX4_set_12 rfl (lv_at hl 0 rfl) ?_
  refine lv_iload_n hx hb dX4_set_13 rfl (lv_at hl 1 rfl) ?_
  refine lv_iload_n hx hb dX4_set_14 rfl (lv_at hl 2 rfl) ?_
  obtain ⟨x5, hx5, hcf⟩ := ob hcf
  refine iv_X4_174 (As := [.int b1, .int b2]) (rest := [.ref a0]) hx hb hml hown hts hE (ct_X4_doSet l D cy z n Y x4 G a0 b1 b2 x5 hx5) hW hS q1 rfl rfl hl.1 (Nat.le_of_ble_eq_true rfl) ⟨Nat.le_of_ble_eq_true rfl, Nat.le_of_ble_eq_true rfl⟩ dX4_set_15 ⟨Nat.zero_le _, Nat.zero_le _⟩ (fun H locs hW hS => ?_)
  obtain ⟨x6, hx6, hcf⟩ := ob hcf
  refine iv_X4_143 (As := [.int x5.1]) (rest := []) hx hb hml hown hts hE (ct_X4_changed l D cy z n Y x5.2 G a0 x5.1 x6 hx6) hW hS q1 rfl rfl hl.1 (Nat.le_of_ble_eq_true rfl) ⟨Nat.le_of_ble_eq_true rfl, Nat.le_of_ble_eq_true rfl⟩ dX4_set_18 ⟨Nat.zero_le _, Nat.zero_le _⟩ (fun H locs hW hS => ?_)
  have hcf := Option.some.inj hcf; subst hcf
  exact wk_iret hx hb hr hlocks hW hS dX4_set_21
set_option maxHeartbeats 4000000 in
set_option maxRecDepth 100000 in
theorem ct_X4_conditionOf (l : Launch) (D : va_G) (cy : Nat → ClassId) (z n : Nat) (Y : mY) (V : mV) (G : mG) (a0 : Nat) (b1 : Int32) (b2 : Int32) (x : Int32) (hcf : cf_X4_conditionOf Y V G a0 b1 b2 = some x) : CT l yX4_conditionOf cX4_conditionOf 3 (some .int) (rmd 4) D cy z [.ref a0, .int b1, .int b2] Y n V G (some (.int x)) Y n V G := by
  refine ct_of (by decide) (Nat.le_of_ble_eq_true rfl) ?_
  intro p e s m args below meth c ls hx hb hr hml hown hts hlocks hnm hE hW hl
  have hS : va_S (zA z) s.heap s.heap [] := va_S.rf
  have hl : lv_has ls 3 [(0, .ref a0), (1, .int b1), (2, .int b2)] := hl
  have hown : s.vm.findClass RX4 = some m.cls := hown
  rw [cf_X4_conditionOf] at hcf
  refine lv_aload_n hx hb dX4_conditionOf_0 rfl (lv_at hl 0 rfl) ?_
  refine lv_iload_n hx hb dX4_conditionOf_1 rfl (lv_at hl 1 rfl) ?_
  obtain ⟨q1, hcf⟩ := og hcf
  obtain ⟨x2, hx2, hcf⟩ := ob hcf
  refine iv_X4_99 (As := [.int b1]) (rest := []) hx hb hml hown hts hE (ct_X4_isCondition l D cy z n Y V G a0 b1 x2 hx2) hW hS q1 rfl rfl hl.1 (Nat.le_of_ble_eq_true rfl) ⟨Nat.le_of_ble_eq_true rfl, Nat.le_of_ble_eq_true rfl⟩ dX4_conditionOf_2 ⟨Nat.zero_le _, Nat.zero_le _⟩ (fun H locs hW hS => ?_)
  refine lv_if_eq (tgt := 20) hx hb dX4_conditionOf_5 (by decide) (fun q3 => ?_) (fun q3 => ?_)
  · replace hcf := (if_pos q3).symm.trans hcf
    refine lv_ldc hx hb hown (hts _ q672) dX4_conditionOf_20 ?_
    have hcf := Option.some.inj hcf; subst hcf
    exact wk_iret hx hb hr hlocks hW hS dX4_conditionOf_22
  · replace hcf := (if_neg q3).symm.trans hcf
    refine lv_iload_n hx hb dX4_conditionOf_8 rfl (lv_at hl 2 rfl) ?_
    refine lv_i2l hx hb dX4_conditionOf_9 rfl ?_
    refine lv_lconst (v := (0 : Int64)) hx hb dX4_conditionOf_10 (by decide) ?_
    refine lv_ldc2 hx hb hown (hts _ q856) dX4_conditionOf_11 ?_
    obtain ⟨x4, hx4, hcf⟩ := ob hcf
    refine iv_X4_40 (As := [.long ((b2).toInt64), .long (0 : Int64), .long (11 : Int64)]) (rest := []) hx hb hml hown hts hE (ct_X4_in l D cy z n Y V G ((b2).toInt64) (0 : Int64) (11 : Int64) x4 hx4) hW hS rfl rfl hl.1 (Nat.le_of_ble_eq_true rfl) ⟨Nat.le_of_ble_eq_true rfl, Nat.le_of_ble_eq_true rfl⟩ dX4_conditionOf_14 ⟨Nat.zero_le _, Nat.zero_le _⟩ (fun H locs hW hS => ?_)
    refine lv_if_ne (tgt := 23) hx hb dX4_conditionOf_17 (by decide) (fun q5 => ?_) (fun q5 => ?_)
    · replace hcf := (if_neg q5).symm.trans hcf
      refine lv_iload_n hx hb dX4_conditionOf_23 rfl (lv_at hl 2 rfl) ?_
      by_cases q6 : b2 = (4 : Int32)
      · replace hcf := (if_pos q6).symm.trans hcf
        refine wk_tsw (off := 48) (tgt := 72) hx hb dX4_conditionOf_24 (by rw [q6]; rfl) (by decide) ?_
        refine lv_aload_n hx hb dX4_conditionOf_72 rfl (lv_at hl 0 rfl) ?_
        refine lv_iload_n hx hb dX4_conditionOf_73 rfl (lv_at hl 1 rfl) ?_
        obtain ⟨x7, hx7, hcf⟩ := ob hcf
        refine iv_X4_109 (As := [.int b1]) (rest := []) hx hb hml hown hts hE (ct_X4_stateOf l D cy z n Y V G a0 b1 x7 hx7) hW hS q1 rfl rfl hl.1 (Nat.le_of_ble_eq_true rfl) ⟨Nat.le_of_ble_eq_true rfl, Nat.le_of_ble_eq_true rfl⟩ dX4_conditionOf_74 ⟨Nat.zero_le _, Nat.zero_le _⟩ (fun H locs hW hS => ?_)
        have hcf := Option.some.inj hcf; subst hcf
        exact wk_iret hx hb hr hlocks hW hS dX4_conditionOf_77
      · replace hcf := (if_neg q6).symm.trans hcf
        by_cases q8 : b2 = (5 : Int32)
        · replace hcf := (if_pos q8).symm.trans hcf
          refine wk_tsw (off := 54) (tgt := 78) hx hb dX4_conditionOf_24 (by rw [q8]; rfl) (by decide) ?_
          refine lv_aload_n hx hb dX4_conditionOf_78 rfl (lv_at hl 0 rfl) ?_
          refine lv_iload_n hx hb dX4_conditionOf_79 rfl (lv_at hl 1 rfl) ?_
          refine lv_iconst (v := (4 : Int32)) hx hb dX4_conditionOf_80 (by decide) ?_
          obtain ⟨x9, hx9, hcf⟩ := ob hcf
          refine iv_X4_46 (As := [.int b1, .int (4 : Int32)]) (rest := []) hx hb hml hown hts hE (ct_X4_get l D cy z n Y V G a0 b1 (4 : Int32) x9 hx9) hW hS q1 rfl rfl hl.1 (Nat.le_of_ble_eq_true rfl) ⟨Nat.le_of_ble_eq_true rfl, Nat.le_of_ble_eq_true rfl⟩ dX4_conditionOf_81 ⟨Nat.zero_le _, Nat.zero_le _⟩ (fun H locs hW hS => ?_)
          have hcf := Option.some.inj hcf; subst hcf
          exact wk_iret hx hb hr hlocks hW hS dX4_conditionOf_84
        · replace hcf := (if_neg q8).symm.trans hcf
          by_cases q10 : b2 = (6 : Int32)
          · replace hcf := (if_pos q10).symm.trans hcf
            refine wk_tsw (off := 61) (tgt := 85) hx hb dX4_conditionOf_24 (by rw [q10]; rfl) (by decide) ?_
            refine lv_aload_n hx hb dX4_conditionOf_85 rfl (lv_at hl 0 rfl) ?_
            refine lv_iload_n hx hb dX4_conditionOf_86 rfl (lv_at hl 1 rfl) ?_
            refine lv_iconst (v := (5 : Int32)) hx hb dX4_conditionOf_87 (by decide) ?_
            obtain ⟨x11, hx11, hcf⟩ := ob hcf
            refine iv_X4_46 (As := [.int b1, .int (5 : Int32)]) (rest := []) hx hb hml hown hts hE (ct_X4_get l D cy z n Y V G a0 b1 (5 : Int32) x11 hx11) hW hS q1 rfl rfl hl.1 (Nat.le_of_ble_eq_true rfl) ⟨Nat.le_of_ble_eq_true rfl, Nat.le_of_ble_eq_true rfl⟩ dX4_conditionOf_88 ⟨Nat.zero_le _, Nat.zero_le _⟩ (fun H locs hW hS => ?_)
            have hcf := Option.some.inj hcf; subst hcf
            exact wk_iret hx hb hr hlocks hW hS dX4_conditionOf_91
          · replace hcf := (if_neg q10).symm.trans hcf
            by_cases q12 : b2 = (7 : Int32)
            · replace hcf := (if_pos q12).symm.trans hcf
              refine wk_tsw (off := 68) (tgt := 92) hx hb dX4_conditionOf_24 (by rw [q12]; rfl) (by decide) ?_
              refine lv_aload_n hx hb dX4_conditionOf_92 rfl (lv_at hl 0 rfl) ?_
              refine lv_iload_n hx hb dX4_conditionOf_93 rfl (lv_at hl 1 rfl) ?_
              refine lv_iconst (v := (5 : Int32)) hx hb dX4_conditionOf_94 (by decide) ?_
              obtain ⟨x13, hx13, hcf⟩ := ob hcf
              refine iv_X4_46 (As := [.int b1, .int (5 : Int32)]) (rest := []) hx hb hml hown hts hE (ct_X4_get l D cy z n Y V G a0 b1 (5 : Int32) x13 hx13) hW hS q1 rfl rfl hl.1 (Nat.le_of_ble_eq_true rfl) ⟨Nat.le_of_ble_eq_true rfl, Nat.le_of_ble_eq_true rfl⟩ dX4_conditionOf_95 ⟨Nat.zero_le _, Nat.zero_le _⟩ (fun H locs hW hS => ?_)
              refine lv_if_ne (tgt := 106) hx hb dX4_conditionOf_98 (by decide) (fun q14 => ?_) (fun q14 => ?_)
              · replace hcf := (if_neg q14).symm.trans hcf
                refine lv_aload_n hx hb dX4_conditionOf_106 rfl (lv_at hl 0 rfl) ?_
                refine lv_iload_n hx hb dX4_conditionOf_107 rfl (lv_at hl 1 rfl) ?_
                refine lv_bipush (v := (6 : Int32)) hx hb dX4_conditionOf_108 (by decide) ?_
                obtain ⟨x15, hx15, hcf⟩ := ob hcf
                refine iv_X4_46 (As := [.int b1, .int (6 : Int32)]) (rest := []) hx hb hml hown hts hE (ct_X4_get l D cy z n Y V G a0 b1 (6 : Int32) x15 hx15) hW hS q1 rfl rfl hl.1 (Nat.le_of_ble_eq_true rfl) ⟨Nat.le_of_ble_eq_true rfl, Nat.le_of_ble_eq_true rfl⟩ dX4_conditionOf_110 ⟨Nat.zero_le _, Nat.zero_le _⟩ (fun H locs hW hS => ?_)
                have hcf := Option.some.inj hcf; subst hcf
                exact wk_iret hx hb hr hlocks hW hS dX4_conditionOf_113
              · replace hcf := (if_pos q14).symm.trans hcf
                refine lv_ldc hx hb hown (hts _ q857) dX4_conditionOf_101 ?_
                refine lv_goto (tgt := 113) hx hb dX4_conditionOf_103 (by decide) ?_
                have hcf := Option.some.inj hcf; subst hcf
                exact wk_iret hx hb hr hlocks hW hS dX4_conditionOf_113
            · replace hcf := (if_neg q12).symm.trans hcf
              by_cases q16 : b2 = (8 : Int32)
              · replace hcf := (if_pos q16).symm.trans hcf
                refine wk_tsw (off := 90) (tgt := 114) hx hb dX4_conditionOf_24 (by rw [q16]; rfl) (by decide) ?_
                refine lv_aload_n hx hb dX4_conditionOf_114 rfl (lv_at hl 0 rfl) ?_
                refine lv_iload_n hx hb dX4_conditionOf_115 rfl (lv_at hl 1 rfl) ?_
                refine lv_bipush (v := (7 : Int32)) hx hb dX4_conditionOf_116 (by decide) ?_
                obtain ⟨x17, hx17, hcf⟩ := ob hcf
                refine iv_X4_46 (As := [.int b1, .int (7 : Int32)]) (rest := []) hx hb hml hown hts hE (ct_X4_get l D cy z n Y V G a0 b1 (7 : Int32) x17 hx17) hW hS q1 rfl rfl hl.1 (Nat.le_of_ble_eq_true rfl) ⟨Nat.le_of_ble_eq_true rfl, Nat.le_of_ble_eq_true rfl⟩ dX4_conditionOf_118 ⟨Nat.zero_le _, Nat.zero_le _⟩ (fun H locs hW hS => ?_)
                have hcf := Option.some.inj hcf; subst hcf
                exact wk_iret hx hb hr hlocks hW hS dX4_conditionOf_121
              · replace hcf := (if_neg q16).symm.trans hcf
                by_cases q18 : b2 = (9 : Int32)
                · replace hcf := (if_pos q18).symm.trans hcf
                  refine wk_tsw (off := 98) (tgt := 122) hx hb dX4_conditionOf_24 (by rw [q18]; rfl) (by decide) ?_
                  refine lv_aload_n hx hb dX4_conditionOf_122 rfl (lv_at hl 0 rfl) ?_
                  refine lv_iload_n hx hb dX4_conditionOf_123 rfl (lv_at hl 1 rfl) ?_
                  refine lv_bipush (v := (8 : Int32)) hx hb dX4_conditionOf_124 (by decide) ?_
                  obtain ⟨x19, hx19, hcf⟩ := ob hcf
                  refine iv_X4_46 (As := [.int b1, .int (8 : Int32)]) (rest := []) hx hb hml hown hts hE (ct_X4_get l D cy z n Y V G a0 b1 (8 : Int32) x19 hx19) hW hS q1 rfl rfl hl.1 (Nat.le_of_ble_eq_true rfl) ⟨Nat.le_of_ble_eq_true rfl, Nat.le_of_ble_eq_true rfl⟩ dX4_conditionOf_126 ⟨Nat.zero_le _, Nat.zero_le _⟩ (fun H locs hW hS => ?_)
                  refine lv_if_ne (tgt := 137) hx hb dX4_conditionOf_129 (by decide) (fun q20 => ?_) (fun q20 => ?_)
                  · replace hcf := (if_neg q20).symm.trans hcf
                    refine lv_aload_n hx hb dX4_conditionOf_137 rfl (lv_at hl 0 rfl) ?_
                    refine lv_iload_n hx hb dX4_conditionOf_138 rfl (lv_at hl 1 rfl) ?_
                    refine lv_bipush (v := (9 : Int32)) hx hb dX4_conditionOf_139 (by decide) ?_
                    obtain ⟨x21, hx21, hcf⟩ := ob hcf
                    refine iv_X4_46 (As := [.int b1, .int (9 : Int32)]) (rest := []) hx hb hml hown hts hE (ct_X4_get l D cy z n Y V G a0 b1 (9 : Int32) x21 hx21) hW hS q1 rfl rfl hl.1 (Nat.le_of_ble_eq_true rfl) ⟨Nat.le_of_ble_eq_true rfl, Nat.le_of_ble_eq_true rfl⟩ dX4_conditionOf_141 ⟨Nat.zero_le _, Nat.zero_le _⟩ (fun H locs hW hS => ?_)
                    have hcf := Option.some.inj hcf; subst hcf
                    exact wk_iret hx hb hr hlocks hW hS dX4_conditionOf_144
                  · replace hcf := (if_pos q20).symm.trans hcf
                    refine lv_ldc hx hb hown (hts _ q857) dX4_conditionOf_132 ?_
                    refine lv_goto (tgt := 144) hx hb dX4_conditionOf_134 (by decide) ?_
                    have hcf := Option.some.inj hcf; subst hcf
                    exact wk_iret hx hb hr hlocks hW hS dX4_conditionOf_144
                · replace hcf := (if_neg q18).symm.trans hcf
                  by_cases q22 : b2 = (10 : Int32)
                  · replace hcf := (if_pos q22).symm.trans hcf
                    refine wk_tsw (off := 121) (tgt := 145) hx hb dX4_conditionOf_24 (by rw [q22]; rfl) (by decide) ?_
                    refine lv_aload_n hx hb dX4_conditionOf_145 rfl (lv_at hl 0 rfl) ?_
                    refine lv_iload_n hx hb dX4_conditionOf_146 rfl (lv_at hl 1 rfl) ?_
                    refine lv_bipush (v := (10 : Int32)) hx hb dX4_conditionOf_147 (by decide) ?_
                    obtain ⟨x23, hx23, hcf⟩ := ob hcf
                    refine iv_X4_46 (As := [.int b1, .int (10 : Int32)]) (rest := []) hx hb hml hown hts hE (ct_X4_get l D cy z n Y V G a0 b1 (10 : Int32) x23 hx23) hW hS q1 rfl rfl hl.1 (Nat.le_of_ble_eq_true rfl) ⟨Nat.le_of_ble_eq_true rfl, Nat.le_of_ble_eq_true rfl⟩ dX4_conditionOf_149 ⟨Nat.zero_le _, Nat.zero_le _⟩ (fun H locs hW hS => ?_)
                    refine lv_iconst (v := (-1 : Int32)) hx hb dX4_conditionOf_152 (by decide) ?_
                    refine lv_icmp_ne (tgt := 161) hx hb dX4_conditionOf_153 (by decide) (fun q24 => ?_) (fun q24 => ?_)
                    · replace hcf := (if_neg q24).symm.trans hcf
                      refine lv_aload_n hx hb dX4_conditionOf_161 rfl (lv_at hl 0 rfl) ?_
                      refine lv_iload_n hx hb dX4_conditionOf_162 rfl (lv_at hl 1 rfl) ?_
                      refine lv_bipush (v := (10 : Int32)) hx hb dX4_conditionOf_163 (by decide) ?_
                      obtain ⟨x25, hx25, hcf⟩ := ob hcf
                      refine iv_X4_46 (As := [.int b1, .int (10 : Int32)]) (rest := []) hx hb hml hown hts hE (ct_X4_get l D cy z n Y V G a0 b1 (10 : Int32) x25 hx25) hW hS q1 rfl rfl hl.1 (Nat.le_of_ble_eq_true rfl) ⟨Nat.le_of_ble_eq_true rfl, Nat.le_of_ble_eq_true rfl⟩ dX4_conditionOf_165 ⟨Nat.zero_le _, Nat.zero_le _⟩ (fun H locs hW hS => ?_)
                      have hcf := Option.some.inj hcf; subst hcf
                      exact wk_iret hx hb hr hlocks hW hS dX4_conditionOf_168
                    · replace hcf := (if_pos q24).symm.trans hcf
                      refine lv_ldc hx hb hown (hts _ q857) dX4_conditionOf_156 ?_
                      refine lv_goto (tgt := 168) hx hb dX4_conditionOf_158 (by decide) ?_
                      have hcf := Option.some.inj hcf; subst hcf
                      exact wk_iret hx hb hr hlocks hW hS dX4_conditionOf_168
                  · replace hcf := (if_neg q22).symm.trans hcf
                    by_cases q26 : b2 = (11 : Int32)
                    · replace hcf := (if_pos q26).symm.trans hcf
                      refine wk_tsw (off := 145) (tgt := 169) hx hb dX4_conditionOf_24 (by rw [q26]; rfl) (by decide) ?_
                      refine lv_aload_n hx hb dX4_conditionOf_169 rfl (lv_at hl 0 rfl) ?_
                      refine lv_iload_n hx hb dX4_conditionOf_170 rfl (lv_at hl 1 rfl) ?_
                      refine lv_bipush (v := (11 : Int32)) hx hb dX4_conditionOf_171 (by decide) ?_
                      obtain ⟨x27, hx27, hcf⟩ := ob hcf
                      refine iv_X4_46 (As := [.int b1, .int (11 : Int32)]) (rest := []) hx hb hml hown hts hE (ct_X4_get l D cy z n Y V G a0 b1 (11 : Int32) x27 hx27) hW hS q1 rfl rfl hl.1 (Nat.le_of_ble_eq_true rfl) ⟨Nat.le_of_ble_eq_true rfl, Nat.le_of_ble_eq_true rfl⟩ dX4_conditionOf_173 ⟨Nat.zero_le _, Nat.zero_le _⟩ (fun H locs hW hS => ?_)
                      have hcf := Option.some.inj hcf; subst hcf
                      exact wk_iret hx hb hr hlocks hW hS dX4_conditionOf_176
                    · replace hcf := (if_neg q26).symm.trans hcf
                      refine wk_tsw (off := 153) (tgt := 177) hx hb dX4_conditionOf_24 (by have eq6 := lv_neT q6 (a := 4) rfl; have eq8 := lv_neT q8 (a := 5) rfl; have eq10 := lv_neT q10 (a := 6) rfl; have eq12 := lv_neT q12 (a := 7) rfl; have eq16 := lv_neT q16 (a := 8) rfl; have eq18 := lv_neT q18 (a := 9) rfl; have eq22 := lv_neT q22 (a := 10) rfl; have eq26 := lv_neT q26 (a := 11) rfl; by_cases hh : (b2).toInt < 4 ∨ 11 < (b2).toInt; exact if_pos hh; exfalso; omega) (by decide) ?_
                      refine lv_aload_n hx hb dX4_conditionOf_177 rfl (lv_at hl 0 rfl) ?_
                      refine lv_iload_n hx hb dX4_conditionOf_178 rfl (lv_at hl 1 rfl) ?_
                      refine lv_iload_n hx hb dX4_conditionOf_179 rfl (lv_at hl 2 rfl) ?_
                      obtain ⟨x28, hx28, hcf⟩ := ob hcf
                      refine iv_X4_46 (As := [.int b1, .int b2]) (rest := []) hx hb hml hown hts hE (ct_X4_get l D cy z n Y V G a0 b1 b2 x28 hx28) hW hS q1 rfl rfl hl.1 (Nat.le_of_ble_eq_true rfl) ⟨Nat.le_of_ble_eq_true rfl, Nat.le_of_ble_eq_true rfl⟩ dX4_conditionOf_180 ⟨Nat.zero_le _, Nat.zero_le _⟩ (fun H locs hW hS => ?_)
                      have hcf := Option.some.inj hcf; subst hcf
                      exact wk_iret hx hb hr hlocks hW hS dX4_conditionOf_183
    · replace hcf := (if_pos q5).symm.trans hcf
      refine lv_ldc hx hb hown (hts _ q672) dX4_conditionOf_20 ?_
      have hcf := Option.some.inj hcf; subst hcf
      exact wk_iret hx hb hr hlocks hW hS dX4_conditionOf_22
set_option maxHeartbeats 4000000 in
set_option maxRecDepth 100000 in
theorem ct_X4_stageOf (l : Launch) (D : va_G) (cy : Nat → ClassId) (z n : Nat) (Y : mY) (V : mV) (G : mG) (a0 : Nat) (b1 : Int32) (b2 : Int32) (x : Int32) (hcf : cf_X4_stageOf Y V G a0 b1 b2 = some x) : CT l yX4_stageOf cX4_stageOf 3 (some .int) (rmd 4) D cy z [.ref a0, .int b1, .int b2] Y n V G (some (.int x)) Y n V G := by
  refine ct_of (by decide) (Nat.le_of_ble_eq_true rfl) ?_
  intro p e s m args below meth c ls hx hb hr hml hown hts hlocks hnm hE hW hl
  have hS : va_S (zA z) s.heap s.heap [] := va_S.rf
  have hl : lv_has ls 3 [(0, .ref a0), (1, .int b1), (2, .int b2)] := hl
  have hown : s.vm.findClass RX4 = some m.cls := hown
  rw [cf_X4_stageOf] at hcf
  refine lv_iload_n hx hb dX4_stageOf_0 rfl (lv_at hl 1 rfl) ?_
  obtain ⟨x1, hx1, hcf⟩ := ob hcf
  refine iv_X4_78 (As := [.int b1]) (rest := []) hx hb hml hown hts hE (ct_X4_isStage l D cy z n Y V G b1 x1 hx1) hW hS rfl rfl hl.1 (Nat.le_of_ble_eq_true rfl) ⟨Nat.le_of_ble_eq_true rfl, Nat.le_of_ble_eq_true rfl⟩ dX4_stageOf_1 ⟨Nat.zero_le _, Nat.zero_le _⟩ (fun H locs hW hS => ?_)
  refine lv_if_eq (tgt := 19) hx hb dX4_stageOf_4 (by decide) (fun q2 => ?_) (fun q2 => ?_)
  · replace hcf := (if_pos q2).symm.trans hcf
    refine lv_ldc hx hb hown (hts _ q672) dX4_stageOf_19 ?_
    have hcf := Option.some.inj hcf; subst hcf
    exact wk_iret hx hb hr hlocks hW hS dX4_stageOf_21
  · replace hcf := (if_neg q2).symm.trans hcf
    refine lv_iload_n hx hb dX4_stageOf_7 rfl (lv_at hl 2 rfl) ?_
    refine lv_i2l hx hb dX4_stageOf_8 rfl ?_
    refine lv_lconst (v := (0 : Int64)) hx hb dX4_stageOf_9 (by decide) ?_
    refine lv_ldc2 hx hb hown (hts _ q862) dX4_stageOf_10 ?_
    obtain ⟨x3, hx3, hcf⟩ := ob hcf
    refine iv_X4_40 (As := [.long ((b2).toInt64), .long (0 : Int64), .long (3 : Int64)]) (rest := []) hx hb hml hown hts hE (ct_X4_in l D cy z n Y V G ((b2).toInt64) (0 : Int64) (3 : Int64) x3 hx3) hW hS rfl rfl hl.1 (Nat.le_of_ble_eq_true rfl) ⟨Nat.le_of_ble_eq_true rfl, Nat.le_of_ble_eq_true rfl⟩ dX4_stageOf_13 ⟨Nat.zero_le _, Nat.zero_le _⟩ (fun H locs hW hS => ?_)
    refine lv_if_ne (tgt := 22) hx hb dX4_stageOf_16 (by decide) (fun q4 => ?_) (fun q4 => ?_)
    · replace hcf := (if_neg q4).symm.trans hcf
      refine lv_iload_n hx hb dX4_stageOf_22 rfl (lv_at hl 2 rfl) ?_
      by_cases q5 : b2 = (0 : Int32)
      · replace hcf := (if_pos q5).symm.trans hcf
        refine wk_tsw (off := 25) (tgt := 48) hx hb dX4_stageOf_23 (by rw [q5]; rfl) (by decide) ?_
        refine lv_aload_n hx hb dX4_stageOf_48 rfl (lv_at hl 0 rfl) ?_
        refine lv_iload_n hx hb dX4_stageOf_49 rfl (lv_at hl 1 rfl) ?_
        obtain ⟨q6, hcf⟩ := og hcf
        obtain ⟨x7, hx7, hcf⟩ := ob hcf
        refine iv_X4_54 (As := [.int b1]) (rest := []) hx hb hml hown hts hE (ct_X4_hasBegun l D cy z n Y V G a0 b1 x7 hx7) hW hS q6 rfl rfl hl.1 (Nat.le_of_ble_eq_true rfl) ⟨Nat.le_of_ble_eq_true rfl, Nat.le_of_ble_eq_true rfl⟩ dX4_stageOf_50 ⟨Nat.zero_le _, Nat.zero_le _⟩ (fun H locs hW hS => ?_)
        refine lv_if_eq (tgt := 60) hx hb dX4_stageOf_53 (by decide) (fun q8 => ?_) (fun q8 => ?_)
        · replace hcf := (if_pos q8).symm.trans hcf
          refine lv_iconst (v := (0 : Int32)) hx hb dX4_stageOf_60 (by decide) ?_
          refine lv_aload_n hx hb dX4_stageOf_61 rfl (lv_at hl 0 rfl) ?_
          refine lv_iload_n hx hb dX4_stageOf_62 rfl (lv_at hl 1 rfl) ?_
          obtain ⟨x9, hx9, hcf⟩ := ob hcf
          refine iv_X4_57 (As := [.int b1]) (rest := [.int (0 : Int32)]) hx hb hml hown hts hE (ct_X4_isFinished l D cy z n Y V G a0 b1 x9 hx9) hW hS q6 rfl rfl hl.1 (Nat.le_of_ble_eq_true rfl) ⟨Nat.le_of_ble_eq_true rfl, Nat.le_of_ble_eq_true rfl⟩ dX4_stageOf_63 ⟨Nat.zero_le _, Nat.zero_le _⟩ (fun H locs hW hS => ?_)
          refine lv_if_eq (tgt := 73) hx hb dX4_stageOf_66 (by decide) (fun q10 => ?_) (fun q10 => ?_)
          · replace hcf := (if_pos q10).symm.trans hcf
            refine lv_iconst (v := (0 : Int32)) hx hb dX4_stageOf_73 (by decide) ?_
            refine lv_iadd hx hb dX4_stageOf_74 ?_
            have hcf := Option.some.inj hcf; subst hcf
            exact wk_iret hx hb hr hlocks hW hS dX4_stageOf_75
          · replace hcf := (if_neg q10).symm.trans hcf
            refine lv_iconst (v := (1 : Int32)) hx hb dX4_stageOf_69 (by decide) ?_
            refine lv_goto (tgt := 74) hx hb dX4_stageOf_70 (by decide) ?_
            refine lv_iadd hx hb dX4_stageOf_74 ?_
            have hcf := Option.some.inj hcf; subst hcf
            exact wk_iret hx hb hr hlocks hW hS dX4_stageOf_75
        · replace hcf := (if_neg q8).symm.trans hcf
          refine lv_iconst (v := (1 : Int32)) hx hb dX4_stageOf_56 (by decide) ?_
          refine lv_goto (tgt := 61) hx hb dX4_stageOf_57 (by decide) ?_
          refine lv_aload_n hx hb dX4_stageOf_61 rfl (lv_at hl 0 rfl) ?_
          refine lv_iload_n hx hb dX4_stageOf_62 rfl (lv_at hl 1 rfl) ?_
          obtain ⟨x11, hx11, hcf⟩ := ob hcf
          refine iv_X4_57 (As := [.int b1]) (rest := [.int (1 : Int32)]) hx hb hml hown hts hE (ct_X4_isFinished l D cy z n Y V G a0 b1 x11 hx11) hW hS q6 rfl rfl hl.1 (Nat.le_of_ble_eq_true rfl) ⟨Nat.le_of_ble_eq_true rfl, Nat.le_of_ble_eq_true rfl⟩ dX4_stageOf_63 ⟨Nat.zero_le _, Nat.zero_le _⟩ (fun H locs hW hS => ?_)
          refine lv_if_eq (tgt := 73) hx hb dX4_stageOf_66 (by decide) (fun q12 => ?_) (fun q12 => ?_)
          · replace hcf := (if_pos q12).symm.trans hcf
            refine lv_iconst (v := (0 : Int32)) hx hb dX4_stageOf_73 (by decide) ?_
            refine lv_iadd hx hb dX4_stageOf_74 ?_
            have hcf := Option.some.inj hcf; subst hcf
            exact wk_iret hx hb hr hlocks hW hS dX4_stageOf_75
          · replace hcf := (if_neg q12).symm.trans hcf
            refine lv_iconst (v := (1 : Int32)) hx hb dX4_stageOf_69 (by decide) ?_
            refine lv_goto (tgt := 74) hx hb dX4_stageOf_70 (by decide) ?_
            refine lv_iadd hx hb dX4_stageOf_74 ?_
            have hcf := Option.some.inj hcf; subst hcf
            exact wk_iret hx hb hr hlocks hW hS dX4_stageOf_75
      · replace hcf := (if_neg q5).symm.trans hcf
        by_cases q13 : b2 = (1 : Int32)
        · replace hcf := (if_pos q13).symm.trans hcf
          refine wk_tsw (off := 53) (tgt := 76) hx hb dX4_stageOf_23 (by rw [q13]; rfl) (by decide) ?_
          refine lv_aload_n hx hb dX4_stageOf_76 rfl (lv_at hl 0 rfl) ?_
          refine lv_iload_n hx hb dX4_stageOf_77 rfl (lv_at hl 1 rfl) ?_
          obtain ⟨q14, hcf⟩ := og hcf
          obtain ⟨x15, hx15, hcf⟩ := ob hcf
          refine iv_X4_54 (As := [.int b1]) (rest := []) hx hb hml hown hts hE (ct_X4_hasBegun l D cy z n Y V G a0 b1 x15 hx15) hW hS q14 rfl rfl hl.1 (Nat.le_of_ble_eq_true rfl) ⟨Nat.le_of_ble_eq_true rfl, Nat.le_of_ble_eq_true rfl⟩ dX4_stageOf_78 ⟨Nat.zero_le _, Nat.zero_le _⟩ (fun H locs hW hS => ?_)
          refine lv_if_eq (tgt := 96) hx hb dX4_stageOf_81 (by decide) (fun q16 => ?_) (fun q16 => ?_)
          · replace hcf := (if_pos q16).symm.trans hcf
            refine lv_ldc hx hb hown (hts _ q857) dX4_stageOf_96 ?_
            have hcf := Option.some.inj hcf; subst hcf
            exact wk_iret hx hb hr hlocks hW hS dX4_stageOf_98
          · replace hcf := (if_neg q16).symm.trans hcf
            refine lv_aload_n hx hb dX4_stageOf_84 rfl (lv_at hl 0 rfl) ?_
            obtain ⟨r17, hr17, hcf⟩ := ob hcf
            refine gf_X4_7 hx hb hts hown hE hW q14 hr17 dX4_stageOf_85 ?_
            refine lv_bipush (v := (6 : Int32)) hx hb dX4_stageOf_88 (by decide) ?_
            refine lv_iload_n hx hb dX4_stageOf_90 rfl (lv_at hl 1 rfl) ?_
            refine lv_iadd hx hb dX4_stageOf_91 ?_
            obtain ⟨q18, hcf⟩ := og hcf
            obtain ⟨q19, hcf⟩ := og hcf
            refine wk_iald hx hb hE hW q18 q19 dX4_stageOf_92 ?_
            refine lv_goto (tgt := 98) hx hb dX4_stageOf_93 (by decide) ?_
            have hcf := Option.some.inj hcf; subst hcf
            exact wk_iret hx hb hr hlocks hW hS dX4_stageOf_98
        · replace hcf := (if_neg q13).symm.trans hcf
          by_cases q20 : b2 = (2 : Int32)
          · replace hcf := (if_pos q20).symm.trans hcf
            refine wk_tsw (off := 76) (tgt := 99) hx hb dX4_stageOf_23 (by rw [q20]; rfl) (by decide) ?_
            refine lv_aload_n hx hb dX4_stageOf_99 rfl (lv_at hl 0 rfl) ?_
            refine lv_iload_n hx hb dX4_stageOf_100 rfl (lv_at hl 1 rfl) ?_
            obtain ⟨q21, hcf⟩ := og hcf
            obtain ⟨x22, hx22, hcf⟩ := ob hcf
            refine iv_X4_57 (As := [.int b1]) (rest := []) hx hb hml hown hts hE (ct_X4_isFinished l D cy z n Y V G a0 b1 x22 hx22) hW hS q21 rfl rfl hl.1 (Nat.le_of_ble_eq_true rfl) ⟨Nat.le_of_ble_eq_true rfl, Nat.le_of_ble_eq_true rfl⟩ dX4_stageOf_101 ⟨Nat.zero_le _, Nat.zero_le _⟩ (fun H locs hW hS => ?_)
            refine lv_if_eq (tgt := 119) hx hb dX4_stageOf_104 (by decide) (fun q23 => ?_) (fun q23 => ?_)
            · replace hcf := (if_pos q23).symm.trans hcf
              refine lv_ldc hx hb hown (hts _ q857) dX4_stageOf_119 ?_
              have hcf := Option.some.inj hcf; subst hcf
              exact wk_iret hx hb hr hlocks hW hS dX4_stageOf_121
            · replace hcf := (if_neg q23).symm.trans hcf
              refine lv_aload_n hx hb dX4_stageOf_107 rfl (lv_at hl 0 rfl) ?_
              obtain ⟨r24, hr24, hcf⟩ := ob hcf
              refine gf_X4_7 hx hb hts hown hE hW q21 hr24 dX4_stageOf_108 ?_
              refine lv_bipush (v := (11 : Int32)) hx hb dX4_stageOf_111 (by decide) ?_
              refine lv_iload_n hx hb dX4_stageOf_113 rfl (lv_at hl 1 rfl) ?_
              refine lv_iadd hx hb dX4_stageOf_114 ?_
              obtain ⟨q25, hcf⟩ := og hcf
              obtain ⟨q26, hcf⟩ := og hcf
              refine wk_iald hx hb hE hW q25 q26 dX4_stageOf_115 ?_
              refine lv_goto (tgt := 121) hx hb dX4_stageOf_116 (by decide) ?_
              have hcf := Option.some.inj hcf; subst hcf
              exact wk_iret hx hb hr hlocks hW hS dX4_stageOf_121
          · replace hcf := (if_neg q20).symm.trans hcf
            refine wk_tsw (off := 99) (tgt := 122) hx hb dX4_stageOf_23 (by have eq5 := lv_neT q5 (a := 0) rfl; have eq13 := lv_neT q13 (a := 1) rfl; have eq20 := lv_neT q20 (a := 2) rfl; by_cases hh : (b2).toInt < 0 ∨ 2 < (b2).toInt; exact if_pos hh; exfalso; omega) (by decide) ?_
            refine lv_aload_n hx hb dX4_stageOf_122 rfl (lv_at hl 0 rfl) ?_
            refine lv_iload_n hx hb dX4_stageOf_123 rfl (lv_at hl 1 rfl) ?_
            obtain ⟨q27, hcf⟩ := og hcf
            obtain ⟨x28, hx28, hcf⟩ := ob hcf
            refine iv_X4_93 (As := [.int b1]) (rest := []) hx hb hml hown hts hE (ct_X4_unmetAhead l D cy z n Y V G a0 b1 x28 hx28) hW hS q27 rfl rfl hl.1 (Nat.le_of_ble_eq_true rfl) ⟨Nat.le_of_ble_eq_true rfl, Nat.le_of_ble_eq_true rfl⟩ dX4_stageOf_124 ⟨Nat.zero_le _, Nat.zero_le _⟩ (fun H locs hW hS => ?_)
            have hcf := Option.some.inj hcf; subst hcf
            exact wk_iret hx hb hr hlocks hW hS dX4_stageOf_127
    · replace hcf := (if_pos q4).symm.trans hcf
      refine lv_ldc hx hb hown (hts _ q672) dX4_stageOf_19 ?_
      have hcf := Option.some.inj hcf; subst hcf
      exact wk_iret hx hb hr hlocks hW hS dX4_stageOf_21
set_option maxHeartbeats 4000000 in
set_option maxRecDepth 100000 in
theorem wl_X4_withState_4 {p : Program} {l : Launch} {e : Env} {s : State} {m : MethodId} {args : Array Value} {below : List Frame} {meth : Method} {c : Code} {D : va_G} {cy : Nat → ClassId} {z : Nat} {n : Nat} {Y : mY} {V : mV} {G : mG} (hx : p.tables.exec = Jvm.exec) (hb : c.code = cX4_withState) (hr : meth.sig.returnType = (some .int)) (hml : c.maxLocals = 4) (hown : s.vm.findClass RX4 = some m.cls) (hts : ∀ w ∈ lw_all, w.before args s = true) (hlocks : meth.locks = false) (hE : En D cy s) (x : Int32) : ∀ (k : Nat) (j0 : Nat) (j1 : Int32) (j2 : Int32) (j3 : Int32) (H : Heap) (locs : List Loc) (ls : Array Slot), lp_X4_withState_4 Y V G k j0 j1 j2 j3 = some x → Wd Y cy D z n V G H → va_S (zA z) s.heap H locs → lv_has ls 4 [(0, .ref j0), (1, .int j1), (2, .int j2), (3, .int j3)] → W p l e (rmd 4) s m args below meth c H locs 0 0 (MQ below (QC D cy z Y n V G (some (.int x))) args s 0 0 (zA z)) (F0 m 4 ls []) := by
  intro k
  induction k with
  | zero =>
    intro j0 j1 j2 j3 H locs ls hcf
    have hcf : none = some _ := hcf
    cases hcf
  | succ k ih =>
    intro j0 j1 j2 j3 H locs ls hcf hW hS hl
    rw [lp_X4_withState_4] at hcf
    refine lv_iload_n hx hb dX4_withState_4 rfl (lv_at hl 3 rfl) ?_
    refine lv_aload_n hx hb dX4_withState_5 rfl (lv_at hl 0 rfl) ?_
    obtain ⟨q1, hcf⟩ := og hcf
    obtain ⟨r2, hr2, hcf⟩ := ob hcf
    refine gf_X4_7 hx hb hts hown hE hW q1 hr2 dX4_withState_6 ?_
    refine lv_iconst (v := (1 : Int32)) hx hb dX4_withState_9 (by decide) ?_
    obtain ⟨q3, hcf⟩ := og hcf
    obtain ⟨q4, hcf⟩ := og hcf
    refine wk_iald hx hb hE hW q3 q4 dX4_withState_10 ?_
    refine lv_icmp_ge (tgt := 39) hx hb dX4_withState_11 (by decide) (fun q5 => ?_) (fun q5 => ?_)
    · replace hcf := (if_pos q5).symm.trans hcf
      refine lv_iload_n hx hb dX4_withState_39 rfl (lv_at hl 2 rfl) ?_
      have hcf := Option.some.inj hcf; subst hcf
      exact wk_iret hx hb hr hlocks hW hS dX4_withState_40
    · replace hcf := (if_neg q5).symm.trans hcf
      refine lv_iload_n hx hb dX4_withState_14 rfl (lv_at hl 2 rfl) ?_
      refine lv_aload_n hx hb dX4_withState_15 rfl (lv_at hl 0 rfl) ?_
      refine lv_iload_n hx hb dX4_withState_16 rfl (lv_at hl 3 rfl) ?_
      obtain ⟨x6, hx6, hcf⟩ := ob hcf
      refine iv_X4_109 (As := [.int j3]) (rest := [.int j2]) hx hb hml hown hts hE (ct_X4_stateOf l D cy z n Y V G j0 j3 x6 hx6) hW hS q1 rfl rfl hl.1 (Nat.le_of_ble_eq_true rfl) ⟨Nat.le_of_ble_eq_true rfl, Nat.le_of_ble_eq_true rfl⟩ dX4_withState_17 ⟨Nat.zero_le _, Nat.zero_le _⟩ (fun H locs hW hS => ?_)
      refine lv_iload_n hx hb dX4_withState_20 rfl (lv_at hl 1 rfl) ?_
      refine lv_icmp_ne (tgt := 30) hx hb dX4_withState_21 (by decide) (fun q7 => ?_) (fun q7 => ?_)
      · replace hcf := (if_neg q7).symm.trans hcf
        refine lv_iconst (v := (0 : Int32)) hx hb dX4_withState_30 (by decide) ?_
        refine lv_ior hx hb dX4_withState_31 ?_
        refine lv_istore_n (lv' := [(2, .int (j2 ||| (0 : Int32))), (0, .ref j0), (1, .int j1), (3, .int j3)]) hx hb dX4_withState_32 rfl hl (by decide) rfl (fun ls hl => ?_)
        refine lv_iinc (v := (j3 + 1)) (lv' := [(3, .int (j3 + 1)), (2, .int (j2 ||| (0 : Int32))), (0, .ref j0), (1, .int j1)]) hx hb dX4_withState_33 hl (k := 3) rfl rfl (by decide) rfl (fun ls hl => ?_)
        refine lv_goto (tgt := 4) hx hb dX4_withState_36 (by decide) ?_
        exact ih j0 j1 (j2 ||| (0 : Int32)) (j3 + 1) _ _ _ hcf hW hS (lv_sub hl [2, 3, 1, 0] rfl)
      · replace hcf := (if_pos q7).symm.trans hcf
        refine lv_iconst (v := (1 : Int32)) hx hb dX4_withState_24 (by decide) ?_
        refine lv_iload_n hx hb dX4_withState_25 rfl (lv_at hl 3 rfl) ?_
        refine lv_ishl hx hb dX4_withState_26 ?_
        refine lv_goto (tgt := 31) hx hb dX4_withState_27 (by decide) ?_
        refine lv_ior hx hb dX4_withState_31 ?_
        refine lv_istore_n (lv' := [(2, .int (j2 ||| ((1 : Int32) <<< (j3 &&& 31)))), (0, .ref j0), (1, .int j1), (3, .int j3)]) hx hb dX4_withState_32 rfl hl (by decide) rfl (fun ls hl => ?_)
        refine lv_iinc (v := (j3 + 1)) (lv' := [(3, .int (j3 + 1)), (2, .int (j2 ||| ((1 : Int32) <<< (j3 &&& 31)))), (0, .ref j0), (1, .int j1)]) hx hb dX4_withState_33 hl (k := 3) rfl rfl (by decide) rfl (fun ls hl => ?_)
        refine lv_goto (tgt := 4) hx hb dX4_withState_36 (by decide) ?_
        exact ih j0 j1 (j2 ||| ((1 : Int32) <<< (j3 &&& 31))) (j3 + 1) _ _ _ hcf hW hS (lv_sub hl [2, 3, 1, 0] rfl)
set_option maxHeartbeats 4000000 in
set_option maxRecDepth 100000 in
theorem ct_X4_withState (l : Launch) (D : va_G) (cy : Nat → ClassId) (z n : Nat) (Y : mY) (V : mV) (G : mG) (a0 : Nat) (b1 : Int32) (x : Int32) (hcf : cf_X4_withState Y V G a0 b1 = some x) : CT l yX4_withState cX4_withState 4 (some .int) (rmd 4) D cy z [.ref a0, .int b1] Y n V G (some (.int x)) Y n V G := by
  refine ct_of (by decide) (Nat.le_of_ble_eq_true rfl) ?_
  intro p e s m args below meth c ls hx hb hr hml hown hts hlocks hnm hE hW hl
  have hS : va_S (zA z) s.heap s.heap [] := va_S.rf
  have hl : lv_has ls 4 [(0, .ref a0), (1, .int b1)] := hl
  have hown : s.vm.findClass RX4 = some m.cls := hown
  rw [cf_X4_withState] at hcf
  refine lv_iconst (v := (0 : Int32)) hx hb dX4_withState_0 (by decide) ?_
  refine lv_istore_n (lv' := [(2, .int (0 : Int32)), (0, .ref a0), (1, .int b1)]) hx hb dX4_withState_1 rfl hl (by decide) rfl (fun ls hl => ?_)
  refine lv_iconst (v := (0 : Int32)) hx hb dX4_withState_2 (by decide) ?_
  refine lv_istore_n (lv' := [(3, .int (0 : Int32)), (2, .int (0 : Int32)), (0, .ref a0), (1, .int b1)]) hx hb dX4_withState_3 rfl hl (by decide) rfl (fun ls hl => ?_)
  exact wl_X4_withState_4 hx hb hr hml hown hts hlocks hE x fuB a0 b1 (0 : Int32) (0 : Int32) _ _ _ hcf hW hS (lv_sub hl [2, 3, 1, 0] rfl)
set_option maxHeartbeats 4000000 in
set_option maxRecDepth 100000 in
theorem ct_X4_which (l : Launch) (D : va_G) (cy : Nat → ClassId) (z n : Nat) (Y : mY) (V : mV) (G : mG) (a0 : Nat) (b1 : Int32) (x : Int32) (hcf : cf_X4_which Y V G a0 b1 = some x) : CT l yX4_which cX4_which 2 (some .int) (rmd 5) D cy z [.ref a0, .int b1] Y n V G (some (.int x)) Y n V G := by
  refine ct_of (by decide) (Nat.le_of_ble_eq_true rfl) ?_
  intro p e s m args below meth c ls hx hb hr hml hown hts hlocks hnm hE hW hl
  have hS : va_S (zA z) s.heap s.heap [] := va_S.rf
  have hl : lv_has ls 2 [(0, .ref a0), (1, .int b1)] := hl
  have hown : s.vm.findClass RX4 = some m.cls := hown
  rw [cf_X4_which] at hcf
  refine lv_iload_n hx hb dX4_which_0 rfl (lv_at hl 1 rfl) ?_
  refine lv_i2l hx hb dX4_which_1 rfl ?_
  refine lv_lconst (v := (0 : Int64)) hx hb dX4_which_2 (by decide) ?_
  refine lv_ldc2 hx hb hown (hts _ q666) dX4_which_3 ?_
  obtain ⟨x1, hx1, hcf⟩ := ob hcf
  refine iv_X4_40 (As := [.long ((b1).toInt64), .long (0 : Int64), .long (4 : Int64)]) (rest := []) hx hb hml hown hts hE (ct_X4_in l D cy z n Y V G ((b1).toInt64) (0 : Int64) (4 : Int64) x1 hx1) hW hS rfl rfl hl.1 (Nat.le_of_ble_eq_true rfl) ⟨Nat.le_of_ble_eq_true rfl, Nat.le_of_ble_eq_true rfl⟩ dX4_which_6 ⟨Nat.zero_le _, Nat.zero_le _⟩ (fun H locs hW hS => ?_)
  refine lv_if_eq (tgt := 20) hx hb dX4_which_9 (by decide) (fun q2 => ?_) (fun q2 => ?_)
  · replace hcf := (if_pos q2).symm.trans hcf
    refine lv_ldc hx hb hown (hts _ q672) dX4_which_20 ?_
    have hcf := Option.some.inj hcf; subst hcf
    exact wk_iret hx hb hr hlocks hW hS dX4_which_22
  · replace hcf := (if_neg q2).symm.trans hcf
    refine lv_aload_n hx hb dX4_which_12 rfl (lv_at hl 0 rfl) ?_
    refine lv_iload_n hx hb dX4_which_13 rfl (lv_at hl 1 rfl) ?_
    obtain ⟨q3, hcf⟩ := og hcf
    obtain ⟨x4, hx4, hcf⟩ := ob hcf
    refine iv_X4_182 (As := [.int b1]) (rest := []) hx hb hml hown hts hE (ct_X4_withState l D cy z n Y V G a0 b1 x4 hx4) hW hS q3 rfl rfl hl.1 (Nat.le_of_ble_eq_true rfl) ⟨Nat.le_of_ble_eq_true rfl, Nat.le_of_ble_eq_true rfl⟩ dX4_which_14 ⟨Nat.zero_le _, Nat.zero_le _⟩ (fun H locs hW hS => ?_)
    refine lv_goto (tgt := 22) hx hb dX4_which_17 (by decide) ?_
    have hcf := Option.some.inj hcf; subst hcf
    exact wk_iret hx hb hr hlocks hW hS dX4_which_22
set_option maxHeartbeats 4000000 in
set_option maxRecDepth 100000 in
theorem wl_X4_when_36 {p : Program} {l : Launch} {e : Env} {s : State} {m : MethodId} {args : Array Value} {below : List Frame} {meth : Method} {c : Code} {D : va_G} {cy : Nat → ClassId} {z : Nat} {n : Nat} {Y : mY} {G : mG} (hx : p.tables.exec = Jvm.exec) (hb : c.code = cX4_when) (hr : meth.sig.returnType = (some .int)) (hml : c.maxLocals = 5) (hown : s.vm.findClass RX4 = some m.cls) (hts : ∀ w ∈ lw_all, w.before args s = true) (hlocks : meth.locks = false) (hE : En D cy s) (x : Int32 × mV) : ∀ (k : Nat) (V : mV) (j0 : Nat) (j1 : Int32) (j2 : Int32) (j3 : Int32) (H : Heap) (locs : List Loc) (ls : Array Slot), lp_X4_when_36 Y G k V j0 j1 j2 j3 = some x → Wd Y cy D z n V G H → va_S (zA z) s.heap H locs → lv_has ls 5 [(0, .ref j0), (1, .int j1), (2, .int j2), (3, .int j3)] → W p l e (rmd 6) s m args below meth c H locs 0 0 (MQ below (QC D cy z Y n x.2 G (some (.int x.1))) args s 0 0 (zA z)) (F0 m 36 ls []) := by
  intro k
  induction k with
  | zero =>
    intro V j0 j1 j2 j3 H locs ls hcf
    have hcf : none = some _ := hcf
    cases hcf
  | succ k ih =>
    intro V j0 j1 j2 j3 H locs ls hcf hW hS hl
    rw [lp_X4_when_36] at hcf
    refine lv_iload_n hx hb dX4_when_36 rfl (lv_at hl 3 rfl) ?_
    refine lv_sipush (v := (400 : Int32)) hx hb dX4_when_37 (by decide) ?_
    refine lv_icmp_ge (tgt := 62) hx hb dX4_when_40 (by decide) (fun q9 => ?_) (fun q9 => ?_)
    · replace hcf := (if_pos q9).symm.trans hcf
      refine lv_aload_n hx hb dX4_when_62 rfl (lv_at hl 0 rfl) ?_
      refine lv_iload_n hx hb dX4_when_63 rfl (lv_at hl 1 rfl) ?_
      obtain ⟨q10, hcf⟩ := og hcf
      obtain ⟨x11, hx11, hcf⟩ := ob hcf
      refine iv_X4_109 (As := [.int j1]) (rest := []) hx hb hml hown hts hE (ct_X4_stateOf l D cy z n Y V G j0 j1 x11 hx11) hW hS q10 rfl rfl hl.1 (Nat.le_of_ble_eq_true rfl) ⟨Nat.le_of_ble_eq_true rfl, Nat.le_of_ble_eq_true rfl⟩ dX4_when_64 ⟨Nat.zero_le _, Nat.zero_le _⟩ (fun H locs hW hS => ?_)
      refine lv_iload_n hx hb dX4_when_67 rfl (lv_at hl 2 rfl) ?_
      refine lv_icmp_ne (tgt := 75) hx hb dX4_when_68 (by decide) (fun q12 => ?_) (fun q12 => ?_)
      · replace hcf := (if_neg q12).symm.trans hcf
        refine lv_ldc hx hb hown (hts _ q857) dX4_when_75 ?_
        refine lv_istore (lv' := [(4, .int (-1000004 : Int32)), (0, .ref j0), (1, .int j1), (2, .int j2), (3, .int j3)]) hx hb dX4_when_77 hl (by decide) rfl (fun ls hl => ?_)
        refine lv_aload_n hx hb dX4_when_79 rfl (lv_at hl 1 rfl) ?_
        obtain ⟨r13, hr13, hcf⟩ := ob hcf
        refine gf_X4_16 hx hb hts hown hE hW q10 hr13 dX4_when_80 ?_
        refine lv_aload_n hx hb dX4_when_83 rfl (lv_at hl 1 rfl) ?_
        obtain ⟨r14, hr14, hcf⟩ := ob hcf
        refine gf_X4_7 hx hb hts hown hE hW q10 hr14 dX4_when_84 ?_
        obtain ⟨x15, hx15, hcf⟩ := ob hcf
        refine iv_X4_135 (As := [.ref r13, .ref r14]) (rest := []) hx hb hml hown hts hE (ct_X4_copy l D cy z n Y V G r13 r14 x15 hx15) hW hS rfl rfl hl.1 (Nat.le_of_ble_eq_true rfl) ⟨Nat.le_of_ble_eq_true rfl, Nat.le_of_ble_eq_true rfl⟩ dX4_when_87 ⟨Nat.zero_le _, Nat.zero_le _⟩ (fun H locs hW hS => ?_)
        refine lv_iload hx hb dX4_when_90 (lv_at hl 0 rfl) ?_
        have hcf := Option.some.inj hcf; subst hcf
        exact wk_iret hx hb hr hlocks hW hS dX4_when_92
      · replace hcf := (if_pos q12).symm.trans hcf
        refine lv_iload_n hx hb dX4_when_71 rfl (lv_at hl 3 rfl) ?_
        refine lv_goto (tgt := 77) hx hb dX4_when_72 (by decide) ?_
        refine lv_istore (lv' := [(4, .int j3), (0, .ref j0), (1, .int j1), (2, .int j2), (3, .int j3)]) hx hb dX4_when_77 hl (by decide) rfl (fun ls hl => ?_)
        refine lv_aload_n hx hb dX4_when_79 rfl (lv_at hl 1 rfl) ?_
        obtain ⟨r16, hr16, hcf⟩ := ob hcf
        refine gf_X4_16 hx hb hts hown hE hW q10 hr16 dX4_when_80 ?_
        refine lv_aload_n hx hb dX4_when_83 rfl (lv_at hl 1 rfl) ?_
        obtain ⟨r17, hr17, hcf⟩ := ob hcf
        refine gf_X4_7 hx hb hts hown hE hW q10 hr17 dX4_when_84 ?_
        obtain ⟨x18, hx18, hcf⟩ := ob hcf
        refine iv_X4_135 (As := [.ref r16, .ref r17]) (rest := []) hx hb hml hown hts hE (ct_X4_copy l D cy z n Y V G r16 r17 x18 hx18) hW hS rfl rfl hl.1 (Nat.le_of_ble_eq_true rfl) ⟨Nat.le_of_ble_eq_true rfl, Nat.le_of_ble_eq_true rfl⟩ dX4_when_87 ⟨Nat.zero_le _, Nat.zero_le _⟩ (fun H locs hW hS => ?_)
        refine lv_iload hx hb dX4_when_90 (lv_at hl 0 rfl) ?_
        have hcf := Option.some.inj hcf; subst hcf
        exact wk_iret hx hb hr hlocks hW hS dX4_when_92
    · replace hcf := (if_neg q9).symm.trans hcf
      refine lv_aload_n hx hb dX4_when_43 rfl (lv_at hl 0 rfl) ?_
      refine lv_iload_n hx hb dX4_when_44 rfl (lv_at hl 1 rfl) ?_
      obtain ⟨q19, hcf⟩ := og hcf
      obtain ⟨x20, hx20, hcf⟩ := ob hcf
      refine iv_X4_109 (As := [.int j1]) (rest := []) hx hb hml hown hts hE (ct_X4_stateOf l D cy z n Y V G j0 j1 x20 hx20) hW hS q19 rfl rfl hl.1 (Nat.le_of_ble_eq_true rfl) ⟨Nat.le_of_ble_eq_true rfl, Nat.le_of_ble_eq_true rfl⟩ dX4_when_45 ⟨Nat.zero_le _, Nat.zero_le _⟩ (fun H locs hW hS => ?_)
      refine lv_iload_n hx hb dX4_when_48 rfl (lv_at hl 2 rfl) ?_
      refine lv_icmp_eq (tgt := 62) hx hb dX4_when_49 (by decide) (fun q21 => ?_) (fun q21 => ?_)
      · replace hcf := (if_pos q21).symm.trans hcf
        refine lv_aload_n hx hb dX4_when_62 rfl (lv_at hl 0 rfl) ?_
        refine lv_iload_n hx hb dX4_when_63 rfl (lv_at hl 1 rfl) ?_
        obtain ⟨x22, hx22, hcf⟩ := ob hcf
        refine iv_X4_109 (As := [.int j1]) (rest := []) hx hb hml hown hts hE (ct_X4_stateOf l D cy z n Y V G j0 j1 x22 hx22) hW hS q19 rfl rfl hl.1 (Nat.le_of_ble_eq_true rfl) ⟨Nat.le_of_ble_eq_true rfl, Nat.le_of_ble_eq_true rfl⟩ dX4_when_64 ⟨Nat.zero_le _, Nat.zero_le _⟩ (fun H locs hW hS => ?_)
        refine lv_iload_n hx hb dX4_when_67 rfl (lv_at hl 2 rfl) ?_
        refine lv_icmp_ne (tgt := 75) hx hb dX4_when_68 (by decide) (fun q23 => ?_) (fun q23 => ?_)
        · replace hcf := (if_neg q23).symm.trans hcf
          refine lv_ldc hx hb hown (hts _ q857) dX4_when_75 ?_
          refine lv_istore (lv' := [(4, .int (-1000004 : Int32)), (0, .ref j0), (1, .int j1), (2, .int j2), (3, .int j3)]) hx hb dX4_when_77 hl (by decide) rfl (fun ls hl => ?_)
          refine lv_aload_n hx hb dX4_when_79 rfl (lv_at hl 1 rfl) ?_
          obtain ⟨r24, hr24, hcf⟩ := ob hcf
          refine gf_X4_16 hx hb hts hown hE hW q19 hr24 dX4_when_80 ?_
          refine lv_aload_n hx hb dX4_when_83 rfl (lv_at hl 1 rfl) ?_
          obtain ⟨r25, hr25, hcf⟩ := ob hcf
          refine gf_X4_7 hx hb hts hown hE hW q19 hr25 dX4_when_84 ?_
          obtain ⟨x26, hx26, hcf⟩ := ob hcf
          refine iv_X4_135 (As := [.ref r24, .ref r25]) (rest := []) hx hb hml hown hts hE (ct_X4_copy l D cy z n Y V G r24 r25 x26 hx26) hW hS rfl rfl hl.1 (Nat.le_of_ble_eq_true rfl) ⟨Nat.le_of_ble_eq_true rfl, Nat.le_of_ble_eq_true rfl⟩ dX4_when_87 ⟨Nat.zero_le _, Nat.zero_le _⟩ (fun H locs hW hS => ?_)
          refine lv_iload hx hb dX4_when_90 (lv_at hl 0 rfl) ?_
          have hcf := Option.some.inj hcf; subst hcf
          exact wk_iret hx hb hr hlocks hW hS dX4_when_92
        · replace hcf := (if_pos q23).symm.trans hcf
          refine lv_iload_n hx hb dX4_when_71 rfl (lv_at hl 3 rfl) ?_
          refine lv_goto (tgt := 77) hx hb dX4_when_72 (by decide) ?_
          refine lv_istore (lv' := [(4, .int j3), (0, .ref j0), (1, .int j1), (2, .int j2), (3, .int j3)]) hx hb dX4_when_77 hl (by decide) rfl (fun ls hl => ?_)
          refine lv_aload_n hx hb dX4_when_79 rfl (lv_at hl 1 rfl) ?_
          obtain ⟨r27, hr27, hcf⟩ := ob hcf
          refine gf_X4_16 hx hb hts hown hE hW q19 hr27 dX4_when_80 ?_
          refine lv_aload_n hx hb dX4_when_83 rfl (lv_at hl 1 rfl) ?_
          obtain ⟨r28, hr28, hcf⟩ := ob hcf
          refine gf_X4_7 hx hb hts hown hE hW q19 hr28 dX4_when_84 ?_
          obtain ⟨x29, hx29, hcf⟩ := ob hcf
          refine iv_X4_135 (As := [.ref r27, .ref r28]) (rest := []) hx hb hml hown hts hE (ct_X4_copy l D cy z n Y V G r27 r28 x29 hx29) hW hS rfl rfl hl.1 (Nat.le_of_ble_eq_true rfl) ⟨Nat.le_of_ble_eq_true rfl, Nat.le_of_ble_eq_true rfl⟩ dX4_when_87 ⟨Nat.zero_le _, Nat.zero_le _⟩ (fun H locs hW hS => ?_)
          refine lv_iload hx hb dX4_when_90 (lv_at hl 0 rfl) ?_
          have hcf := Option.some.inj hcf; subst hcf
          exact wk_iret hx hb hr hlocks hW hS dX4_when_92
      · replace hcf := (if_neg q21).symm.trans hcf
        refine lv_aload_n hx hb dX4_when_52 rfl (lv_at hl 0 rfl) ?_
        obtain ⟨x30, hx30, hcf⟩ := ob hcf
        refine iv_X4_132 (As := []) (rest := []) hx hb hml hown hts hE (ct_X4_passDay l D cy z n Y V G j0 x30 hx30) hW hS q19 rfl rfl hl.1 (Nat.le_of_ble_eq_true rfl) ⟨Nat.le_of_ble_eq_true rfl, Nat.le_of_ble_eq_true rfl⟩ dX4_when_53 ⟨Nat.zero_le _, Nat.zero_le _⟩ (fun H locs hW hS => ?_)
        refine lv_iinc (v := (j3 + 1)) (lv' := [(3, .int (j3 + 1)), (0, .ref j0), (1, .int j1), (2, .int j2)]) hx hb dX4_when_56 hl (k := 3) rfl rfl (by decide) rfl (fun ls hl => ?_)
        refine lv_goto (tgt := 36) hx hb dX4_when_59 (by decide) ?_
        exact ih x30 j0 j1 j2 (j3 + 1) _ _ _ hcf hW hS (lv_sub hl [1, 2, 3, 0] rfl)
set_option maxHeartbeats 4000000 in
set_option maxRecDepth 100000 in
theorem ct_X4_when (l : Launch) (D : va_G) (cy : Nat → ClassId) (z n : Nat) (Y : mY) (V : mV) (G : mG) (a0 : Nat) (b1 : Int32) (b2 : Int32) (x : Int32 × mV) (hcf : cf_X4_when Y V G a0 b1 b2 = some x) : CT l yX4_when cX4_when 5 (some .int) (rmd 6) D cy z [.ref a0, .int b1, .int b2] Y n V G (some (.int x.1)) Y n x.2 G := by
  refine ct_of (by decide) (Nat.le_of_ble_eq_true rfl) ?_
  intro p e s m args below meth c ls hx hb hr hml hown hts hlocks hnm hE hW hl
  have hS : va_S (zA z) s.heap s.heap [] := va_S.rf
  have hl : lv_has ls 5 [(0, .ref a0), (1, .int b1), (2, .int b2)] := hl
  have hown : s.vm.findClass RX4 = some m.cls := hown
  rw [cf_X4_when] at hcf
  refine lv_aload_n hx hb dX4_when_0 rfl (lv_at hl 0 rfl) ?_
  refine lv_iload_n hx hb dX4_when_1 rfl (lv_at hl 1 rfl) ?_
  obtain ⟨q1, hcf⟩ := og hcf
  obtain ⟨x2, hx2, hcf⟩ := ob hcf
  refine iv_X4_99 (As := [.int b1]) (rest := []) hx hb hml hown hts hE (ct_X4_isCondition l D cy z n Y V G a0 b1 x2 hx2) hW hS q1 rfl rfl hl.1 (Nat.le_of_ble_eq_true rfl) ⟨Nat.le_of_ble_eq_true rfl, Nat.le_of_ble_eq_true rfl⟩ dX4_when_2 ⟨Nat.zero_le _, Nat.zero_le _⟩ (fun H locs hW hS => ?_)
  refine lv_if_eq (tgt := 20) hx hb dX4_when_5 (by decide) (fun q3 => ?_) (fun q3 => ?_)
  · replace hcf := (if_pos q3).symm.trans hcf
    refine lv_ldc hx hb hown (hts _ q672) dX4_when_20 ?_
    have hcf := Option.some.inj hcf; subst hcf
    exact wk_iret hx hb hr hlocks hW hS dX4_when_22
  · replace hcf := (if_neg q3).symm.trans hcf
    refine lv_iload_n hx hb dX4_when_8 rfl (lv_at hl 2 rfl) ?_
    refine lv_i2l hx hb dX4_when_9 rfl ?_
    refine lv_lconst (v := (0 : Int64)) hx hb dX4_when_10 (by decide) ?_
    refine lv_ldc2 hx hb hown (hts _ q666) dX4_when_11 ?_
    obtain ⟨x4, hx4, hcf⟩ := ob hcf
    refine iv_X4_40 (As := [.long ((b2).toInt64), .long (0 : Int64), .long (4 : Int64)]) (rest := []) hx hb hml hown hts hE (ct_X4_in l D cy z n Y V G ((b2).toInt64) (0 : Int64) (4 : Int64) x4 hx4) hW hS rfl rfl hl.1 (Nat.le_of_ble_eq_true rfl) ⟨Nat.le_of_ble_eq_true rfl, Nat.le_of_ble_eq_true rfl⟩ dX4_when_14 ⟨Nat.zero_le _, Nat.zero_le _⟩ (fun H locs hW hS => ?_)
    refine lv_if_ne (tgt := 23) hx hb dX4_when_17 (by decide) (fun q5 => ?_) (fun q5 => ?_)
    · replace hcf := (if_neg q5).symm.trans hcf
      refine lv_aload_n hx hb dX4_when_23 rfl (lv_at hl 0 rfl) ?_
      obtain ⟨r6, hr6, hcf⟩ := ob hcf
      refine gf_X4_7 hx hb hts hown hE hW q1 hr6 dX4_when_24 ?_
      refine lv_aload_n hx hb dX4_when_27 rfl (lv_at hl 0 rfl) ?_
      obtain ⟨r7, hr7, hcf⟩ := ob hcf
      refine gf_X4_16 hx hb hts hown hE hW q1 hr7 dX4_when_28 ?_
      obtain ⟨x8, hx8, hcf⟩ := ob hcf
      refine iv_X4_135 (As := [.ref r6, .ref r7]) (rest := []) hx hb hml hown hts hE (ct_X4_copy l D cy z n Y V G r6 r7 x8 hx8) hW hS rfl rfl hl.1 (Nat.le_of_ble_eq_true rfl) ⟨Nat.le_of_ble_eq_true rfl, Nat.le_of_ble_eq_true rfl⟩ dX4_when_31 ⟨Nat.zero_le _, Nat.zero_le _⟩ (fun H locs hW hS => ?_)
      refine lv_iconst (v := (0 : Int32)) hx hb dX4_when_34 (by decide) ?_
      refine lv_istore_n (lv' := [(3, .int (0 : Int32)), (0, .ref a0), (1, .int b1), (2, .int b2)]) hx hb dX4_when_35 rfl hl (by decide) rfl (fun ls hl => ?_)
      exact wl_X4_when_36 hx hb hr hml hown hts hlocks hE x fuB x8 a0 b1 b2 (0 : Int32) _ _ _ hcf hW hS (lv_sub hl [1, 2, 3, 0] rfl)
    · replace hcf := (if_pos q5).symm.trans hcf
      refine lv_ldc hx hb hown (hts _ q672) dX4_when_20 ?_
      have hcf := Option.some.inj hcf; subst hcf
      exact wk_iret hx hb hr hlocks hW hS dX4_when_22
set_option maxHeartbeats 4000000 in
set_option maxRecDepth 100000 in
theorem wl_X4_lawful_34 {p : Program} {l : Launch} {e : Env} {s : State} {m : MethodId} {args : Array Value} {below : List Frame} {meth : Method} {c : Code} {D : va_G} {cy : Nat → ClassId} {z : Nat} {n : Nat} {Y : mY} {G : mG} (hx : p.tables.exec = Jvm.exec) (hb : c.code = cX4_lawful) (hr : meth.sig.returnType = (some .int)) (hml : c.maxLocals = 4) (hown : s.vm.findClass RX4 = some m.cls) (hts : ∀ w ∈ lw_all, w.before args s = true) (hlocks : meth.locks = false) (hE : En D cy s) (x : Int32 × mV) : ∀ (k : Nat) (V : mV) (j0 : Nat) (j1 : Int32) (j2 : Int32) (H : Heap) (locs : List Loc) (ls : Array Slot), lp_X4_lawful_34 Y G k V j0 j1 j2 = some x → Wd Y cy D z n V G H → va_S (zA z) s.heap H locs → lv_has ls 4 [(0, .ref j0), (1, .int j1), (2, .int j2)] → W p l e (rmd 6) s m args below meth c H locs 0 0 (MQ below (QC D cy z Y n x.2 G (some (.int x.1))) args s 0 0 (zA z)) (F0 m 34 ls []) := by
  intro k
  induction k with
  | zero =>
    intro V j0 j1 j2 H locs ls hcf
    have hcf : none = some _ := hcf
    cases hcf
  | succ k ih =>
    intro V j0 j1 j2 H locs ls hcf hW hS hl
    rw [lp_X4_lawful_34] at hcf
    refine lv_iload_n hx hb dX4_lawful_34 rfl (lv_at hl 2 rfl) ?_
    refine lv_sipush (v := (400 : Int32)) hx hb dX4_lawful_35 (by decide) ?_
    refine lv_icmp_ge (tgt := 59) hx hb dX4_lawful_38 (by decide) (fun q9 => ?_) (fun q9 => ?_)
    · replace hcf := (if_pos q9).symm.trans hcf
      refine lv_aload_n hx hb dX4_lawful_59 rfl (lv_at hl 0 rfl) ?_
      refine lv_iload_n hx hb dX4_lawful_60 rfl (lv_at hl 1 rfl) ?_
      obtain ⟨q10, hcf⟩ := og hcf
      obtain ⟨x11, hx11, hcf⟩ := ob hcf
      refine iv_X4_93 (As := [.int j1]) (rest := []) hx hb hml hown hts hE (ct_X4_unmetAhead l D cy z n Y V G j0 j1 x11 hx11) hW hS q10 rfl rfl hl.1 (Nat.le_of_ble_eq_true rfl) ⟨Nat.le_of_ble_eq_true rfl, Nat.le_of_ble_eq_true rfl⟩ dX4_lawful_61 ⟨Nat.zero_le _, Nat.zero_le _⟩ (fun H locs hW hS => ?_)
      refine lv_if_ne (tgt := 71) hx hb dX4_lawful_64 (by decide) (fun q12 => ?_) (fun q12 => ?_)
      · replace hcf := (if_neg q12).symm.trans hcf
        refine lv_ldc hx hb hown (hts _ q857) dX4_lawful_71 ?_
        refine lv_istore_n (lv' := [(3, .int (-1000004 : Int32)), (0, .ref j0), (1, .int j1), (2, .int j2)]) hx hb dX4_lawful_73 rfl hl (by decide) rfl (fun ls hl => ?_)
        refine lv_aload_n hx hb dX4_lawful_74 rfl (lv_at hl 1 rfl) ?_
        obtain ⟨r13, hr13, hcf⟩ := ob hcf
        refine gf_X4_16 hx hb hts hown hE hW q10 hr13 dX4_lawful_75 ?_
        refine lv_aload_n hx hb dX4_lawful_78 rfl (lv_at hl 1 rfl) ?_
        obtain ⟨r14, hr14, hcf⟩ := ob hcf
        refine gf_X4_7 hx hb hts hown hE hW q10 hr14 dX4_lawful_79 ?_
        obtain ⟨x15, hx15, hcf⟩ := ob hcf
        refine iv_X4_135 (As := [.ref r13, .ref r14]) (rest := []) hx hb hml hown hts hE (ct_X4_copy l D cy z n Y V G r13 r14 x15 hx15) hW hS rfl rfl hl.1 (Nat.le_of_ble_eq_true rfl) ⟨Nat.le_of_ble_eq_true rfl, Nat.le_of_ble_eq_true rfl⟩ dX4_lawful_82 ⟨Nat.zero_le _, Nat.zero_le _⟩ (fun H locs hW hS => ?_)
        refine lv_iload_n hx hb dX4_lawful_85 rfl (lv_at hl 0 rfl) ?_
        have hcf := Option.some.inj hcf; subst hcf
        exact wk_iret hx hb hr hlocks hW hS dX4_lawful_86
      · replace hcf := (if_pos q12).symm.trans hcf
        refine lv_iload_n hx hb dX4_lawful_67 rfl (lv_at hl 2 rfl) ?_
        refine lv_goto (tgt := 73) hx hb dX4_lawful_68 (by decide) ?_
        refine lv_istore_n (lv' := [(3, .int j2), (0, .ref j0), (1, .int j1), (2, .int j2)]) hx hb dX4_lawful_73 rfl hl (by decide) rfl (fun ls hl => ?_)
        refine lv_aload_n hx hb dX4_lawful_74 rfl (lv_at hl 1 rfl) ?_
        obtain ⟨r16, hr16, hcf⟩ := ob hcf
        refine gf_X4_16 hx hb hts hown hE hW q10 hr16 dX4_lawful_75 ?_
        refine lv_aload_n hx hb dX4_lawful_78 rfl (lv_at hl 1 rfl) ?_
        obtain ⟨r17, hr17, hcf⟩ := ob hcf
        refine gf_X4_7 hx hb hts hown hE hW q10 hr17 dX4_lawful_79 ?_
        obtain ⟨x18, hx18, hcf⟩ := ob hcf
        refine iv_X4_135 (As := [.ref r16, .ref r17]) (rest := []) hx hb hml hown hts hE (ct_X4_copy l D cy z n Y V G r16 r17 x18 hx18) hW hS rfl rfl hl.1 (Nat.le_of_ble_eq_true rfl) ⟨Nat.le_of_ble_eq_true rfl, Nat.le_of_ble_eq_true rfl⟩ dX4_lawful_82 ⟨Nat.zero_le _, Nat.zero_le _⟩ (fun H locs hW hS => ?_)
        refine lv_iload_n hx hb dX4_lawful_85 rfl (lv_at hl 0 rfl) ?_
        have hcf := Option.some.inj hcf; subst hcf
        exact wk_iret hx hb hr hlocks hW hS dX4_lawful_86
    · replace hcf := (if_neg q9).symm.trans hcf
      refine lv_aload_n hx hb dX4_lawful_41 rfl (lv_at hl 0 rfl) ?_
      refine lv_iload_n hx hb dX4_lawful_42 rfl (lv_at hl 1 rfl) ?_
      obtain ⟨q19, hcf⟩ := og hcf
      obtain ⟨x20, hx20, hcf⟩ := ob hcf
      refine iv_X4_93 (As := [.int j1]) (rest := []) hx hb hml hown hts hE (ct_X4_unmetAhead l D cy z n Y V G j0 j1 x20 hx20) hW hS q19 rfl rfl hl.1 (Nat.le_of_ble_eq_true rfl) ⟨Nat.le_of_ble_eq_true rfl, Nat.le_of_ble_eq_true rfl⟩ dX4_lawful_43 ⟨Nat.zero_le _, Nat.zero_le _⟩ (fun H locs hW hS => ?_)
      refine lv_if_eq (tgt := 59) hx hb dX4_lawful_46 (by decide) (fun q21 => ?_) (fun q21 => ?_)
      · replace hcf := (if_pos q21).symm.trans hcf
        refine lv_aload_n hx hb dX4_lawful_59 rfl (lv_at hl 0 rfl) ?_
        refine lv_iload_n hx hb dX4_lawful_60 rfl (lv_at hl 1 rfl) ?_
        obtain ⟨x22, hx22, hcf⟩ := ob hcf
        refine iv_X4_93 (As := [.int j1]) (rest := []) hx hb hml hown hts hE (ct_X4_unmetAhead l D cy z n Y V G j0 j1 x22 hx22) hW hS q19 rfl rfl hl.1 (Nat.le_of_ble_eq_true rfl) ⟨Nat.le_of_ble_eq_true rfl, Nat.le_of_ble_eq_true rfl⟩ dX4_lawful_61 ⟨Nat.zero_le _, Nat.zero_le _⟩ (fun H locs hW hS => ?_)
        refine lv_if_ne (tgt := 71) hx hb dX4_lawful_64 (by decide) (fun q23 => ?_) (fun q23 => ?_)
        · replace hcf := (if_neg q23).symm.trans hcf
          refine lv_ldc hx hb hown (hts _ q857) dX4_lawful_71 ?_
          refine lv_istore_n (lv' := [(3, .int (-1000004 : Int32)), (0, .ref j0), (1, .int j1), (2, .int j2)]) hx hb dX4_lawful_73 rfl hl (by decide) rfl (fun ls hl => ?_)
          refine lv_aload_n hx hb dX4_lawful_74 rfl (lv_at hl 1 rfl) ?_
          obtain ⟨r24, hr24, hcf⟩ := ob hcf
          refine gf_X4_16 hx hb hts hown hE hW q19 hr24 dX4_lawful_75 ?_
          refine lv_aload_n hx hb dX4_lawful_78 rfl (lv_at hl 1 rfl) ?_
          obtain ⟨r25, hr25, hcf⟩ := ob hcf
          refine gf_X4_7 hx hb hts hown hE hW q19 hr25 dX4_lawful_79 ?_
          obtain ⟨x26, hx26, hcf⟩ := ob hcf
          refine iv_X4_135 (As := [.ref r24, .ref r25]) (rest := []) hx hb hml hown hts hE (ct_X4_copy l D cy z n Y V G r24 r25 x26 hx26) hW hS rfl rfl hl.1 (Nat.le_of_ble_eq_true rfl) ⟨Nat.le_of_ble_eq_true rfl, Nat.le_of_ble_eq_true rfl⟩ dX4_lawful_82 ⟨Nat.zero_le _, Nat.zero_le _⟩ (fun H locs hW hS => ?_)
          refine lv_iload_n hx hb dX4_lawful_85 rfl (lv_at hl 0 rfl) ?_
          have hcf := Option.some.inj hcf; subst hcf
          exact wk_iret hx hb hr hlocks hW hS dX4_lawful_86
        · replace hcf := (if_pos q23).symm.trans hcf
          refine lv_iload_n hx hb dX4_lawful_67 rfl (lv_at hl 2 rfl) ?_
          refine lv_goto (tgt := 73) hx hb dX4_lawful_68 (by decide) ?_
          refine lv_istore_n (lv' := [(3, .int j2), (0, .ref j0), (1, .int j1), (2, .int j2)]) hx hb dX4_lawful_73 rfl hl (by decide) rfl (fun ls hl => ?_)
          refine lv_aload_n hx hb dX4_lawful_74 rfl (lv_at hl 1 rfl) ?_
          obtain ⟨r27, hr27, hcf⟩ := ob hcf
          refine gf_X4_16 hx hb hts hown hE hW q19 hr27 dX4_lawful_75 ?_
          refine lv_aload_n hx hb dX4_lawful_78 rfl (lv_at hl 1 rfl) ?_
          obtain ⟨r28, hr28, hcf⟩ := ob hcf
          refine gf_X4_7 hx hb hts hown hE hW q19 hr28 dX4_lawful_79 ?_
          obtain ⟨x29, hx29, hcf⟩ := ob hcf
          refine iv_X4_135 (As := [.ref r27, .ref r28]) (rest := []) hx hb hml hown hts hE (ct_X4_copy l D cy z n Y V G r27 r28 x29 hx29) hW hS rfl rfl hl.1 (Nat.le_of_ble_eq_true rfl) ⟨Nat.le_of_ble_eq_true rfl, Nat.le_of_ble_eq_true rfl⟩ dX4_lawful_82 ⟨Nat.zero_le _, Nat.zero_le _⟩ (fun H locs hW hS => ?_)
          refine lv_iload_n hx hb dX4_lawful_85 rfl (lv_at hl 0 rfl) ?_
          have hcf := Option.some.inj hcf; subst hcf
          exact wk_iret hx hb hr hlocks hW hS dX4_lawful_86
      · replace hcf := (if_neg q21).symm.trans hcf
        refine lv_aload_n hx hb dX4_lawful_49 rfl (lv_at hl 0 rfl) ?_
        obtain ⟨x30, hx30, hcf⟩ := ob hcf
        refine iv_X4_132 (As := []) (rest := []) hx hb hml hown hts hE (ct_X4_passDay l D cy z n Y V G j0 x30 hx30) hW hS q19 rfl rfl hl.1 (Nat.le_of_ble_eq_true rfl) ⟨Nat.le_of_ble_eq_true rfl, Nat.le_of_ble_eq_true rfl⟩ dX4_lawful_50 ⟨Nat.zero_le _, Nat.zero_le _⟩ (fun H locs hW hS => ?_)
        refine lv_iinc (v := (j2 + 1)) (lv' := [(2, .int (j2 + 1)), (0, .ref j0), (1, .int j1)]) hx hb dX4_lawful_53 hl (k := 2) rfl rfl (by decide) rfl (fun ls hl => ?_)
        refine lv_goto (tgt := 34) hx hb dX4_lawful_56 (by decide) ?_
        exact ih x30 j0 j1 (j2 + 1) _ _ _ hcf hW hS (lv_sub hl [1, 2, 0] rfl)
set_option maxHeartbeats 4000000 in
set_option maxRecDepth 100000 in
theorem ct_X4_lawful (l : Launch) (D : va_G) (cy : Nat → ClassId) (z n : Nat) (Y : mY) (V : mV) (G : mG) (a0 : Nat) (b1 : Int32) (x : Int32 × mV) (hcf : cf_X4_lawful Y V G a0 b1 = some x) : CT l yX4_lawful cX4_lawful 4 (some .int) (rmd 6) D cy z [.ref a0, .int b1] Y n V G (some (.int x.1)) Y n x.2 G := by
  refine ct_of (by decide) (Nat.le_of_ble_eq_true rfl) ?_
  intro p e s m args below meth c ls hx hb hr hml hown hts hlocks hnm hE hW hl
  have hS : va_S (zA z) s.heap s.heap [] := va_S.rf
  have hl : lv_has ls 4 [(0, .ref a0), (1, .int b1)] := hl
  have hown : s.vm.findClass RX4 = some m.cls := hown
  rw [cf_X4_lawful] at hcf
  refine lv_iload_n hx hb dX4_lawful_0 rfl (lv_at hl 1 rfl) ?_
  obtain ⟨x1, hx1, hcf⟩ := ob hcf
  refine iv_X4_78 (As := [.int b1]) (rest := []) hx hb hml hown hts hE (ct_X4_isStage l D cy z n Y V G b1 x1 hx1) hW hS rfl rfl hl.1 (Nat.le_of_ble_eq_true rfl) ⟨Nat.le_of_ble_eq_true rfl, Nat.le_of_ble_eq_true rfl⟩ dX4_lawful_1 ⟨Nat.zero_le _, Nat.zero_le _⟩ (fun H locs hW hS => ?_)
  refine lv_if_ne (tgt := 10) hx hb dX4_lawful_4 (by decide) (fun q2 => ?_) (fun q2 => ?_)
  · replace hcf := (if_neg q2).symm.trans hcf
    refine lv_aload_n hx hb dX4_lawful_10 rfl (lv_at hl 0 rfl) ?_
    refine lv_iload_n hx hb dX4_lawful_11 rfl (lv_at hl 1 rfl) ?_
    obtain ⟨q3, hcf⟩ := og hcf
    obtain ⟨x4, hx4, hcf⟩ := ob hcf
    refine iv_X4_90 (As := [.int b1]) (rest := []) hx hb hml hown hts hE (ct_X4_mayBegin l D cy z n Y V G a0 b1 x4 hx4) hW hS q3 rfl rfl hl.1 (Nat.le_of_ble_eq_true rfl) ⟨Nat.le_of_ble_eq_true rfl, Nat.le_of_ble_eq_true rfl⟩ dX4_lawful_12 ⟨Nat.zero_le _, Nat.zero_le _⟩ (fun H locs hW hS => ?_)
    refine lv_if_ne (tgt := 21) hx hb dX4_lawful_15 (by decide) (fun q5 => ?_) (fun q5 => ?_)
    · replace hcf := (if_neg q5).symm.trans hcf
      refine lv_aload_n hx hb dX4_lawful_21 rfl (lv_at hl 0 rfl) ?_
      obtain ⟨r6, hr6, hcf⟩ := ob hcf
      refine gf_X4_7 hx hb hts hown hE hW q3 hr6 dX4_lawful_22 ?_
      refine lv_aload_n hx hb dX4_lawful_25 rfl (lv_at hl 0 rfl) ?_
      obtain ⟨r7, hr7, hcf⟩ := ob hcf
      refine gf_X4_16 hx hb hts hown hE hW q3 hr7 dX4_lawful_26 ?_
      obtain ⟨x8, hx8, hcf⟩ := ob hcf
      refine iv_X4_135 (As := [.ref r6, .ref r7]) (rest := []) hx hb hml hown hts hE (ct_X4_copy l D cy z n Y V G r6 r7 x8 hx8) hW hS rfl rfl hl.1 (Nat.le_of_ble_eq_true rfl) ⟨Nat.le_of_ble_eq_true rfl, Nat.le_of_ble_eq_true rfl⟩ dX4_lawful_29 ⟨Nat.zero_le _, Nat.zero_le _⟩ (fun H locs hW hS => ?_)
      refine lv_iconst (v := (0 : Int32)) hx hb dX4_lawful_32 (by decide) ?_
      refine lv_istore_n (lv' := [(2, .int (0 : Int32)), (0, .ref a0), (1, .int b1)]) hx hb dX4_lawful_33 rfl hl (by decide) rfl (fun ls hl => ?_)
      exact wl_X4_lawful_34 hx hb hr hml hown hts hlocks hE x fuB x8 a0 b1 (0 : Int32) _ _ _ hcf hW hS (lv_sub hl [1, 2, 0] rfl)
    · replace hcf := (if_pos q5).symm.trans hcf
      refine lv_ldc hx hb hown (hts _ q677) dX4_lawful_18 ?_
      have hcf := Option.some.inj hcf; subst hcf
      exact wk_iret hx hb hr hlocks hW hS dX4_lawful_20
  · replace hcf := (if_pos q2).symm.trans hcf
    refine lv_ldc hx hb hown (hts _ q672) dX4_lawful_7 ?_
    have hcf := Option.some.inj hcf; subst hcf
    exact wk_iret hx hb hr hlocks hW hS dX4_lawful_9
set_option maxHeartbeats 4000000 in
set_option maxRecDepth 100000 in
theorem ct_X4_fine (l : Launch) (D : va_G) (cy : Nat → ClassId) (z n : Nat) (Y : mY) (V : mV) (G : mG) (a0 : Nat) (b1 : Int32) (b2 : Int64) (x : Int64) (hcf : cf_X4_fine Y V G a0 b1 b2 = some x) : CT l yX4_fine cX4_fine 8 (some .long) (rmd 2) D cy z [.ref a0, .int b1, .long b2] Y n V G (some (.long x)) Y n V G := by
  refine ct_of (by decide) (Nat.le_of_ble_eq_true rfl) ?_
  intro p e s m args below meth c ls hx hb hr hml hown hts hlocks hnm hE hW hl
  have hS : va_S (zA z) s.heap s.heap [] := va_S.rf
  have hl : lv_has ls 8 [(0, .ref a0), (1, .int b1), (2, .long b2)] := hl
  have hown : s.vm.findClass RX4 = some m.cls := hown
  rw [cf_X4_fine] at hcf
  refine lv_aload_n hx hb dX4_fine_0 rfl (lv_at hl 0 rfl) ?_
  refine lv_iload_n hx hb dX4_fine_1 rfl (lv_at hl 1 rfl) ?_
  obtain ⟨q1, hcf⟩ := og hcf
  obtain ⟨x2, hx2, hcf⟩ := ob hcf
  refine iv_X4_99 (As := [.int b1]) (rest := []) hx hb hml hown hts hE (ct_X4_isCondition l D cy z n Y V G a0 b1 x2 hx2) hW hS q1 rfl rfl hl.1 (Nat.le_of_ble_eq_true rfl) ⟨Nat.le_of_ble_eq_true rfl, Nat.le_of_ble_eq_true rfl⟩ dX4_fine_2 ⟨Nat.zero_le _, Nat.zero_le _⟩ (fun H locs hW hS => ?_)
  refine lv_if_eq (tgt := 19) hx hb dX4_fine_5 (by decide) (fun q3 => ?_) (fun q3 => ?_)
  · replace hcf := (if_pos q3).symm.trans hcf
    refine lv_ldc2 hx hb hown (hts _ q884) dX4_fine_19 ?_
    have hcf := Option.some.inj hcf; subst hcf
    exact wk_lret hx hb hr hlocks hW hS dX4_fine_22
  · replace hcf := (if_neg q3).symm.trans hcf
    refine lv_lload_n hx hb dX4_fine_8 rfl (lv_at hl 2 rfl) ?_
    refine lv_lconst (v := (1 : Int64)) hx hb dX4_fine_9 (by decide) ?_
    refine lv_ldc2 hx hb hown (hts _ q883) dX4_fine_10 ?_
    obtain ⟨x4, hx4, hcf⟩ := ob hcf
    refine iv_X4_40 (As := [.long b2, .long (1 : Int64), .long (1000000000000000 : Int64)]) (rest := []) hx hb hml hown hts hE (ct_X4_in l D cy z n Y V G b2 (1 : Int64) (1000000000000000 : Int64) x4 hx4) hW hS rfl rfl hl.1 (Nat.le_of_ble_eq_true rfl) ⟨Nat.le_of_ble_eq_true rfl, Nat.le_of_ble_eq_true rfl⟩ dX4_fine_13 ⟨Nat.zero_le _, Nat.zero_le _⟩ (fun H locs hW hS => ?_)
    refine lv_if_ne (tgt := 23) hx hb dX4_fine_16 (by decide) (fun q5 => ?_) (fun q5 => ?_)
    · replace hcf := (if_neg q5).symm.trans hcf
      refine lv_aload_n hx hb dX4_fine_23 rfl (lv_at hl 0 rfl) ?_
      refine lv_iload_n hx hb dX4_fine_24 rfl (lv_at hl 1 rfl) ?_
      refine lv_bipush (v := (11 : Int32)) hx hb dX4_fine_25 (by decide) ?_
      obtain ⟨x6, hx6, hcf⟩ := ob hcf
      refine iv_X4_46 (As := [.int b1, .int (11 : Int32)]) (rest := []) hx hb hml hown hts hE (ct_X4_get l D cy z n Y V G a0 b1 (11 : Int32) x6 hx6) hW hS q1 rfl rfl hl.1 (Nat.le_of_ble_eq_true rfl) ⟨Nat.le_of_ble_eq_true rfl, Nat.le_of_ble_eq_true rfl⟩ dX4_fine_27 ⟨Nat.zero_le _, Nat.zero_le _⟩ (fun H locs hW hS => ?_)
      refine lv_i2l hx hb dX4_fine_30 rfl ?_
      refine lv_lstore (lv' := [(4, .long ((x6).toInt64)), (0, .ref a0), (1, .int b1), (2, .long b2)]) hx hb dX4_fine_31 hl (by decide) rfl (fun ls hl => ?_)
      refine lv_lload hx hb dX4_fine_33 (lv_at hl 0 rfl) ?_
      refine lv_lload hx hb dX4_fine_35 (lv_at hl 0 rfl) ?_
      refine lv_lmul hx hb dX4_fine_37 ?_
      refine lv_lstore (lv' := [(6, .long ((x6).toInt64 * (x6).toInt64)), (4, .long ((x6).toInt64)), (0, .ref a0), (1, .int b1), (2, .long b2)]) hx hb dX4_fine_38 hl (by decide) rfl (fun ls hl => ?_)
      refine lv_lload hx hb dX4_fine_40 (lv_at hl 0 rfl) ?_
      refine lv_lconst (v := (0 : Int64)) hx hb dX4_fine_42 (by decide) ?_
      refine W.lcmp hx hb dX4_fine_43 ?_
      refine lv_if_le (tgt := 64) hx hb dX4_fine_44 (by decide) (fun q7 => ?_) (fun q7 => ?_)
      · replace hcf := (if_pos q7).symm.trans hcf
        refine lv_lload_n hx hb dX4_fine_64 rfl (lv_at hl 4 rfl) ?_
        refine lv_lload hx hb dX4_fine_65 (lv_at hl 0 rfl) ?_
        refine lv_lmul hx hb dX4_fine_67 ?_
        have hcf := Option.some.inj hcf; subst hcf
        exact wk_lret hx hb hr hlocks hW hS dX4_fine_68
      · replace hcf := (if_neg q7).symm.trans hcf
        refine lv_lload_n hx hb dX4_fine_47 rfl (lv_at hl 4 rfl) ?_
        refine lv_ldc2 hx hb hown (hts _ q885) dX4_fine_48 ?_
        refine lv_lload hx hb dX4_fine_51 (lv_at hl 0 rfl) ?_
        obtain ⟨q8, hcf⟩ := og hcf
        refine lv_ldiv hx hb dX4_fine_53 q8 ?_
        refine W.lcmp hx hb dX4_fine_54 ?_
        refine lv_if_le (tgt := 64) hx hb dX4_fine_55 (by decide) (fun q9 => ?_) (fun q9 => ?_)
        · replace hcf := (if_pos q9).symm.trans hcf
          refine lv_lload_n hx hb dX4_fine_64 rfl (lv_at hl 4 rfl) ?_
          refine lv_lload hx hb dX4_fine_65 (lv_at hl 0 rfl) ?_
          refine lv_lmul hx hb dX4_fine_67 ?_
          have hcf := Option.some.inj hcf; subst hcf
          exact wk_lret hx hb hr hlocks hW hS dX4_fine_68
        · replace hcf := (if_neg q9).symm.trans hcf
          refine lv_ldc2 hx hb hown (hts _ q886) dX4_fine_58 ?_
          refine lv_goto (tgt := 68) hx hb dX4_fine_61 (by decide) ?_
          have hcf := Option.some.inj hcf; subst hcf
          exact wk_lret hx hb hr hlocks hW hS dX4_fine_68
    · replace hcf := (if_pos q5).symm.trans hcf
      refine lv_ldc2 hx hb hown (hts _ q884) dX4_fine_19 ?_
      have hcf := Option.some.inj hcf; subst hcf
      exact wk_lret hx hb hr hlocks hW hS dX4_fine_22
set_option maxHeartbeats 4000000 in
set_option maxRecDepth 100000 in
theorem wl_X4_shareBits_36 {p : Program} {l : Launch} {e : Env} {s : State} {m : MethodId} {args : Array Value} {below : List Frame} {meth : Method} {c : Code} {D : va_G} {cy : Nat → ClassId} {z : Nat} {n : Nat}  {Y : mY} {V : mV} {G : mG} (hx : p.tables.exec = Jvm.exec) (hb : c.code = cX4_shareBits) (hr : meth.sig.returnType = (some .int)) (hml : c.maxLocals = 12) (hown : s.vm.findClass RX4 = some m.cls) (hts : ∀ w ∈ lw_all, w.before args s = true) (hlocks : meth.locks = false) (hE : En D cy s) (x : Int32) : ∀ (k : Nat) (j0 : Int32) (j1 : Int32) (j2 : Int64) (j4 : Int64) (j6 : Int32) (H : Heap) (locs : List Loc) (ls : Array Slot), lp_X4_shareBits_36 k j0 j1 j2 j4 j6 = some x → Wd Y cy D z n V G H → va_S (zA z) s.heap H locs → lv_has ls 12 [(0, .int j0), (1, .int j1), (2, .long j2), (4, .long j4), (6, .int j6)] → W p l e (rmd 0) s m args below meth c H locs 0 0 (MQ below (QC D cy z Y n V G (some (.int x))) args s 0 0 (zA z)) (F0 m 36 ls []) := by
  intro k
  induction k with
  | zero =>
    intro j0 j1 j2 j4 j6 H locs ls hcf
    have hcf : none = some _ := hcf
    cases hcf
  | succ k ih =>
    intro j0 j1 j2 j4 j6 H locs ls hcf hW hS hl
    rw [lp_X4_shareBits_36] at hcf
    refine lv_lload_n hx hb dX4_shareBits_36 rfl (lv_at hl 2 rfl) ?_
    refine lv_lload hx hb dX4_shareBits_37 (lv_at hl 3 rfl) ?_
    refine W.lcmp hx hb dX4_shareBits_39 ?_
    refine lv_if_ge (tgt := 55) hx hb dX4_shareBits_40 (by decide) (fun q2 => ?_) (fun q2 => ?_)
    · replace hcf := (if_pos q2).symm.trans hcf
      refine lv_lload_n hx hb dX4_shareBits_55 rfl (lv_at hl 2 rfl) ?_
      refine lv_ldc2 hx hb hown (hts _ q894) dX4_shareBits_56 ?_
      refine lv_lmul hx hb dX4_shareBits_59 ?_
      refine lv_lload hx hb dX4_shareBits_60 (lv_at hl 3 rfl) ?_
      obtain ⟨q3, hcf⟩ := og hcf
      refine lv_ldiv hx hb dX4_shareBits_62 q3 ?_
      refine lv_lstore (lv' := [(7, .long ((j2 * (8388608 : Int64)) / j4)), (0, .int j0), (1, .int j1), (2, .long j2), (4, .long j4), (6, .int j6)]) hx hb dX4_shareBits_63 hl (by decide) rfl (fun ls hl => ?_)
      refine lv_lload_n hx hb dX4_shareBits_65 rfl (lv_at hl 3 rfl) ?_
      refine lv_ldc2 hx hb hown (hts _ q894) dX4_shareBits_66 ?_
      refine lv_lmul hx hb dX4_shareBits_69 ?_
      refine lv_lload hx hb dX4_shareBits_70 (lv_at hl 4 rfl) ?_
      obtain ⟨q4, hcf⟩ := og hcf
      refine lv_lrem hx hb dX4_shareBits_72 q4 ?_
      refine lv_lstore (lv' := [(9, .long ((j2 * (8388608 : Int64)) - (j2 * (8388608 : Int64)) / j4 * j4)), (7, .long ((j2 * (8388608 : Int64)) / j4)), (0, .int j0), (1, .int j1), (2, .long j2), (4, .long j4), (6, .int j6)]) hx hb dX4_shareBits_73 hl (by decide) rfl (fun ls hl => ?_)
      refine lv_ldc2 hx hb hown (hts _ q659) dX4_shareBits_75 ?_
      refine lv_lload hx hb dX4_shareBits_78 (lv_at hl 0 rfl) ?_
      refine lv_lmul hx hb dX4_shareBits_80 ?_
      refine lv_lload hx hb dX4_shareBits_81 (lv_at hl 5 rfl) ?_
      refine W.lcmp hx hb dX4_shareBits_83 ?_
      refine lv_if_gt (tgt := 110) hx hb dX4_shareBits_84 (by decide) (fun q5 => ?_) (fun q5 => ?_)
      · replace hcf := (if_pos q5).symm.trans hcf
        refine lv_iconst (v := (1 : Int32)) hx hb dX4_shareBits_110 (by decide) ?_
        refine lv_goto (tgt := 115) hx hb dX4_shareBits_111 (by decide) ?_
        refine lv_istore (lv' := [(11, .int (1 : Int32)), (9, .long ((j2 * (8388608 : Int64)) - (j2 * (8388608 : Int64)) / j4 * j4)), (7, .long ((j2 * (8388608 : Int64)) / j4)), (0, .int j0), (1, .int j1), (2, .long j2), (4, .long j4), (6, .int j6)]) hx hb dX4_shareBits_115 hl (by decide) rfl (fun ls hl => ?_)
        refine lv_lload hx hb dX4_shareBits_117 (lv_at hl 2 rfl) ?_
        refine lv_iload hx hb dX4_shareBits_119 (lv_at hl 0 rfl) ?_
        refine lv_if_eq (tgt := 128) hx hb dX4_shareBits_121 (by decide) (fun q6 => ?_) (fun q6 => ?_)
        · replace hcf := (if_pos q6).symm.trans hcf
          refine lv_lconst (v := (0 : Int64)) hx hb dX4_shareBits_128 (by decide) ?_
          refine lv_ladd hx hb dX4_shareBits_129 ?_
          refine lv_lstore (lv' := [(7, .long (((j2 * (8388608 : Int64)) / j4) + (0 : Int64))), (11, .int (1 : Int32)), (9, .long ((j2 * (8388608 : Int64)) - (j2 * (8388608 : Int64)) / j4 * j4)), (0, .int j0), (1, .int j1), (2, .long j2), (4, .long j4), (6, .int j6)]) hx hb dX4_shareBits_130 hl (by decide) rfl (fun ls hl => ?_)
          refine lv_lload hx hb dX4_shareBits_132 (lv_at hl 0 rfl) ?_
          refine lv_ldc2 hx hb hown (hts _ q895) dX4_shareBits_134 ?_
          refine W.lcmp hx hb dX4_shareBits_137 ?_
          refine lv_if_ne (tgt := 149) hx hb dX4_shareBits_138 (by decide) (fun q7 => ?_) (fun q7 => ?_)
          · replace hcf := (if_neg q7).symm.trans hcf
            refine lv_iload hx hb dX4_shareBits_149 (lv_at hl 7 rfl) ?_
            refine lv_i2l hx hb dX4_shareBits_151 rfl ?_
            refine lv_ldc2 hx hb hown (hts _ q894) dX4_shareBits_152 ?_
            refine lv_lmul hx hb dX4_shareBits_155 ?_
            refine lv_lload hx hb dX4_shareBits_156 (lv_at hl 0 rfl) ?_
            refine lv_ladd hx hb dX4_shareBits_158 ?_
            refine lv_ldc2 hx hb hown (hts _ q894) dX4_shareBits_159 ?_
            refine lv_lsub hx hb dX4_shareBits_162 ?_
            refine lv_l2i hx hb dX4_shareBits_163 rfl ?_
            have hcf := Option.some.inj hcf; subst hcf
            exact wk_iret hx hb hr hlocks hW hS dX4_shareBits_164
          · replace hcf := (if_pos q7).symm.trans hcf
            refine lv_ldc2 hx hb hown (hts _ q894) dX4_shareBits_141 ?_
            refine lv_lstore (lv' := [(7, .long (8388608 : Int64)), (11, .int (1 : Int32)), (9, .long ((j2 * (8388608 : Int64)) - (j2 * (8388608 : Int64)) / j4 * j4)), (0, .int j0), (1, .int j1), (2, .long j2), (4, .long j4), (6, .int j6)]) hx hb dX4_shareBits_144 hl (by decide) rfl (fun ls hl => ?_)
            refine lv_iinc (v := (j6 + 1)) (lv' := [(6, .int (j6 + 1)), (7, .long (8388608 : Int64)), (11, .int (1 : Int32)), (9, .long ((j2 * (8388608 : Int64)) - (j2 * (8388608 : Int64)) / j4 * j4)), (0, .int j0), (1, .int j1), (2, .long j2), (4, .long j4)]) hx hb dX4_shareBits_146 hl (k := 7) rfl rfl (by decide) rfl (fun ls hl => ?_)
            refine lv_iload hx hb dX4_shareBits_149 (lv_at hl 0 rfl) ?_
            refine lv_i2l hx hb dX4_shareBits_151 rfl ?_
            refine lv_ldc2 hx hb hown (hts _ q894) dX4_shareBits_152 ?_
            refine lv_lmul hx hb dX4_shareBits_155 ?_
            refine lv_lload hx hb dX4_shareBits_156 (lv_at hl 1 rfl) ?_
            refine lv_ladd hx hb dX4_shareBits_158 ?_
            refine lv_ldc2 hx hb hown (hts _ q894) dX4_shareBits_159 ?_
            refine lv_lsub hx hb dX4_shareBits_162 ?_
            refine lv_l2i hx hb dX4_shareBits_163 rfl ?_
            have hcf := Option.some.inj hcf; subst hcf
            exact wk_iret hx hb hr hlocks hW hS dX4_shareBits_164
        · replace hcf := (if_neg q6).symm.trans hcf
          refine lv_lconst (v := (1 : Int64)) hx hb dX4_shareBits_124 (by decide) ?_
          refine lv_goto (tgt := 129) hx hb dX4_shareBits_125 (by decide) ?_
          refine lv_ladd hx hb dX4_shareBits_129 ?_
          refine lv_lstore (lv' := [(7, .long (((j2 * (8388608 : Int64)) / j4) + (1 : Int64))), (11, .int (1 : Int32)), (9, .long ((j2 * (8388608 : Int64)) - (j2 * (8388608 : Int64)) / j4 * j4)), (0, .int j0), (1, .int j1), (2, .long j2), (4, .long j4), (6, .int j6)]) hx hb dX4_shareBits_130 hl (by decide) rfl (fun ls hl => ?_)
          refine lv_lload hx hb dX4_shareBits_132 (lv_at hl 0 rfl) ?_
          refine lv_ldc2 hx hb hown (hts _ q895) dX4_shareBits_134 ?_
          refine W.lcmp hx hb dX4_shareBits_137 ?_
          refine lv_if_ne (tgt := 149) hx hb dX4_shareBits_138 (by decide) (fun q8 => ?_) (fun q8 => ?_)
          · replace hcf := (if_neg q8).symm.trans hcf
            refine lv_iload hx hb dX4_shareBits_149 (lv_at hl 7 rfl) ?_
            refine lv_i2l hx hb dX4_shareBits_151 rfl ?_
            refine lv_ldc2 hx hb hown (hts _ q894) dX4_shareBits_152 ?_
            refine lv_lmul hx hb dX4_shareBits_155 ?_
            refine lv_lload hx hb dX4_shareBits_156 (lv_at hl 0 rfl) ?_
            refine lv_ladd hx hb dX4_shareBits_158 ?_
            refine lv_ldc2 hx hb hown (hts _ q894) dX4_shareBits_159 ?_
            refine lv_lsub hx hb dX4_shareBits_162 ?_
            refine lv_l2i hx hb dX4_shareBits_163 rfl ?_
            have hcf := Option.some.inj hcf; subst hcf
            exact wk_iret hx hb hr hlocks hW hS dX4_shareBits_164
          · replace hcf := (if_pos q8).symm.trans hcf
            refine lv_ldc2 hx hb hown (hts _ q894) dX4_shareBits_141 ?_
            refine lv_lstore (lv' := [(7, .long (8388608 : Int64)), (11, .int (1 : Int32)), (9, .long ((j2 * (8388608 : Int64)) - (j2 * (8388608 : Int64)) / j4 * j4)), (0, .int j0), (1, .int j1), (2, .long j2), (4, .long j4), (6, .int j6)]) hx hb dX4_shareBits_144 hl (by decide) rfl (fun ls hl => ?_)
            refine lv_iinc (v := (j6 + 1)) (lv' := [(6, .int (j6 + 1)), (7, .long (8388608 : Int64)), (11, .int (1 : Int32)), (9, .long ((j2 * (8388608 : Int64)) - (j2 * (8388608 : Int64)) / j4 * j4)), (0, .int j0), (1, .int j1), (2, .long j2), (4, .long j4)]) hx hb dX4_shareBits_146 hl (k := 7) rfl rfl (by decide) rfl (fun ls hl => ?_)
            refine lv_iload hx hb dX4_shareBits_149 (lv_at hl 0 rfl) ?_
            refine lv_i2l hx hb dX4_shareBits_151 rfl ?_
            refine lv_ldc2 hx hb hown (hts _ q894) dX4_shareBits_152 ?_
            refine lv_lmul hx hb dX4_shareBits_155 ?_
            refine lv_lload hx hb dX4_shareBits_156 (lv_at hl 1 rfl) ?_
            refine lv_ladd hx hb dX4_shareBits_158 ?_
            refine lv_ldc2 hx hb hown (hts _ q894) dX4_shareBits_159 ?_
            refine lv_lsub hx hb dX4_shareBits_162 ?_
            refine lv_l2i hx hb dX4_shareBits_163 rfl ?_
            have hcf := Option.some.inj hcf; subst hcf
            exact wk_iret hx hb hr hlocks hW hS dX4_shareBits_164
      · replace hcf := (if_neg q5).symm.trans hcf
        refine lv_ldc2 hx hb hown (hts _ q659) dX4_shareBits_87 ?_
        refine lv_lload hx hb dX4_shareBits_90 (lv_at hl 0 rfl) ?_
        refine lv_lmul hx hb dX4_shareBits_92 ?_
        refine lv_lload hx hb dX4_shareBits_93 (lv_at hl 5 rfl) ?_
        refine W.lcmp hx hb dX4_shareBits_95 ?_
        refine lv_if_ne (tgt := 114) hx hb dX4_shareBits_96 (by decide) (fun q9 => ?_) (fun q9 => ?_)
        · replace hcf := (if_neg q9).symm.trans hcf
          refine lv_iconst (v := (0 : Int32)) hx hb dX4_shareBits_114 (by decide) ?_
          refine lv_istore (lv' := [(11, .int (0 : Int32)), (9, .long ((j2 * (8388608 : Int64)) - (j2 * (8388608 : Int64)) / j4 * j4)), (7, .long ((j2 * (8388608 : Int64)) / j4)), (0, .int j0), (1, .int j1), (2, .long j2), (4, .long j4), (6, .int j6)]) hx hb dX4_shareBits_115 hl (by decide) rfl (fun ls hl => ?_)
          refine lv_lload hx hb dX4_shareBits_117 (lv_at hl 2 rfl) ?_
          refine lv_iload hx hb dX4_shareBits_119 (lv_at hl 0 rfl) ?_
          refine lv_if_eq (tgt := 128) hx hb dX4_shareBits_121 (by decide) (fun q10 => ?_) (fun q10 => ?_)
          · replace hcf := (if_pos q10).symm.trans hcf
            refine lv_lconst (v := (0 : Int64)) hx hb dX4_shareBits_128 (by decide) ?_
            refine lv_ladd hx hb dX4_shareBits_129 ?_
            refine lv_lstore (lv' := [(7, .long (((j2 * (8388608 : Int64)) / j4) + (0 : Int64))), (11, .int (0 : Int32)), (9, .long ((j2 * (8388608 : Int64)) - (j2 * (8388608 : Int64)) / j4 * j4)), (0, .int j0), (1, .int j1), (2, .long j2), (4, .long j4), (6, .int j6)]) hx hb dX4_shareBits_130 hl (by decide) rfl (fun ls hl => ?_)
            refine lv_lload hx hb dX4_shareBits_132 (lv_at hl 0 rfl) ?_
            refine lv_ldc2 hx hb hown (hts _ q895) dX4_shareBits_134 ?_
            refine W.lcmp hx hb dX4_shareBits_137 ?_
            refine lv_if_ne (tgt := 149) hx hb dX4_shareBits_138 (by decide) (fun q11 => ?_) (fun q11 => ?_)
            · replace hcf := (if_neg q11).symm.trans hcf
              refine lv_iload hx hb dX4_shareBits_149 (lv_at hl 7 rfl) ?_
              refine lv_i2l hx hb dX4_shareBits_151 rfl ?_
              refine lv_ldc2 hx hb hown (hts _ q894) dX4_shareBits_152 ?_
              refine lv_lmul hx hb dX4_shareBits_155 ?_
              refine lv_lload hx hb dX4_shareBits_156 (lv_at hl 0 rfl) ?_
              refine lv_ladd hx hb dX4_shareBits_158 ?_
              refine lv_ldc2 hx hb hown (hts _ q894) dX4_shareBits_159 ?_
              refine lv_lsub hx hb dX4_shareBits_162 ?_
              refine lv_l2i hx hb dX4_shareBits_163 rfl ?_
              have hcf := Option.some.inj hcf; subst hcf
              exact wk_iret hx hb hr hlocks hW hS dX4_shareBits_164
            · replace hcf := (if_pos q11).symm.trans hcf
              refine lv_ldc2 hx hb hown (hts _ q894) dX4_shareBits_141 ?_
              refine lv_lstore (lv' := [(7, .long (8388608 : Int64)), (11, .int (0 : Int32)), (9, .long ((j2 * (8388608 : Int64)) - (j2 * (8388608 : Int64)) / j4 * j4)), (0, .int j0), (1, .int j1), (2, .long j2), (4, .long j4), (6, .int j6)]) hx hb dX4_shareBits_144 hl (by decide) rfl (fun ls hl => ?_)
              refine lv_iinc (v := (j6 + 1)) (lv' := [(6, .int (j6 + 1)), (7, .long (8388608 : Int64)), (11, .int (0 : Int32)), (9, .long ((j2 * (8388608 : Int64)) - (j2 * (8388608 : Int64)) / j4 * j4)), (0, .int j0), (1, .int j1), (2, .long j2), (4, .long j4)]) hx hb dX4_shareBits_146 hl (k := 7) rfl rfl (by decide) rfl (fun ls hl => ?_)
              refine lv_iload hx hb dX4_shareBits_149 (lv_at hl 0 rfl) ?_
              refine lv_i2l hx hb dX4_shareBits_151 rfl ?_
              refine lv_ldc2 hx hb hown (hts _ q894) dX4_shareBits_152 ?_
              refine lv_lmul hx hb dX4_shareBits_155 ?_
              refine lv_lload hx hb dX4_shareBits_156 (lv_at hl 1 rfl) ?_
              refine lv_ladd hx hb dX4_shareBits_158 ?_
              refine lv_ldc2 hx hb hown (hts _ q894) dX4_shareBits_159 ?_
              refine lv_lsub hx hb dX4_shareBits_162 ?_
              refine lv_l2i hx hb dX4_shareBits_163 rfl ?_
              have hcf := Option.some.inj hcf; subst hcf
              exact wk_iret hx hb hr hlocks hW hS dX4_shareBits_164
          · replace hcf := (if_neg q10).symm.trans hcf
            refine lv_lconst (v := (1 : Int64)) hx hb dX4_shareBits_124 (by decide) ?_
            refine lv_goto (tgt := 129) hx hb dX4_shareBits_125 (by decide) ?_
            refine lv_ladd hx hb dX4_shareBits_129 ?_
            refine lv_lstore (lv' := [(7, .long (((j2 * (8388608 : Int64)) / j4) + (1 : Int64))), (11, .int (0 : Int32)), (9, .long ((j2 * (8388608 : Int64)) - (j2 * (8388608 : Int64)) / j4 * j4)), (0, .int j0), (1, .int j1), (2, .long j2), (4, .long j4), (6, .int j6)]) hx hb dX4_shareBits_130 hl (by decide) rfl (fun ls hl => ?_)
            refine lv_lload hx hb dX4_shareBits_132 (lv_at hl 0 rfl) ?_
            refine lv_ldc2 hx hb hown (hts _ q895) dX4_shareBits_134 ?_
            refine W.lcmp hx hb dX4_shareBits_137 ?_
            refine lv_if_ne (tgt := 149) hx hb dX4_shareBits_138 (by decide) (fun q12 => ?_) (fun q12 => ?_)
            · replace hcf := (if_neg q12).symm.trans hcf
              refine lv_iload hx hb dX4_shareBits_149 (lv_at hl 7 rfl) ?_
              refine lv_i2l hx hb dX4_shareBits_151 rfl ?_
              refine lv_ldc2 hx hb hown (hts _ q894) dX4_shareBits_152 ?_
              refine lv_lmul hx hb dX4_shareBits_155 ?_
              refine lv_lload hx hb dX4_shareBits_156 (lv_at hl 0 rfl) ?_
              refine lv_ladd hx hb dX4_shareBits_158 ?_
              refine lv_ldc2 hx hb hown (hts _ q894) dX4_shareBits_159 ?_
              refine lv_lsub hx hb dX4_shareBits_162 ?_
              refine lv_l2i hx hb dX4_shareBits_163 rfl ?_
              have hcf := Option.some.inj hcf; subst hcf
              exact wk_iret hx hb hr hlocks hW hS dX4_shareBits_164
            · replace hcf := (if_pos q12).symm.trans hcf
              refine lv_ldc2 hx hb hown (hts _ q894) dX4_shareBits_141 ?_
              refine lv_lstore (lv' := [(7, .long (8388608 : Int64)), (11, .int (0 : Int32)), (9, .long ((j2 * (8388608 : Int64)) - (j2 * (8388608 : Int64)) / j4 * j4)), (0, .int j0), (1, .int j1), (2, .long j2), (4, .long j4), (6, .int j6)]) hx hb dX4_shareBits_144 hl (by decide) rfl (fun ls hl => ?_)
              refine lv_iinc (v := (j6 + 1)) (lv' := [(6, .int (j6 + 1)), (7, .long (8388608 : Int64)), (11, .int (0 : Int32)), (9, .long ((j2 * (8388608 : Int64)) - (j2 * (8388608 : Int64)) / j4 * j4)), (0, .int j0), (1, .int j1), (2, .long j2), (4, .long j4)]) hx hb dX4_shareBits_146 hl (k := 7) rfl rfl (by decide) rfl (fun ls hl => ?_)
              refine lv_iload hx hb dX4_shareBits_149 (lv_at hl 0 rfl) ?_
              refine lv_i2l hx hb dX4_shareBits_151 rfl ?_
              refine lv_ldc2 hx hb hown (hts _ q894) dX4_shareBits_152 ?_
              refine lv_lmul hx hb dX4_shareBits_155 ?_
              refine lv_lload hx hb dX4_shareBits_156 (lv_at hl 1 rfl) ?_
              refine lv_ladd hx hb dX4_shareBits_158 ?_
              refine lv_ldc2 hx hb hown (hts _ q894) dX4_shareBits_159 ?_
              refine lv_lsub hx hb dX4_shareBits_162 ?_
              refine lv_l2i hx hb dX4_shareBits_163 rfl ?_
              have hcf := Option.some.inj hcf; subst hcf
              exact wk_iret hx hb hr hlocks hW hS dX4_shareBits_164
        · replace hcf := (if_pos q9).symm.trans hcf
          refine lv_lload hx hb dX4_shareBits_99 (lv_at hl 1 rfl) ?_
          refine lv_ldc2 hx hb hown (hts _ q659) dX4_shareBits_101 ?_
          obtain ⟨q13, hcf⟩ := og hcf
          refine lv_lrem hx hb dX4_shareBits_104 q13 ?_
          refine lv_lconst (v := (1 : Int64)) hx hb dX4_shareBits_105 (by decide) ?_
          refine W.lcmp hx hb dX4_shareBits_106 ?_
          refine lv_if_ne (tgt := 114) hx hb dX4_shareBits_107 (by decide) (fun q14 => ?_) (fun q14 => ?_)
          · replace hcf := (if_neg q14).symm.trans hcf
            refine lv_iconst (v := (0 : Int32)) hx hb dX4_shareBits_114 (by decide) ?_
            refine lv_istore (lv' := [(11, .int (0 : Int32)), (9, .long ((j2 * (8388608 : Int64)) - (j2 * (8388608 : Int64)) / j4 * j4)), (7, .long ((j2 * (8388608 : Int64)) / j4)), (0, .int j0), (1, .int j1), (2, .long j2), (4, .long j4), (6, .int j6)]) hx hb dX4_shareBits_115 hl (by decide) rfl (fun ls hl => ?_)
            refine lv_lload hx hb dX4_shareBits_117 (lv_at hl 2 rfl) ?_
            refine lv_iload hx hb dX4_shareBits_119 (lv_at hl 0 rfl) ?_
            refine lv_if_eq (tgt := 128) hx hb dX4_shareBits_121 (by decide) (fun q15 => ?_) (fun q15 => ?_)
            · replace hcf := (if_pos q15).symm.trans hcf
              refine lv_lconst (v := (0 : Int64)) hx hb dX4_shareBits_128 (by decide) ?_
              refine lv_ladd hx hb dX4_shareBits_129 ?_
              refine lv_lstore (lv' := [(7, .long (((j2 * (8388608 : Int64)) / j4) + (0 : Int64))), (11, .int (0 : Int32)), (9, .long ((j2 * (8388608 : Int64)) - (j2 * (8388608 : Int64)) / j4 * j4)), (0, .int j0), (1, .int j1), (2, .long j2), (4, .long j4), (6, .int j6)]) hx hb dX4_shareBits_130 hl (by decide) rfl (fun ls hl => ?_)
              refine lv_lload hx hb dX4_shareBits_132 (lv_at hl 0 rfl) ?_
              refine lv_ldc2 hx hb hown (hts _ q895) dX4_shareBits_134 ?_
              refine W.lcmp hx hb dX4_shareBits_137 ?_
              refine lv_if_ne (tgt := 149) hx hb dX4_shareBits_138 (by decide) (fun q16 => ?_) (fun q16 => ?_)
              · replace hcf := (if_neg q16).symm.trans hcf
                refine lv_iload hx hb dX4_shareBits_149 (lv_at hl 7 rfl) ?_
                refine lv_i2l hx hb dX4_shareBits_151 rfl ?_
                refine lv_ldc2 hx hb hown (hts _ q894) dX4_shareBits_152 ?_
                refine lv_lmul hx hb dX4_shareBits_155 ?_
                refine lv_lload hx hb dX4_shareBits_156 (lv_at hl 0 rfl) ?_
                refine lv_ladd hx hb dX4_shareBits_158 ?_
                refine lv_ldc2 hx hb hown (hts _ q894) dX4_shareBits_159 ?_
                refine lv_lsub hx hb dX4_shareBits_162 ?_
                refine lv_l2i hx hb dX4_shareBits_163 rfl ?_
                have hcf := Option.some.inj hcf; subst hcf
                exact wk_iret hx hb hr hlocks hW hS dX4_shareBits_164
              · replace hcf := (if_pos q16).symm.trans hcf
                refine lv_ldc2 hx hb hown (hts _ q894) dX4_shareBits_141 ?_
                refine lv_lstore (lv' := [(7, .long (8388608 : Int64)), (11, .int (0 : Int32)), (9, .long ((j2 * (8388608 : Int64)) - (j2 * (8388608 : Int64)) / j4 * j4)), (0, .int j0), (1, .int j1), (2, .long j2), (4, .long j4), (6, .int j6)]) hx hb dX4_shareBits_144 hl (by decide) rfl (fun ls hl => ?_)
                refine lv_iinc (v := (j6 + 1)) (lv' := [(6, .int (j6 + 1)), (7, .long (8388608 : Int64)), (11, .int (0 : Int32)), (9, .long ((j2 * (8388608 : Int64)) - (j2 * (8388608 : Int64)) / j4 * j4)), (0, .int j0), (1, .int j1), (2, .long j2), (4, .long j4)]) hx hb dX4_shareBits_146 hl (k := 7) rfl rfl (by decide) rfl (fun ls hl => ?_)
                refine lv_iload hx hb dX4_shareBits_149 (lv_at hl 0 rfl) ?_
                refine lv_i2l hx hb dX4_shareBits_151 rfl ?_
                refine lv_ldc2 hx hb hown (hts _ q894) dX4_shareBits_152 ?_
                refine lv_lmul hx hb dX4_shareBits_155 ?_
                refine lv_lload hx hb dX4_shareBits_156 (lv_at hl 1 rfl) ?_
                refine lv_ladd hx hb dX4_shareBits_158 ?_
                refine lv_ldc2 hx hb hown (hts _ q894) dX4_shareBits_159 ?_
                refine lv_lsub hx hb dX4_shareBits_162 ?_
                refine lv_l2i hx hb dX4_shareBits_163 rfl ?_
                have hcf := Option.some.inj hcf; subst hcf
                exact wk_iret hx hb hr hlocks hW hS dX4_shareBits_164
            · replace hcf := (if_neg q15).symm.trans hcf
              refine lv_lconst (v := (1 : Int64)) hx hb dX4_shareBits_124 (by decide) ?_
              refine lv_goto (tgt := 129) hx hb dX4_shareBits_125 (by decide) ?_
              refine lv_ladd hx hb dX4_shareBits_129 ?_
              refine lv_lstore (lv' := [(7, .long (((j2 * (8388608 : Int64)) / j4) + (1 : Int64))), (11, .int (0 : Int32)), (9, .long ((j2 * (8388608 : Int64)) - (j2 * (8388608 : Int64)) / j4 * j4)), (0, .int j0), (1, .int j1), (2, .long j2), (4, .long j4), (6, .int j6)]) hx hb dX4_shareBits_130 hl (by decide) rfl (fun ls hl => ?_)
              refine lv_lload hx hb dX4_shareBits_132 (lv_at hl 0 rfl) ?_
              refine lv_ldc2 hx hb hown (hts _ q895) dX4_shareBits_134 ?_
              refine W.lcmp hx hb dX4_shareBits_137 ?_
              refine lv_if_ne (tgt := 149) hx hb dX4_shareBits_138 (by decide) (fun q17 => ?_) (fun q17 => ?_)
              · replace hcf := (if_neg q17).symm.trans hcf
                refine lv_iload hx hb dX4_shareBits_149 (lv_at hl 7 rfl) ?_
                refine lv_i2l hx hb dX4_shareBits_151 rfl ?_
                refine lv_ldc2 hx hb hown (hts _ q894) dX4_shareBits_152 ?_
                refine lv_lmul hx hb dX4_shareBits_155 ?_
                refine lv_lload hx hb dX4_shareBits_156 (lv_at hl 0 rfl) ?_
                refine lv_ladd hx hb dX4_shareBits_158 ?_
                refine lv_ldc2 hx hb hown (hts _ q894) dX4_shareBits_159 ?_
                refine lv_lsub hx hb dX4_shareBits_162 ?_
                refine lv_l2i hx hb dX4_shareBits_163 rfl ?_
                have hcf := Option.some.inj hcf; subst hcf
                exact wk_iret hx hb hr hlocks hW hS dX4_shareBits_164
              · replace hcf := (if_pos q17).symm.trans hcf
                refine lv_ldc2 hx hb hown (hts _ q894) dX4_shareBits_141 ?_
                refine lv_lstore (lv' := [(7, .long (8388608 : Int64)), (11, .int (0 : Int32)), (9, .long ((j2 * (8388608 : Int64)) - (j2 * (8388608 : Int64)) / j4 * j4)), (0, .int j0), (1, .int j1), (2, .long j2), (4, .long j4), (6, .int j6)]) hx hb dX4_shareBits_144 hl (by decide) rfl (fun ls hl => ?_)
                refine lv_iinc (v := (j6 + 1)) (lv' := [(6, .int (j6 + 1)), (7, .long (8388608 : Int64)), (11, .int (0 : Int32)), (9, .long ((j2 * (8388608 : Int64)) - (j2 * (8388608 : Int64)) / j4 * j4)), (0, .int j0), (1, .int j1), (2, .long j2), (4, .long j4)]) hx hb dX4_shareBits_146 hl (k := 7) rfl rfl (by decide) rfl (fun ls hl => ?_)
                refine lv_iload hx hb dX4_shareBits_149 (lv_at hl 0 rfl) ?_
                refine lv_i2l hx hb dX4_shareBits_151 rfl ?_
                refine lv_ldc2 hx hb hown (hts _ q894) dX4_shareBits_152 ?_
                refine lv_lmul hx hb dX4_shareBits_155 ?_
                refine lv_lload hx hb dX4_shareBits_156 (lv_at hl 1 rfl) ?_
                refine lv_ladd hx hb dX4_shareBits_158 ?_
                refine lv_ldc2 hx hb hown (hts _ q894) dX4_shareBits_159 ?_
                refine lv_lsub hx hb dX4_shareBits_162 ?_
                refine lv_l2i hx hb dX4_shareBits_163 rfl ?_
                have hcf := Option.some.inj hcf; subst hcf
                exact wk_iret hx hb hr hlocks hW hS dX4_shareBits_164
          · replace hcf := (if_pos q14).symm.trans hcf
            refine lv_iconst (v := (1 : Int32)) hx hb dX4_shareBits_110 (by decide) ?_
            refine lv_goto (tgt := 115) hx hb dX4_shareBits_111 (by decide) ?_
            refine lv_istore (lv' := [(11, .int (1 : Int32)), (9, .long ((j2 * (8388608 : Int64)) - (j2 * (8388608 : Int64)) / j4 * j4)), (7, .long ((j2 * (8388608 : Int64)) / j4)), (0, .int j0), (1, .int j1), (2, .long j2), (4, .long j4), (6, .int j6)]) hx hb dX4_shareBits_115 hl (by decide) rfl (fun ls hl => ?_)
            refine lv_lload hx hb dX4_shareBits_117 (lv_at hl 2 rfl) ?_
            refine lv_iload hx hb dX4_shareBits_119 (lv_at hl 0 rfl) ?_
            refine lv_if_eq (tgt := 128) hx hb dX4_shareBits_121 (by decide) (fun q18 => ?_) (fun q18 => ?_)
            · replace hcf := (if_pos q18).symm.trans hcf
              refine lv_lconst (v := (0 : Int64)) hx hb dX4_shareBits_128 (by decide) ?_
              refine lv_ladd hx hb dX4_shareBits_129 ?_
              refine lv_lstore (lv' := [(7, .long (((j2 * (8388608 : Int64)) / j4) + (0 : Int64))), (11, .int (1 : Int32)), (9, .long ((j2 * (8388608 : Int64)) - (j2 * (8388608 : Int64)) / j4 * j4)), (0, .int j0), (1, .int j1), (2, .long j2), (4, .long j4), (6, .int j6)]) hx hb dX4_shareBits_130 hl (by decide) rfl (fun ls hl => ?_)
              refine lv_lload hx hb dX4_shareBits_132 (lv_at hl 0 rfl) ?_
              refine lv_ldc2 hx hb hown (hts _ q895) dX4_shareBits_134 ?_
              refine W.lcmp hx hb dX4_shareBits_137 ?_
              refine lv_if_ne (tgt := 149) hx hb dX4_shareBits_138 (by decide) (fun q19 => ?_) (fun q19 => ?_)
              · replace hcf := (if_neg q19).symm.trans hcf
                refine lv_iload hx hb dX4_shareBits_149 (lv_at hl 7 rfl) ?_
                refine lv_i2l hx hb dX4_shareBits_151 rfl ?_
                refine lv_ldc2 hx hb hown (hts _ q894) dX4_shareBits_152 ?_
                refine lv_lmul hx hb dX4_shareBits_155 ?_
                refine lv_lload hx hb dX4_shareBits_156 (lv_at hl 0 rfl) ?_
                refine lv_ladd hx hb dX4_shareBits_158 ?_
                refine lv_ldc2 hx hb hown (hts _ q894) dX4_shareBits_159 ?_
                refine lv_lsub hx hb dX4_shareBits_162 ?_
                refine lv_l2i hx hb dX4_shareBits_163 rfl ?_
                have hcf := Option.some.inj hcf; subst hcf
                exact wk_iret hx hb hr hlocks hW hS dX4_shareBits_164
              · replace hcf := (if_pos q19).symm.trans hcf
                refine lv_ldc2 hx hb hown (hts _ q894) dX4_shareBits_141 ?_
                refine lv_lstore (lv' := [(7, .long (8388608 : Int64)), (11, .int (1 : Int32)), (9, .long ((j2 * (8388608 : Int64)) - (j2 * (8388608 : Int64)) / j4 * j4)), (0, .int j0), (1, .int j1), (2, .long j2), (4, .long j4), (6, .int j6)]) hx hb dX4_shareBits_144 hl (by decide) rfl (fun ls hl => ?_)
                refine lv_iinc (v := (j6 + 1)) (lv' := [(6, .int (j6 + 1)), (7, .long (8388608 : Int64)), (11, .int (1 : Int32)), (9, .long ((j2 * (8388608 : Int64)) - (j2 * (8388608 : Int64)) / j4 * j4)), (0, .int j0), (1, .int j1), (2, .long j2), (4, .long j4)]) hx hb dX4_shareBits_146 hl (k := 7) rfl rfl (by decide) rfl (fun ls hl => ?_)
                refine lv_iload hx hb dX4_shareBits_149 (lv_at hl 0 rfl) ?_
                refine lv_i2l hx hb dX4_shareBits_151 rfl ?_
                refine lv_ldc2 hx hb hown (hts _ q894) dX4_shareBits_152 ?_
                refine lv_lmul hx hb dX4_shareBits_155 ?_
                refine lv_lload hx hb dX4_shareBits_156 (lv_at hl 1 rfl) ?_
                refine lv_ladd hx hb dX4_shareBits_158 ?_
                refine lv_ldc2 hx hb hown (hts _ q894) dX4_shareBits_159 ?_
                refine lv_lsub hx hb dX4_shareBits_162 ?_
                refine lv_l2i hx hb dX4_shareBits_163 rfl ?_
                have hcf := Option.some.inj hcf; subst hcf
                exact wk_iret hx hb hr hlocks hW hS dX4_shareBits_164
            · replace hcf := (if_neg q18).symm.trans hcf
              refine lv_lconst (v := (1 : Int64)) hx hb dX4_shareBits_124 (by decide) ?_
              refine lv_goto (tgt := 129) hx hb dX4_shareBits_125 (by decide) ?_
              refine lv_ladd hx hb dX4_shareBits_129 ?_
              refine lv_lstore (lv' := [(7, .long (((j2 * (8388608 : Int64)) / j4) + (1 : Int64))), (11, .int (1 : Int32)), (9, .long ((j2 * (8388608 : Int64)) - (j2 * (8388608 : Int64)) / j4 * j4)), (0, .int j0), (1, .int j1), (2, .long j2), (4, .long j4), (6, .int j6)]) hx hb dX4_shareBits_130 hl (by decide) rfl (fun ls hl => ?_)
              refine lv_lload hx hb dX4_shareBits_132 (lv_at hl 0 rfl) ?_
              refine lv_ldc2 hx hb hown (hts _ q895) dX4_shareBits_134 ?_
              refine W.lcmp hx hb dX4_shareBits_137 ?_
              refine lv_if_ne (tgt := 149) hx hb dX4_shareBits_138 (by decide) (fun q20 => ?_) (fun q20 => ?_)
              · replace hcf := (if_neg q20).symm.trans hcf
                refine lv_iload hx hb dX4_shareBits_149 (lv_at hl 7 rfl) ?_
                refine lv_i2l hx hb dX4_shareBits_151 rfl ?_
                refine lv_ldc2 hx hb hown (hts _ q894) dX4_shareBits_152 ?_
                refine lv_lmul hx hb dX4_shareBits_155 ?_
                refine lv_lload hx hb dX4_shareBits_156 (lv_at hl 0 rfl) ?_
                refine lv_ladd hx hb dX4_shareBits_158 ?_
                refine lv_ldc2 hx hb hown (hts _ q894) dX4_shareBits_159 ?_
                refine lv_lsub hx hb dX4_shareBits_162 ?_
                refine lv_l2i hx hb dX4_shareBits_163 rfl ?_
                have hcf := Option.some.inj hcf; subst hcf
                exact wk_iret hx hb hr hlocks hW hS dX4_shareBits_164
              · replace hcf := (if_pos q20).symm.trans hcf
                refine lv_ldc2 hx hb hown (hts _ q894) dX4_shareBits_141 ?_
                refine lv_lstore (lv' := [(7, .long (8388608 : Int64)), (11, .int (1 : Int32)), (9, .long ((j2 * (8388608 : Int64)) - (j2 * (8388608 : Int64)) / j4 * j4)), (0, .int j0), (1, .int j1), (2, .long j2), (4, .long j4), (6, .int j6)]) hx hb dX4_shareBits_144 hl (by decide) rfl (fun ls hl => ?_)
                refine lv_iinc (v := (j6 + 1)) (lv' := [(6, .int (j6 + 1)), (7, .long (8388608 : Int64)), (11, .int (1 : Int32)), (9, .long ((j2 * (8388608 : Int64)) - (j2 * (8388608 : Int64)) / j4 * j4)), (0, .int j0), (1, .int j1), (2, .long j2), (4, .long j4)]) hx hb dX4_shareBits_146 hl (k := 7) rfl rfl (by decide) rfl (fun ls hl => ?_)
                refine lv_iload hx hb dX4_shareBits_149 (lv_at hl 0 rfl) ?_
                refine lv_i2l hx hb dX4_shareBits_151 rfl ?_
                refine lv_ldc2 hx hb hown (hts _ q894) dX4_shareBits_152 ?_
                refine lv_lmul hx hb dX4_shareBits_155 ?_
                refine lv_lload hx hb dX4_shareBits_156 (lv_at hl 1 rfl) ?_
                refine lv_ladd hx hb dX4_shareBits_158 ?_
                refine lv_ldc2 hx hb hown (hts _ q894) dX4_shareBits_159 ?_
                refine lv_lsub hx hb dX4_shareBits_162 ?_
                refine lv_l2i hx hb dX4_shareBits_163 rfl ?_
                have hcf := Option.some.inj hcf; subst hcf
                exact wk_iret hx hb hr hlocks hW hS dX4_shareBits_164
    · replace hcf := (if_neg q2).symm.trans hcf
      refine lv_lload_n hx hb dX4_shareBits_43 rfl (lv_at hl 2 rfl) ?_
      refine lv_ldc2 hx hb hown (hts _ q659) dX4_shareBits_44 ?_
      refine lv_lmul hx hb dX4_shareBits_47 ?_
      refine lv_lstore_n (lv' := [(2, .long (j2 * (2 : Int64))), (0, .int j0), (1, .int j1), (4, .long j4), (6, .int j6)]) hx hb dX4_shareBits_48 rfl hl (by decide) rfl (fun ls hl => ?_)
      refine lv_iinc (v := (j6 + (-1))) (lv' := [(6, .int (j6 + (-1))), (2, .long (j2 * (2 : Int64))), (0, .int j0), (1, .int j1), (4, .long j4)]) hx hb dX4_shareBits_49 hl (k := 4) rfl rfl (by decide) rfl (fun ls hl => ?_)
      refine lv_goto (tgt := 36) hx hb dX4_shareBits_52 (by decide) ?_
      exact ih j0 j1 (j2 * (2 : Int64)) j4 (j6 + (-1)) _ _ _ hcf hW hS (lv_sub hl [2, 3, 1, 4, 0] rfl)
set_option maxHeartbeats 4000000 in
set_option maxRecDepth 100000 in
theorem wl_X4_shareBits_11 {p : Program} {l : Launch} {e : Env} {s : State} {m : MethodId} {args : Array Value} {below : List Frame} {meth : Method} {c : Code} {D : va_G} {cy : Nat → ClassId} {z : Nat} {n : Nat}  {Y : mY} {V : mV} {G : mG} (hx : p.tables.exec = Jvm.exec) (hb : c.code = cX4_shareBits) (hr : meth.sig.returnType = (some .int)) (hml : c.maxLocals = 12) (hown : s.vm.findClass RX4 = some m.cls) (hts : ∀ w ∈ lw_all, w.before args s = true) (hlocks : meth.locks = false) (hE : En D cy s) (x : Int32) : ∀ (k : Nat) (j0 : Int32) (j1 : Int32) (j2 : Int64) (j4 : Int64) (j6 : Int32) (H : Heap) (locs : List Loc) (ls : Array Slot), lp_X4_shareBits_11 k j0 j1 j2 j4 j6 = some x → Wd Y cy D z n V G H → va_S (zA z) s.heap H locs → lv_has ls 12 [(0, .int j0), (1, .int j1), (2, .long j2), (4, .long j4), (6, .int j6)] → W p l e (rmd 0) s m args below meth c H locs 0 0 (MQ below (QC D cy z Y n V G (some (.int x))) args s 0 0 (zA z)) (F0 m 11 ls []) := by
  intro k
  induction k with
  | zero =>
    intro j0 j1 j2 j4 j6 H locs ls hcf
    have hcf : none = some _ := hcf
    cases hcf
  | succ k ih =>
    intro j0 j1 j2 j4 j6 H locs ls hcf hW hS hl
    rw [lp_X4_shareBits_11] at hcf
    refine lv_lload_n hx hb dX4_shareBits_11 rfl (lv_at hl 2 rfl) ?_
    refine lv_ldc2 hx hb hown (hts _ q659) dX4_shareBits_12 ?_
    refine lv_lload hx hb dX4_shareBits_15 (lv_at hl 3 rfl) ?_
    refine lv_lmul hx hb dX4_shareBits_17 ?_
    refine W.lcmp hx hb dX4_shareBits_18 ?_
    refine lv_if_lt (tgt := 36) hx hb dX4_shareBits_19 (by decide) (fun q1 => ?_) (fun q1 => ?_)
    · replace hcf := (if_pos q1).symm.trans hcf
      exact wl_X4_shareBits_36 hx hb hr hml hown hts hlocks hE x fuB j0 j1 j2 j4 j6 _ _ _ hcf hW hS (lv_sub hl [0, 1, 2, 3, 4] rfl)
    · replace hcf := (if_neg q1).symm.trans hcf
      refine lv_lload hx hb dX4_shareBits_22 (lv_at hl 3 rfl) ?_
      refine lv_ldc2 hx hb hown (hts _ q659) dX4_shareBits_24 ?_
      refine lv_lmul hx hb dX4_shareBits_27 ?_
      refine lv_lstore (lv' := [(4, .long (j4 * (2 : Int64))), (0, .int j0), (1, .int j1), (2, .long j2), (6, .int j6)]) hx hb dX4_shareBits_28 hl (by decide) rfl (fun ls hl => ?_)
      refine lv_iinc (v := (j6 + 1)) (lv' := [(6, .int (j6 + 1)), (4, .long (j4 * (2 : Int64))), (0, .int j0), (1, .int j1), (2, .long j2)]) hx hb dX4_shareBits_30 hl (k := 4) rfl rfl (by decide) rfl (fun ls hl => ?_)
      refine lv_goto (tgt := 11) hx hb dX4_shareBits_33 (by decide) ?_
      exact ih j0 j1 j2 (j4 * (2 : Int64)) (j6 + 1) _ _ _ hcf hW hS (lv_sub hl [2, 3, 4, 1, 0] rfl)
set_option maxHeartbeats 4000000 in
set_option maxRecDepth 100000 in
theorem ct_X4_shareBits (l : Launch) (D : va_G) (cy : Nat → ClassId) (z n : Nat) (Y : mY) (V : mV) (G : mG) (b1 : Int32) (b2 : Int32) (x : Int32) (hcf : cf_X4_shareBits b1 b2 = some x) : CT l yX4_shareBits cX4_shareBits 12 (some .int) (rmd 0) D cy z [.int b1, .int b2] Y n V G (some (.int x)) Y n V G := by
  refine ct_of (by decide) (Nat.le_of_ble_eq_true rfl) ?_
  intro p e s m args below meth c ls hx hb hr hml hown hts hlocks hnm hE hW hl
  have hS : va_S (zA z) s.heap s.heap [] := va_S.rf
  have hl : lv_has ls 12 [(0, .int b1), (1, .int b2)] := hl
  have hown : s.vm.findClass RX4 = some m.cls := hown
  rw [cf_X4_shareBits] at hcf
  refine lv_iload_n hx hb dX4_shareBits_0 rfl (lv_at hl 0 rfl) ?_
  refine lv_i2l hx hb dX4_shareBits_1 rfl ?_
  refine lv_lstore_n (lv' := [(2, .long ((b1).toInt64)), (0, .int b1), (1, .int b2)]) hx hb dX4_shareBits_2 rfl hl (by decide) rfl (fun ls hl => ?_)
  refine lv_iload_n hx hb dX4_shareBits_3 rfl (lv_at hl 2 rfl) ?_
  refine lv_i2l hx hb dX4_shareBits_4 rfl ?_
  refine lv_lstore (lv' := [(4, .long ((b2).toInt64)), (2, .long ((b1).toInt64)), (0, .int b1), (1, .int b2)]) hx hb dX4_shareBits_5 hl (by decide) rfl (fun ls hl => ?_)
  refine lv_bipush (v := (127 : Int32)) hx hb dX4_shareBits_7 (by decide) ?_
  refine lv_istore (lv' := [(6, .int (127 : Int32)), (4, .long ((b2).toInt64)), (2, .long ((b1).toInt64)), (0, .int b1), (1, .int b2)]) hx hb dX4_shareBits_9 hl (by decide) rfl (fun ls hl => ?_)
  exact wl_X4_shareBits_11 hx hb hr hml hown hts hlocks hE x fuB b1 b2 ((b1).toInt64) ((b2).toInt64) (127 : Int32) _ _ _ hcf hW hS (lv_sub hl [3, 4, 2, 1, 0] rfl)
set_option maxHeartbeats 4000000 in
set_option maxRecDepth 100000 in
theorem ct_X4_share (l : Launch) (D : va_G) (cy : Nat → ClassId) (z n : Nat) (Y : mY) (V : mV) (G : mG) (a0 : Nat) (x : Int32) (hcf : cf_X4_share Y V G a0 = some x) : CT l yX4_share cX4_share 2 (some .int) (rmd 5) D cy z [.ref a0] Y n V G (some (.int x)) Y n V G := by
  refine ct_of (by decide) (Nat.le_of_ble_eq_true rfl) ?_
  intro p e s m args below meth c ls hx hb hr hml hown hts hlocks hnm hE hW hl
  have hS : va_S (zA z) s.heap s.heap [] := va_S.rf
  have hl : lv_has ls 2 [(0, .ref a0)] := hl
  have hown : s.vm.findClass RX4 = some m.cls := hown
  rw [cf_X4_share] at hcf
  refine lv_aload_n hx hb dX4_share_0 rfl (lv_at hl 0 rfl) ?_
  obtain ⟨q1, hcf⟩ := og hcf
  obtain ⟨r2, hr2, hcf⟩ := ob hcf
  refine gf_X4_7 hx hb hts hown hE hW q1 hr2 dX4_share_1 ?_
  refine lv_iconst (v := (1 : Int32)) hx hb dX4_share_4 (by decide) ?_
  obtain ⟨q3, hcf⟩ := og hcf
  obtain ⟨q4, hcf⟩ := og hcf
  refine wk_iald hx hb hE hW q3 q4 dX4_share_5 ?_
  refine lv_if_ne (tgt := 12) hx hb dX4_share_6 (by decide) (fun q5 => ?_) (fun q5 => ?_)
  · replace hcf := (if_neg q5).symm.trans hcf
    refine lv_aload_n hx hb dX4_share_12 rfl (lv_at hl 0 rfl) ?_
    refine lv_iconst (v := (2 : Int32)) hx hb dX4_share_13 (by decide) ?_
    obtain ⟨x6, hx6, hcf⟩ := ob hcf
    refine iv_X4_182 (As := [.int (2 : Int32)]) (rest := []) hx hb hml hown hts hE (ct_X4_withState l D cy z n Y V G a0 (2 : Int32) x6 hx6) hW hS q1 rfl rfl hl.1 (Nat.le_of_ble_eq_true rfl) ⟨Nat.le_of_ble_eq_true rfl, Nat.le_of_ble_eq_true rfl⟩ dX4_share_14 ⟨Nat.zero_le _, Nat.zero_le _⟩ (fun H locs hW hS => ?_)
    obtain ⟨x7, hx7, hcf⟩ := ob hcf
    refine iv_X4_106 (As := [.int x6]) (rest := []) hx hb hml hown hts hE (ct_X4_bits l D cy z n Y V G x6 x7 hx7) hW hS rfl rfl hl.1 (Nat.le_of_ble_eq_true rfl) ⟨Nat.le_of_ble_eq_true rfl, Nat.le_of_ble_eq_true rfl⟩ dX4_share_17 ⟨Nat.zero_le _, Nat.zero_le _⟩ (fun H locs hW hS => ?_)
    refine lv_istore_n (lv' := [(1, .int x7), (0, .ref a0)]) hx hb dX4_share_20 rfl hl (by decide) rfl (fun ls hl => ?_)
    refine lv_iload_n hx hb dX4_share_21 rfl (lv_at hl 0 rfl) ?_
    refine lv_if_ne (tgt := 29) hx hb dX4_share_22 (by decide) (fun q8 => ?_) (fun q8 => ?_)
    · replace hcf := (if_neg q8).symm.trans hcf
      refine lv_iload_n hx hb dX4_share_29 rfl (lv_at hl 0 rfl) ?_
      refine lv_aload_n hx hb dX4_share_30 rfl (lv_at hl 1 rfl) ?_
      refine gf_X4_7 hx hb hts hown hE hW q1 hr2 dX4_share_31 ?_
      refine lv_iconst (v := (1 : Int32)) hx hb dX4_share_34 (by decide) ?_
      obtain ⟨q9, hcf⟩ := og hcf
      refine wk_iald hx hb hE hW q3 q9 dX4_share_35 ?_
      obtain ⟨x10, hx10, hcf⟩ := ob hcf
      refine iv_X4_197 (As := [.int x7, .int (V r2 (1 : Int32).toNatClampNeg)]) (rest := []) hx hb hml hown hts hE (ct_X4_shareBits l D cy z n Y V G x7 (V r2 (1 : Int32).toNatClampNeg) x10 hx10) hW hS rfl rfl hl.1 (Nat.le_of_ble_eq_true rfl) ⟨Nat.le_of_ble_eq_true rfl, Nat.le_of_ble_eq_true rfl⟩ dX4_share_36 ⟨Nat.zero_le _, Nat.zero_le _⟩ (fun H locs hW hS => ?_)
      have hcf := Option.some.inj hcf; subst hcf
      exact wk_iret hx hb hr hlocks hW hS dX4_share_39
    · replace hcf := (if_pos q8).symm.trans hcf
      refine lv_iconst (v := (0 : Int32)) hx hb dX4_share_25 (by decide) ?_
      refine lv_goto (tgt := 39) hx hb dX4_share_26 (by decide) ?_
      have hcf := Option.some.inj hcf; subst hcf
      exact wk_iret hx hb hr hlocks hW hS dX4_share_39
  · replace hcf := (if_pos q5).symm.trans hcf
    refine lv_ldc hx hb hown (hts _ q857) dX4_share_9 ?_
    have hcf := Option.some.inj hcf; subst hcf
    exact wk_iret hx hb hr hlocks hW hS dX4_share_11
set_option maxHeartbeats 4000000 in
set_option maxRecDepth 100000 in
theorem wl_X4_partsOf_4 {p : Program} {l : Launch} {e : Env} {s : State} {m : MethodId} {args : Array Value} {below : List Frame} {meth : Method} {c : Code} {D : va_G} {cy : Nat → ClassId} {z : Nat} {n : Nat} {Y : mY} {V : mV} {G : mG} (hx : p.tables.exec = Jvm.exec) (hb : c.code = cX4_partsOf) (hr : meth.sig.returnType = (some .int)) (hml : c.maxLocals = 4) (hown : s.vm.findClass RX4 = some m.cls) (hts : ∀ w ∈ lw_all, w.before args s = true) (hlocks : meth.locks = false) (hE : En D cy s) (x : Int32) : ∀ (k : Nat) (j0 : Nat) (j1 : Int32) (j2 : Int32) (j3 : Int32) (H : Heap) (locs : List Loc) (ls : Array Slot), lp_X4_partsOf_4 Y V G k j0 j1 j2 j3 = some x → Wd Y cy D z n V G H → va_S (zA z) s.heap H locs → lv_has ls 4 [(0, .ref j0), (1, .int j1), (2, .int j2), (3, .int j3)] → W p l e (rmd 1) s m args below meth c H locs 0 0 (MQ below (QC D cy z Y n V G (some (.int x))) args s 0 0 (zA z)) (F0 m 4 ls []) := by
  intro k
  induction k with
  | zero =>
    intro j0 j1 j2 j3 H locs ls hcf
    have hcf : none = some _ := hcf
    cases hcf
  | succ k ih =>
    intro j0 j1 j2 j3 H locs ls hcf hW hS hl
    rw [lp_X4_partsOf_4] at hcf
    refine lv_iload_n hx hb dX4_partsOf_4 rfl (lv_at hl 3 rfl) ?_
    refine lv_aload_n hx hb dX4_partsOf_5 rfl (lv_at hl 0 rfl) ?_
    obtain ⟨q1, hcf⟩ := og hcf
    obtain ⟨r2, hr2, hcf⟩ := ob hcf
    refine gf_X4_7 hx hb hts hown hE hW q1 hr2 dX4_partsOf_6 ?_
    refine lv_iconst (v := (1 : Int32)) hx hb dX4_partsOf_9 (by decide) ?_
    obtain ⟨q3, hcf⟩ := og hcf
    obtain ⟨q4, hcf⟩ := og hcf
    refine wk_iald hx hb hE hW q3 q4 dX4_partsOf_10 ?_
    refine lv_icmp_ge (tgt := 45) hx hb dX4_partsOf_11 (by decide) (fun q5 => ?_) (fun q5 => ?_)
    · replace hcf := (if_pos q5).symm.trans hcf
      refine lv_iload_n hx hb dX4_partsOf_45 rfl (lv_at hl 2 rfl) ?_
      have hcf := Option.some.inj hcf; subst hcf
      exact wk_iret hx hb hr hlocks hW hS dX4_partsOf_46
    · replace hcf := (if_neg q5).symm.trans hcf
      refine lv_iload_n hx hb dX4_partsOf_14 rfl (lv_at hl 2 rfl) ?_
      refine lv_iload_n hx hb dX4_partsOf_15 rfl (lv_at hl 1 rfl) ?_
      refine lv_if_eq (tgt := 31) hx hb dX4_partsOf_16 (by decide) (fun q6 => ?_) (fun q6 => ?_)
      · replace hcf := (if_pos q6).symm.trans hcf
        refine lv_aload_n hx hb dX4_partsOf_31 rfl (lv_at hl 0 rfl) ?_
        refine lv_iload_n hx hb dX4_partsOf_32 rfl (lv_at hl 3 rfl) ?_
        refine lv_iconst (v := (3 : Int32)) hx hb dX4_partsOf_33 (by decide) ?_
        obtain ⟨x7, hx7, hcf⟩ := ob hcf
        refine iv_X4_46 (As := [.int j3, .int (3 : Int32)]) (rest := [.int j2]) hx hb hml hown hts hE (ct_X4_get l D cy z n Y V G j0 j3 (3 : Int32) x7 hx7) hW hS q1 rfl rfl hl.1 (Nat.le_of_ble_eq_true rfl) ⟨Nat.le_of_ble_eq_true rfl, Nat.le_of_ble_eq_true rfl⟩ dX4_partsOf_34 ⟨Nat.zero_le _, Nat.zero_le _⟩ (fun H locs hW hS => ?_)
        refine lv_iadd hx hb dX4_partsOf_37 ?_
        refine lv_istore_n (lv' := [(2, .int (j2 + x7)), (0, .ref j0), (1, .int j1), (3, .int j3)]) hx hb dX4_partsOf_38 rfl hl (by decide) rfl (fun ls hl => ?_)
        refine lv_iinc (v := (j3 + 1)) (lv' := [(3, .int (j3 + 1)), (2, .int (j2 + x7)), (0, .ref j0), (1, .int j1)]) hx hb dX4_partsOf_39 hl (k := 3) rfl rfl (by decide) rfl (fun ls hl => ?_)
        refine lv_goto (tgt := 4) hx hb dX4_partsOf_42 (by decide) ?_
        exact ih j0 j1 (j2 + x7) (j3 + 1) _ _ _ hcf hW hS (lv_sub hl [2, 3, 1, 0] rfl)
      · replace hcf := (if_neg q6).symm.trans hcf
        refine lv_aload_n hx hb dX4_partsOf_19 rfl (lv_at hl 0 rfl) ?_
        refine lv_iload_n hx hb dX4_partsOf_20 rfl (lv_at hl 3 rfl) ?_
        refine lv_iconst (v := (4 : Int32)) hx hb dX4_partsOf_21 (by decide) ?_
        obtain ⟨x8, hx8, hcf⟩ := ob hcf
        refine iv_X4_46 (As := [.int j3, .int (4 : Int32)]) (rest := [.int j2]) hx hb hml hown hts hE (ct_X4_get l D cy z n Y V G j0 j3 (4 : Int32) x8 hx8) hW hS q1 rfl rfl hl.1 (Nat.le_of_ble_eq_true rfl) ⟨Nat.le_of_ble_eq_true rfl, Nat.le_of_ble_eq_true rfl⟩ dX4_partsOf_22 ⟨Nat.zero_le _, Nat.zero_le _⟩ (fun H locs hW hS => ?_)
        obtain ⟨x9, hx9, hcf⟩ := ob hcf
        refine iv_X4_106 (As := [.int x8]) (rest := [.int j2]) hx hb hml hown hts hE (ct_X4_bits l D cy z n Y V G x8 x9 hx9) hW hS rfl rfl hl.1 (Nat.le_of_ble_eq_true rfl) ⟨Nat.le_of_ble_eq_true rfl, Nat.le_of_ble_eq_true rfl⟩ dX4_partsOf_25 ⟨Nat.zero_le _, Nat.zero_le _⟩ (fun H locs hW hS => ?_)
        refine lv_goto (tgt := 37) hx hb dX4_partsOf_28 (by decide) ?_
        refine lv_iadd hx hb dX4_partsOf_37 ?_
        refine lv_istore_n (lv' := [(2, .int (j2 + x9)), (0, .ref j0), (1, .int j1), (3, .int j3)]) hx hb dX4_partsOf_38 rfl hl (by decide) rfl (fun ls hl => ?_)
        refine lv_iinc (v := (j3 + 1)) (lv' := [(3, .int (j3 + 1)), (2, .int (j2 + x9)), (0, .ref j0), (1, .int j1)]) hx hb dX4_partsOf_39 hl (k := 3) rfl rfl (by decide) rfl (fun ls hl => ?_)
        refine lv_goto (tgt := 4) hx hb dX4_partsOf_42 (by decide) ?_
        exact ih j0 j1 (j2 + x9) (j3 + 1) _ _ _ hcf hW hS (lv_sub hl [2, 3, 1, 0] rfl)
set_option maxHeartbeats 4000000 in
set_option maxRecDepth 100000 in
theorem ct_X4_partsOf (l : Launch) (D : va_G) (cy : Nat → ClassId) (z n : Nat) (Y : mY) (V : mV) (G : mG) (a0 : Nat) (b1 : Int32) (x : Int32) (hcf : cf_X4_partsOf Y V G a0 b1 = some x) : CT l yX4_partsOf cX4_partsOf 4 (some .int) (rmd 1) D cy z [.ref a0, .int b1] Y n V G (some (.int x)) Y n V G := by
  refine ct_of (by decide) (Nat.le_of_ble_eq_true rfl) ?_
  intro p e s m args below meth c ls hx hb hr hml hown hts hlocks hnm hE hW hl
  have hS : va_S (zA z) s.heap s.heap [] := va_S.rf
  have hl : lv_has ls 4 [(0, .ref a0), (1, .int b1)] := hl
  have hown : s.vm.findClass RX4 = some m.cls := hown
  rw [cf_X4_partsOf] at hcf
  refine lv_iconst (v := (0 : Int32)) hx hb dX4_partsOf_0 (by decide) ?_
  refine lv_istore_n (lv' := [(2, .int (0 : Int32)), (0, .ref a0), (1, .int b1)]) hx hb dX4_partsOf_1 rfl hl (by decide) rfl (fun ls hl => ?_)
  refine lv_iconst (v := (0 : Int32)) hx hb dX4_partsOf_2 (by decide) ?_
  refine lv_istore_n (lv' := [(3, .int (0 : Int32)), (2, .int (0 : Int32)), (0, .ref a0), (1, .int b1)]) hx hb dX4_partsOf_3 rfl hl (by decide) rfl (fun ls hl => ?_)
  exact wl_X4_partsOf_4 hx hb hr hml hown hts hlocks hE x fuB a0 b1 (0 : Int32) (0 : Int32) _ _ _ hcf hW hS (lv_sub hl [2, 3, 1, 0] rfl)
set_option maxHeartbeats 4000000 in
set_option maxRecDepth 100000 in
theorem ct_X4_count (l : Launch) (D : va_G) (cy : Nat → ClassId) (z n : Nat) (Y : mY) (V : mV) (G : mG) (a0 : Nat) (b1 : Int32) (x : Int32) (hcf : cf_X4_count Y V G a0 b1 = some x) : CT l yX4_count cX4_count 2 (some .int) (rmd 2) D cy z [.ref a0, .int b1] Y n V G (some (.int x)) Y n V G := by
  refine ct_of (by decide) (Nat.le_of_ble_eq_true rfl) ?_
  intro p e s m args below meth c ls hx hb hr hml hown hts hlocks hnm hE hW hl
  have hS : va_S (zA z) s.heap s.heap [] := va_S.rf
  have hl : lv_has ls 2 [(0, .ref a0), (1, .int b1)] := hl
  have hown : s.vm.findClass RX4 = some m.cls := hown
  rw [cf_X4_count] at hcf
  refine lv_iload_n hx hb dX4_count_0 rfl (lv_at hl 1 rfl) ?_
  by_cases q1 : b1 = (0 : Int32)
  · replace hcf := (if_pos q1).symm.trans hcf
    refine wk_tsw (off := 103) (tgt := 104) hx hb dX4_count_1 (by rw [q1]; rfl) (by decide) ?_
    refine lv_aload_n hx hb dX4_count_104 rfl (lv_at hl 0 rfl) ?_
    obtain ⟨q2, hcf⟩ := og hcf
    obtain ⟨r3, hr3, hcf⟩ := ob hcf
    refine gf_X4_7 hx hb hts hown hE hW q2 hr3 dX4_count_105 ?_
    refine lv_iconst (v := (1 : Int32)) hx hb dX4_count_108 (by decide) ?_
    obtain ⟨q4, hcf⟩ := og hcf
    obtain ⟨q5, hcf⟩ := og hcf
    refine wk_iald hx hb hE hW q4 q5 dX4_count_109 ?_
    have hcf := Option.some.inj hcf; subst hcf
    exact wk_iret hx hb hr hlocks hW hS dX4_count_110
  · replace hcf := (if_neg q1).symm.trans hcf
    by_cases q6 : b1 = (1 : Int32)
    · replace hcf := (if_pos q6).symm.trans hcf
      refine wk_tsw (off := 110) (tgt := 111) hx hb dX4_count_1 (by rw [q6]; rfl) (by decide) ?_
      refine lv_aload_n hx hb dX4_count_111 rfl (lv_at hl 0 rfl) ?_
      obtain ⟨q7, hcf⟩ := og hcf
      obtain ⟨r8, hr8, hcf⟩ := ob hcf
      refine gf_X4_7 hx hb hts hown hE hW q7 hr8 dX4_count_112 ?_
      refine lv_iconst (v := (0 : Int32)) hx hb dX4_count_115 (by decide) ?_
      obtain ⟨q9, hcf⟩ := og hcf
      obtain ⟨q10, hcf⟩ := og hcf
      refine wk_iald hx hb hE hW q9 q10 dX4_count_116 ?_
      have hcf := Option.some.inj hcf; subst hcf
      exact wk_iret hx hb hr hlocks hW hS dX4_count_117
    · replace hcf := (if_neg q6).symm.trans hcf
      by_cases q11 : b1 = (2 : Int32)
      · replace hcf := (if_pos q11).symm.trans hcf
        refine wk_tsw (off := 117) (tgt := 118) hx hb dX4_count_1 (by rw [q11]; rfl) (by decide) ?_
        refine lv_aload_n hx hb dX4_count_118 rfl (lv_at hl 0 rfl) ?_
        refine lv_iconst (v := (0 : Int32)) hx hb dX4_count_119 (by decide) ?_
        obtain ⟨q12, hcf⟩ := og hcf
        obtain ⟨x13, hx13, hcf⟩ := ob hcf
        refine iv_X4_200 (As := [.int (0 : Int32)]) (rest := []) hx hb hml hown hts hE (ct_X4_partsOf l D cy z n Y V G a0 (0 : Int32) x13 hx13) hW hS q12 rfl rfl hl.1 (Nat.le_of_ble_eq_true rfl) ⟨Nat.le_of_ble_eq_true rfl, Nat.le_of_ble_eq_true rfl⟩ dX4_count_120 ⟨Nat.zero_le _, Nat.zero_le _⟩ (fun H locs hW hS => ?_)
        have hcf := Option.some.inj hcf; subst hcf
        exact wk_iret hx hb hr hlocks hW hS dX4_count_123
      · replace hcf := (if_neg q11).symm.trans hcf
        by_cases q14 : b1 = (3 : Int32)
        · replace hcf := (if_pos q14).symm.trans hcf
          refine wk_tsw (off := 123) (tgt := 124) hx hb dX4_count_1 (by rw [q14]; rfl) (by decide) ?_
          refine lv_aload_n hx hb dX4_count_124 rfl (lv_at hl 0 rfl) ?_
          refine lv_iconst (v := (1 : Int32)) hx hb dX4_count_125 (by decide) ?_
          obtain ⟨q15, hcf⟩ := og hcf
          obtain ⟨x16, hx16, hcf⟩ := ob hcf
          refine iv_X4_200 (As := [.int (1 : Int32)]) (rest := []) hx hb hml hown hts hE (ct_X4_partsOf l D cy z n Y V G a0 (1 : Int32) x16 hx16) hW hS q15 rfl rfl hl.1 (Nat.le_of_ble_eq_true rfl) ⟨Nat.le_of_ble_eq_true rfl, Nat.le_of_ble_eq_true rfl⟩ dX4_count_126 ⟨Nat.zero_le _, Nat.zero_le _⟩ (fun H locs hW hS => ?_)
          have hcf := Option.some.inj hcf; subst hcf
          exact wk_iret hx hb hr hlocks hW hS dX4_count_129
        · replace hcf := (if_neg q14).symm.trans hcf
          by_cases q17 : b1 = (4 : Int32)
          · replace hcf := (if_pos q17).symm.trans hcf
            refine wk_tsw (off := 129) (tgt := 130) hx hb dX4_count_1 (by rw [q17]; rfl) (by decide) ?_
            refine lv_aload_n hx hb dX4_count_130 rfl (lv_at hl 0 rfl) ?_
            obtain ⟨q18, hcf⟩ := og hcf
            obtain ⟨r19, hr19, hcf⟩ := ob hcf
            refine gf_X4_7 hx hb hts hown hE hW q18 hr19 dX4_count_131 ?_
            refine lv_iconst (v := (4 : Int32)) hx hb dX4_count_134 (by decide) ?_
            obtain ⟨q20, hcf⟩ := og hcf
            obtain ⟨q21, hcf⟩ := og hcf
            refine wk_iald hx hb hE hW q20 q21 dX4_count_135 ?_
            have hcf := Option.some.inj hcf; subst hcf
            exact wk_iret hx hb hr hlocks hW hS dX4_count_136
          · replace hcf := (if_neg q17).symm.trans hcf
            by_cases q22 : b1 = (5 : Int32)
            · replace hcf := (if_pos q22).symm.trans hcf
              refine wk_tsw (off := 136) (tgt := 137) hx hb dX4_count_1 (by rw [q22]; rfl) (by decide) ?_
              refine lv_aload_n hx hb dX4_count_137 rfl (lv_at hl 0 rfl) ?_
              obtain ⟨q23, hcf⟩ := og hcf
              obtain ⟨r24, hr24, hcf⟩ := ob hcf
              refine gf_X4_7 hx hb hts hown hE hW q23 hr24 dX4_count_138 ?_
              refine lv_iconst (v := (5 : Int32)) hx hb dX4_count_141 (by decide) ?_
              obtain ⟨q25, hcf⟩ := og hcf
              obtain ⟨q26, hcf⟩ := og hcf
              refine wk_iald hx hb hE hW q25 q26 dX4_count_142 ?_
              have hcf := Option.some.inj hcf; subst hcf
              exact wk_iret hx hb hr hlocks hW hS dX4_count_143
            · replace hcf := (if_neg q22).symm.trans hcf
              by_cases q27 : b1 = (6 : Int32)
              · replace hcf := (if_pos q27).symm.trans hcf
                refine wk_tsw (off := 143) (tgt := 144) hx hb dX4_count_1 (by rw [q27]; rfl) (by decide) ?_
                refine lv_aload_n hx hb dX4_count_144 rfl (lv_at hl 0 rfl) ?_
                obtain ⟨q28, hcf⟩ := og hcf
                refine gf_X4_29 hx hb hts hown hE hW q28 dX4_count_145 ?_
                have hcf := Option.some.inj hcf; subst hcf
                exact wk_iret hx hb hr hlocks hW hS dX4_count_148
              · replace hcf := (if_neg q27).symm.trans hcf
                by_cases q29 : b1 = (7 : Int32)
                · replace hcf := (if_pos q29).symm.trans hcf
                  refine wk_tsw (off := 148) (tgt := 149) hx hb dX4_count_1 (by rw [q29]; rfl) (by decide) ?_
                  refine lv_aload_n hx hb dX4_count_149 rfl (lv_at hl 0 rfl) ?_
                  obtain ⟨q30, hcf⟩ := og hcf
                  refine gf_X4_204 hx hb hts hown hE hW q30 dX4_count_150 ?_
                  have hcf := Option.some.inj hcf; subst hcf
                  exact wk_iret hx hb hr hlocks hW hS dX4_count_153
                · replace hcf := (if_neg q29).symm.trans hcf
                  by_cases q31 : b1 = (20 : Int32)
                  · replace hcf := (if_pos q31).symm.trans hcf
                    refine wk_tsw (off := 153) (tgt := 154) hx hb dX4_count_1 (by rw [q31]; rfl) (by decide) ?_
                    refine lv_aload_n hx hb dX4_count_154 rfl (lv_at hl 0 rfl) ?_
                    obtain ⟨q32, hcf⟩ := og hcf
                    obtain ⟨r33, hr33, hcf⟩ := ob hcf
                    refine gf_X4_7 hx hb hts hown hE hW q32 hr33 dX4_count_155 ?_
                    refine lv_iconst (v := (2 : Int32)) hx hb dX4_count_158 (by decide) ?_
                    obtain ⟨q34, hcf⟩ := og hcf
                    obtain ⟨q35, hcf⟩ := og hcf
                    refine wk_iald hx hb hE hW q34 q35 dX4_count_159 ?_
                    have hcf := Option.some.inj hcf; subst hcf
                    exact wk_iret hx hb hr hlocks hW hS dX4_count_160
                  · replace hcf := (if_neg q31).symm.trans hcf
                    by_cases q36 : b1 = (21 : Int32)
                    · replace hcf := (if_pos q36).symm.trans hcf
                      refine wk_tsw (off := 160) (tgt := 161) hx hb dX4_count_1 (by rw [q36]; rfl) (by decide) ?_
                      refine lv_aload_n hx hb dX4_count_161 rfl (lv_at hl 0 rfl) ?_
                      obtain ⟨q37, hcf⟩ := og hcf
                      obtain ⟨r38, hr38, hcf⟩ := ob hcf
                      refine gf_X4_7 hx hb hts hown hE hW q37 hr38 dX4_count_162 ?_
                      refine lv_iconst (v := (3 : Int32)) hx hb dX4_count_165 (by decide) ?_
                      obtain ⟨q39, hcf⟩ := og hcf
                      obtain ⟨q40, hcf⟩ := og hcf
                      refine wk_iald hx hb hE hW q39 q40 dX4_count_166 ?_
                      have hcf := Option.some.inj hcf; subst hcf
                      exact wk_iret hx hb hr hlocks hW hS dX4_count_167
                    · replace hcf := (if_neg q36).symm.trans hcf
                      refine wk_tsw (off := 167) (tgt := 168) hx hb dX4_count_1 (by have eq1 := lv_neT q1 (a := 0) rfl; have eq6 := lv_neT q6 (a := 1) rfl; have eq11 := lv_neT q11 (a := 2) rfl; have eq14 := lv_neT q14 (a := 3) rfl; have eq17 := lv_neT q17 (a := 4) rfl; have eq22 := lv_neT q22 (a := 5) rfl; have eq27 := lv_neT q27 (a := 6) rfl; have eq29 := lv_neT q29 (a := 7) rfl; have eq31 := lv_neT q31 (a := 20) rfl; have eq36 := lv_neT q36 (a := 21) rfl; by_cases hh : (b1).toInt < 0 ∨ 21 < (b1).toInt; exact if_pos hh; rcases (show (b1).toInt = 8 ∨ (b1).toInt = 9 ∨ (b1).toInt = 10 ∨ (b1).toInt = 11 ∨ (b1).toInt = 12 ∨ (b1).toInt = 13 ∨ (b1).toInt = 14 ∨ (b1).toInt = 15 ∨ (b1).toInt = 16 ∨ (b1).toInt = 17 ∨ (b1).toInt = 18 ∨ (b1).toInt = 19 by omega) with hg | hg | hg | hg | hg | hg | hg | hg | hg | hg | hg | hg <;> (rw [sw_off, if_neg hh, hg]; rfl)) (by decide) ?_
                      refine lv_ldc hx hb hown (hts _ q672) dX4_count_168 ?_
                      have hcf := Option.some.inj hcf; subst hcf
                      exact wk_iret hx hb hr hlocks hW hS dX4_count_170
set_option maxHeartbeats 4000000 in
set_option maxRecDepth 100000 in
theorem wl_X4_undo_22 {p : Program} {l : Launch} {e : Env} {s : State} {m : MethodId} {args : Array Value} {below : List Frame} {meth : Method} {c : Code} {D : va_G} {cy : Nat → ClassId} {z : Nat} {n : Nat} {Y : mY} {G : mG} (hx : p.tables.exec = Jvm.exec) (hb : c.code = cX4_undo) (hr : meth.sig.returnType = (some .int)) (hml : c.maxLocals = 2) (hown : s.vm.findClass RX4 = some m.cls) (hts : ∀ w ∈ lw_all, w.before args s = true) (hlocks : meth.locks = false) (hE : En D cy s) (x : Int32 × mV) : ∀ (k : Nat) (V : mV) (j0 : Nat) (j1 : Int32) (H : Heap) (locs : List Loc) (ls : Array Slot), lp_X4_undo_22 Y G k V j0 j1 = some x → Wd Y cy D z n V G H → va_S (zA z) s.heap H locs → lv_has ls 2 [(0, .ref j0), (1, .int j1)] → W p l e (rmd 0) s m args below meth c H locs 0 0 (MQ below (QC D cy z Y n x.2 G (some (.int x.1))) args s 0 0 (zA z)) (F0 m 22 ls []) := by
  intro k
  induction k with
  | zero =>
    intro V j0 j1 H locs ls hcf
    have hcf : none = some _ := hcf
    cases hcf
  | succ k ih =>
    intro V j0 j1 H locs ls hcf hW hS hl
    rw [lp_X4_undo_22] at hcf
    refine lv_iload_n hx hb dX4_undo_22 rfl (lv_at hl 1 rfl) ?_
    refine lv_sipush (v := (146 : Int32)) hx hb dX4_undo_23 (by decide) ?_
    refine lv_icmp_ge (tgt := 56) hx hb dX4_undo_26 (by decide) (fun q3 => ?_) (fun q3 => ?_)
    · replace hcf := (if_pos q3).symm.trans hcf
      refine lv_aload_n hx hb dX4_undo_56 rfl (lv_at hl 0 rfl) ?_
      obtain ⟨q4, hcf⟩ := og hcf
      refine gf_X4_29 hx hb hts hown hE hW q4 dX4_undo_57 ?_
      have hcf := Option.some.inj hcf; subst hcf
      exact wk_iret hx hb hr hlocks hW hS dX4_undo_60
    · replace hcf := (if_neg q3).symm.trans hcf
      refine lv_aload_n hx hb dX4_undo_29 rfl (lv_at hl 0 rfl) ?_
      obtain ⟨q5, hcf⟩ := og hcf
      obtain ⟨r6, hr6, hcf⟩ := ob hcf
      refine gf_X4_7 hx hb hts hown hE hW q5 hr6 dX4_undo_30 ?_
      refine lv_iload_n hx hb dX4_undo_33 rfl (lv_at hl 1 rfl) ?_
      refine lv_aload_n hx hb dX4_undo_34 rfl (lv_at hl 0 rfl) ?_
      obtain ⟨r7, hr7, hcf⟩ := ob hcf
      refine gf_X4_19 hx hb hts hown hE hW q5 hr7 dX4_undo_35 ?_
      refine lv_sipush (v := (146 : Int32)) hx hb dX4_undo_38 (by decide) ?_
      refine lv_aload_n hx hb dX4_undo_41 rfl (lv_at hl 0 rfl) ?_
      refine gf_X4_29 hx hb hts hown hE hW q5 dX4_undo_42 ?_
      refine lv_imul hx hb dX4_undo_45 ?_
      refine lv_iload_n hx hb dX4_undo_46 rfl (lv_at hl 1 rfl) ?_
      refine lv_iadd hx hb dX4_undo_47 ?_
      obtain ⟨q8, hcf⟩ := og hcf
      obtain ⟨q9, hcf⟩ := og hcf
      refine wk_iald hx hb hE hW q8 q9 dX4_undo_48 ?_
      obtain ⟨q10, hcf⟩ := og hcf
      obtain ⟨q11, hcf⟩ := og hcf
      refine wk_iast hx hb hE hW hS q10 q11 dX4_undo_49 (fun H locs hW hS => ?_)
      refine lv_iinc (v := (j1 + 1)) (lv' := [(1, .int (j1 + 1)), (0, .ref j0)]) hx hb dX4_undo_50 hl (k := 1) rfl rfl (by decide) rfl (fun ls hl => ?_)
      refine lv_goto (tgt := 22) hx hb dX4_undo_53 (by decide) ?_
      exact ih (up2 V r6 j1.toNatClampNeg (V r7 (((146 : Int32) * (V j0 4)) + j1).toNatClampNeg)) j0 (j1 + 1) _ _ _ hcf hW hS (lv_sub hl [1, 0] rfl)
set_option maxHeartbeats 4000000 in
set_option maxRecDepth 100000 in
theorem ct_X4_undo (l : Launch) (D : va_G) (cy : Nat → ClassId) (z n : Nat) (Y : mY) (V : mV) (G : mG) (a0 : Nat) (x : Int32 × mV) (hcf : cf_X4_undo Y V G a0 = some x) : CT l yX4_undo cX4_undo 2 (some .int) (rmd 0) D cy z [.ref a0] Y n V G (some (.int x.1)) Y n x.2 G := by
  refine ct_of (by decide) (Nat.le_of_ble_eq_true rfl) ?_
  intro p e s m args below meth c ls hx hb hr hml hown hts hlocks hnm hE hW hl
  have hS : va_S (zA z) s.heap s.heap [] := va_S.rf
  have hl : lv_has ls 2 [(0, .ref a0)] := hl
  have hown : s.vm.findClass RX4 = some m.cls := hown
  rw [cf_X4_undo] at hcf
  refine lv_aload_n hx hb dX4_undo_0 rfl (lv_at hl 0 rfl) ?_
  obtain ⟨q1, hcf⟩ := og hcf
  refine gf_X4_29 hx hb hts hown hE hW q1 dX4_undo_1 ?_
  refine lv_if_ne (tgt := 10) hx hb dX4_undo_4 (by decide) (fun q2 => ?_) (fun q2 => ?_)
  · replace hcf := (if_neg q2).symm.trans hcf
    refine lv_aload_n hx hb dX4_undo_10 rfl (lv_at hl 0 rfl) ?_
    refine lv_dup hx hb dX4_undo_11 rfl ?_
    refine gf_X4_29 hx hb hts hown hE hW q1 dX4_undo_12 ?_
    refine lv_iconst (v := (1 : Int32)) hx hb dX4_undo_15 (by decide) ?_
    refine lv_isub hx hb dX4_undo_16 ?_
    refine pf_X4_29 hx hb hts hown hE hW hS q1 ((V a0 4) - (1 : Int32)) dX4_undo_17 (fun H locs hW hS => ?_)
    refine lv_iconst (v := (0 : Int32)) hx hb dX4_undo_20 (by decide) ?_
    refine lv_istore_n (lv' := [(1, .int (0 : Int32)), (0, .ref a0)]) hx hb dX4_undo_21 rfl hl (by decide) rfl (fun ls hl => ?_)
    exact wl_X4_undo_22 hx hb hr hml hown hts hlocks hE x fuB (up2 V a0 4 ((V a0 4) - (1 : Int32))) a0 (0 : Int32) _ _ _ hcf hW hS (lv_sub hl [1, 0] rfl)
  · replace hcf := (if_pos q2).symm.trans hcf
    refine lv_ldc hx hb hown (hts _ q677) dX4_undo_7 ?_
    have hcf := Option.some.inj hcf; subst hcf
    exact wk_iret hx hb hr hlocks hW hS dX4_undo_9
set_option maxHeartbeats 4000000 in
set_option maxRecDepth 100000 in
theorem ct_X4_type (l : Launch) (D : va_G) (cy : Nat → ClassId) (z n : Nat) (Y : mY) (V : mV) (G : mG) (a0 : Nat) (b1 : Int32) (x : Int32 × mV) (hcf : cf_X4_type Y V G a0 b1 = some x) : CT l yX4_type cX4_type 2 (some .int) (rmd 1) D cy z [.ref a0, .int b1] Y n V G (some (.int x.1)) Y n x.2 G := by
  refine ct_of (by decide) (Nat.le_of_ble_eq_true rfl) ?_
  intro p e s m args below meth c ls hx hb hr hml hown hts hlocks hnm hE hW hl
  have hS : va_S (zA z) s.heap s.heap [] := va_S.rf
  have hl : lv_has ls 2 [(0, .ref a0), (1, .int b1)] := hl
  have hown : s.vm.findClass RX4 = some m.cls := hown
  rw [cf_X4_type] at hcf
  refine lv_iload_n hx hb dX4_type_0 rfl (lv_at hl 1 rfl) ?_
  refine lv_i2l hx hb dX4_type_1 rfl ?_
  refine lv_ldc2 hx hb hown (hts _ q912) dX4_type_2 ?_
  refine lv_ldc2 hx hb hown (hts _ q913) dX4_type_5 ?_
  obtain ⟨x1, hx1, hcf⟩ := ob hcf
  refine iv_X4_40 (As := [.long ((b1).toInt64), .long (32 : Int64), .long (126 : Int64)]) (rest := []) hx hb hml hown hts hE (ct_X4_in l D cy z n Y V G ((b1).toInt64) (32 : Int64) (126 : Int64) x1 hx1) hW hS rfl rfl hl.1 (Nat.le_of_ble_eq_true rfl) ⟨Nat.le_of_ble_eq_true rfl, Nat.le_of_ble_eq_true rfl⟩ dX4_type_8 ⟨Nat.zero_le _, Nat.zero_le _⟩ (fun H locs hW hS => ?_)
  refine lv_if_ne (tgt := 17) hx hb dX4_type_11 (by decide) (fun q2 => ?_) (fun q2 => ?_)
  · replace hcf := (if_neg q2).symm.trans hcf
    refine lv_aload_n hx hb dX4_type_17 rfl (lv_at hl 0 rfl) ?_
    obtain ⟨q3, hcf⟩ := og hcf
    refine gf_X4_204 hx hb hts hown hE hW q3 dX4_type_18 ?_
    refine lv_bipush (v := (80 : Int32)) hx hb dX4_type_21 (by decide) ?_
    refine lv_icmp_ne (tgt := 29) hx hb dX4_type_23 (by decide) (fun q4 => ?_) (fun q4 => ?_)
    · replace hcf := (if_neg q4).symm.trans hcf
      refine lv_aload_n hx hb dX4_type_29 rfl (lv_at hl 0 rfl) ?_
      obtain ⟨r5, hr5, hcf⟩ := ob hcf
      refine gf_X4_22 hx hb hts hown hE hW q3 hr5 dX4_type_30 ?_
      refine lv_aload_n hx hb dX4_type_33 rfl (lv_at hl 0 rfl) ?_
      refine gf_X4_204 hx hb hts hown hE hW q3 dX4_type_34 ?_
      refine lv_iload_n hx hb dX4_type_37 rfl (lv_at hl 1 rfl) ?_
      obtain ⟨q6, hcf⟩ := og hcf
      obtain ⟨q7, hcf⟩ := og hcf
      refine wk_iast hx hb hE hW hS q6 q7 dX4_type_38 (fun H locs hW hS => ?_)
      refine lv_aload_n hx hb dX4_type_39 rfl (lv_at hl 0 rfl) ?_
      refine lv_dup hx hb dX4_type_40 rfl ?_
      refine gf_X4_204 hx hb hts hown hE hW q3 dX4_type_41 ?_
      refine lv_iconst (v := (1 : Int32)) hx hb dX4_type_44 (by decide) ?_
      refine lv_iadd hx hb dX4_type_45 ?_
      refine pf_X4_204 hx hb hts hown hE hW hS q3 (((up2 V r5 (V a0 6).toNatClampNeg b1) a0 6) + (1 : Int32)) dX4_type_46 (fun H locs hW hS => ?_)
      obtain ⟨V8, hV8, hcf⟩ := ob hcf
      rw [Option.some.inj hV8] at hW
      refine lv_aload_n hx hb dX4_type_49 rfl (lv_at hl 0 rfl) ?_
      refine gf_X4_204 hx hb hts hown hE hW q3 dX4_type_50 ?_
      have hcf := Option.some.inj hcf; subst hcf
      exact wk_iret hx hb hr hlocks hW hS dX4_type_53
    · replace hcf := (if_pos q4).symm.trans hcf
      refine lv_ldc hx hb hown (hts _ q678) dX4_type_26 ?_
      have hcf := Option.some.inj hcf; subst hcf
      exact wk_iret hx hb hr hlocks hW hS dX4_type_28
  · replace hcf := (if_pos q2).symm.trans hcf
    refine lv_ldc hx hb hown (hts _ q672) dX4_type_14 ?_
    have hcf := Option.some.inj hcf; subst hcf
    exact wk_iret hx hb hr hlocks hW hS dX4_type_16
set_option maxHeartbeats 4000000 in
set_option maxRecDepth 100000 in
theorem ct_X4_clearText (l : Launch) (D : va_G) (cy : Nat → ClassId) (z n : Nat) (Y : mY) (V : mV) (G : mG) (a0 : Nat) (x : Int32 × mV) (hcf : cf_X4_clearText Y V G a0 = some x) : CT l yX4_clearText cX4_clearText 2 (some .int) (rmd 0) D cy z [.ref a0] Y n V G (some (.int x.1)) Y n x.2 G := by
  refine ct_of (by decide) (Nat.le_of_ble_eq_true rfl) ?_
  intro p e s m args below meth c ls hx hb hr hml hown hts hlocks hnm hE hW hl
  have hS : va_S (zA z) s.heap s.heap [] := va_S.rf
  have hl : lv_has ls 2 [(0, .ref a0)] := hl
  have hown : s.vm.findClass RX4 = some m.cls := hown
  rw [cf_X4_clearText] at hcf
  refine lv_aload_n hx hb dX4_clearText_0 rfl (lv_at hl 0 rfl) ?_
  obtain ⟨q1, hcf⟩ := og hcf
  refine gf_X4_204 hx hb hts hown hE hW q1 dX4_clearText_1 ?_
  refine lv_istore_n (lv' := [(1, .int (V a0 6)), (0, .ref a0)]) hx hb dX4_clearText_4 rfl hl (by decide) rfl (fun ls hl => ?_)
  refine lv_aload_n hx hb dX4_clearText_5 rfl (lv_at hl 1 rfl) ?_
  refine lv_iconst (v := (0 : Int32)) hx hb dX4_clearText_6 (by decide) ?_
  refine pf_X4_204 hx hb hts hown hE hW hS q1 (0 : Int32) dX4_clearText_7 (fun H locs hW hS => ?_)
  refine lv_iload_n hx hb dX4_clearText_10 rfl (lv_at hl 0 rfl) ?_
  have hcf := Option.some.inj hcf; subst hcf
  exact wk_iret hx hb hr hlocks hW hS dX4_clearText_11
set_option maxHeartbeats 4000000 in
set_option maxRecDepth 100000 in
theorem ct_X4_numbersOf (l : Launch) (D : va_G) (cy : Nat → ClassId) (z n : Nat) (Y : mY) (V : mV) (G : mG) (b1 : Int32) (x : Int32) (hcf : cf_X4_numbersOf b1 = some x) : CT l yX4_numbersOf cX4_numbersOf 1 (some .int) (rmd 0) D cy z [.int b1] Y n V G (some (.int x)) Y n V G := by
  refine ct_of (by decide) (Nat.le_of_ble_eq_true rfl) ?_
  intro p e s m args below meth c ls hx hb hr hml hown hts hlocks hnm hE hW hl
  have hS : va_S (zA z) s.heap s.heap [] := va_S.rf
  have hl : lv_has ls 1 [(0, .int b1)] := hl
  have hown : s.vm.findClass RX4 = some m.cls := hown
  rw [cf_X4_numbersOf] at hcf
  refine lv_iload_n hx hb dX4_numbersOf_0 rfl (lv_at hl 0 rfl) ?_
  by_cases q1 : b1 = (97 : Int32)
  · replace hcf := (if_pos q1).symm.trans hcf
    refine wk_tsw (off := 81) (tgt := 82) hx hb dX4_numbersOf_1 (by rw [q1]; rfl) (by decide) ?_
    refine lv_iconst (v := (2 : Int32)) hx hb dX4_numbersOf_82 (by decide) ?_
    have hcf := Option.some.inj hcf; subst hcf
    exact wk_iret hx hb hr hlocks hW hS dX4_numbersOf_83
  · replace hcf := (if_neg q1).symm.trans hcf
    by_cases q2 : b1 = (98 : Int32)
    · replace hcf := (if_pos q2).symm.trans hcf
      refine wk_tsw (off := 83) (tgt := 84) hx hb dX4_numbersOf_1 (by rw [q2]; rfl) (by decide) ?_
      refine lv_iconst (v := (1 : Int32)) hx hb dX4_numbersOf_84 (by decide) ?_
      have hcf := Option.some.inj hcf; subst hcf
      exact wk_iret hx hb hr hlocks hW hS dX4_numbersOf_85
    · replace hcf := (if_neg q2).symm.trans hcf
      by_cases q3 : b1 = (99 : Int32)
      · replace hcf := (if_pos q3).symm.trans hcf
        refine wk_tsw (off := 79) (tgt := 80) hx hb dX4_numbersOf_1 (by rw [q3]; rfl) (by decide) ?_
        refine lv_iconst (v := (4 : Int32)) hx hb dX4_numbersOf_80 (by decide) ?_
        have hcf := Option.some.inj hcf; subst hcf
        exact wk_iret hx hb hr hlocks hW hS dX4_numbersOf_81
      · replace hcf := (if_neg q3).symm.trans hcf
        by_cases q4 : b1 = (100 : Int32)
        · replace hcf := (if_pos q4).symm.trans hcf
          refine wk_tsw (off := 81) (tgt := 82) hx hb dX4_numbersOf_1 (by rw [q4]; rfl) (by decide) ?_
          refine lv_iconst (v := (2 : Int32)) hx hb dX4_numbersOf_82 (by decide) ?_
          have hcf := Option.some.inj hcf; subst hcf
          exact wk_iret hx hb hr hlocks hW hS dX4_numbersOf_83
        · replace hcf := (if_neg q4).symm.trans hcf
          by_cases q5 : b1 = (102 : Int32)
          · replace hcf := (if_pos q5).symm.trans hcf
            refine wk_tsw (off := 83) (tgt := 84) hx hb dX4_numbersOf_1 (by rw [q5]; rfl) (by decide) ?_
            refine lv_iconst (v := (1 : Int32)) hx hb dX4_numbersOf_84 (by decide) ?_
            have hcf := Option.some.inj hcf; subst hcf
            exact wk_iret hx hb hr hlocks hW hS dX4_numbersOf_85
          · replace hcf := (if_neg q5).symm.trans hcf
            by_cases q6 : b1 = (112 : Int32)
            · replace hcf := (if_pos q6).symm.trans hcf
              refine wk_tsw (off := 83) (tgt := 84) hx hb dX4_numbersOf_1 (by rw [q6]; rfl) (by decide) ?_
              refine lv_iconst (v := (1 : Int32)) hx hb dX4_numbersOf_84 (by decide) ?_
              have hcf := Option.some.inj hcf; subst hcf
              exact wk_iret hx hb hr hlocks hW hS dX4_numbersOf_85
            · replace hcf := (if_neg q6).symm.trans hcf
              refine wk_tsw (off := 85) (tgt := 86) hx hb dX4_numbersOf_1 (by have eq1 := lv_neT q1 (a := 97) rfl; have eq2 := lv_neT q2 (a := 98) rfl; have eq3 := lv_neT q3 (a := 99) rfl; have eq4 := lv_neT q4 (a := 100) rfl; have eq5 := lv_neT q5 (a := 102) rfl; have eq6 := lv_neT q6 (a := 112) rfl; by_cases hh : (b1).toInt < 97 ∨ 112 < (b1).toInt; exact if_pos hh; rcases (show (b1).toInt = 101 ∨ (b1).toInt = 103 ∨ (b1).toInt = 104 ∨ (b1).toInt = 105 ∨ (b1).toInt = 106 ∨ (b1).toInt = 107 ∨ (b1).toInt = 108 ∨ (b1).toInt = 109 ∨ (b1).toInt = 110 ∨ (b1).toInt = 111 by omega) with hg | hg | hg | hg | hg | hg | hg | hg | hg | hg <;> (rw [sw_off, if_neg hh, hg]; rfl)) (by decide) ?_
              refine lv_iconst (v := (0 : Int32)) hx hb dX4_numbersOf_86 (by decide) ?_
              have hcf := Option.some.inj hcf; subst hcf
              exact wk_iret hx hb hr hlocks hW hS dX4_numbersOf_87
set_option maxHeartbeats 4000000 in
set_option maxRecDepth 100000 in
theorem ct_X4_takes (l : Launch) (D : va_G) (cy : Nat → ClassId) (z n : Nat) (Y : mY) (V : mV) (G : mG) (a0 : Nat) (b1 : Int32) (x : Int32 × mV) (hcf : cf_X4_takes Y V G a0 b1 = some x) : CT l yX4_takes cX4_takes 3 (some .boolean) (rmd 0) D cy z [.ref a0, .int b1] Y n V G (some (.int x.1)) Y n x.2 G := by
  refine ct_of (by decide) (Nat.le_of_ble_eq_true rfl) ?_
  intro p e s m args below meth c ls hx hb hr hml hown hts hlocks hnm hE hW hl
  have hS : va_S (zA z) s.heap s.heap [] := va_S.rf
  have hl : lv_has ls 3 [(0, .ref a0), (1, .int b1)] := hl
  have hown : s.vm.findClass RX4 = some m.cls := hown
  rw [cf_X4_takes] at hcf
  refine lv_aload_n hx hb dX4_takes_0 rfl (lv_at hl 0 rfl) ?_
  obtain ⟨q1, hcf⟩ := og hcf
  refine gf_X4_211 hx hb hts hown hE hW q1 dX4_takes_1 ?_
  refine lv_aload_n hx hb dX4_takes_4 rfl (lv_at hl 0 rfl) ?_
  refine gf_X4_204 hx hb hts hown hE hW q1 dX4_takes_5 ?_
  refine lv_icmp_ge (tgt := 28) hx hb dX4_takes_8 (by decide) (fun q2 => ?_) (fun q2 => ?_)
  · replace hcf := (if_pos q2).symm.trans hcf
    refine lv_iconst (v := (0 : Int32)) hx hb dX4_takes_28 (by decide) ?_
    refine lv_istore_n (lv' := [(2, .int (0 : Int32)), (0, .ref a0), (1, .int b1)]) hx hb dX4_takes_29 rfl hl (by decide) rfl (fun ls hl => ?_)
    refine lv_aload_n hx hb dX4_takes_30 rfl (lv_at hl 1 rfl) ?_
    refine lv_dup hx hb dX4_takes_31 rfl ?_
    refine gf_X4_211 hx hb hts hown hE hW q1 dX4_takes_32 ?_
    refine lv_iload_n hx hb dX4_takes_35 rfl (lv_at hl 0 rfl) ?_
    refine lv_if_eq (tgt := 43) hx hb dX4_takes_36 (by decide) (fun q3 => ?_) (fun q3 => ?_)
    · replace hcf := (if_pos q3).symm.trans hcf
      refine lv_iconst (v := (0 : Int32)) hx hb dX4_takes_43 (by decide) ?_
      refine lv_iadd hx hb dX4_takes_44 ?_
      refine pf_X4_211 hx hb hts hown hE hW hS q1 ((V a0 8) + (0 : Int32)) dX4_takes_45 (fun H locs hW hS => ?_)
      refine lv_iload_n hx hb dX4_takes_48 rfl (lv_at hl 0 rfl) ?_
      have hcf := Option.some.inj hcf; subst hcf
      exact wk_zret hx hb hr hlocks (Or.inl rfl) hW hS dX4_takes_49
    · replace hcf := (if_neg q3).symm.trans hcf
      refine lv_iconst (v := (1 : Int32)) hx hb dX4_takes_39 (by decide) ?_
      refine lv_goto (tgt := 44) hx hb dX4_takes_40 (by decide) ?_
      refine lv_iadd hx hb dX4_takes_44 ?_
      refine pf_X4_211 hx hb hts hown hE hW hS q1 ((V a0 8) + (1 : Int32)) dX4_takes_45 (fun H locs hW hS => ?_)
      refine lv_iload_n hx hb dX4_takes_48 rfl (lv_at hl 0 rfl) ?_
      have hcf := Option.some.inj hcf; subst hcf
      exact wk_zret hx hb hr hlocks (Or.inl rfl) hW hS dX4_takes_49
  · replace hcf := (if_neg q2).symm.trans hcf
    refine lv_aload_n hx hb dX4_takes_11 rfl (lv_at hl 0 rfl) ?_
    obtain ⟨r4, hr4, hcf⟩ := ob hcf
    refine gf_X4_22 hx hb hts hown hE hW q1 hr4 dX4_takes_12 ?_
    refine lv_aload_n hx hb dX4_takes_15 rfl (lv_at hl 0 rfl) ?_
    refine gf_X4_211 hx hb hts hown hE hW q1 dX4_takes_16 ?_
    obtain ⟨q5, hcf⟩ := og hcf
    obtain ⟨q6, hcf⟩ := og hcf
    refine wk_iald hx hb hE hW q5 q6 dX4_takes_19 ?_
    refine lv_iload_n hx hb dX4_takes_20 rfl (lv_at hl 1 rfl) ?_
    refine lv_icmp_ne (tgt := 28) hx hb dX4_takes_21 (by decide) (fun q7 => ?_) (fun q7 => ?_)
    · replace hcf := (if_neg q7).symm.trans hcf
      refine lv_iconst (v := (0 : Int32)) hx hb dX4_takes_28 (by decide) ?_
      refine lv_istore_n (lv' := [(2, .int (0 : Int32)), (0, .ref a0), (1, .int b1)]) hx hb dX4_takes_29 rfl hl (by decide) rfl (fun ls hl => ?_)
      refine lv_aload_n hx hb dX4_takes_30 rfl (lv_at hl 1 rfl) ?_
      refine lv_dup hx hb dX4_takes_31 rfl ?_
      refine gf_X4_211 hx hb hts hown hE hW q1 dX4_takes_32 ?_
      refine lv_iload_n hx hb dX4_takes_35 rfl (lv_at hl 0 rfl) ?_
      refine lv_if_eq (tgt := 43) hx hb dX4_takes_36 (by decide) (fun q8 => ?_) (fun q8 => ?_)
      · replace hcf := (if_pos q8).symm.trans hcf
        refine lv_iconst (v := (0 : Int32)) hx hb dX4_takes_43 (by decide) ?_
        refine lv_iadd hx hb dX4_takes_44 ?_
        refine pf_X4_211 hx hb hts hown hE hW hS q1 ((V a0 8) + (0 : Int32)) dX4_takes_45 (fun H locs hW hS => ?_)
        refine lv_iload_n hx hb dX4_takes_48 rfl (lv_at hl 0 rfl) ?_
        have hcf := Option.some.inj hcf; subst hcf
        exact wk_zret hx hb hr hlocks (Or.inl rfl) hW hS dX4_takes_49
      · replace hcf := (if_neg q8).symm.trans hcf
        refine lv_iconst (v := (1 : Int32)) hx hb dX4_takes_39 (by decide) ?_
        refine lv_goto (tgt := 44) hx hb dX4_takes_40 (by decide) ?_
        refine lv_iadd hx hb dX4_takes_44 ?_
        refine pf_X4_211 hx hb hts hown hE hW hS q1 ((V a0 8) + (1 : Int32)) dX4_takes_45 (fun H locs hW hS => ?_)
        refine lv_iload_n hx hb dX4_takes_48 rfl (lv_at hl 0 rfl) ?_
        have hcf := Option.some.inj hcf; subst hcf
        exact wk_zret hx hb hr hlocks (Or.inl rfl) hW hS dX4_takes_49
    · replace hcf := (if_pos q7).symm.trans hcf
      refine lv_iconst (v := (1 : Int32)) hx hb dX4_takes_24 (by decide) ?_
      refine lv_goto (tgt := 29) hx hb dX4_takes_25 (by decide) ?_
      refine lv_istore_n (lv' := [(2, .int (1 : Int32)), (0, .ref a0), (1, .int b1)]) hx hb dX4_takes_29 rfl hl (by decide) rfl (fun ls hl => ?_)
      refine lv_aload_n hx hb dX4_takes_30 rfl (lv_at hl 1 rfl) ?_
      refine lv_dup hx hb dX4_takes_31 rfl ?_
      refine gf_X4_211 hx hb hts hown hE hW q1 dX4_takes_32 ?_
      refine lv_iload_n hx hb dX4_takes_35 rfl (lv_at hl 0 rfl) ?_
      refine lv_if_eq (tgt := 43) hx hb dX4_takes_36 (by decide) (fun q9 => ?_) (fun q9 => ?_)
      · replace hcf := (if_pos q9).symm.trans hcf
        refine lv_iconst (v := (0 : Int32)) hx hb dX4_takes_43 (by decide) ?_
        refine lv_iadd hx hb dX4_takes_44 ?_
        refine pf_X4_211 hx hb hts hown hE hW hS q1 ((V a0 8) + (0 : Int32)) dX4_takes_45 (fun H locs hW hS => ?_)
        refine lv_iload_n hx hb dX4_takes_48 rfl (lv_at hl 0 rfl) ?_
        have hcf := Option.some.inj hcf; subst hcf
        exact wk_zret hx hb hr hlocks (Or.inr rfl) hW hS dX4_takes_49
      · replace hcf := (if_neg q9).symm.trans hcf
        refine lv_iconst (v := (1 : Int32)) hx hb dX4_takes_39 (by decide) ?_
        refine lv_goto (tgt := 44) hx hb dX4_takes_40 (by decide) ?_
        refine lv_iadd hx hb dX4_takes_44 ?_
        refine pf_X4_211 hx hb hts hown hE hW hS q1 ((V a0 8) + (1 : Int32)) dX4_takes_45 (fun H locs hW hS => ?_)
        refine lv_iload_n hx hb dX4_takes_48 rfl (lv_at hl 0 rfl) ?_
        have hcf := Option.some.inj hcf; subst hcf
        exact wk_zret hx hb hr hlocks (Or.inr rfl) hW hS dX4_takes_49
set_option maxHeartbeats 4000000 in
set_option maxRecDepth 100000 in
theorem wl_X4_takesNumber_12 {p : Program} {l : Launch} {e : Env} {s : State} {m : MethodId} {args : Array Value} {below : List Frame} {meth : Method} {c : Code} {D : va_G} {cy : Nat → ClassId} {z : Nat} {n : Nat} {Y : mY} {G : mG} (hx : p.tables.exec = Jvm.exec) (hb : c.code = cX4_takesNumber) (hr : meth.sig.returnType = (some .boolean)) (hml : c.maxLocals = 3) (hown : s.vm.findClass RX4 = some m.cls) (hts : ∀ w ∈ lw_all, w.before args s = true) (hlocks : meth.locks = false) (hE : En D cy s) (x : Int32 × mV) : ∀ (k : Nat) (V : mV) (j0 : Nat) (j1 : Int32) (j2 : Int32) (H : Heap) (locs : List Loc) (ls : Array Slot), lp_X4_takesNumber_12 Y G k V j0 j1 j2 = some x → Wd Y cy D z n V G H → va_S (zA z) s.heap H locs → lv_has ls 3 [(0, .ref j0), (1, .int j1), (2, .int j2)] → W p l e (rmd 1) s m args below meth c H locs 0 0 (MQ below (QC D cy z Y n x.2 G (some (.int x.1))) args s 0 0 (zA z)) (F0 m 12 ls []) := by
  intro k
  induction k with
  | zero =>
    intro V j0 j1 j2 H locs ls hcf
    have hcf : none = some _ := hcf
    cases hcf
  | succ k ih =>
    intro V j0 j1 j2 H locs ls hcf hW hS hl
    rw [lp_X4_takesNumber_12] at hcf
    refine lv_aload_n hx hb dX4_takesNumber_12 rfl (lv_at hl 0 rfl) ?_
    obtain ⟨q5, hcf⟩ := og hcf
    refine gf_X4_211 hx hb hts hown hE hW q5 dX4_takesNumber_13 ?_
    refine lv_aload_n hx hb dX4_takesNumber_16 rfl (lv_at hl 0 rfl) ?_
    refine gf_X4_204 hx hb hts hown hE hW q5 dX4_takesNumber_17 ?_
    refine lv_icmp_ge (tgt := 96) hx hb dX4_takesNumber_20 (by decide) (fun q6 => ?_) (fun q6 => ?_)
    · replace hcf := (if_pos q6).symm.trans hcf
      refine lv_aload_n hx hb dX4_takesNumber_96 rfl (lv_at hl 0 rfl) ?_
      refine gf_X4_211 hx hb hts hown hE hW q5 dX4_takesNumber_97 ?_
      refine lv_iload_n hx hb dX4_takesNumber_100 rfl (lv_at hl 2 rfl) ?_
      refine lv_icmp_le (tgt := 108) hx hb dX4_takesNumber_101 (by decide) (fun q7 => ?_) (fun q7 => ?_)
      · replace hcf := (if_pos q7).symm.trans hcf
        refine lv_iconst (v := (0 : Int32)) hx hb dX4_takesNumber_108 (by decide) ?_
        have hcf := Option.some.inj hcf; subst hcf
        exact wk_zret hx hb hr hlocks (Or.inl rfl) hW hS dX4_takesNumber_109
      · replace hcf := (if_neg q7).symm.trans hcf
        refine lv_iconst (v := (1 : Int32)) hx hb dX4_takesNumber_104 (by decide) ?_
        refine lv_goto (tgt := 109) hx hb dX4_takesNumber_105 (by decide) ?_
        have hcf := Option.some.inj hcf; subst hcf
        exact wk_zret hx hb hr hlocks (Or.inr rfl) hW hS dX4_takesNumber_109
    · replace hcf := (if_neg q6).symm.trans hcf
      refine lv_aload_n hx hb dX4_takesNumber_23 rfl (lv_at hl 0 rfl) ?_
      refine gf_X4_211 hx hb hts hown hE hW q5 dX4_takesNumber_24 ?_
      refine lv_iload_n hx hb dX4_takesNumber_27 rfl (lv_at hl 2 rfl) ?_
      refine lv_iconst (v := (3 : Int32)) hx hb dX4_takesNumber_28 (by decide) ?_
      refine lv_iadd hx hb dX4_takesNumber_29 ?_
      refine lv_icmp_ge (tgt := 96) hx hb dX4_takesNumber_30 (by decide) (fun q8 => ?_) (fun q8 => ?_)
      · replace hcf := (if_pos q8).symm.trans hcf
        refine lv_aload_n hx hb dX4_takesNumber_96 rfl (lv_at hl 0 rfl) ?_
        refine gf_X4_211 hx hb hts hown hE hW q5 dX4_takesNumber_97 ?_
        refine lv_iload_n hx hb dX4_takesNumber_100 rfl (lv_at hl 2 rfl) ?_
        refine lv_icmp_le (tgt := 108) hx hb dX4_takesNumber_101 (by decide) (fun q9 => ?_) (fun q9 => ?_)
        · replace hcf := (if_pos q9).symm.trans hcf
          refine lv_iconst (v := (0 : Int32)) hx hb dX4_takesNumber_108 (by decide) ?_
          have hcf := Option.some.inj hcf; subst hcf
          exact wk_zret hx hb hr hlocks (Or.inl rfl) hW hS dX4_takesNumber_109
        · replace hcf := (if_neg q9).symm.trans hcf
          refine lv_iconst (v := (1 : Int32)) hx hb dX4_takesNumber_104 (by decide) ?_
          refine lv_goto (tgt := 109) hx hb dX4_takesNumber_105 (by decide) ?_
          have hcf := Option.some.inj hcf; subst hcf
          exact wk_zret hx hb hr hlocks (Or.inr rfl) hW hS dX4_takesNumber_109
      · replace hcf := (if_neg q8).symm.trans hcf
        refine lv_aload_n hx hb dX4_takesNumber_33 rfl (lv_at hl 0 rfl) ?_
        obtain ⟨r10, hr10, hcf⟩ := ob hcf
        refine gf_X4_22 hx hb hts hown hE hW q5 hr10 dX4_takesNumber_34 ?_
        refine lv_aload_n hx hb dX4_takesNumber_37 rfl (lv_at hl 0 rfl) ?_
        refine gf_X4_211 hx hb hts hown hE hW q5 dX4_takesNumber_38 ?_
        obtain ⟨q11, hcf⟩ := og hcf
        obtain ⟨q12, hcf⟩ := og hcf
        refine wk_iald hx hb hE hW q11 q12 dX4_takesNumber_41 ?_
        refine lv_i2l hx hb dX4_takesNumber_42 rfl ?_
        refine lv_ldc2 hx hb hown (hts _ q941) dX4_takesNumber_43 ?_
        refine lv_ldc2 hx hb hown (hts _ q942) dX4_takesNumber_46 ?_
        obtain ⟨x13, hx13, hcf⟩ := ob hcf
        refine iv_X4_40 (As := [.long (((V r10 (V j0 8).toNatClampNeg)).toInt64), .long (48 : Int64), .long (57 : Int64)]) (rest := []) hx hb hml hown hts hE (ct_X4_in l D cy z n Y V G (((V r10 (V j0 8).toNatClampNeg)).toInt64) (48 : Int64) (57 : Int64) x13 hx13) hW hS rfl rfl hl.1 (Nat.le_of_ble_eq_true rfl) ⟨Nat.le_of_ble_eq_true rfl, Nat.le_of_ble_eq_true rfl⟩ dX4_takesNumber_49 ⟨Nat.zero_le _, Nat.zero_le _⟩ (fun H locs hW hS => ?_)
        refine lv_if_eq (tgt := 96) hx hb dX4_takesNumber_52 (by decide) (fun q14 => ?_) (fun q14 => ?_)
        · replace hcf := (if_pos q14).symm.trans hcf
          refine lv_aload_n hx hb dX4_takesNumber_96 rfl (lv_at hl 0 rfl) ?_
          refine gf_X4_211 hx hb hts hown hE hW q5 dX4_takesNumber_97 ?_
          refine lv_iload_n hx hb dX4_takesNumber_100 rfl (lv_at hl 2 rfl) ?_
          refine lv_icmp_le (tgt := 108) hx hb dX4_takesNumber_101 (by decide) (fun q15 => ?_) (fun q15 => ?_)
          · replace hcf := (if_pos q15).symm.trans hcf
            refine lv_iconst (v := (0 : Int32)) hx hb dX4_takesNumber_108 (by decide) ?_
            have hcf := Option.some.inj hcf; subst hcf
            exact wk_zret hx hb hr hlocks (Or.inl rfl) hW hS dX4_takesNumber_109
          · replace hcf := (if_neg q15).symm.trans hcf
            refine lv_iconst (v := (1 : Int32)) hx hb dX4_takesNumber_104 (by decide) ?_
            refine lv_goto (tgt := 109) hx hb dX4_takesNumber_105 (by decide) ?_
            have hcf := Option.some.inj hcf; subst hcf
            exact wk_zret hx hb hr hlocks (Or.inr rfl) hW hS dX4_takesNumber_109
        · replace hcf := (if_neg q14).symm.trans hcf
          refine lv_aload_n hx hb dX4_takesNumber_55 rfl (lv_at hl 0 rfl) ?_
          obtain ⟨r16, hr16, hcf⟩ := ob hcf
          refine gf_X4_25 hx hb hts hown hE hW q5 hr16 dX4_takesNumber_56 ?_
          refine lv_iload_n hx hb dX4_takesNumber_59 rfl (lv_at hl 1 rfl) ?_
          refine lv_bipush (v := (10 : Int32)) hx hb dX4_takesNumber_60 (by decide) ?_
          refine lv_aload_n hx hb dX4_takesNumber_62 rfl (lv_at hl 0 rfl) ?_
          refine gf_X4_25 hx hb hts hown hE hW q5 hr16 dX4_takesNumber_63 ?_
          refine lv_iload_n hx hb dX4_takesNumber_66 rfl (lv_at hl 1 rfl) ?_
          obtain ⟨q17, hcf⟩ := og hcf
          obtain ⟨q18, hcf⟩ := og hcf
          refine wk_iald hx hb hE hW q17 q18 dX4_takesNumber_67 ?_
          refine lv_imul hx hb dX4_takesNumber_68 ?_
          refine lv_aload_n hx hb dX4_takesNumber_69 rfl (lv_at hl 0 rfl) ?_
          refine gf_X4_22 hx hb hts hown hE hW q5 hr10 dX4_takesNumber_70 ?_
          refine lv_aload_n hx hb dX4_takesNumber_73 rfl (lv_at hl 0 rfl) ?_
          refine gf_X4_211 hx hb hts hown hE hW q5 dX4_takesNumber_74 ?_
          obtain ⟨q19, hcf⟩ := og hcf
          refine wk_iald hx hb hE hW q11 q19 dX4_takesNumber_77 ?_
          refine lv_iadd hx hb dX4_takesNumber_78 ?_
          refine lv_bipush (v := (48 : Int32)) hx hb dX4_takesNumber_79 (by decide) ?_
          refine lv_isub hx hb dX4_takesNumber_81 ?_
          obtain ⟨q20, hcf⟩ := og hcf
          refine wk_iast hx hb hE hW hS q17 q20 dX4_takesNumber_82 (fun H locs hW hS => ?_)
          obtain ⟨V21, hV21, hcf⟩ := ob hcf
          rw [Option.some.inj hV21] at hW
          refine lv_aload_n hx hb dX4_takesNumber_83 rfl (lv_at hl 0 rfl) ?_
          refine lv_dup hx hb dX4_takesNumber_84 rfl ?_
          refine gf_X4_211 hx hb hts hown hE hW q5 dX4_takesNumber_85 ?_
          refine lv_iconst (v := (1 : Int32)) hx hb dX4_takesNumber_88 (by decide) ?_
          refine lv_iadd hx hb dX4_takesNumber_89 ?_
          refine pf_X4_211 hx hb hts hown hE hW hS q5 ((V21 j0 8) + (1 : Int32)) dX4_takesNumber_90 (fun H locs hW hS => ?_)
          refine lv_goto (tgt := 12) hx hb dX4_takesNumber_93 (by decide) ?_
          exact ih (up2 V21 j0 8 ((V21 j0 8) + (1 : Int32))) j0 j1 j2 _ _ _ hcf hW hS (lv_sub hl [0, 1, 2] rfl)
set_option maxHeartbeats 4000000 in
set_option maxRecDepth 100000 in
theorem ct_X4_takesNumber (l : Launch) (D : va_G) (cy : Nat → ClassId) (z n : Nat) (Y : mY) (V : mV) (G : mG) (a0 : Nat) (b1 : Int32) (x : Int32 × mV) (hcf : cf_X4_takesNumber Y V G a0 b1 = some x) : CT l yX4_takesNumber cX4_takesNumber 3 (some .boolean) (rmd 1) D cy z [.ref a0, .int b1] Y n V G (some (.int x.1)) Y n x.2 G := by
  refine ct_of (by decide) (Nat.le_of_ble_eq_true rfl) ?_
  intro p e s m args below meth c ls hx hb hr hml hown hts hlocks hnm hE hW hl
  have hS : va_S (zA z) s.heap s.heap [] := va_S.rf
  have hl : lv_has ls 3 [(0, .ref a0), (1, .int b1)] := hl
  have hown : s.vm.findClass RX4 = some m.cls := hown
  rw [cf_X4_takesNumber] at hcf
  refine lv_aload_n hx hb dX4_takesNumber_0 rfl (lv_at hl 0 rfl) ?_
  obtain ⟨q1, hcf⟩ := og hcf
  refine gf_X4_211 hx hb hts hown hE hW q1 dX4_takesNumber_1 ?_
  refine lv_istore_n (lv' := [(2, .int (V a0 8)), (0, .ref a0), (1, .int b1)]) hx hb dX4_takesNumber_4 rfl hl (by decide) rfl (fun ls hl => ?_)
  refine lv_aload_n hx hb dX4_takesNumber_5 rfl (lv_at hl 1 rfl) ?_
  obtain ⟨r2, hr2, hcf⟩ := ob hcf
  refine gf_X4_25 hx hb hts hown hE hW q1 hr2 dX4_takesNumber_6 ?_
  refine lv_iload_n hx hb dX4_takesNumber_9 rfl (lv_at hl 2 rfl) ?_
  refine lv_iconst (v := (0 : Int32)) hx hb dX4_takesNumber_10 (by decide) ?_
  obtain ⟨q3, hcf⟩ := og hcf
  obtain ⟨q4, hcf⟩ := og hcf
  refine wk_iast hx hb hE hW hS q3 q4 dX4_takesNumber_11 (fun H locs hW hS => ?_)
  exact wl_X4_takesNumber_12 hx hb hr hml hown hts hlocks hE x fuB (up2 V r2 b1.toNatClampNeg (0 : Int32)) a0 b1 (V a0 8) _ _ _ hcf hW hS (lv_sub hl [1, 2, 0] rfl)
set_option maxHeartbeats 4000000 in
set_option maxRecDepth 100000 in
theorem wl_X4_readsOrder_39 {p : Program} {l : Launch} {e : Env} {s : State} {m : MethodId} {args : Array Value} {below : List Frame} {meth : Method} {c : Code} {D : va_G} {cy : Nat → ClassId} {z : Nat} {n : Nat} {Y : mY} {G : mG} (hx : p.tables.exec = Jvm.exec) (hb : c.code = cX4_readsOrder) (hr : meth.sig.returnType = (some .boolean)) (hml : c.maxLocals = 3) (hown : s.vm.findClass RX4 = some m.cls) (hts : ∀ w ∈ lw_all, w.before args s = true) (hlocks : meth.locks = false) (hE : En D cy s) (x : Int32 × mV) : ∀ (k : Nat) (V : mV) (j0 : Nat) (j1 : Int32) (j2 : Int32) (H : Heap) (locs : List Loc) (ls : Array Slot), lp_X4_readsOrder_39 Y G k V j0 j1 j2 = some x → Wd Y cy D z n V G H → va_S (zA z) s.heap H locs → lv_has ls 3 [(0, .ref j0), (1, .int j1), (2, .int j2)] → W p l e (rmd 2) s m args below meth c H locs 0 0 (MQ below (QC D cy z Y n x.2 G (some (.int x.1))) args s 0 0 (zA z)) (F0 m 39 ls []) := by
  intro k
  induction k with
  | zero =>
    intro V j0 j1 j2 H locs ls hcf
    have hcf : none = some _ := hcf
    cases hcf
  | succ k ih =>
    intro V j0 j1 j2 H locs ls hcf hW hS hl
    rw [lp_X4_readsOrder_39] at hcf
    refine lv_iload_n hx hb dX4_readsOrder_39 rfl (lv_at hl 2 rfl) ?_
    refine lv_iload_n hx hb dX4_readsOrder_40 rfl (lv_at hl 1 rfl) ?_
    refine lv_icmp_ge (tgt := 73) hx hb dX4_readsOrder_41 (by decide) (fun q7 => ?_) (fun q7 => ?_)
    · replace hcf := (if_pos q7).symm.trans hcf
      refine lv_aload_n hx hb dX4_readsOrder_73 rfl (lv_at hl 0 rfl) ?_
      refine lv_bipush (v := (59 : Int32)) hx hb dX4_readsOrder_74 (by decide) ?_
      obtain ⟨q8, hcf⟩ := og hcf
      obtain ⟨x9, hx9, hcf⟩ := ob hcf
      refine iv_X4_224 (As := [.int (59 : Int32)]) (rest := []) hx hb hml hown hts hE (ct_X4_takes l D cy z n Y V G j0 (59 : Int32) x9 hx9) hW hS q8 rfl rfl hl.1 (Nat.le_of_ble_eq_true rfl) ⟨Nat.le_of_ble_eq_true rfl, Nat.le_of_ble_eq_true rfl⟩ dX4_readsOrder_76 ⟨Nat.zero_le _, Nat.zero_le _⟩ (fun H locs hW hS => ?_)
      obtain ⟨q10, hcf⟩ := og hcf
      have hcf := Option.some.inj hcf; subst hcf
      exact wk_zret hx hb hr hlocks q10 hW hS dX4_readsOrder_79
    · replace hcf := (if_neg q7).symm.trans hcf
      refine lv_iload_n hx hb dX4_readsOrder_44 rfl (lv_at hl 2 rfl) ?_
      refine lv_if_le (tgt := 57) hx hb dX4_readsOrder_45 (by decide) (fun q11 => ?_) (fun q11 => ?_)
      · replace hcf := (if_pos q11).symm.trans hcf
        refine lv_aload_n hx hb dX4_readsOrder_57 rfl (lv_at hl 0 rfl) ?_
        refine lv_iload_n hx hb dX4_readsOrder_58 rfl (lv_at hl 2 rfl) ?_
        obtain ⟨q12, hcf⟩ := og hcf
        obtain ⟨x13, hx13, hcf⟩ := ob hcf
        refine iv_X4_227 (As := [.int j2]) (rest := []) hx hb hml hown hts hE (ct_X4_takesNumber l D cy z n Y V G j0 j2 x13 hx13) hW hS q12 rfl rfl hl.1 (Nat.le_of_ble_eq_true rfl) ⟨Nat.le_of_ble_eq_true rfl, Nat.le_of_ble_eq_true rfl⟩ dX4_readsOrder_59 ⟨Nat.zero_le _, Nat.zero_le _⟩ (fun H locs hW hS => ?_)
        refine lv_if_ne (tgt := 67) hx hb dX4_readsOrder_62 (by decide) (fun q14 => ?_) (fun q14 => ?_)
        · replace hcf := (if_neg q14).symm.trans hcf
          refine lv_iinc (v := (j2 + 1)) (lv' := [(2, .int (j2 + 1)), (0, .ref j0), (1, .int j1)]) hx hb dX4_readsOrder_67 hl (k := 2) rfl rfl (by decide) rfl (fun ls hl => ?_)
          refine lv_goto (tgt := 39) hx hb dX4_readsOrder_70 (by decide) ?_
          exact ih x13.2 j0 j1 (j2 + 1) _ _ _ hcf hW hS (lv_sub hl [1, 2, 0] rfl)
        · replace hcf := (if_pos q14).symm.trans hcf
          refine lv_iconst (v := (0 : Int32)) hx hb dX4_readsOrder_65 (by decide) ?_
          have hcf := Option.some.inj hcf; subst hcf
          exact wk_zret hx hb hr hlocks (Or.inl rfl) hW hS dX4_readsOrder_66
      · replace hcf := (if_neg q11).symm.trans hcf
        refine lv_aload_n hx hb dX4_readsOrder_48 rfl (lv_at hl 0 rfl) ?_
        refine lv_bipush (v := (44 : Int32)) hx hb dX4_readsOrder_49 (by decide) ?_
        obtain ⟨q15, hcf⟩ := og hcf
        obtain ⟨x16, hx16, hcf⟩ := ob hcf
        refine iv_X4_224 (As := [.int (44 : Int32)]) (rest := []) hx hb hml hown hts hE (ct_X4_takes l D cy z n Y V G j0 (44 : Int32) x16 hx16) hW hS q15 rfl rfl hl.1 (Nat.le_of_ble_eq_true rfl) ⟨Nat.le_of_ble_eq_true rfl, Nat.le_of_ble_eq_true rfl⟩ dX4_readsOrder_51 ⟨Nat.zero_le _, Nat.zero_le _⟩ (fun H locs hW hS => ?_)
        refine lv_if_eq (tgt := 65) hx hb dX4_readsOrder_54 (by decide) (fun q17 => ?_) (fun q17 => ?_)
        · replace hcf := (if_pos q17).symm.trans hcf
          refine lv_iconst (v := (0 : Int32)) hx hb dX4_readsOrder_65 (by decide) ?_
          have hcf := Option.some.inj hcf; subst hcf
          exact wk_zret hx hb hr hlocks (Or.inl rfl) hW hS dX4_readsOrder_66
        · replace hcf := (if_neg q17).symm.trans hcf
          refine lv_aload_n hx hb dX4_readsOrder_57 rfl (lv_at hl 0 rfl) ?_
          refine lv_iload_n hx hb dX4_readsOrder_58 rfl (lv_at hl 2 rfl) ?_
          obtain ⟨x18, hx18, hcf⟩ := ob hcf
          refine iv_X4_227 (As := [.int j2]) (rest := []) hx hb hml hown hts hE (ct_X4_takesNumber l D cy z n Y x16.2 G j0 j2 x18 hx18) hW hS q15 rfl rfl hl.1 (Nat.le_of_ble_eq_true rfl) ⟨Nat.le_of_ble_eq_true rfl, Nat.le_of_ble_eq_true rfl⟩ dX4_readsOrder_59 ⟨Nat.zero_le _, Nat.zero_le _⟩ (fun H locs hW hS => ?_)
          refine lv_if_ne (tgt := 67) hx hb dX4_readsOrder_62 (by decide) (fun q19 => ?_) (fun q19 => ?_)
          · replace hcf := (if_neg q19).symm.trans hcf
            refine lv_iinc (v := (j2 + 1)) (lv' := [(2, .int (j2 + 1)), (0, .ref j0), (1, .int j1)]) hx hb dX4_readsOrder_67 hl (k := 2) rfl rfl (by decide) rfl (fun ls hl => ?_)
            refine lv_goto (tgt := 39) hx hb dX4_readsOrder_70 (by decide) ?_
            exact ih x18.2 j0 j1 (j2 + 1) _ _ _ hcf hW hS (lv_sub hl [1, 2, 0] rfl)
          · replace hcf := (if_pos q19).symm.trans hcf
            refine lv_iconst (v := (0 : Int32)) hx hb dX4_readsOrder_65 (by decide) ?_
            have hcf := Option.some.inj hcf; subst hcf
            exact wk_zret hx hb hr hlocks (Or.inl rfl) hW hS dX4_readsOrder_66
set_option maxHeartbeats 4000000 in
set_option maxRecDepth 100000 in
theorem ct_X4_readsOrder (l : Launch) (D : va_G) (cy : Nat → ClassId) (z n : Nat) (Y : mY) (V : mV) (G : mG) (a0 : Nat) (x : Int32 × mV) (hcf : cf_X4_readsOrder Y V G a0 = some x) : CT l yX4_readsOrder cX4_readsOrder 3 (some .boolean) (rmd 2) D cy z [.ref a0] Y n V G (some (.int x.1)) Y n x.2 G := by
  refine ct_of (by decide) (Nat.le_of_ble_eq_true rfl) ?_
  intro p e s m args below meth c ls hx hb hr hml hown hts hlocks hnm hE hW hl
  have hS : va_S (zA z) s.heap s.heap [] := va_S.rf
  have hl : lv_has ls 3 [(0, .ref a0)] := hl
  have hown : s.vm.findClass RX4 = some m.cls := hown
  rw [cf_X4_readsOrder] at hcf
  refine lv_aload_n hx hb dX4_readsOrder_0 rfl (lv_at hl 0 rfl) ?_
  refine lv_aload_n hx hb dX4_readsOrder_1 rfl (lv_at hl 0 rfl) ?_
  obtain ⟨q1, hcf⟩ := og hcf
  refine gf_X4_218 hx hb hts hown hE hW q1 dX4_readsOrder_2 ?_
  refine pf_X4_211 hx hb hts hown hE hW hS q1 (V a0 7) dX4_readsOrder_5 (fun H locs hW hS => ?_)
  refine lv_aload_n hx hb dX4_readsOrder_8 rfl (lv_at hl 0 rfl) ?_
  obtain ⟨r2, hr2, hcf⟩ := ob hcf
  refine gf_X4_22 hx hb hts hown hE hW q1 hr2 dX4_readsOrder_9 ?_
  refine lv_aload_n hx hb dX4_readsOrder_12 rfl (lv_at hl 0 rfl) ?_
  refine gf_X4_218 hx hb hts hown hE hW q1 dX4_readsOrder_13 ?_
  obtain ⟨q3, hcf⟩ := og hcf
  obtain ⟨q4, hcf⟩ := og hcf
  refine wk_iald hx hb hE hW q3 q4 dX4_readsOrder_16 ?_
  obtain ⟨x5, hx5, hcf⟩ := ob hcf
  refine iv_X4_221 (As := [.int ((up2 V a0 8 (V a0 7)) r2 ((up2 V a0 8 (V a0 7)) a0 7).toNatClampNeg)]) (rest := []) hx hb hml hown hts hE (ct_X4_numbersOf l D cy z n Y (up2 V a0 8 (V a0 7)) G ((up2 V a0 8 (V a0 7)) r2 ((up2 V a0 8 (V a0 7)) a0 7).toNatClampNeg) x5 hx5) hW hS rfl rfl hl.1 (Nat.le_of_ble_eq_true rfl) ⟨Nat.le_of_ble_eq_true rfl, Nat.le_of_ble_eq_true rfl⟩ dX4_readsOrder_17 ⟨Nat.zero_le _, Nat.zero_le _⟩ (fun H locs hW hS => ?_)
  refine lv_istore_n (lv' := [(1, .int x5), (0, .ref a0)]) hx hb dX4_readsOrder_20 rfl hl (by decide) rfl (fun ls hl => ?_)
  refine lv_iload_n hx hb dX4_readsOrder_21 rfl (lv_at hl 0 rfl) ?_
  refine lv_if_ne (tgt := 27) hx hb dX4_readsOrder_22 (by decide) (fun q6 => ?_) (fun q6 => ?_)
  · replace hcf := (if_neg q6).symm.trans hcf
    refine lv_aload_n hx hb dX4_readsOrder_27 rfl (lv_at hl 1 rfl) ?_
    refine lv_dup hx hb dX4_readsOrder_28 rfl ?_
    refine gf_X4_211 hx hb hts hown hE hW q1 dX4_readsOrder_29 ?_
    refine lv_iconst (v := (1 : Int32)) hx hb dX4_readsOrder_32 (by decide) ?_
    refine lv_iadd hx hb dX4_readsOrder_33 ?_
    refine pf_X4_211 hx hb hts hown hE hW hS q1 (((up2 V a0 8 (V a0 7)) a0 8) + (1 : Int32)) dX4_readsOrder_34 (fun H locs hW hS => ?_)
    refine lv_iconst (v := (0 : Int32)) hx hb dX4_readsOrder_37 (by decide) ?_
    refine lv_istore_n (lv' := [(2, .int (0 : Int32)), (1, .int x5), (0, .ref a0)]) hx hb dX4_readsOrder_38 rfl hl (by decide) rfl (fun ls hl => ?_)
    exact wl_X4_readsOrder_39 hx hb hr hml hown hts hlocks hE x fuB (up2 (up2 V a0 8 (V a0 7)) a0 8 (((up2 V a0 8 (V a0 7)) a0 8) + (1 : Int32))) a0 x5 (0 : Int32) _ _ _ hcf hW hS (lv_sub hl [2, 1, 0] rfl)
  · replace hcf := (if_pos q6).symm.trans hcf
    refine lv_iconst (v := (0 : Int32)) hx hb dX4_readsOrder_25 (by decide) ?_
    have hcf := Option.some.inj hcf; subst hcf
    exact wk_zret hx hb hr hlocks (Or.inl rfl) hW hS dX4_readsOrder_26
set_option maxHeartbeats 4000000 in
set_option maxRecDepth 100000 in
theorem ct_X4_doesOrder (l : Launch) (D : va_G) (cy : Nat → ClassId) (z n : Nat) (Y : mY) (V : mV) (G : mG) (a0 : Nat) (x : Int32 × mV) (hcf : cf_X4_doesOrder Y V G a0 = some x) : CT l yX4_doesOrder cX4_doesOrder 1 (some .int) (rmd 7) D cy z [.ref a0] Y n V G (some (.int x.1)) Y n x.2 G := by
  refine ct_of (by decide) (Nat.le_of_ble_eq_true rfl) ?_
  intro p e s m args below meth c ls hx hb hr hml hown hts hlocks hnm hE hW hl
  have hS : va_S (zA z) s.heap s.heap [] := va_S.rf
  have hl : lv_has ls 1 [(0, .ref a0)] := hl
  have hown : s.vm.findClass RX4 = some m.cls := hown
  rw [cf_X4_doesOrder] at hcf
  refine lv_aload_n hx hb dX4_doesOrder_0 rfl (lv_at hl 0 rfl) ?_
  obtain ⟨q1, hcf⟩ := og hcf
  obtain ⟨r2, hr2, hcf⟩ := ob hcf
  refine gf_X4_22 hx hb hts hown hE hW q1 hr2 dX4_doesOrder_1 ?_
  refine lv_aload_n hx hb dX4_doesOrder_4 rfl (lv_at hl 0 rfl) ?_
  refine gf_X4_218 hx hb hts hown hE hW q1 dX4_doesOrder_5 ?_
  obtain ⟨q3, hcf⟩ := og hcf
  obtain ⟨q4, hcf⟩ := og hcf
  refine wk_iald hx hb hE hW q3 q4 dX4_doesOrder_8 ?_
  by_cases q5 : (V r2 (V a0 7).toNatClampNeg) = (97 : Int32)
  · replace hcf := (if_pos q5).symm.trans hcf
    refine wk_tsw (off := 90) (tgt := 99) hx hb dX4_doesOrder_9 (by rw [q5]; rfl) (by decide) ?_
    refine lv_aload_n hx hb dX4_doesOrder_99 rfl (lv_at hl 0 rfl) ?_
    refine lv_aload_n hx hb dX4_doesOrder_100 rfl (lv_at hl 0 rfl) ?_
    obtain ⟨r6, hr6, hcf⟩ := ob hcf
    refine gf_X4_25 hx hb hts hown hE hW q1 hr6 dX4_doesOrder_101 ?_
    refine lv_iconst (v := (0 : Int32)) hx hb dX4_doesOrder_104 (by decide) ?_
    obtain ⟨q7, hcf⟩ := og hcf
    obtain ⟨q8, hcf⟩ := og hcf
    refine wk_iald hx hb hE hW q7 q8 dX4_doesOrder_105 ?_
    refine lv_aload_n hx hb dX4_doesOrder_106 rfl (lv_at hl 0 rfl) ?_
    refine gf_X4_25 hx hb hts hown hE hW q1 hr6 dX4_doesOrder_107 ?_
    refine lv_iconst (v := (1 : Int32)) hx hb dX4_doesOrder_110 (by decide) ?_
    obtain ⟨q9, hcf⟩ := og hcf
    refine wk_iald hx hb hE hW q7 q9 dX4_doesOrder_111 ?_
    obtain ⟨x10, hx10, hcf⟩ := ob hcf
    refine iv_X4_152 (As := [.int (V r6 (0 : Int32).toNatClampNeg), .int (V r6 (1 : Int32).toNatClampNeg)]) (rest := []) hx hb hml hown hts hE (ct_X4_doApply l D cy z n Y V G a0 (V r6 (0 : Int32).toNatClampNeg) (V r6 (1 : Int32).toNatClampNeg) x10 hx10) hW hS q1 rfl rfl hl.1 (Nat.le_of_ble_eq_true rfl) ⟨Nat.le_of_ble_eq_true rfl, Nat.le_of_ble_eq_true rfl⟩ dX4_doesOrder_112 ⟨Nat.zero_le _, Nat.zero_le _⟩ (fun H locs hW hS => ?_)
    have hcf := Option.some.inj hcf; subst hcf
    exact wk_iret hx hb hr hlocks hW hS dX4_doesOrder_115
  · replace hcf := (if_neg q5).symm.trans hcf
    by_cases q11 : (V r2 (V a0 7).toNatClampNeg) = (98 : Int32)
    · replace hcf := (if_pos q11).symm.trans hcf
      refine wk_tsw (off := 68) (tgt := 77) hx hb dX4_doesOrder_9 (by rw [q11]; rfl) (by decide) ?_
      refine lv_aload_n hx hb dX4_doesOrder_77 rfl (lv_at hl 0 rfl) ?_
      refine lv_aload_n hx hb dX4_doesOrder_78 rfl (lv_at hl 0 rfl) ?_
      obtain ⟨r12, hr12, hcf⟩ := ob hcf
      refine gf_X4_25 hx hb hts hown hE hW q1 hr12 dX4_doesOrder_79 ?_
      refine lv_iconst (v := (0 : Int32)) hx hb dX4_doesOrder_82 (by decide) ?_
      obtain ⟨q13, hcf⟩ := og hcf
      obtain ⟨q14, hcf⟩ := og hcf
      refine wk_iald hx hb hE hW q13 q14 dX4_doesOrder_83 ?_
      obtain ⟨x15, hx15, hcf⟩ := ob hcf
      refine iv_X4_146 (As := [.int (V r12 (0 : Int32).toNatClampNeg)]) (rest := []) hx hb hml hown hts hE (ct_X4_doBegin l D cy z n Y V G a0 (V r12 (0 : Int32).toNatClampNeg) x15 hx15) hW hS q1 rfl rfl hl.1 (Nat.le_of_ble_eq_true rfl) ⟨Nat.le_of_ble_eq_true rfl, Nat.le_of_ble_eq_true rfl⟩ dX4_doesOrder_84 ⟨Nat.zero_le _, Nat.zero_le _⟩ (fun H locs hW hS => ?_)
      have hcf := Option.some.inj hcf; subst hcf
      exact wk_iret hx hb hr hlocks hW hS dX4_doesOrder_87
    · replace hcf := (if_neg q11).symm.trans hcf
      by_cases q16 : (V r2 (V a0 7).toNatClampNeg) = (99 : Int32)
      · replace hcf := (if_pos q16).symm.trans hcf
        refine wk_tsw (off := 39) (tgt := 48) hx hb dX4_doesOrder_9 (by rw [q16]; rfl) (by decide) ?_
        refine lv_aload_n hx hb dX4_doesOrder_48 rfl (lv_at hl 0 rfl) ?_
        refine lv_aload_n hx hb dX4_doesOrder_49 rfl (lv_at hl 0 rfl) ?_
        obtain ⟨r17, hr17, hcf⟩ := ob hcf
        refine gf_X4_25 hx hb hts hown hE hW q1 hr17 dX4_doesOrder_50 ?_
        refine lv_iconst (v := (0 : Int32)) hx hb dX4_doesOrder_53 (by decide) ?_
        obtain ⟨q18, hcf⟩ := og hcf
        obtain ⟨q19, hcf⟩ := og hcf
        refine wk_iald hx hb hE hW q18 q19 dX4_doesOrder_54 ?_
        refine lv_aload_n hx hb dX4_doesOrder_55 rfl (lv_at hl 0 rfl) ?_
        refine gf_X4_25 hx hb hts hown hE hW q1 hr17 dX4_doesOrder_56 ?_
        refine lv_iconst (v := (1 : Int32)) hx hb dX4_doesOrder_59 (by decide) ?_
        obtain ⟨q20, hcf⟩ := og hcf
        refine wk_iald hx hb hE hW q18 q20 dX4_doesOrder_60 ?_
        refine lv_aload_n hx hb dX4_doesOrder_61 rfl (lv_at hl 0 rfl) ?_
        refine gf_X4_25 hx hb hts hown hE hW q1 hr17 dX4_doesOrder_62 ?_
        refine lv_iconst (v := (2 : Int32)) hx hb dX4_doesOrder_65 (by decide) ?_
        obtain ⟨q21, hcf⟩ := og hcf
        refine wk_iald hx hb hE hW q18 q21 dX4_doesOrder_66 ?_
        refine lv_aload_n hx hb dX4_doesOrder_67 rfl (lv_at hl 0 rfl) ?_
        refine gf_X4_25 hx hb hts hown hE hW q1 hr17 dX4_doesOrder_68 ?_
        refine lv_iconst (v := (3 : Int32)) hx hb dX4_doesOrder_71 (by decide) ?_
        obtain ⟨q22, hcf⟩ := og hcf
        refine wk_iald hx hb hE hW q18 q22 dX4_doesOrder_72 ?_
        obtain ⟨x23, hx23, hcf⟩ := ob hcf
        refine iv_X4_139 (As := [.int (V r17 (0 : Int32).toNatClampNeg), .int (V r17 (1 : Int32).toNatClampNeg), .int (V r17 (2 : Int32).toNatClampNeg), .int (V r17 (3 : Int32).toNatClampNeg)]) (rest := []) hx hb hml hown hts hE (ct_X4_doCondition l D cy z n Y V G a0 (V r17 (0 : Int32).toNatClampNeg) (V r17 (1 : Int32).toNatClampNeg) (V r17 (2 : Int32).toNatClampNeg) (V r17 (3 : Int32).toNatClampNeg) x23 hx23) hW hS q1 rfl rfl hl.1 (Nat.le_of_ble_eq_true rfl) ⟨Nat.le_of_ble_eq_true rfl, Nat.le_of_ble_eq_true rfl⟩ dX4_doesOrder_73 ⟨Nat.zero_le _, Nat.zero_le _⟩ (fun H locs hW hS => ?_)
        have hcf := Option.some.inj hcf; subst hcf
        exact wk_iret hx hb hr hlocks hW hS dX4_doesOrder_76
      · replace hcf := (if_neg q16).symm.trans hcf
        by_cases q24 : (V r2 (V a0 7).toNatClampNeg) = (100 : Int32)
        · replace hcf := (if_pos q24).symm.trans hcf
          refine wk_tsw (off := 107) (tgt := 116) hx hb dX4_doesOrder_9 (by rw [q24]; rfl) (by decide) ?_
          refine lv_aload_n hx hb dX4_doesOrder_116 rfl (lv_at hl 0 rfl) ?_
          refine lv_aload_n hx hb dX4_doesOrder_117 rfl (lv_at hl 0 rfl) ?_
          obtain ⟨r25, hr25, hcf⟩ := ob hcf
          refine gf_X4_25 hx hb hts hown hE hW q1 hr25 dX4_doesOrder_118 ?_
          refine lv_iconst (v := (0 : Int32)) hx hb dX4_doesOrder_121 (by decide) ?_
          obtain ⟨q26, hcf⟩ := og hcf
          obtain ⟨q27, hcf⟩ := og hcf
          refine wk_iald hx hb hE hW q26 q27 dX4_doesOrder_122 ?_
          refine lv_aload_n hx hb dX4_doesOrder_123 rfl (lv_at hl 0 rfl) ?_
          refine gf_X4_25 hx hb hts hown hE hW q1 hr25 dX4_doesOrder_124 ?_
          refine lv_iconst (v := (1 : Int32)) hx hb dX4_doesOrder_127 (by decide) ?_
          obtain ⟨q28, hcf⟩ := og hcf
          refine wk_iald hx hb hE hW q26 q28 dX4_doesOrder_128 ?_
          obtain ⟨x29, hx29, hcf⟩ := ob hcf
          refine iv_X4_155 (As := [.int (V r25 (0 : Int32).toNatClampNeg), .int (V r25 (1 : Int32).toNatClampNeg)]) (rest := []) hx hb hml hown hts hE (ct_X4_doDecide l D cy z n Y V G a0 (V r25 (0 : Int32).toNatClampNeg) (V r25 (1 : Int32).toNatClampNeg) x29 hx29) hW hS q1 rfl rfl hl.1 (Nat.le_of_ble_eq_true rfl) ⟨Nat.le_of_ble_eq_true rfl, Nat.le_of_ble_eq_true rfl⟩ dX4_doesOrder_129 ⟨Nat.zero_le _, Nat.zero_le _⟩ (fun H locs hW hS => ?_)
          have hcf := Option.some.inj hcf; subst hcf
          exact wk_iret hx hb hr hlocks hW hS dX4_doesOrder_132
        · replace hcf := (if_neg q24).symm.trans hcf
          by_cases q30 : (V r2 (V a0 7).toNatClampNeg) = (102 : Int32)
          · replace hcf := (if_pos q30).symm.trans hcf
            refine wk_tsw (off := 79) (tgt := 88) hx hb dX4_doesOrder_9 (by rw [q30]; rfl) (by decide) ?_
            refine lv_aload_n hx hb dX4_doesOrder_88 rfl (lv_at hl 0 rfl) ?_
            refine lv_aload_n hx hb dX4_doesOrder_89 rfl (lv_at hl 0 rfl) ?_
            obtain ⟨r31, hr31, hcf⟩ := ob hcf
            refine gf_X4_25 hx hb hts hown hE hW q1 hr31 dX4_doesOrder_90 ?_
            refine lv_iconst (v := (0 : Int32)) hx hb dX4_doesOrder_93 (by decide) ?_
            obtain ⟨q32, hcf⟩ := og hcf
            obtain ⟨q33, hcf⟩ := og hcf
            refine wk_iald hx hb hE hW q32 q33 dX4_doesOrder_94 ?_
            obtain ⟨x34, hx34, hcf⟩ := ob hcf
            refine iv_X4_149 (As := [.int (V r31 (0 : Int32).toNatClampNeg)]) (rest := []) hx hb hml hown hts hE (ct_X4_doFinish l D cy z n Y V G a0 (V r31 (0 : Int32).toNatClampNeg) x34 hx34) hW hS q1 rfl rfl hl.1 (Nat.le_of_ble_eq_true rfl) ⟨Nat.le_of_ble_eq_true rfl, Nat.le_of_ble_eq_true rfl⟩ dX4_doesOrder_95 ⟨Nat.zero_le _, Nat.zero_le _⟩ (fun H locs hW hS => ?_)
            have hcf := Option.some.inj hcf; subst hcf
            exact wk_iret hx hb hr hlocks hW hS dX4_doesOrder_98
          · replace hcf := (if_neg q30).symm.trans hcf
            refine wk_tsw (off := 124) (tgt := 133) hx hb dX4_doesOrder_9 (by have eq5 := lv_neT q5 (a := 97) rfl; have eq11 := lv_neT q11 (a := 98) rfl; have eq16 := lv_neT q16 (a := 99) rfl; have eq24 := lv_neT q24 (a := 100) rfl; have eq30 := lv_neT q30 (a := 102) rfl; by_cases hh : ((V r2 (V a0 7).toNatClampNeg)).toInt < 97 ∨ 102 < ((V r2 (V a0 7).toNatClampNeg)).toInt; exact if_pos hh; rcases (show ((V r2 (V a0 7).toNatClampNeg)).toInt = 101 by omega) with hg <;> (rw [sw_off, if_neg hh, hg]; rfl)) (by decide) ?_
            refine lv_aload_n hx hb dX4_doesOrder_133 rfl (lv_at hl 0 rfl) ?_
            refine lv_aload_n hx hb dX4_doesOrder_134 rfl (lv_at hl 0 rfl) ?_
            obtain ⟨r35, hr35, hcf⟩ := ob hcf
            refine gf_X4_25 hx hb hts hown hE hW q1 hr35 dX4_doesOrder_135 ?_
            refine lv_iconst (v := (0 : Int32)) hx hb dX4_doesOrder_138 (by decide) ?_
            obtain ⟨q36, hcf⟩ := og hcf
            obtain ⟨q37, hcf⟩ := og hcf
            refine wk_iald hx hb hE hW q36 q37 dX4_doesOrder_139 ?_
            obtain ⟨x38, hx38, hcf⟩ := ob hcf
            refine iv_X4_171 (As := [.int (V r35 (0 : Int32).toNatClampNeg)]) (rest := []) hx hb hml hown hts hE (ct_X4_doPass l D cy z n Y V G a0 (V r35 (0 : Int32).toNatClampNeg) x38 hx38) hW hS q1 rfl rfl hl.1 (Nat.le_of_ble_eq_true rfl) ⟨Nat.le_of_ble_eq_true rfl, Nat.le_of_ble_eq_true rfl⟩ dX4_doesOrder_140 ⟨Nat.zero_le _, Nat.zero_le _⟩ (fun H locs hW hS => ?_)
            have hcf := Option.some.inj hcf; subst hcf
            exact wk_iret hx hb hr hlocks hW hS dX4_doesOrder_143
set_option maxHeartbeats 4000000 in
set_option maxRecDepth 100000 in
theorem wl_X4_doesAll_10 {p : Program} {l : Launch} {e : Env} {s : State} {m : MethodId} {args : Array Value} {below : List Frame} {meth : Method} {c : Code} {D : va_G} {cy : Nat → ClassId} {z : Nat} {n : Nat} {Y : mY} {G : mG} (hx : p.tables.exec = Jvm.exec) (hb : c.code = cX4_doesAll) (hr : meth.sig.returnType = (some .boolean)) (hml : c.maxLocals = 3) (hown : s.vm.findClass RX4 = some m.cls) (hts : ∀ w ∈ lw_all, w.before args s = true) (hlocks : meth.locks = false) (hE : En D cy s) (x : Int32 × mV) : ∀ (k : Nat) (V : mV) (j0 : Nat) (H : Heap) (locs : List Loc) (ls : Array Slot), lp_X4_doesAll_10 Y G k V j0 = some x → Wd Y cy D z n V G H → va_S (zA z) s.heap H locs → lv_has ls 3 [(0, .ref j0)] → W p l e (rmd 8) s m args below meth c H locs 0 0 (MQ below (QC D cy z Y n x.2 G (some (.int x.1))) args s 0 0 (zA z)) (F0 m 10 ls []) := by
  intro k
  induction k with
  | zero =>
    intro V j0 H locs ls hcf
    have hcf : none = some _ := hcf
    cases hcf
  | succ k ih =>
    intro V j0 H locs ls hcf hW hS hl
    rw [lp_X4_doesAll_10] at hcf
    refine lv_aload_n hx hb dX4_doesAll_10 rfl (lv_at hl 0 rfl) ?_
    obtain ⟨q2, hcf⟩ := og hcf
    refine gf_X4_218 hx hb hts hown hE hW q2 dX4_doesAll_11 ?_
    refine lv_aload_n hx hb dX4_doesAll_14 rfl (lv_at hl 0 rfl) ?_
    refine gf_X4_204 hx hb hts hown hE hW q2 dX4_doesAll_15 ?_
    refine lv_icmp_ge (tgt := 95) hx hb dX4_doesAll_18 (by decide) (fun q3 => ?_) (fun q3 => ?_)
    · replace hcf := (if_pos q3).symm.trans hcf
      refine lv_iconst (v := (1 : Int32)) hx hb dX4_doesAll_95 (by decide) ?_
      have hcf := Option.some.inj hcf; subst hcf
      exact wk_zret hx hb hr hlocks (Or.inr rfl) hW hS dX4_doesAll_96
    · replace hcf := (if_neg q3).symm.trans hcf
      refine lv_aload_n hx hb dX4_doesAll_21 rfl (lv_at hl 0 rfl) ?_
      obtain ⟨x4, hx4, hcf⟩ := ob hcf
      refine iv_X4_233 (As := []) (rest := []) hx hb hml hown hts hE (ct_X4_readsOrder l D cy z n Y V G j0 x4 hx4) hW hS q2 rfl rfl hl.1 (Nat.le_of_ble_eq_true rfl) ⟨Nat.le_of_ble_eq_true rfl, Nat.le_of_ble_eq_true rfl⟩ dX4_doesAll_22 ⟨Nat.zero_le _, Nat.zero_le _⟩ (fun H locs hW hS => ?_)
      refine lv_if_ne (tgt := 48) hx hb dX4_doesAll_25 (by decide) (fun q5 => ?_) (fun q5 => ?_)
      · replace hcf := (if_neg q5).symm.trans hcf
        refine lv_aload_n hx hb dX4_doesAll_48 rfl (lv_at hl 0 rfl) ?_
        refine gf_X4_211 hx hb hts hown hE hW q2 dX4_doesAll_49 ?_
        refine lv_istore_n (lv' := [(1, .int (x4.2 j0 8)), (0, .ref j0)]) hx hb dX4_doesAll_52 rfl hl (by decide) rfl (fun ls hl => ?_)
        refine lv_aload_n hx hb dX4_doesAll_53 rfl (lv_at hl 1 rfl) ?_
        obtain ⟨x6, hx6, hcf⟩ := ob hcf
        refine iv_X4_243 (As := []) (rest := []) hx hb hml hown hts hE (ct_X4_doesOrder l D cy z n Y x4.2 G j0 x6 hx6) hW hS q2 rfl rfl hl.1 (Nat.le_of_ble_eq_true rfl) ⟨Nat.le_of_ble_eq_true rfl, Nat.le_of_ble_eq_true rfl⟩ dX4_doesAll_54 ⟨Nat.zero_le _, Nat.zero_le _⟩ (fun H locs hW hS => ?_)
        refine lv_istore_n (lv' := [(2, .int x6.1), (1, .int (x4.2 j0 8)), (0, .ref j0)]) hx hb dX4_doesAll_57 rfl hl (by decide) rfl (fun ls hl => ?_)
        refine lv_iload_n hx hb dX4_doesAll_58 rfl (lv_at hl 0 rfl) ?_
        obtain ⟨x7, hx7, hcf⟩ := ob hcf
        refine iv_X4_33 (As := [.int x6.1]) (rest := []) hx hb hml hown hts hE (ct_X4_isError l D cy z n Y x6.2 G x6.1 x7 hx7) hW hS rfl rfl hl.1 (Nat.le_of_ble_eq_true rfl) ⟨Nat.le_of_ble_eq_true rfl, Nat.le_of_ble_eq_true rfl⟩ dX4_doesAll_59 ⟨Nat.zero_le _, Nat.zero_le _⟩ (fun H locs hW hS => ?_)
        refine lv_if_eq (tgt := 77) hx hb dX4_doesAll_62 (by decide) (fun q8 => ?_) (fun q8 => ?_)
        · replace hcf := (if_pos q8).symm.trans hcf
          refine lv_aload_n hx hb dX4_doesAll_77 rfl (lv_at hl 2 rfl) ?_
          refine lv_dup hx hb dX4_doesAll_78 rfl ?_
          refine gf_X4_230 hx hb hts hown hE hW q2 dX4_doesAll_79 ?_
          refine lv_iconst (v := (1 : Int32)) hx hb dX4_doesAll_82 (by decide) ?_
          refine lv_iadd hx hb dX4_doesAll_83 ?_
          refine pf_X4_230 hx hb hts hown hE hW hS q2 ((x6.2 j0 12) + (1 : Int32)) dX4_doesAll_84 (fun H locs hW hS => ?_)
          refine lv_aload_n hx hb dX4_doesAll_87 rfl (lv_at hl 2 rfl) ?_
          refine lv_iload_n hx hb dX4_doesAll_88 rfl (lv_at hl 1 rfl) ?_
          refine pf_X4_218 hx hb hts hown hE hW hS q2 (x4.2 j0 8) dX4_doesAll_89 (fun H locs hW hS => ?_)
          refine lv_goto (tgt := 10) hx hb dX4_doesAll_92 (by decide) ?_
          exact ih (up2 (up2 x6.2 j0 12 ((x6.2 j0 12) + (1 : Int32))) j0 7 (x4.2 j0 8)) j0 _ _ _ hcf hW hS (lv_sub hl [2] rfl)
        · replace hcf := (if_neg q8).symm.trans hcf
          refine lv_aload_n hx hb dX4_doesAll_65 rfl (lv_at hl 2 rfl) ?_
          refine lv_iconst (v := (2 : Int32)) hx hb dX4_doesAll_66 (by decide) ?_
          refine pf_X4_237 hx hb hts hown hE hW hS q2 (2 : Int32) dX4_doesAll_67 (fun H locs hW hS => ?_)
          refine lv_aload_n hx hb dX4_doesAll_70 rfl (lv_at hl 2 rfl) ?_
          refine lv_iload_n hx hb dX4_doesAll_71 rfl (lv_at hl 0 rfl) ?_
          refine pf_X4_240 hx hb hts hown hE hW hS q2 x6.1 dX4_doesAll_72 (fun H locs hW hS => ?_)
          refine lv_iconst (v := (0 : Int32)) hx hb dX4_doesAll_75 (by decide) ?_
          have hcf := Option.some.inj hcf; subst hcf
          exact wk_zret hx hb hr hlocks (Or.inl rfl) hW hS dX4_doesAll_76
      · replace hcf := (if_pos q5).symm.trans hcf
        refine lv_aload_n hx hb dX4_doesAll_28 rfl (lv_at hl 0 rfl) ?_
        refine lv_iconst (v := (1 : Int32)) hx hb dX4_doesAll_29 (by decide) ?_
        refine pf_X4_237 hx hb hts hown hE hW hS q2 (1 : Int32) dX4_doesAll_30 (fun H locs hW hS => ?_)
        refine lv_aload_n hx hb dX4_doesAll_33 rfl (lv_at hl 0 rfl) ?_
        refine lv_aload_n hx hb dX4_doesAll_34 rfl (lv_at hl 0 rfl) ?_
        refine gf_X4_211 hx hb hts hown hE hW q2 dX4_doesAll_35 ?_
        refine lv_aload_n hx hb dX4_doesAll_38 rfl (lv_at hl 0 rfl) ?_
        refine gf_X4_218 hx hb hts hown hE hW q2 dX4_doesAll_39 ?_
        refine lv_isub hx hb dX4_doesAll_42 ?_
        refine pf_X4_240 hx hb hts hown hE hW hS q2 (((up2 x4.2 j0 10 (1 : Int32)) j0 8) - ((up2 x4.2 j0 10 (1 : Int32)) j0 7)) dX4_doesAll_43 (fun H locs hW hS => ?_)
        obtain ⟨V9, hV9, hcf⟩ := ob hcf
        rw [Option.some.inj hV9] at hW
        refine lv_iconst (v := (0 : Int32)) hx hb dX4_doesAll_46 (by decide) ?_
        have hcf := Option.some.inj hcf; subst hcf
        exact wk_zret hx hb hr hlocks (Or.inl rfl) hW hS dX4_doesAll_47
set_option maxHeartbeats 4000000 in
set_option maxRecDepth 100000 in
theorem ct_X4_doesAll (l : Launch) (D : va_G) (cy : Nat → ClassId) (z n : Nat) (Y : mY) (V : mV) (G : mG) (a0 : Nat) (x : Int32 × mV) (hcf : cf_X4_doesAll Y V G a0 = some x) : CT l yX4_doesAll cX4_doesAll 3 (some .boolean) (rmd 8) D cy z [.ref a0] Y n V G (some (.int x.1)) Y n x.2 G := by
  refine ct_of (by decide) (Nat.le_of_ble_eq_true rfl) ?_
  intro p e s m args below meth c ls hx hb hr hml hown hts hlocks hnm hE hW hl
  have hS : va_S (zA z) s.heap s.heap [] := va_S.rf
  have hl : lv_has ls 3 [(0, .ref a0)] := hl
  have hown : s.vm.findClass RX4 = some m.cls := hown
  rw [cf_X4_doesAll] at hcf
  refine lv_aload_n hx hb dX4_doesAll_0 rfl (lv_at hl 0 rfl) ?_
  refine lv_iconst (v := (0 : Int32)) hx hb dX4_doesAll_1 (by decide) ?_
  obtain ⟨q1, hcf⟩ := og hcf
  refine pf_X4_218 hx hb hts hown hE hW hS q1 (0 : Int32) dX4_doesAll_2 (fun H locs hW hS => ?_)
  refine lv_aload_n hx hb dX4_doesAll_5 rfl (lv_at hl 0 rfl) ?_
  refine lv_iconst (v := (0 : Int32)) hx hb dX4_doesAll_6 (by decide) ?_
  refine pf_X4_230 hx hb hts hown hE hW hS q1 (0 : Int32) dX4_doesAll_7 (fun H locs hW hS => ?_)
  exact wl_X4_doesAll_10 hx hb hr hml hown hts hlocks hE x fuB (up2 (up2 V a0 7 (0 : Int32)) a0 12 (0 : Int32)) a0 _ _ _ hcf hW hS (lv_sub hl [0] rfl)
set_option maxHeartbeats 4000000 in
set_option maxRecDepth 100000 in
theorem ct_X4_fault (l : Launch) (D : va_G) (cy : Nat → ClassId) (z n : Nat) (Y : mY) (V : mV) (G : mG) (a0 : Nat) (b1 : Int32) (x : Int32 × mV) (hcf : cf_X4_fault Y V G a0 b1 = some x) : CT l yX4_fault cX4_fault 3 (some .int) (rmd 9) D cy z [.ref a0, .int b1] Y n V G (some (.int x.1)) Y n x.2 G := by
  refine ct_of (by decide) (Nat.le_of_ble_eq_true rfl) ?_
  intro p e s m args below meth c ls hx hb hr hml hown hts hlocks hnm hE hW hl
  have hS : va_S (zA z) s.heap s.heap [] := va_S.rf
  have hl : lv_has ls 3 [(0, .ref a0), (1, .int b1)] := hl
  have hown : s.vm.findClass RX4 = some m.cls := hown
  rw [cf_X4_fault] at hcf
  refine lv_iload_n hx hb dX4_fault_0 rfl (lv_at hl 1 rfl) ?_
  refine lv_i2l hx hb dX4_fault_1 rfl ?_
  refine lv_lconst (v := (0 : Int64)) hx hb dX4_fault_2 (by decide) ?_
  refine lv_ldc2 hx hb hown (hts _ q659) dX4_fault_3 ?_
  obtain ⟨x1, hx1, hcf⟩ := ob hcf
  refine iv_X4_40 (As := [.long ((b1).toInt64), .long (0 : Int64), .long (2 : Int64)]) (rest := []) hx hb hml hown hts hE (ct_X4_in l D cy z n Y V G ((b1).toInt64) (0 : Int64) (2 : Int64) x1 hx1) hW hS rfl rfl hl.1 (Nat.le_of_ble_eq_true rfl) ⟨Nat.le_of_ble_eq_true rfl, Nat.le_of_ble_eq_true rfl⟩ dX4_fault_6 ⟨Nat.zero_le _, Nat.zero_le _⟩ (fun H locs hW hS => ?_)
  refine lv_if_ne (tgt := 15) hx hb dX4_fault_9 (by decide) (fun q2 => ?_) (fun q2 => ?_)
  · replace hcf := (if_neg q2).symm.trans hcf
    refine lv_aload_n hx hb dX4_fault_15 rfl (lv_at hl 0 rfl) ?_
    obtain ⟨q3, hcf⟩ := og hcf
    obtain ⟨r4, hr4, hcf⟩ := ob hcf
    refine gf_X4_7 hx hb hts hown hE hW q3 hr4 dX4_fault_16 ?_
    refine lv_aload_n hx hb dX4_fault_19 rfl (lv_at hl 0 rfl) ?_
    obtain ⟨r5, hr5, hcf⟩ := ob hcf
    refine gf_X4_13 hx hb hts hown hE hW q3 hr5 dX4_fault_20 ?_
    obtain ⟨x6, hx6, hcf⟩ := ob hcf
    refine iv_X4_135 (As := [.ref r4, .ref r5]) (rest := []) hx hb hml hown hts hE (ct_X4_copy l D cy z n Y V G r4 r5 x6 hx6) hW hS rfl rfl hl.1 (Nat.le_of_ble_eq_true rfl) ⟨Nat.le_of_ble_eq_true rfl, Nat.le_of_ble_eq_true rfl⟩ dX4_fault_23 ⟨Nat.zero_le _, Nat.zero_le _⟩ (fun H locs hW hS => ?_)
    refine lv_aload_n hx hb dX4_fault_26 rfl (lv_at hl 0 rfl) ?_
    obtain ⟨x7, hx7, hcf⟩ := ob hcf
    refine iv_X4_247 (As := []) (rest := []) hx hb hml hown hts hE (ct_X4_doesAll l D cy z n Y x6 G a0 x7 hx7) hW hS q3 rfl rfl hl.1 (Nat.le_of_ble_eq_true rfl) ⟨Nat.le_of_ble_eq_true rfl, Nat.le_of_ble_eq_true rfl⟩ dX4_fault_27 ⟨Nat.zero_le _, Nat.zero_le _⟩ (fun H locs hW hS => ?_)
    refine lv_istore_n (lv' := [(2, .int x7.1), (0, .ref a0), (1, .int b1)]) hx hb dX4_fault_30 rfl hl (by decide) rfl (fun ls hl => ?_)
    refine lv_aload_n hx hb dX4_fault_31 rfl (lv_at hl 1 rfl) ?_
    refine gf_X4_13 hx hb hts hown hE hW q3 hr5 dX4_fault_32 ?_
    refine lv_aload_n hx hb dX4_fault_35 rfl (lv_at hl 1 rfl) ?_
    refine gf_X4_7 hx hb hts hown hE hW q3 hr4 dX4_fault_36 ?_
    obtain ⟨x8, hx8, hcf⟩ := ob hcf
    refine iv_X4_135 (As := [.ref r5, .ref r4]) (rest := []) hx hb hml hown hts hE (ct_X4_copy l D cy z n Y x7.2 G r5 r4 x8 hx8) hW hS rfl rfl hl.1 (Nat.le_of_ble_eq_true rfl) ⟨Nat.le_of_ble_eq_true rfl, Nat.le_of_ble_eq_true rfl⟩ dX4_fault_39 ⟨Nat.zero_le _, Nat.zero_le _⟩ (fun H locs hW hS => ?_)
    refine lv_iload_n hx hb dX4_fault_42 rfl (lv_at hl 0 rfl) ?_
    refine lv_if_eq (tgt := 51) hx hb dX4_fault_43 (by decide) (fun q9 => ?_) (fun q9 => ?_)
    · replace hcf := (if_pos q9).symm.trans hcf
      refine lv_iload_n hx hb dX4_fault_51 rfl (lv_at hl 2 rfl) ?_
      refine lv_if_ne (tgt := 62) hx hb dX4_fault_52 (by decide) (fun q10 => ?_) (fun q10 => ?_)
      · replace hcf := (if_neg q10).symm.trans hcf
        refine lv_iload_n hx hb dX4_fault_62 rfl (lv_at hl 2 rfl) ?_
        refine lv_iconst (v := (1 : Int32)) hx hb dX4_fault_63 (by decide) ?_
        refine lv_icmp_ne (tgt := 74) hx hb dX4_fault_64 (by decide) (fun q11 => ?_) (fun q11 => ?_)
        · replace hcf := (if_neg q11).symm.trans hcf
          refine lv_aload_n hx hb dX4_fault_74 rfl (lv_at hl 1 rfl) ?_
          refine gf_X4_240 hx hb hts hown hE hW q3 dX4_fault_75 ?_
          have hcf := Option.some.inj hcf; subst hcf
          exact wk_iret hx hb hr hlocks hW hS dX4_fault_78
        · replace hcf := (if_pos q11).symm.trans hcf
          refine lv_aload_n hx hb dX4_fault_67 rfl (lv_at hl 1 rfl) ?_
          refine gf_X4_237 hx hb hts hown hE hW q3 dX4_fault_68 ?_
          refine lv_goto (tgt := 78) hx hb dX4_fault_71 (by decide) ?_
          have hcf := Option.some.inj hcf; subst hcf
          exact wk_iret hx hb hr hlocks hW hS dX4_fault_78
      · replace hcf := (if_pos q10).symm.trans hcf
        refine lv_aload_n hx hb dX4_fault_55 rfl (lv_at hl 1 rfl) ?_
        refine gf_X4_218 hx hb hts hown hE hW q3 dX4_fault_56 ?_
        refine lv_goto (tgt := 78) hx hb dX4_fault_59 (by decide) ?_
        have hcf := Option.some.inj hcf; subst hcf
        exact wk_iret hx hb hr hlocks hW hS dX4_fault_78
    · replace hcf := (if_neg q9).symm.trans hcf
      refine lv_ldc hx hb hown (hts _ q857) dX4_fault_46 ?_
      refine lv_goto (tgt := 78) hx hb dX4_fault_48 (by decide) ?_
      have hcf := Option.some.inj hcf; subst hcf
      exact wk_iret hx hb hr hlocks hW hS dX4_fault_78
  · replace hcf := (if_pos q2).symm.trans hcf
    refine lv_ldc hx hb hown (hts _ q672) dX4_fault_12 ?_
    have hcf := Option.some.inj hcf; subst hcf
    exact wk_iret hx hb hr hlocks hW hS dX4_fault_14
set_option maxHeartbeats 4000000 in
set_option maxRecDepth 100000 in
theorem ct_X4_play (l : Launch) (D : va_G) (cy : Nat → ClassId) (z n : Nat) (Y : mY) (V : mV) (G : mG) (a0 : Nat) (x : Int32 × mV) (hcf : cf_X4_play Y V G a0 = some x) : CT l yX4_play cX4_play 1 (some .int) (rmd 9) D cy z [.ref a0] Y n V G (some (.int x.1)) Y n x.2 G := by
  refine ct_of (by decide) (Nat.le_of_ble_eq_true rfl) ?_
  intro p e s m args below meth c ls hx hb hr hml hown hts hlocks hnm hE hW hl
  have hS : va_S (zA z) s.heap s.heap [] := va_S.rf
  have hl : lv_has ls 1 [(0, .ref a0)] := hl
  have hown : s.vm.findClass RX4 = some m.cls := hown
  rw [cf_X4_play] at hcf
  refine lv_aload_n hx hb dX4_play_0 rfl (lv_at hl 0 rfl) ?_
  obtain ⟨q1, hcf⟩ := og hcf
  obtain ⟨r2, hr2, hcf⟩ := ob hcf
  refine gf_X4_7 hx hb hts hown hE hW q1 hr2 dX4_play_1 ?_
  refine lv_aload_n hx hb dX4_play_4 rfl (lv_at hl 0 rfl) ?_
  obtain ⟨r3, hr3, hcf⟩ := ob hcf
  refine gf_X4_13 hx hb hts hown hE hW q1 hr3 dX4_play_5 ?_
  obtain ⟨x4, hx4, hcf⟩ := ob hcf
  refine iv_X4_135 (As := [.ref r2, .ref r3]) (rest := []) hx hb hml hown hts hE (ct_X4_copy l D cy z n Y V G r2 r3 x4 hx4) hW hS rfl rfl hl.1 (Nat.le_of_ble_eq_true rfl) ⟨Nat.le_of_ble_eq_true rfl, Nat.le_of_ble_eq_true rfl⟩ dX4_play_8 ⟨Nat.zero_le _, Nat.zero_le _⟩ (fun H locs hW hS => ?_)
  refine lv_aload_n hx hb dX4_play_11 rfl (lv_at hl 0 rfl) ?_
  obtain ⟨x5, hx5, hcf⟩ := ob hcf
  refine iv_X4_247 (As := []) (rest := []) hx hb hml hown hts hE (ct_X4_doesAll l D cy z n Y x4 G a0 x5 hx5) hW hS q1 rfl rfl hl.1 (Nat.le_of_ble_eq_true rfl) ⟨Nat.le_of_ble_eq_true rfl, Nat.le_of_ble_eq_true rfl⟩ dX4_play_12 ⟨Nat.zero_le _, Nat.zero_le _⟩ (fun H locs hW hS => ?_)
  refine lv_if_ne (tgt := 32) hx hb dX4_play_15 (by decide) (fun q6 => ?_) (fun q6 => ?_)
  · replace hcf := (if_neg q6).symm.trans hcf
    refine lv_aload_n hx hb dX4_play_32 rfl (lv_at hl 0 rfl) ?_
    obtain ⟨x7, hx7, hcf⟩ := ob hcf
    refine iv_X4_37 (As := []) (rest := []) hx hb hml hown hts hE (ct_X4_record l D cy z n Y x5.2 G a0 x7 hx7) hW hS q1 rfl rfl hl.1 (Nat.le_of_ble_eq_true rfl) ⟨Nat.le_of_ble_eq_true rfl, Nat.le_of_ble_eq_true rfl⟩ dX4_play_33 ⟨Nat.zero_le _, Nat.zero_le _⟩ (fun H locs hW hS => ?_)
    refine lv_aload_n hx hb dX4_play_36 rfl (lv_at hl 0 rfl) ?_
    refine gf_X4_230 hx hb hts hown hE hW q1 dX4_play_37 ?_
    have hcf := Option.some.inj hcf; subst hcf
    exact wk_iret hx hb hr hlocks hW hS dX4_play_40
  · replace hcf := (if_pos q6).symm.trans hcf
    refine lv_aload_n hx hb dX4_play_18 rfl (lv_at hl 0 rfl) ?_
    refine gf_X4_13 hx hb hts hown hE hW q1 hr3 dX4_play_19 ?_
    refine lv_aload_n hx hb dX4_play_22 rfl (lv_at hl 0 rfl) ?_
    refine gf_X4_7 hx hb hts hown hE hW q1 hr2 dX4_play_23 ?_
    obtain ⟨x8, hx8, hcf⟩ := ob hcf
    refine iv_X4_135 (As := [.ref r3, .ref r2]) (rest := []) hx hb hml hown hts hE (ct_X4_copy l D cy z n Y x5.2 G r3 r2 x8 hx8) hW hS rfl rfl hl.1 (Nat.le_of_ble_eq_true rfl) ⟨Nat.le_of_ble_eq_true rfl, Nat.le_of_ble_eq_true rfl⟩ dX4_play_26 ⟨Nat.zero_le _, Nat.zero_le _⟩ (fun H locs hW hS => ?_)
    refine lv_ldc hx hb hown (hts _ q677) dX4_play_29 ?_
    have hcf := Option.some.inj hcf; subst hcf
    exact wk_iret hx hb hr hlocks hW hS dX4_play_31
