def lp_X3_rotateHistory_9 (Y : mY) (V : mV) : Nat → mG → Nat → Nat → Int32 → Option (mG)
  | 0, _, _, _, _ => none
  | k + 1, G, j0, j1, j2 => if (4 : Int32) ≤ j2 then (if Y.1 j0 = 3 then (G j0 2).bind (fun r8 => if (Y.1 r8 = 7 ∧ Y.1 j1 = 0) ∨ (Y.1 r8 = 8 ∧ Y.1 j1 = 2) then if ¬ ((3 : Int32) < 0 ∨ Y.2 r8 ≤ (3 : Int32).toNatClampNeg) then some (up2 G r8 (3 : Int32).toNatClampNeg (some j1)) else none else none) else none) else (if Y.1 j0 = 3 then (G j0 2).bind (fun r12 => if Y.1 r12 = 7 ∨ Y.1 r12 = 8 then if ¬ (j2 < 0 ∨ Y.2 r12 ≤ j2.toNatClampNeg) then (G r12 j2.toNatClampNeg).bind (fun r15 => if (Y.1 r12 = 7 ∧ Y.1 r15 = 0) ∨ (Y.1 r12 = 8 ∧ Y.1 r15 = 2) then if ¬ ((j2 - (1 : Int32)) < 0 ∨ Y.2 r12 ≤ (j2 - (1 : Int32)).toNatClampNeg) then lp_X3_rotateHistory_9 Y V k (up2 G r12 (j2 - (1 : Int32)).toNatClampNeg (some r15)) j0 j1 (j2 + 1) else none else none) else none else none) else none)
def cf_X3_rotateHistory (Y : mY) (V : mV) (G : mG) (a0 : Nat) : Option (mG) := if Y.1 a0 = 3 then (G a0 2).bind (fun r2 => if Y.1 r2 = 7 ∨ Y.1 r2 = 8 then if ¬ ((0 : Int32) < 0 ∨ Y.2 r2 ≤ (0 : Int32).toNatClampNeg) then (G r2 (0 : Int32).toNatClampNeg).bind (fun r5 => lp_X3_rotateHistory_9 Y V fuB G a0 r5 (1 : Int32)) else none else none) else none
def cf_X3_recorded (Y : mY) (V : mV) (G : mG) (a0 : Nat) (b1 : Int32) : Option (Int32 × mV × mG) := if 0 ≤ b1 then (if Y.1 a0 = 3 then if (V a0 5) < (4 : Int32) then ((G a0 2).bind (fun r4 => if Y.1 r4 = 7 ∨ Y.1 r4 = 8 then if ¬ ((V a0 5) < 0 ∨ Y.2 r4 ≤ (V a0 5).toNatClampNeg) then (G r4 (V a0 5).toNatClampNeg).bind (fun r7 => (G a0 4).bind (fun r8 => if (Y.1 r4 = 7 ∧ Y.1 r8 = 0) ∨ (Y.1 r4 = 8 ∧ Y.1 r8 = 2) then if ¬ ((V a0 5) < 0 ∨ Y.2 r4 ≤ (V a0 5).toNatClampNeg) then some (b1, (up2 V a0 5 ((V a0 5) + (1 : Int32))), (up2 (up2 G r4 (V a0 5).toNatClampNeg (some r8)) a0 4 (some r7))) else none else none)) else none else none)) else ((cf_X3_rotateHistory Y V G a0).bind (fun x11 => (x11 a0 2).bind (fun r12 => if Y.1 r12 = 7 ∨ Y.1 r12 = 8 then if ¬ (((up2 V a0 5 (3 : Int32)) a0 5) < 0 ∨ Y.2 r12 ≤ ((up2 V a0 5 (3 : Int32)) a0 5).toNatClampNeg) then (x11 r12 ((up2 V a0 5 (3 : Int32)) a0 5).toNatClampNeg).bind (fun r15 => (x11 a0 4).bind (fun r16 => if (Y.1 r12 = 7 ∧ Y.1 r16 = 0) ∨ (Y.1 r12 = 8 ∧ Y.1 r16 = 2) then if ¬ (((up2 V a0 5 (3 : Int32)) a0 5) < 0 ∨ Y.2 r12 ≤ ((up2 V a0 5 (3 : Int32)) a0 5).toNatClampNeg) then some (b1, (up2 (up2 V a0 5 (3 : Int32)) a0 5 (((up2 V a0 5 (3 : Int32)) a0 5) + (1 : Int32))), (up2 (up2 x11 r12 ((up2 V a0 5 (3 : Int32)) a0 5).toNatClampNeg (some r16)) a0 4 (some r15))) else none else none)) else none else none))) else none) else (some (b1, V, G))
def cf_X3_condition (Y : mY) (V : mV) (G : mG) (a0 : Nat) (b1 : Int32) (b2 : Int32) (b3 : Int32) (b4 : Int32) : Option (Int32 × mV × mG) := if Y.1 a0 = 3 then (G a0 4).bind (fun r2 => (G a0 0).bind (fun r3 => if Y.1 r2 = 2 then (cf_X2_copyFrom Y V G r2 r3).bind (fun x5 => if Y.1 r3 = 2 then (cf_X2_addCondition Y x5 G r3 b1 b2 b3 b4).bind (fun x7 => (cf_X3_recorded Y x7.2 G a0 x7.1).bind (fun x8 => some (x8.1, x8.2.1, x8.2.2))) else none) else none)) else none
def cf_X3_begin (Y : mY) (V : mV) (G : mG) (a0 : Nat) (b1 : Int32) : Option (Int32 × mV × mG) := if Y.1 a0 = 3 then (G a0 4).bind (fun r2 => (G a0 0).bind (fun r3 => if Y.1 r2 = 2 then (cf_X2_copyFrom Y V G r2 r3).bind (fun x5 => if Y.1 r3 = 2 then (cf_X2_beginStage Y x5 G r3 b1).bind (fun x7 => (cf_X3_recorded Y x7.2 G a0 x7.1).bind (fun x8 => some (x8.1, x8.2.1, x8.2.2))) else none) else none)) else none
def cf_X3_finish (Y : mY) (V : mV) (G : mG) (a0 : Nat) (b1 : Int32) : Option (Int32 × mV × mG) := if Y.1 a0 = 3 then (G a0 4).bind (fun r2 => (G a0 0).bind (fun r3 => if Y.1 r2 = 2 then (cf_X2_copyFrom Y V G r2 r3).bind (fun x5 => if Y.1 r3 = 2 then (cf_X2_finishStage Y x5 G r3 b1).bind (fun x7 => (cf_X3_recorded Y x7.2 G a0 x7.1).bind (fun x8 => some (x8.1, x8.2.1, x8.2.2))) else none) else none)) else none
def cf_X3_apply (Y : mY) (V : mV) (G : mG) (a0 : Nat) (b1 : Int32) (b2 : Int32) : Option (Int32 × mV × mG) := if Y.1 a0 = 3 then (G a0 4).bind (fun r2 => (G a0 0).bind (fun r3 => if Y.1 r2 = 2 then (cf_X2_copyFrom Y V G r2 r3).bind (fun x5 => if Y.1 r3 = 2 then (cf_X2_applyFor Y x5 G r3 b1 b2).bind (fun x7 => (cf_X3_recorded Y x7.2 G a0 x7.1).bind (fun x8 => some (x8.1, x8.2.1, x8.2.2))) else none) else none)) else none
def cf_X3_decide (Y : mY) (V : mV) (G : mG) (a0 : Nat) (b1 : Int32) (b2 : Int32) : Option (Int32 × mV × mG) := if Y.1 a0 = 3 then (G a0 4).bind (fun r2 => (G a0 0).bind (fun r3 => if Y.1 r2 = 2 then (cf_X2_copyFrom Y V G r2 r3).bind (fun x5 => if Y.1 r3 = 2 then (cf_X2_decideOn Y x5 G r3 b1 b2).bind (fun x7 => (cf_X3_recorded Y x7.2 G a0 x7.1).bind (fun x8 => some (x8.1, x8.2.1, x8.2.2))) else none) else none)) else none
def cf_X3_lapse (Y : mY) (V : mV) (G : mG) (a0 : Nat) (b1 : Int32) : Option (Int32 × mV × mG) := if Y.1 a0 = 3 then (G a0 4).bind (fun r2 => (G a0 0).bind (fun r3 => if Y.1 r2 = 2 then (cf_X2_copyFrom Y V G r2 r3).bind (fun x5 => if Y.1 r3 = 2 then (cf_X2_lapseOf Y x5 G r3 b1).bind (fun x7 => (cf_X3_recorded Y x7.2 G a0 x7.1).bind (fun x8 => some (x8.1, x8.2.1, x8.2.2))) else none) else none)) else none
def cf_X3_cure (Y : mY) (V : mV) (G : mG) (a0 : Nat) (b1 : Int32) : Option (Int32 × mV × mG) := if Y.1 a0 = 3 then (G a0 4).bind (fun r2 => (G a0 0).bind (fun r3 => if Y.1 r2 = 2 then (cf_X2_copyFrom Y V G r2 r3).bind (fun x5 => if Y.1 r3 = 2 then (cf_X2_cureOf Y x5 G r3 b1).bind (fun x7 => (cf_X3_recorded Y x7.2 G a0 x7.1).bind (fun x8 => some (x8.1, x8.2.1, x8.2.2))) else none) else none)) else none
def cf_X3_serve (Y : mY) (V : mV) (G : mG) (a0 : Nat) (b1 : Int32) (b2 : Int32) : Option (Int32 × mV × mG) := if Y.1 a0 = 3 then (G a0 4).bind (fun r2 => (G a0 0).bind (fun r3 => if Y.1 r2 = 2 then (cf_X2_copyFrom Y V G r2 r3).bind (fun x5 => if Y.1 r3 = 2 then (cf_X2_serveOn Y x5 G r3 b1 b2).bind (fun x7 => (cf_X3_recorded Y x7.2 G a0 x7.1).bind (fun x8 => some (x8.1, x8.2.1, x8.2.2))) else none) else none)) else none
def cf_X3_vary (Y : mY) (V : mV) (G : mG) (a0 : Nat) (b1 : Int32) (b2 : Int32) (b3 : Int32) : Option (Int32 × mV × mG) := if Y.1 a0 = 3 then (G a0 4).bind (fun r2 => (G a0 0).bind (fun r3 => if Y.1 r2 = 2 then (cf_X2_copyFrom Y V G r2 r3).bind (fun x5 => if Y.1 r3 = 2 then (cf_X2_varyTo Y x5 G r3 b1 b2 b3).bind (fun x7 => (cf_X3_recorded Y x7.2 G a0 x7.1).bind (fun x8 => some (x8.1, x8.2.1, x8.2.2))) else none) else none)) else none
def cf_X3_pass (Y : mY) (V : mV) (G : mG) (a0 : Nat) (b1 : Int32) : Option (Int32 × mV × mG) := if Y.1 a0 = 3 then (G a0 4).bind (fun r2 => (G a0 0).bind (fun r3 => if Y.1 r2 = 2 then (cf_X2_copyFrom Y V G r2 r3).bind (fun x5 => if Y.1 r3 = 2 then (cf_X2_passDays Y x5 G r3 b1).bind (fun x7 => (cf_X3_recorded Y x7.2 G a0 x7.1).bind (fun x8 => some (x8.1, x8.2.1, x8.2.2))) else none) else none)) else none
def cf_X3_set (Y : mY) (V : mV) (G : mG) (a0 : Nat) (b1 : Int32) (b2 : Int32) : Option (Int32 × mV × mG) := if Y.1 a0 = 3 then (G a0 4).bind (fun r2 => (G a0 0).bind (fun r3 => if Y.1 r2 = 2 then (cf_X2_copyFrom Y V G r2 r3).bind (fun x5 => if Y.1 r3 = 2 then (cf_X2_putSetting Y x5 G r3 b1 b2).bind (fun x7 => (cf_X3_recorded Y x7.2 G a0 x7.1).bind (fun x8 => some (x8.1, x8.2.1, x8.2.2))) else none) else none)) else none
def cf_X3_conditionOf (Y : mY) (V : mV) (G : mG) (a0 : Nat) (b1 : Int32) (b2 : Int32) : Option (Int32) := if Y.1 a0 = 3 then (G a0 0).bind (fun r2 => if Y.1 r2 = 2 then (cf_X2_hasCondition Y V G r2 b1).bind (fun x4 => if x4 = 0 then (some (-1000001 : Int32)) else ((G r2 0).bind (fun r6 => if Y.1 r6 = 7 ∨ Y.1 r6 = 8 then if ¬ (b1 < 0 ∨ Y.2 r6 ≤ b1.toNatClampNeg) then (G r6 b1.toNatClampNeg).bind (fun r9 => if b2 = (0 : Int32) then (if Y.1 r9 = 0 then some (V r9 0) else none) else (if b2 = (1 : Int32) then (if Y.1 r9 = 0 then some (V r9 1) else none) else (if b2 = (2 : Int32) then (if Y.1 r9 = 0 then some (V r9 2) else none) else (if b2 = (3 : Int32) then (if Y.1 r9 = 0 then some (V r9 3) else none) else (if b2 = (4 : Int32) then ((cf_X2_stateOf Y V G r2 r9).bind (fun x19 => some x19)) else (if b2 = (5 : Int32) then (if Y.1 r9 = 0 then some (V r9 4) else none) else (if b2 = (6 : Int32) then (if Y.1 r9 = 0 then some (V r9 5) else none) else (if b2 = (7 : Int32) then (if Y.1 r9 = 0 then if (V r9 5) = 0 then (some (-1000004 : Int32)) else (some (V r9 6)) else none) else (if b2 = (8 : Int32) then (if Y.1 r9 = 0 then some (V r9 7) else none) else (if b2 = (9 : Int32) then (if Y.1 r9 = 0 then if (V r9 8) = 0 then (some (-1000004 : Int32)) else (some (V r9 10)) else none) else (if b2 = (10 : Int32) then (if Y.1 r9 = 0 then if (V r9 11) = 0 then (some (-1000004 : Int32)) else (some (V r9 12)) else none) else (if b2 = (11 : Int32) then (if Y.1 r9 = 0 then some (V r9 13) else none) else (some (-1000001 : Int32)))))))))))))) else none else none))) else none) else none
def cf_X3_stageOf (Y : mY) (V : mV) (G : mG) (a0 : Nat) (b1 : Int32) (b2 : Int32) : Option (Int32) := (cf_X3_isWithin b1 (0 : Int32) (4 : Int32)).bind (fun x1 => if x1 = 0 then (some (-1000001 : Int32)) else (if b2 = (0 : Int32) then (if Y.1 a0 = 3 then (G a0 0).bind (fun r5 => if Y.1 r5 = 2 then (cf_X2_progressOf Y V G r5 b1).bind (fun x7 => some x7) else none) else none) else (if b2 = (1 : Int32) then (if Y.1 a0 = 3 then (G a0 0).bind (fun r10 => if Y.1 r10 = 2 then (cf_X2_isBegun Y V G r10 b1).bind (fun x12 => if x12 = 0 then (some (-1000004 : Int32)) else ((G r10 1).bind (fun r14 => if Y.1 r14 = 6 then if ¬ (b1 < 0 ∨ Y.2 r14 ≤ b1.toNatClampNeg) then some (V r14 b1.toNatClampNeg) else none else none))) else none) else none) else (if b2 = (2 : Int32) then (if Y.1 a0 = 3 then (G a0 0).bind (fun r19 => if Y.1 r19 = 2 then (cf_X2_isFinished Y V G r19 b1).bind (fun x21 => if x21 = 0 then (some (-1000004 : Int32)) else ((G r19 2).bind (fun r23 => if Y.1 r23 = 6 then if ¬ (b1 < 0 ∨ Y.2 r23 ≤ b1.toNatClampNeg) then some (V r23 b1.toNatClampNeg) else none else none))) else none) else none) else (if b2 = (3 : Int32) then (if Y.1 a0 = 3 then (G a0 0).bind (fun r28 => if Y.1 r28 = 2 then (cf_X2_unmetAhead Y V G r28 b1).bind (fun x30 => some x30) else none) else none) else (some (-1000001 : Int32)))))))
def cf_X3_which (Y : mY) (V : mV) (G : mG) (a0 : Nat) (b1 : Int32) : Option (Int32) := (cf_X3_isWithin b1 (0 : Int32) (4 : Int32)).bind (fun x1 => if x1 = 0 then (some (-1000001 : Int32)) else (if Y.1 a0 = 3 then (G a0 0).bind (fun r4 => if Y.1 r4 = 2 then (cf_X2_withState Y V G r4 b1).bind (fun x6 => some x6) else none) else none))
def cf_X3_when (Y : mY) (V : mV) (G : mG) (a0 : Nat) (b1 : Int32) (b2 : Int32) : Option (Int32 × mV) := if Y.1 a0 = 3 then (G a0 0).bind (fun r2 => if Y.1 r2 = 2 then (cf_X2_hasCondition Y V G r2 b1).bind (fun x4 => if x4 = 0 then (some ((-1000001 : Int32), V)) else ((cf_X3_isWithin b2 (0 : Int32) (4 : Int32)).bind (fun x6 => if x6 = 0 then (some ((-1000001 : Int32), V)) else ((G a0 1).bind (fun r8 => if Y.1 r8 = 2 then (cf_X2_copyFrom Y V G r8 r2).bind (fun x10 => (cf_X2_daysUntil Y x10 G r8 b1 b2).bind (fun x11 => some (x11.1, x11.2))) else none))))) else none) else none
def cf_X3_lawful (Y : mY) (V : mV) (G : mG) (a0 : Nat) (b1 : Int32) : Option (Int32 × mV) := (cf_X3_isWithin b1 (0 : Int32) (4 : Int32)).bind (fun x1 => if x1 = 0 then (some ((-1000001 : Int32), V)) else (if Y.1 a0 = 3 then (G a0 0).bind (fun r4 => if Y.1 r4 = 2 then (cf_X2_canBegin Y V G r4 b1).bind (fun x6 => if x6 = 0 then (some ((-1000002 : Int32), V)) else ((G a0 1).bind (fun r8 => if Y.1 r8 = 2 then (cf_X2_copyFrom Y V G r8 r4).bind (fun x10 => (cf_X2_daysUntilLawful Y x10 G r8 b1).bind (fun x11 => some (x11.1, x11.2))) else none))) else none) else none))
def cf_X3_fine (Y : mY) (V : mV) (G : mG) (a0 : Nat) (b1 : Int32) (b2 : Int64) : Option (Int64) := if Y.1 a0 = 3 then (G a0 0).bind (fun r2 => if Y.1 r2 = 2 then (cf_X2_hasCondition Y V G r2 b1).bind (fun x4 => if x4 = 0 then (some (-1000001 : Int64)) else (if (lg_cmp b2 (1 : Int64)) < 0 then (some (-1000001 : Int64)) else (if (lg_cmp b2 (1000000000000000 : Int64)) ≤ 0 then ((G r2 0).bind (fun r8 => if Y.1 r8 = 7 ∨ Y.1 r8 = 8 then if ¬ (b1 < 0 ∨ Y.2 r8 ≤ b1.toNatClampNeg) then (G r8 b1.toNatClampNeg).bind (fun r11 => if Y.1 r11 = 0 then if (lg_cmp (((V r11 13)).toInt64 * ((V r11 13)).toInt64) (0 : Int64)) ≤ 0 then (some (b2 * (((V r11 13)).toInt64 * ((V r11 13)).toInt64))) else (if ¬ (((V r11 13)).toInt64 * ((V r11 13)).toInt64) = 0 then if (lg_cmp b2 ((9223372036854775807 : Int64) / (((V r11 13)).toInt64 * ((V r11 13)).toInt64))) ≤ 0 then (some (b2 * (((V r11 13)).toInt64 * ((V r11 13)).toInt64))) else (some (-1000003 : Int64)) else none) else none) else none else none)) else (some (-1000001 : Int64))))) else none) else none
def lp_X3_bitsOf_13  : Nat → UInt32 → UInt32 → Int32 → Option (Int32)
  | 0, _, _, _ => none
  | k + 1, j0, j1, j2 => if 0 ≤ (Op.cmpValue (FP.fcmp j1 FP.fconst1) CmpOp.g) then (if (FP.fsub j1 FP.fconst1) &&& 0x7fffffff ≤ 0x7f800000 then if (FP.fmul (FP.fsub j1 FP.fconst1) (1258291200 : UInt32)) &&& 0x7fffffff ≤ 0x7f800000 then some ((j2 <<< ((23 : Int32) &&& 31)) ||| (FP.f2i (FP.fmul (FP.fsub j1 FP.fconst1) (1258291200 : UInt32)))) else none else none) else (if j2 ≤ (1 : Int32) then (if (FP.fsub j1 FP.fconst1) &&& 0x7fffffff ≤ 0x7f800000 then if (FP.fmul (FP.fsub j1 FP.fconst1) (1258291200 : UInt32)) &&& 0x7fffffff ≤ 0x7f800000 then some ((j2 <<< ((23 : Int32) &&& 31)) ||| (FP.f2i (FP.fmul (FP.fsub j1 FP.fconst1) (1258291200 : UInt32)))) else none else none) else (if (FP.fmul j1 FP.fconst2) &&& 0x7fffffff ≤ 0x7f800000 then lp_X3_bitsOf_13 k j0 (FP.fmul j1 FP.fconst2) (j2 + (-1)) else none))
def cf_X3_bitsOf (b1 : UInt32) : Option (Int32) := if 0 < (Op.cmpValue (FP.fcmp b1 FP.fconst0) CmpOp.l) then (lp_X3_bitsOf_13 fuB b1 b1 (127 : Int32)) else (some (0 : Int32))
def cf_X3_share (Y : mY) (V : mV) (G : mG) (a0 : Nat) : Option (Int32) := if Y.1 a0 = 3 then (G a0 0).bind (fun r2 => if Y.1 r2 = 2 then if 0 < (V r2 3) then ((cf_X2_withState Y V G r2 (2 : Int32)).bind (fun x5 => (cf_J6_bitCount_0f7a4 x5).bind (fun x6 => if (FP.fdiv (FP.i2f x6) (FP.i2f (V r2 3))) &&& 0x7fffffff ≤ 0x7f800000 then (cf_X3_bitsOf (FP.fdiv (FP.i2f x6) (FP.i2f (V r2 3)))).bind (fun x8 => some x8) else none))) else (some (-1000004 : Int32)) else none) else none
def cf_X3_count (Y : mY) (V : mV) (G : mG) (a0 : Nat) (b1 : Int32) : Option (Int32) := if b1 = (0 : Int32) then (if Y.1 a0 = 3 then (G a0 0).bind (fun r3 => if Y.1 r3 = 2 then some (V r3 3) else none) else none) else (if b1 = (1 : Int32) then (if Y.1 a0 = 3 then (G a0 0).bind (fun r7 => if Y.1 r7 = 2 then some (V r7 4) else none) else none) else (if b1 = (2 : Int32) then (if Y.1 a0 = 3 then (G a0 0).bind (fun r11 => if Y.1 r11 = 2 then (cf_X2_partsOfAll Y V G r11).bind (fun x13 => some x13) else none) else none) else (if b1 = (3 : Int32) then (if Y.1 a0 = 3 then (G a0 0).bind (fun r16 => if Y.1 r16 = 2 then (cf_X2_approvedOfAll Y V G r16).bind (fun x18 => some x18) else none) else none) else (if b1 = (4 : Int32) then (if Y.1 a0 = 3 then (G a0 0).bind (fun r21 => if Y.1 r21 = 2 then some (V r21 5) else none) else none) else (if b1 = (5 : Int32) then (if Y.1 a0 = 3 then (G a0 0).bind (fun r25 => if Y.1 r25 = 2 then some (V r25 6) else none) else none) else (if b1 = (6 : Int32) then (if Y.1 a0 = 3 then some (V a0 5) else none) else (if b1 = (7 : Int32) then (if Y.1 a0 = 3 then (G a0 3).bind (fun r31 => if Y.1 r31 = 1 then some (V r31 2) else none) else none) else (if b1 = (20 : Int32) then (if Y.1 a0 = 3 then (G a0 0).bind (fun r35 => if Y.1 r35 = 2 then some (V r35 7) else none) else none) else (if b1 = (21 : Int32) then (if Y.1 a0 = 3 then (G a0 0).bind (fun r39 => if Y.1 r39 = 2 then some (V r39 8) else none) else none) else (some (-1000001 : Int32)))))))))))
def cf_X3_undo (Y : mY) (V : mV) (G : mG) (a0 : Nat) : Option (Int32 × mV) := if Y.1 a0 = 3 then if 0 < (V a0 5) then ((G a0 0).bind (fun r3 => (G a0 2).bind (fun r4 => if Y.1 r4 = 7 ∨ Y.1 r4 = 8 then if ¬ (((up2 V a0 5 ((V a0 5) - (1 : Int32))) a0 5) < 0 ∨ Y.2 r4 ≤ ((up2 V a0 5 ((V a0 5) - (1 : Int32))) a0 5).toNatClampNeg) then (G r4 ((up2 V a0 5 ((V a0 5) - (1 : Int32))) a0 5).toNatClampNeg).bind (fun r7 => if Y.1 r3 = 2 then (cf_X2_copyFrom Y (up2 V a0 5 ((V a0 5) - (1 : Int32))) G r3 r7).bind (fun x9 => some ((x9 a0 5), x9)) else none) else none else none))) else (some ((-1000002 : Int32), V)) else none
set_option maxHeartbeats 4000000 in
set_option maxRecDepth 100000 in
theorem wl_X3_rotateHistory_9 {p : Program} {l : Launch} {e : Env} {s : State} {m : MethodId} {args : Array Value} {below : List Frame} {meth : Method} {c : Code} {D : va_G} {cy : Nat → ClassId} {z : Nat} {n : Nat} {Y : mY} {V : mV} (hx : p.tables.exec = Jvm.exec) (hb : c.code = cX3_rotateHistory) (hr : meth.sig.returnType = none) (hml : c.maxLocals = 3) (hown : s.vm.findClass RX3 = some m.cls) (hts : ∀ w ∈ lw_all, w.before args s = true) (hlocks : meth.locks = false) (hE : En D cy s) (x : mG) : ∀ (k : Nat) (G : mG) (j0 : Nat) (j1 : Nat) (j2 : Int32) (H : Heap) (locs : List Loc) (ls : Array Slot), lp_X3_rotateHistory_9 Y V k G j0 j1 j2 = some x → Wd Y cy D z n V G H → va_S (zA z) s.heap H locs → lv_has ls 3 [(0, .ref j0), (1, .ref j1), (2, .int j2)] → W p l e (rmd 0) s m args below meth c H locs 0 0 (MQ below (QC D cy z Y n V x none) args s 0 0 (zA z)) (F0 m 9 ls []) := by
  intro k
  induction k with
  | zero =>
    intro G j0 j1 j2 H locs ls hcf
    have hcf : none = some _ := hcf
    cases hcf
  | succ k ih =>
    intro G j0 j1 j2 H locs ls hcf hW hS hl
    rw [lp_X3_rotateHistory_9] at hcf
    refine lv_iload_n hx hb dX3_rotateHistory_9 rfl (lv_at hl 2 rfl) ?_
    refine lv_iconst (v := (4 : Int32)) hx hb dX3_rotateHistory_10 (by decide) ?_
    refine lv_icmp_ge (tgt := 34) hx hb dX3_rotateHistory_11 (by decide) (fun q6 => ?_) (fun q6 => ?_)
    · replace hcf := (if_pos q6).symm.trans hcf
      refine lv_aload_n hx hb dX3_rotateHistory_34 rfl (lv_at hl 0 rfl) ?_
      obtain ⟨q7, hcf⟩ := og hcf
      obtain ⟨r8, hr8, hcf⟩ := ob hcf
      refine gf_X3_19 hx hb hts hown hE hW q7 hr8 dX3_rotateHistory_35 ?_
      refine lv_iconst (v := (3 : Int32)) hx hb dX3_rotateHistory_38 (by decide) ?_
      refine lv_aload_n hx hb dX3_rotateHistory_39 rfl (lv_at hl 1 rfl) ?_
      obtain ⟨q9, hcf⟩ := og hcf
      obtain ⟨q10, hcf⟩ := og hcf
      refine wk_aast hx hb hE hW hS q9 q10 dX3_rotateHistory_40 (fun H locs hW hS => ?_)
      have hcf := Option.some.inj hcf; subst hcf
      exact wk_vret hx hb hr hlocks hW hS dX3_rotateHistory_41
    · replace hcf := (if_neg q6).symm.trans hcf
      refine lv_aload_n hx hb dX3_rotateHistory_14 rfl (lv_at hl 0 rfl) ?_
      obtain ⟨q11, hcf⟩ := og hcf
      obtain ⟨r12, hr12, hcf⟩ := ob hcf
      refine gf_X3_19 hx hb hts hown hE hW q11 hr12 dX3_rotateHistory_15 ?_
      refine lv_iload_n hx hb dX3_rotateHistory_18 rfl (lv_at hl 2 rfl) ?_
      refine lv_iconst (v := (1 : Int32)) hx hb dX3_rotateHistory_19 (by decide) ?_
      refine lv_isub hx hb dX3_rotateHistory_20 ?_
      refine lv_aload_n hx hb dX3_rotateHistory_21 rfl (lv_at hl 0 rfl) ?_
      refine gf_X3_19 hx hb hts hown hE hW q11 hr12 dX3_rotateHistory_22 ?_
      refine lv_iload_n hx hb dX3_rotateHistory_25 rfl (lv_at hl 2 rfl) ?_
      obtain ⟨q13, hcf⟩ := og hcf
      obtain ⟨q14, hcf⟩ := og hcf
      obtain ⟨r15, hr15, hcf⟩ := ob hcf
      refine wk_aald hx hb hE hW q13 q14 hr15 dX3_rotateHistory_26 ?_
      obtain ⟨q16, hcf⟩ := og hcf
      obtain ⟨q17, hcf⟩ := og hcf
      refine wk_aast hx hb hE hW hS q16 q17 dX3_rotateHistory_27 (fun H locs hW hS => ?_)
      refine lv_iinc (v := (j2 + 1)) (lv' := [(2, .int (j2 + 1)), (0, .ref j0), (1, .ref j1)]) hx hb dX3_rotateHistory_28 hl (k := 2) rfl rfl (by decide) rfl (fun ls hl => ?_)
      refine lv_goto (tgt := 9) hx hb dX3_rotateHistory_31 (by decide) ?_
      exact ih (up2 G r12 (j2 - (1 : Int32)).toNatClampNeg (some r15)) j0 j1 (j2 + 1) _ _ _ hcf hW hS (lv_sub hl [1, 2, 0] rfl)
set_option maxHeartbeats 4000000 in
set_option maxRecDepth 100000 in
theorem ct_X3_rotateHistory (l : Launch) (D : va_G) (cy : Nat → ClassId) (z n : Nat) (Y : mY) (V : mV) (G : mG) (a0 : Nat) (x : mG) (hcf : cf_X3_rotateHistory Y V G a0 = some x) : CT l yX3_rotateHistory cX3_rotateHistory 3 none (rmd 0) D cy z [.ref a0] Y n V G none Y n V x := by
  refine ct_of (by decide) (Nat.le_of_ble_eq_true rfl) ?_
  intro p e s m args below meth c ls hx hb hr hml hown hts hlocks hnm hE hW hl
  have hS : va_S (zA z) s.heap s.heap [] := va_S.rf
  have hl : lv_has ls 3 [(0, .ref a0)] := hl
  have hown : s.vm.findClass RX3 = some m.cls := hown
  rw [cf_X3_rotateHistory] at hcf
  refine lv_aload_n hx hb dX3_rotateHistory_0 rfl (lv_at hl 0 rfl) ?_
  obtain ⟨q1, hcf⟩ := og hcf
  obtain ⟨r2, hr2, hcf⟩ := ob hcf
  refine gf_X3_19 hx hb hts hown hE hW q1 hr2 dX3_rotateHistory_1 ?_
  refine lv_iconst (v := (0 : Int32)) hx hb dX3_rotateHistory_4 (by decide) ?_
  obtain ⟨q3, hcf⟩ := og hcf
  obtain ⟨q4, hcf⟩ := og hcf
  obtain ⟨r5, hr5, hcf⟩ := ob hcf
  refine wk_aald hx hb hE hW q3 q4 hr5 dX3_rotateHistory_5 ?_
  refine lv_astore_n (lv' := [(1, .ref r5), (0, .ref a0)]) hx hb dX3_rotateHistory_6 rfl hl (by decide) rfl (fun ls hl => ?_)
  refine lv_iconst (v := (1 : Int32)) hx hb dX3_rotateHistory_7 (by decide) ?_
  refine lv_istore_n (lv' := [(2, .int (1 : Int32)), (1, .ref r5), (0, .ref a0)]) hx hb dX3_rotateHistory_8 rfl hl (by decide) rfl (fun ls hl => ?_)
  exact wl_X3_rotateHistory_9 hx hb hr hml hown hts hlocks hE x fuB G a0 r5 (1 : Int32) _ _ _ hcf hW hS (lv_sub hl [2, 1, 0] rfl)
set_option maxHeartbeats 4000000 in
set_option maxRecDepth 100000 in
theorem ct_X3_recorded (l : Launch) (D : va_G) (cy : Nat → ClassId) (z n : Nat) (Y : mY) (V : mV) (G : mG) (a0 : Nat) (b1 : Int32) (x : Int32 × mV × mG) (hcf : cf_X3_recorded Y V G a0 b1 = some x) : CT l yX3_recorded cX3_recorded 3 (some .int) (rmd 1) D cy z [.ref a0, .int b1] Y n V G (some (.int x.1)) Y n x.2.1 x.2.2 := by
  refine ct_of (by decide) (Nat.le_of_ble_eq_true rfl) ?_
  intro p e s m args below meth c ls hx hb hr hml hown hts hlocks hnm hE hW hl
  have hS : va_S (zA z) s.heap s.heap [] := va_S.rf
  have hl : lv_has ls 3 [(0, .ref a0), (1, .int b1)] := hl
  have hown : s.vm.findClass RX3 = some m.cls := hown
  rw [cf_X3_recorded] at hcf
  refine lv_iload_n hx hb dX3_recorded_0 rfl (lv_at hl 1 rfl) ?_
  refine lv_if_ge (tgt := 6) hx hb dX3_recorded_1 (by decide) (fun q1 => ?_) (fun q1 => ?_)
  · replace hcf := (if_pos q1).symm.trans hcf
    refine lv_aload_n hx hb dX3_recorded_6 rfl (lv_at hl 0 rfl) ?_
    obtain ⟨q2, hcf⟩ := og hcf
    refine gf_X3_33 hx hb hts hown hE hW q2 dX3_recorded_7 ?_
    refine lv_iconst (v := (4 : Int32)) hx hb dX3_recorded_10 (by decide) ?_
    refine lv_icmp_lt (tgt := 23) hx hb dX3_recorded_11 (by decide) (fun q3 => ?_) (fun q3 => ?_)
    · replace hcf := (if_pos q3).symm.trans hcf
      refine lv_aload_n hx hb dX3_recorded_23 rfl (lv_at hl 0 rfl) ?_
      obtain ⟨r4, hr4, hcf⟩ := ob hcf
      refine gf_X3_19 hx hb hts hown hE hW q2 hr4 dX3_recorded_24 ?_
      refine lv_aload_n hx hb dX3_recorded_27 rfl (lv_at hl 0 rfl) ?_
      refine gf_X3_33 hx hb hts hown hE hW q2 dX3_recorded_28 ?_
      obtain ⟨q5, hcf⟩ := og hcf
      obtain ⟨q6, hcf⟩ := og hcf
      obtain ⟨r7, hr7, hcf⟩ := ob hcf
      refine wk_aald hx hb hE hW q5 q6 hr7 dX3_recorded_31 ?_
      refine lv_astore_n (lv' := [(2, .ref r7), (0, .ref a0), (1, .int b1)]) hx hb dX3_recorded_32 rfl hl (by decide) rfl (fun ls hl => ?_)
      refine lv_aload_n hx hb dX3_recorded_33 rfl (lv_at hl 1 rfl) ?_
      refine gf_X3_19 hx hb hts hown hE hW q2 hr4 dX3_recorded_34 ?_
      refine lv_aload_n hx hb dX3_recorded_37 rfl (lv_at hl 1 rfl) ?_
      refine gf_X3_33 hx hb hts hown hE hW q2 dX3_recorded_38 ?_
      refine lv_aload_n hx hb dX3_recorded_41 rfl (lv_at hl 1 rfl) ?_
      obtain ⟨r8, hr8, hcf⟩ := ob hcf
      refine gf_X3_30 hx hb hts hown hE hW q2 hr8 dX3_recorded_42 ?_
      obtain ⟨q9, hcf⟩ := og hcf
      obtain ⟨q10, hcf⟩ := og hcf
      refine wk_aast hx hb hE hW hS q9 q10 dX3_recorded_45 (fun H locs hW hS => ?_)
      refine lv_aload_n hx hb dX3_recorded_46 rfl (lv_at hl 1 rfl) ?_
      refine lv_aload_n hx hb dX3_recorded_47 rfl (lv_at hl 0 rfl) ?_
      refine pf_X3_30 hx hb hts hown hE hW hS q2 r7 dX3_recorded_48 (fun H locs hW hS => ?_)
      refine lv_aload_n hx hb dX3_recorded_51 rfl (lv_at hl 1 rfl) ?_
      refine lv_dup hx hb dX3_recorded_52 rfl ?_
      refine gf_X3_33 hx hb hts hown hE hW q2 dX3_recorded_53 ?_
      refine lv_iconst (v := (1 : Int32)) hx hb dX3_recorded_56 (by decide) ?_
      refine lv_iadd hx hb dX3_recorded_57 ?_
      refine pf_X3_33 hx hb hts hown hE hW hS q2 ((V a0 5) + (1 : Int32)) dX3_recorded_58 (fun H locs hW hS => ?_)
      refine lv_iload_n hx hb dX3_recorded_61 rfl (lv_at hl 2 rfl) ?_
      have hcf := Option.some.inj hcf; subst hcf
      exact wk_iret hx hb hr hlocks hW hS dX3_recorded_62
    · replace hcf := (if_neg q3).symm.trans hcf
      refine lv_aload_n hx hb dX3_recorded_14 rfl (lv_at hl 0 rfl) ?_
      obtain ⟨x11, hx11, hcf⟩ := ob hcf
      refine iv_X3_238 (As := []) (rest := []) hx hb hml hown hts hE (ct_X3_rotateHistory l D cy z n Y V G a0 x11 hx11) hW hS q2 rfl rfl hl.1 (Nat.le_of_ble_eq_true rfl) ⟨Nat.le_of_ble_eq_true rfl, Nat.le_of_ble_eq_true rfl⟩ dX3_recorded_15 ⟨Nat.zero_le _, Nat.zero_le _⟩ (fun H locs hW hS => ?_)
      refine lv_aload_n hx hb dX3_recorded_18 rfl (lv_at hl 0 rfl) ?_
      refine lv_iconst (v := (3 : Int32)) hx hb dX3_recorded_19 (by decide) ?_
      refine pf_X3_33 hx hb hts hown hE hW hS q2 (3 : Int32) dX3_recorded_20 (fun H locs hW hS => ?_)
      refine lv_aload_n hx hb dX3_recorded_23 rfl (lv_at hl 0 rfl) ?_
      obtain ⟨r12, hr12, hcf⟩ := ob hcf
      refine gf_X3_19 hx hb hts hown hE hW q2 hr12 dX3_recorded_24 ?_
      refine lv_aload_n hx hb dX3_recorded_27 rfl (lv_at hl 0 rfl) ?_
      refine gf_X3_33 hx hb hts hown hE hW q2 dX3_recorded_28 ?_
      obtain ⟨q13, hcf⟩ := og hcf
      obtain ⟨q14, hcf⟩ := og hcf
      obtain ⟨r15, hr15, hcf⟩ := ob hcf
      refine wk_aald hx hb hE hW q13 q14 hr15 dX3_recorded_31 ?_
      refine lv_astore_n (lv' := [(2, .ref r15), (0, .ref a0), (1, .int b1)]) hx hb dX3_recorded_32 rfl hl (by decide) rfl (fun ls hl => ?_)
      refine lv_aload_n hx hb dX3_recorded_33 rfl (lv_at hl 1 rfl) ?_
      refine gf_X3_19 hx hb hts hown hE hW q2 hr12 dX3_recorded_34 ?_
      refine lv_aload_n hx hb dX3_recorded_37 rfl (lv_at hl 1 rfl) ?_
      refine gf_X3_33 hx hb hts hown hE hW q2 dX3_recorded_38 ?_
      refine lv_aload_n hx hb dX3_recorded_41 rfl (lv_at hl 1 rfl) ?_
      obtain ⟨r16, hr16, hcf⟩ := ob hcf
      refine gf_X3_30 hx hb hts hown hE hW q2 hr16 dX3_recorded_42 ?_
      obtain ⟨q17, hcf⟩ := og hcf
      obtain ⟨q18, hcf⟩ := og hcf
      refine wk_aast hx hb hE hW hS q17 q18 dX3_recorded_45 (fun H locs hW hS => ?_)
      refine lv_aload_n hx hb dX3_recorded_46 rfl (lv_at hl 1 rfl) ?_
      refine lv_aload_n hx hb dX3_recorded_47 rfl (lv_at hl 0 rfl) ?_
      refine pf_X3_30 hx hb hts hown hE hW hS q2 r15 dX3_recorded_48 (fun H locs hW hS => ?_)
      refine lv_aload_n hx hb dX3_recorded_51 rfl (lv_at hl 1 rfl) ?_
      refine lv_dup hx hb dX3_recorded_52 rfl ?_
      refine gf_X3_33 hx hb hts hown hE hW q2 dX3_recorded_53 ?_
      refine lv_iconst (v := (1 : Int32)) hx hb dX3_recorded_56 (by decide) ?_
      refine lv_iadd hx hb dX3_recorded_57 ?_
      refine pf_X3_33 hx hb hts hown hE hW hS q2 (((up2 V a0 5 (3 : Int32)) a0 5) + (1 : Int32)) dX3_recorded_58 (fun H locs hW hS => ?_)
      refine lv_iload_n hx hb dX3_recorded_61 rfl (lv_at hl 2 rfl) ?_
      have hcf := Option.some.inj hcf; subst hcf
      exact wk_iret hx hb hr hlocks hW hS dX3_recorded_62
  · replace hcf := (if_neg q1).symm.trans hcf
    refine lv_iload_n hx hb dX3_recorded_4 rfl (lv_at hl 1 rfl) ?_
    have hcf := Option.some.inj hcf; subst hcf
    exact wk_iret hx hb hr hlocks hW hS dX3_recorded_5
set_option maxHeartbeats 4000000 in
set_option maxRecDepth 100000 in
theorem ct_X3_condition (l : Launch) (D : va_G) (cy : Nat → ClassId) (z n : Nat) (Y : mY) (V : mV) (G : mG) (a0 : Nat) (b1 : Int32) (b2 : Int32) (b3 : Int32) (b4 : Int32) (x : Int32 × mV × mG) (hcf : cf_X3_condition Y V G a0 b1 b2 b3 b4 = some x) : CT l yX3_condition cX3_condition 5 (some .int) (rmd 3) D cy z [.ref a0, .int b1, .int b2, .int b3, .int b4] Y n V G (some (.int x.1)) Y n x.2.1 x.2.2 := by
  refine ct_of (by decide) (Nat.le_of_ble_eq_true rfl) ?_
  intro p e s m args below meth c ls hx hb hr hml hown hts hlocks hnm hE hW hl
  have hS : va_S (zA z) s.heap s.heap [] := va_S.rf
  have hl : lv_has ls 5 [(0, .ref a0), (1, .int b1), (2, .int b2), (3, .int b3), (4, .int b4)] := hl
  have hown : s.vm.findClass RX3 = some m.cls := hown
  rw [cf_X3_condition] at hcf
  refine lv_aload_n hx hb dX3_condition_0 rfl (lv_at hl 0 rfl) ?_
  obtain ⟨q1, hcf⟩ := og hcf
  obtain ⟨r2, hr2, hcf⟩ := ob hcf
  refine gf_X3_30 hx hb hts hown hE hW q1 hr2 dX3_condition_1 ?_
  refine lv_aload_n hx hb dX3_condition_4 rfl (lv_at hl 0 rfl) ?_
  obtain ⟨r3, hr3, hcf⟩ := ob hcf
  refine gf_X3_10 hx hb hts hown hE hW q1 hr3 dX3_condition_5 ?_
  obtain ⟨q4, hcf⟩ := og hcf
  obtain ⟨x5, hx5, hcf⟩ := ob hcf
  refine iv_X3_37 (As := [.ref r3]) (rest := []) hx hb hml hown hts hE (ct_X2_copyFrom l D cy z n Y V G r2 r3 x5 hx5) hW hS q4 rfl rfl hl.1 (Nat.le_of_ble_eq_true rfl) ⟨Nat.le_of_ble_eq_true rfl, Nat.le_of_ble_eq_true rfl⟩ dX3_condition_8 ⟨Nat.zero_le _, Nat.zero_le _⟩ (fun H locs hW hS => ?_)
  refine lv_aload_n hx hb dX3_condition_11 rfl (lv_at hl 0 rfl) ?_
  refine lv_aload_n hx hb dX3_condition_12 rfl (lv_at hl 0 rfl) ?_
  refine gf_X3_10 hx hb hts hown hE hW q1 hr3 dX3_condition_13 ?_
  refine lv_iload_n hx hb dX3_condition_16 rfl (lv_at hl 1 rfl) ?_
  refine lv_iload_n hx hb dX3_condition_17 rfl (lv_at hl 2 rfl) ?_
  refine lv_iload_n hx hb dX3_condition_18 rfl (lv_at hl 3 rfl) ?_
  refine lv_iload hx hb dX3_condition_19 (lv_at hl 4 rfl) ?_
  obtain ⟨q6, hcf⟩ := og hcf
  obtain ⟨x7, hx7, hcf⟩ := ob hcf
  refine iv_X3_41 (As := [.int b1, .int b2, .int b3, .int b4]) (rest := [.ref a0]) hx hb hml hown hts hE (ct_X2_addCondition l D cy z n Y x5 G r3 b1 b2 b3 b4 x7 hx7) hW hS q6 rfl rfl hl.1 (Nat.le_of_ble_eq_true rfl) ⟨Nat.le_of_ble_eq_true rfl, Nat.le_of_ble_eq_true rfl⟩ dX3_condition_21 ⟨Nat.zero_le _, Nat.zero_le _⟩ (fun H locs hW hS => ?_)
  obtain ⟨x8, hx8, hcf⟩ := ob hcf
  refine iv_X3_45 (As := [.int x7.1]) (rest := []) hx hb hml hown hts hE (ct_X3_recorded l D cy z n Y x7.2 G a0 x7.1 x8 hx8) hW hS q1 rfl rfl hl.1 (Nat.le_of_ble_eq_true rfl) ⟨Nat.le_of_ble_eq_true rfl, Nat.le_of_ble_eq_true rfl⟩ dX3_condition_24 ⟨Nat.zero_le _, Nat.zero_le _⟩ (fun H locs hW hS => ?_)
  have hcf := Option.some.inj hcf; subst hcf
  exact wk_iret hx hb hr hlocks hW hS dX3_condition_27
set_option maxHeartbeats 4000000 in
set_option maxRecDepth 100000 in
theorem ct_X3_begin (l : Launch) (D : va_G) (cy : Nat → ClassId) (z n : Nat) (Y : mY) (V : mV) (G : mG) (a0 : Nat) (b1 : Int32) (x : Int32 × mV × mG) (hcf : cf_X3_begin Y V G a0 b1 = some x) : CT l yX3_begin cX3_begin 2 (some .int) (rmd 4) D cy z [.ref a0, .int b1] Y n V G (some (.int x.1)) Y n x.2.1 x.2.2 := by
  refine ct_of (by decide) (Nat.le_of_ble_eq_true rfl) ?_
  intro p e s m args below meth c ls hx hb hr hml hown hts hlocks hnm hE hW hl
  have hS : va_S (zA z) s.heap s.heap [] := va_S.rf
  have hl : lv_has ls 2 [(0, .ref a0), (1, .int b1)] := hl
  have hown : s.vm.findClass RX3 = some m.cls := hown
  rw [cf_X3_begin] at hcf
  refine lv_aload_n hx hb dX3_begin_0 rfl (lv_at hl 0 rfl) ?_
  obtain ⟨q1, hcf⟩ := og hcf
  obtain ⟨r2, hr2, hcf⟩ := ob hcf
  refine gf_X3_30 hx hb hts hown hE hW q1 hr2 dX3_begin_1 ?_
  refine lv_aload_n hx hb dX3_begin_4 rfl (lv_at hl 0 rfl) ?_
  obtain ⟨r3, hr3, hcf⟩ := ob hcf
  refine gf_X3_10 hx hb hts hown hE hW q1 hr3 dX3_begin_5 ?_
  obtain ⟨q4, hcf⟩ := og hcf
  obtain ⟨x5, hx5, hcf⟩ := ob hcf
  refine iv_X3_37 (As := [.ref r3]) (rest := []) hx hb hml hown hts hE (ct_X2_copyFrom l D cy z n Y V G r2 r3 x5 hx5) hW hS q4 rfl rfl hl.1 (Nat.le_of_ble_eq_true rfl) ⟨Nat.le_of_ble_eq_true rfl, Nat.le_of_ble_eq_true rfl⟩ dX3_begin_8 ⟨Nat.zero_le _, Nat.zero_le _⟩ (fun H locs hW hS => ?_)
  refine lv_aload_n hx hb dX3_begin_11 rfl (lv_at hl 0 rfl) ?_
  refine lv_aload_n hx hb dX3_begin_12 rfl (lv_at hl 0 rfl) ?_
  refine gf_X3_10 hx hb hts hown hE hW q1 hr3 dX3_begin_13 ?_
  refine lv_iload_n hx hb dX3_begin_16 rfl (lv_at hl 1 rfl) ?_
  obtain ⟨q6, hcf⟩ := og hcf
  obtain ⟨x7, hx7, hcf⟩ := ob hcf
  refine iv_X3_49 (As := [.int b1]) (rest := [.ref a0]) hx hb hml hown hts hE (ct_X2_beginStage l D cy z n Y x5 G r3 b1 x7 hx7) hW hS q6 rfl rfl hl.1 (Nat.le_of_ble_eq_true rfl) ⟨Nat.le_of_ble_eq_true rfl, Nat.le_of_ble_eq_true rfl⟩ dX3_begin_17 ⟨Nat.zero_le _, Nat.zero_le _⟩ (fun H locs hW hS => ?_)
  obtain ⟨x8, hx8, hcf⟩ := ob hcf
  refine iv_X3_45 (As := [.int x7.1]) (rest := []) hx hb hml hown hts hE (ct_X3_recorded l D cy z n Y x7.2 G a0 x7.1 x8 hx8) hW hS q1 rfl rfl hl.1 (Nat.le_of_ble_eq_true rfl) ⟨Nat.le_of_ble_eq_true rfl, Nat.le_of_ble_eq_true rfl⟩ dX3_begin_20 ⟨Nat.zero_le _, Nat.zero_le _⟩ (fun H locs hW hS => ?_)
  have hcf := Option.some.inj hcf; subst hcf
  exact wk_iret hx hb hr hlocks hW hS dX3_begin_23
set_option maxHeartbeats 4000000 in
set_option maxRecDepth 100000 in
theorem ct_X3_finish (l : Launch) (D : va_G) (cy : Nat → ClassId) (z n : Nat) (Y : mY) (V : mV) (G : mG) (a0 : Nat) (b1 : Int32) (x : Int32 × mV × mG) (hcf : cf_X3_finish Y V G a0 b1 = some x) : CT l yX3_finish cX3_finish 2 (some .int) (rmd 3) D cy z [.ref a0, .int b1] Y n V G (some (.int x.1)) Y n x.2.1 x.2.2 := by
  refine ct_of (by decide) (Nat.le_of_ble_eq_true rfl) ?_
  intro p e s m args below meth c ls hx hb hr hml hown hts hlocks hnm hE hW hl
  have hS : va_S (zA z) s.heap s.heap [] := va_S.rf
  have hl : lv_has ls 2 [(0, .ref a0), (1, .int b1)] := hl
  have hown : s.vm.findClass RX3 = some m.cls := hown
  rw [cf_X3_finish] at hcf
  refine lv_aload_n hx hb dX3_finish_0 rfl (lv_at hl 0 rfl) ?_
  obtain ⟨q1, hcf⟩ := og hcf
  obtain ⟨r2, hr2, hcf⟩ := ob hcf
  refine gf_X3_30 hx hb hts hown hE hW q1 hr2 dX3_finish_1 ?_
  refine lv_aload_n hx hb dX3_finish_4 rfl (lv_at hl 0 rfl) ?_
  obtain ⟨r3, hr3, hcf⟩ := ob hcf
  refine gf_X3_10 hx hb hts hown hE hW q1 hr3 dX3_finish_5 ?_
  obtain ⟨q4, hcf⟩ := og hcf
  obtain ⟨x5, hx5, hcf⟩ := ob hcf
  refine iv_X3_37 (As := [.ref r3]) (rest := []) hx hb hml hown hts hE (ct_X2_copyFrom l D cy z n Y V G r2 r3 x5 hx5) hW hS q4 rfl rfl hl.1 (Nat.le_of_ble_eq_true rfl) ⟨Nat.le_of_ble_eq_true rfl, Nat.le_of_ble_eq_true rfl⟩ dX3_finish_8 ⟨Nat.zero_le _, Nat.zero_le _⟩ (fun H locs hW hS => ?_)
  refine lv_aload_n hx hb dX3_finish_11 rfl (lv_at hl 0 rfl) ?_
  refine lv_aload_n hx hb dX3_finish_12 rfl (lv_at hl 0 rfl) ?_
  refine gf_X3_10 hx hb hts hown hE hW q1 hr3 dX3_finish_13 ?_
  refine lv_iload_n hx hb dX3_finish_16 rfl (lv_at hl 1 rfl) ?_
  obtain ⟨q6, hcf⟩ := og hcf
  obtain ⟨x7, hx7, hcf⟩ := ob hcf
  refine iv_X3_52 (As := [.int b1]) (rest := [.ref a0]) hx hb hml hown hts hE (ct_X2_finishStage l D cy z n Y x5 G r3 b1 x7 hx7) hW hS q6 rfl rfl hl.1 (Nat.le_of_ble_eq_true rfl) ⟨Nat.le_of_ble_eq_true rfl, Nat.le_of_ble_eq_true rfl⟩ dX3_finish_17 ⟨Nat.zero_le _, Nat.zero_le _⟩ (fun H locs hW hS => ?_)
  obtain ⟨x8, hx8, hcf⟩ := ob hcf
  refine iv_X3_45 (As := [.int x7.1]) (rest := []) hx hb hml hown hts hE (ct_X3_recorded l D cy z n Y x7.2 G a0 x7.1 x8 hx8) hW hS q1 rfl rfl hl.1 (Nat.le_of_ble_eq_true rfl) ⟨Nat.le_of_ble_eq_true rfl, Nat.le_of_ble_eq_true rfl⟩ dX3_finish_20 ⟨Nat.zero_le _, Nat.zero_le _⟩ (fun H locs hW hS => ?_)
  have hcf := Option.some.inj hcf; subst hcf
  exact wk_iret hx hb hr hlocks hW hS dX3_finish_23
set_option maxHeartbeats 4000000 in
set_option maxRecDepth 100000 in
theorem ct_X3_apply (l : Launch) (D : va_G) (cy : Nat → ClassId) (z n : Nat) (Y : mY) (V : mV) (G : mG) (a0 : Nat) (b1 : Int32) (b2 : Int32) (x : Int32 × mV × mG) (hcf : cf_X3_apply Y V G a0 b1 b2 = some x) : CT l yX3_apply cX3_apply 3 (some .int) (rmd 2) D cy z [.ref a0, .int b1, .int b2] Y n V G (some (.int x.1)) Y n x.2.1 x.2.2 := by
  refine ct_of (by decide) (Nat.le_of_ble_eq_true rfl) ?_
  intro p e s m args below meth c ls hx hb hr hml hown hts hlocks hnm hE hW hl
  have hS : va_S (zA z) s.heap s.heap [] := va_S.rf
  have hl : lv_has ls 3 [(0, .ref a0), (1, .int b1), (2, .int b2)] := hl
  have hown : s.vm.findClass RX3 = some m.cls := hown
  rw [cf_X3_apply] at hcf
  refine lv_aload_n hx hb dX3_apply_0 rfl (lv_at hl 0 rfl) ?_
  obtain ⟨q1, hcf⟩ := og hcf
  obtain ⟨r2, hr2, hcf⟩ := ob hcf
  refine gf_X3_30 hx hb hts hown hE hW q1 hr2 dX3_apply_1 ?_
  refine lv_aload_n hx hb dX3_apply_4 rfl (lv_at hl 0 rfl) ?_
  obtain ⟨r3, hr3, hcf⟩ := ob hcf
  refine gf_X3_10 hx hb hts hown hE hW q1 hr3 dX3_apply_5 ?_
  obtain ⟨q4, hcf⟩ := og hcf
  obtain ⟨x5, hx5, hcf⟩ := ob hcf
  refine iv_X3_37 (As := [.ref r3]) (rest := []) hx hb hml hown hts hE (ct_X2_copyFrom l D cy z n Y V G r2 r3 x5 hx5) hW hS q4 rfl rfl hl.1 (Nat.le_of_ble_eq_true rfl) ⟨Nat.le_of_ble_eq_true rfl, Nat.le_of_ble_eq_true rfl⟩ dX3_apply_8 ⟨Nat.zero_le _, Nat.zero_le _⟩ (fun H locs hW hS => ?_)
  refine lv_aload_n hx hb dX3_apply_11 rfl (lv_at hl 0 rfl) ?_
  refine lv_aload_n hx hb dX3_apply_12 rfl (lv_at hl 0 rfl) ?_
  refine gf_X3_10 hx hb hts hown hE hW q1 hr3 dX3_apply_13 ?_
  refine lv_iload_n hx hb dX3_apply_16 rfl (lv_at hl 1 rfl) ?_
  refine lv_iload_n hx hb dX3_apply_17 rfl (lv_at hl 2 rfl) ?_
  obtain ⟨q6, hcf⟩ := og hcf
  obtain ⟨x7, hx7, hcf⟩ := ob hcf
  refine iv_X3_55 (As := [.int b1, .int b2]) (rest := [.ref a0]) hx hb hml hown hts hE (ct_X2_applyFor l D cy z n Y x5 G r3 b1 b2 x7 hx7) hW hS q6 rfl rfl hl.1 (Nat.le_of_ble_eq_true rfl) ⟨Nat.le_of_ble_eq_true rfl, Nat.le_of_ble_eq_true rfl⟩ dX3_apply_18 ⟨Nat.zero_le _, Nat.zero_le _⟩ (fun H locs hW hS => ?_)
  obtain ⟨x8, hx8, hcf⟩ := ob hcf
  refine iv_X3_45 (As := [.int x7.1]) (rest := []) hx hb hml hown hts hE (ct_X3_recorded l D cy z n Y x7.2 G a0 x7.1 x8 hx8) hW hS q1 rfl rfl hl.1 (Nat.le_of_ble_eq_true rfl) ⟨Nat.le_of_ble_eq_true rfl, Nat.le_of_ble_eq_true rfl⟩ dX3_apply_21 ⟨Nat.zero_le _, Nat.zero_le _⟩ (fun H locs hW hS => ?_)
  have hcf := Option.some.inj hcf; subst hcf
  exact wk_iret hx hb hr hlocks hW hS dX3_apply_24
set_option maxHeartbeats 4000000 in
set_option maxRecDepth 100000 in
theorem ct_X3_decide (l : Launch) (D : va_G) (cy : Nat → ClassId) (z n : Nat) (Y : mY) (V : mV) (G : mG) (a0 : Nat) (b1 : Int32) (b2 : Int32) (x : Int32 × mV × mG) (hcf : cf_X3_decide Y V G a0 b1 b2 = some x) : CT l yX3_decide cX3_decide 3 (some .int) (rmd 3) D cy z [.ref a0, .int b1, .int b2] Y n V G (some (.int x.1)) Y n x.2.1 x.2.2 := by
  refine ct_of (by decide) (Nat.le_of_ble_eq_true rfl) ?_
  intro p e s m args below meth c ls hx hb hr hml hown hts hlocks hnm hE hW hl
  have hS : va_S (zA z) s.heap s.heap [] := va_S.rf
  have hl : lv_has ls 3 [(0, .ref a0), (1, .int b1), (2, .int b2)] := hl
  have hown : s.vm.findClass RX3 = some m.cls := hown
  rw [cf_X3_decide] at hcf
  refine lv_aload_n hx hb dX3_decide_0 rfl (lv_at hl 0 rfl) ?_
  obtain ⟨q1, hcf⟩ := og hcf
  obtain ⟨r2, hr2, hcf⟩ := ob hcf
  refine gf_X3_30 hx hb hts hown hE hW q1 hr2 dX3_decide_1 ?_
  refine lv_aload_n hx hb dX3_decide_4 rfl (lv_at hl 0 rfl) ?_
  obtain ⟨r3, hr3, hcf⟩ := ob hcf
  refine gf_X3_10 hx hb hts hown hE hW q1 hr3 dX3_decide_5 ?_
  obtain ⟨q4, hcf⟩ := og hcf
  obtain ⟨x5, hx5, hcf⟩ := ob hcf
  refine iv_X3_37 (As := [.ref r3]) (rest := []) hx hb hml hown hts hE (ct_X2_copyFrom l D cy z n Y V G r2 r3 x5 hx5) hW hS q4 rfl rfl hl.1 (Nat.le_of_ble_eq_true rfl) ⟨Nat.le_of_ble_eq_true rfl, Nat.le_of_ble_eq_true rfl⟩ dX3_decide_8 ⟨Nat.zero_le _, Nat.zero_le _⟩ (fun H locs hW hS => ?_)
  refine lv_aload_n hx hb dX3_decide_11 rfl (lv_at hl 0 rfl) ?_
  refine lv_aload_n hx hb dX3_decide_12 rfl (lv_at hl 0 rfl) ?_
  refine gf_X3_10 hx hb hts hown hE hW q1 hr3 dX3_decide_13 ?_
  refine lv_iload_n hx hb dX3_decide_16 rfl (lv_at hl 1 rfl) ?_
  refine lv_iload_n hx hb dX3_decide_17 rfl (lv_at hl 2 rfl) ?_
  obtain ⟨q6, hcf⟩ := og hcf
  obtain ⟨x7, hx7, hcf⟩ := ob hcf
  refine iv_X3_59 (As := [.int b1, .int b2]) (rest := [.ref a0]) hx hb hml hown hts hE (ct_X2_decideOn l D cy z n Y x5 G r3 b1 b2 x7 hx7) hW hS q6 rfl rfl hl.1 (Nat.le_of_ble_eq_true rfl) ⟨Nat.le_of_ble_eq_true rfl, Nat.le_of_ble_eq_true rfl⟩ dX3_decide_18 ⟨Nat.zero_le _, Nat.zero_le _⟩ (fun H locs hW hS => ?_)
  obtain ⟨x8, hx8, hcf⟩ := ob hcf
  refine iv_X3_45 (As := [.int x7.1]) (rest := []) hx hb hml hown hts hE (ct_X3_recorded l D cy z n Y x7.2 G a0 x7.1 x8 hx8) hW hS q1 rfl rfl hl.1 (Nat.le_of_ble_eq_true rfl) ⟨Nat.le_of_ble_eq_true rfl, Nat.le_of_ble_eq_true rfl⟩ dX3_decide_21 ⟨Nat.zero_le _, Nat.zero_le _⟩ (fun H locs hW hS => ?_)
  have hcf := Option.some.inj hcf; subst hcf
  exact wk_iret hx hb hr hlocks hW hS dX3_decide_24
set_option maxHeartbeats 4000000 in
set_option maxRecDepth 100000 in
theorem ct_X3_lapse (l : Launch) (D : va_G) (cy : Nat → ClassId) (z n : Nat) (Y : mY) (V : mV) (G : mG) (a0 : Nat) (b1 : Int32) (x : Int32 × mV × mG) (hcf : cf_X3_lapse Y V G a0 b1 = some x) : CT l yX3_lapse cX3_lapse 2 (some .int) (rmd 4) D cy z [.ref a0, .int b1] Y n V G (some (.int x.1)) Y n x.2.1 x.2.2 := by
  refine ct_of (by decide) (Nat.le_of_ble_eq_true rfl) ?_
  intro p e s m args below meth c ls hx hb hr hml hown hts hlocks hnm hE hW hl
  have hS : va_S (zA z) s.heap s.heap [] := va_S.rf
  have hl : lv_has ls 2 [(0, .ref a0), (1, .int b1)] := hl
  have hown : s.vm.findClass RX3 = some m.cls := hown
  rw [cf_X3_lapse] at hcf
  refine lv_aload_n hx hb dX3_lapse_0 rfl (lv_at hl 0 rfl) ?_
  obtain ⟨q1, hcf⟩ := og hcf
  obtain ⟨r2, hr2, hcf⟩ := ob hcf
  refine gf_X3_30 hx hb hts hown hE hW q1 hr2 dX3_lapse_1 ?_
  refine lv_aload_n hx hb dX3_lapse_4 rfl (lv_at hl 0 rfl) ?_
  obtain ⟨r3, hr3, hcf⟩ := ob hcf
  refine gf_X3_10 hx hb hts hown hE hW q1 hr3 dX3_lapse_5 ?_
  obtain ⟨q4, hcf⟩ := og hcf
  obtain ⟨x5, hx5, hcf⟩ := ob hcf
  refine iv_X3_37 (As := [.ref r3]) (rest := []) hx hb hml hown hts hE (ct_X2_copyFrom l D cy z n Y V G r2 r3 x5 hx5) hW hS q4 rfl rfl hl.1 (Nat.le_of_ble_eq_true rfl) ⟨Nat.le_of_ble_eq_true rfl, Nat.le_of_ble_eq_true rfl⟩ dX3_lapse_8 ⟨Nat.zero_le _, Nat.zero_le _⟩ (fun H locs hW hS => ?_)
  refine lv_aload_n hx hb dX3_lapse_11 rfl (lv_at hl 0 rfl) ?_
  refine lv_aload_n hx hb dX3_lapse_12 rfl (lv_at hl 0 rfl) ?_
  refine gf_X3_10 hx hb hts hown hE hW q1 hr3 dX3_lapse_13 ?_
  refine lv_iload_n hx hb dX3_lapse_16 rfl (lv_at hl 1 rfl) ?_
  obtain ⟨q6, hcf⟩ := og hcf
  obtain ⟨x7, hx7, hcf⟩ := ob hcf
  refine iv_X3_62 (As := [.int b1]) (rest := [.ref a0]) hx hb hml hown hts hE (ct_X2_lapseOf l D cy z n Y x5 G r3 b1 x7 hx7) hW hS q6 rfl rfl hl.1 (Nat.le_of_ble_eq_true rfl) ⟨Nat.le_of_ble_eq_true rfl, Nat.le_of_ble_eq_true rfl⟩ dX3_lapse_17 ⟨Nat.zero_le _, Nat.zero_le _⟩ (fun H locs hW hS => ?_)
  obtain ⟨x8, hx8, hcf⟩ := ob hcf
  refine iv_X3_45 (As := [.int x7.1]) (rest := []) hx hb hml hown hts hE (ct_X3_recorded l D cy z n Y x7.2 G a0 x7.1 x8 hx8) hW hS q1 rfl rfl hl.1 (Nat.le_of_ble_eq_true rfl) ⟨Nat.le_of_ble_eq_true rfl, Nat.le_of_ble_eq_true rfl⟩ dX3_lapse_20 ⟨Nat.zero_le _, Nat.zero_le _⟩ (fun H locs hW hS => ?_)
  have hcf := Option.some.inj hcf; subst hcf
  exact wk_iret hx hb hr hlocks hW hS dX3_lapse_23
set_option maxHeartbeats 4000000 in
set_option maxRecDepth 100000 in
theorem ct_X3_cure (l : Launch) (D : va_G) (cy : Nat → ClassId) (z n : Nat) (Y : mY) (V : mV) (G : mG) (a0 : Nat) (b1 : Int32) (x : Int32 × mV × mG) (hcf : cf_X3_cure Y V G a0 b1 = some x) : CT l yX3_cure cX3_cure 2 (some .int) (rmd 4) D cy z [.ref a0, .int b1] Y n V G (some (.int x.1)) Y n x.2.1 x.2.2 := by
  refine ct_of (by decide) (Nat.le_of_ble_eq_true rfl) ?_
  intro p e s m args below meth c ls hx hb hr hml hown hts hlocks hnm hE hW hl
  have hS : va_S (zA z) s.heap s.heap [] := va_S.rf
  have hl : lv_has ls 2 [(0, .ref a0), (1, .int b1)] := hl
  have hown : s.vm.findClass RX3 = some m.cls := hown
  rw [cf_X3_cure] at hcf
  refine lv_aload_n hx hb dX3_cure_0 rfl (lv_at hl 0 rfl) ?_
  obtain ⟨q1, hcf⟩ := og hcf
  obtain ⟨r2, hr2, hcf⟩ := ob hcf
  refine gf_X3_30 hx hb hts hown hE hW q1 hr2 dX3_cure_1 ?_
  refine lv_aload_n hx hb dX3_cure_4 rfl (lv_at hl 0 rfl) ?_
  obtain ⟨r3, hr3, hcf⟩ := ob hcf
  refine gf_X3_10 hx hb hts hown hE hW q1 hr3 dX3_cure_5 ?_
  obtain ⟨q4, hcf⟩ := og hcf
  obtain ⟨x5, hx5, hcf⟩ := ob hcf
  refine iv_X3_37 (As := [.ref r3]) (rest := []) hx hb hml hown hts hE (ct_X2_copyFrom l D cy z n Y V G r2 r3 x5 hx5) hW hS q4 rfl rfl hl.1 (Nat.le_of_ble_eq_true rfl) ⟨Nat.le_of_ble_eq_true rfl, Nat.le_of_ble_eq_true rfl⟩ dX3_cure_8 ⟨Nat.zero_le _, Nat.zero_le _⟩ (fun H locs hW hS => ?_)
  refine lv_aload_n hx hb dX3_cure_11 rfl (lv_at hl 0 rfl) ?_
  refine lv_aload_n hx hb dX3_cure_12 rfl (lv_at hl 0 rfl) ?_
  refine gf_X3_10 hx hb hts hown hE hW q1 hr3 dX3_cure_13 ?_
  refine lv_iload_n hx hb dX3_cure_16 rfl (lv_at hl 1 rfl) ?_
  obtain ⟨q6, hcf⟩ := og hcf
  obtain ⟨x7, hx7, hcf⟩ := ob hcf
  refine iv_X3_65 (As := [.int b1]) (rest := [.ref a0]) hx hb hml hown hts hE (ct_X2_cureOf l D cy z n Y x5 G r3 b1 x7 hx7) hW hS q6 rfl rfl hl.1 (Nat.le_of_ble_eq_true rfl) ⟨Nat.le_of_ble_eq_true rfl, Nat.le_of_ble_eq_true rfl⟩ dX3_cure_17 ⟨Nat.zero_le _, Nat.zero_le _⟩ (fun H locs hW hS => ?_)
  obtain ⟨x8, hx8, hcf⟩ := ob hcf
  refine iv_X3_45 (As := [.int x7.1]) (rest := []) hx hb hml hown hts hE (ct_X3_recorded l D cy z n Y x7.2 G a0 x7.1 x8 hx8) hW hS q1 rfl rfl hl.1 (Nat.le_of_ble_eq_true rfl) ⟨Nat.le_of_ble_eq_true rfl, Nat.le_of_ble_eq_true rfl⟩ dX3_cure_20 ⟨Nat.zero_le _, Nat.zero_le _⟩ (fun H locs hW hS => ?_)
  have hcf := Option.some.inj hcf; subst hcf
  exact wk_iret hx hb hr hlocks hW hS dX3_cure_23
set_option maxHeartbeats 4000000 in
set_option maxRecDepth 100000 in
theorem ct_X3_serve (l : Launch) (D : va_G) (cy : Nat → ClassId) (z n : Nat) (Y : mY) (V : mV) (G : mG) (a0 : Nat) (b1 : Int32) (b2 : Int32) (x : Int32 × mV × mG) (hcf : cf_X3_serve Y V G a0 b1 b2 = some x) : CT l yX3_serve cX3_serve 3 (some .int) (rmd 4) D cy z [.ref a0, .int b1, .int b2] Y n V G (some (.int x.1)) Y n x.2.1 x.2.2 := by
  refine ct_of (by decide) (Nat.le_of_ble_eq_true rfl) ?_
  intro p e s m args below meth c ls hx hb hr hml hown hts hlocks hnm hE hW hl
  have hS : va_S (zA z) s.heap s.heap [] := va_S.rf
  have hl : lv_has ls 3 [(0, .ref a0), (1, .int b1), (2, .int b2)] := hl
  have hown : s.vm.findClass RX3 = some m.cls := hown
  rw [cf_X3_serve] at hcf
  refine lv_aload_n hx hb dX3_serve_0 rfl (lv_at hl 0 rfl) ?_
  obtain ⟨q1, hcf⟩ := og hcf
  obtain ⟨r2, hr2, hcf⟩ := ob hcf
  refine gf_X3_30 hx hb hts hown hE hW q1 hr2 dX3_serve_1 ?_
  refine lv_aload_n hx hb dX3_serve_4 rfl (lv_at hl 0 rfl) ?_
  obtain ⟨r3, hr3, hcf⟩ := ob hcf
  refine gf_X3_10 hx hb hts hown hE hW q1 hr3 dX3_serve_5 ?_
  obtain ⟨q4, hcf⟩ := og hcf
  obtain ⟨x5, hx5, hcf⟩ := ob hcf
  refine iv_X3_37 (As := [.ref r3]) (rest := []) hx hb hml hown hts hE (ct_X2_copyFrom l D cy z n Y V G r2 r3 x5 hx5) hW hS q4 rfl rfl hl.1 (Nat.le_of_ble_eq_true rfl) ⟨Nat.le_of_ble_eq_true rfl, Nat.le_of_ble_eq_true rfl⟩ dX3_serve_8 ⟨Nat.zero_le _, Nat.zero_le _⟩ (fun H locs hW hS => ?_)
  refine lv_aload_n hx hb dX3_serve_11 rfl (lv_at hl 0 rfl) ?_
  refine lv_aload_n hx hb dX3_serve_12 rfl (lv_at hl 0 rfl) ?_
  refine gf_X3_10 hx hb hts hown hE hW q1 hr3 dX3_serve_13 ?_
  refine lv_iload_n hx hb dX3_serve_16 rfl (lv_at hl 1 rfl) ?_
  refine lv_iload_n hx hb dX3_serve_17 rfl (lv_at hl 2 rfl) ?_
  obtain ⟨q6, hcf⟩ := og hcf
  obtain ⟨x7, hx7, hcf⟩ := ob hcf
  refine iv_X3_68 (As := [.int b1, .int b2]) (rest := [.ref a0]) hx hb hml hown hts hE (ct_X2_serveOn l D cy z n Y x5 G r3 b1 b2 x7 hx7) hW hS q6 rfl rfl hl.1 (Nat.le_of_ble_eq_true rfl) ⟨Nat.le_of_ble_eq_true rfl, Nat.le_of_ble_eq_true rfl⟩ dX3_serve_18 ⟨Nat.zero_le _, Nat.zero_le _⟩ (fun H locs hW hS => ?_)
  obtain ⟨x8, hx8, hcf⟩ := ob hcf
  refine iv_X3_45 (As := [.int x7.1]) (rest := []) hx hb hml hown hts hE (ct_X3_recorded l D cy z n Y x7.2 G a0 x7.1 x8 hx8) hW hS q1 rfl rfl hl.1 (Nat.le_of_ble_eq_true rfl) ⟨Nat.le_of_ble_eq_true rfl, Nat.le_of_ble_eq_true rfl⟩ dX3_serve_21 ⟨Nat.zero_le _, Nat.zero_le _⟩ (fun H locs hW hS => ?_)
  have hcf := Option.some.inj hcf; subst hcf
  exact wk_iret hx hb hr hlocks hW hS dX3_serve_24
set_option maxHeartbeats 4000000 in
set_option maxRecDepth 100000 in
theorem ct_X3_vary (l : Launch) (D : va_G) (cy : Nat → ClassId) (z n : Nat) (Y : mY) (V : mV) (G : mG) (a0 : Nat) (b1 : Int32) (b2 : Int32) (b3 : Int32) (x : Int32 × mV × mG) (hcf : cf_X3_vary Y V G a0 b1 b2 b3 = some x) : CT l yX3_vary cX3_vary 4 (some .int) (rmd 5) D cy z [.ref a0, .int b1, .int b2, .int b3] Y n V G (some (.int x.1)) Y n x.2.1 x.2.2 := by
  refine ct_of (by decide) (Nat.le_of_ble_eq_true rfl) ?_
  intro p e s m args below meth c ls hx hb hr hml hown hts hlocks hnm hE hW hl
  have hS : va_S (zA z) s.heap s.heap [] := va_S.rf
  have hl : lv_has ls 4 [(0, .ref a0), (1, .int b1), (2, .int b2), (3, .int b3)] := hl
  have hown : s.vm.findClass RX3 = some m.cls := hown
  rw [cf_X3_vary] at hcf
  refine lv_aload_n hx hb dX3_vary_0 rfl (lv_at hl 0 rfl) ?_
  obtain ⟨q1, hcf⟩ := og hcf
  obtain ⟨r2, hr2, hcf⟩ := ob hcf
  refine gf_X3_30 hx hb hts hown hE hW q1 hr2 dX3_vary_1 ?_
  refine lv_aload_n hx hb dX3_vary_4 rfl (lv_at hl 0 rfl) ?_
  obtain ⟨r3, hr3, hcf⟩ := ob hcf
  refine gf_X3_10 hx hb hts hown hE hW q1 hr3 dX3_vary_5 ?_
  obtain ⟨q4, hcf⟩ := og hcf
  obtain ⟨x5, hx5, hcf⟩ := ob hcf
  refine iv_X3_37 (As := [.ref r3]) (rest := []) hx hb hml hown hts hE (ct_X2_copyFrom l D cy z n Y V G r2 r3 x5 hx5) hW hS q4 rfl rfl hl.1 (Nat.le_of_ble_eq_true rfl) ⟨Nat.le_of_ble_eq_true rfl, Nat.le_of_ble_eq_true rfl⟩ dX3_vary_8 ⟨Nat.zero_le _, Nat.zero_le _⟩ (fun H locs hW hS => ?_)
  refine lv_aload_n hx hb dX3_vary_11 rfl (lv_at hl 0 rfl) ?_
  refine lv_aload_n hx hb dX3_vary_12 rfl (lv_at hl 0 rfl) ?_
  refine gf_X3_10 hx hb hts hown hE hW q1 hr3 dX3_vary_13 ?_
  refine lv_iload_n hx hb dX3_vary_16 rfl (lv_at hl 1 rfl) ?_
  refine lv_iload_n hx hb dX3_vary_17 rfl (lv_at hl 2 rfl) ?_
  refine lv_iload_n hx hb dX3_vary_18 rfl (lv_at hl 3 rfl) ?_
  obtain ⟨q6, hcf⟩ := og hcf
  obtain ⟨x7, hx7, hcf⟩ := ob hcf
  refine iv_X3_71 (As := [.int b1, .int b2, .int b3]) (rest := [.ref a0]) hx hb hml hown hts hE (ct_X2_varyTo l D cy z n Y x5 G r3 b1 b2 b3 x7 hx7) hW hS q6 rfl rfl hl.1 (Nat.le_of_ble_eq_true rfl) ⟨Nat.le_of_ble_eq_true rfl, Nat.le_of_ble_eq_true rfl⟩ dX3_vary_19 ⟨Nat.zero_le _, Nat.zero_le _⟩ (fun H locs hW hS => ?_)
  obtain ⟨x8, hx8, hcf⟩ := ob hcf
  refine iv_X3_45 (As := [.int x7.1]) (rest := []) hx hb hml hown hts hE (ct_X3_recorded l D cy z n Y x7.2 G a0 x7.1 x8 hx8) hW hS q1 rfl rfl hl.1 (Nat.le_of_ble_eq_true rfl) ⟨Nat.le_of_ble_eq_true rfl, Nat.le_of_ble_eq_true rfl⟩ dX3_vary_22 ⟨Nat.zero_le _, Nat.zero_le _⟩ (fun H locs hW hS => ?_)
  have hcf := Option.some.inj hcf; subst hcf
  exact wk_iret hx hb hr hlocks hW hS dX3_vary_25
set_option maxHeartbeats 4000000 in
set_option maxRecDepth 100000 in
theorem ct_X3_pass (l : Launch) (D : va_G) (cy : Nat → ClassId) (z n : Nat) (Y : mY) (V : mV) (G : mG) (a0 : Nat) (b1 : Int32) (x : Int32 × mV × mG) (hcf : cf_X3_pass Y V G a0 b1 = some x) : CT l yX3_pass cX3_pass 2 (some .int) (rmd 5) D cy z [.ref a0, .int b1] Y n V G (some (.int x.1)) Y n x.2.1 x.2.2 := by
  refine ct_of (by decide) (Nat.le_of_ble_eq_true rfl) ?_
  intro p e s m args below meth c ls hx hb hr hml hown hts hlocks hnm hE hW hl
  have hS : va_S (zA z) s.heap s.heap [] := va_S.rf
  have hl : lv_has ls 2 [(0, .ref a0), (1, .int b1)] := hl
  have hown : s.vm.findClass RX3 = some m.cls := hown
  rw [cf_X3_pass] at hcf
  refine lv_aload_n hx hb dX3_pass_0 rfl (lv_at hl 0 rfl) ?_
  obtain ⟨q1, hcf⟩ := og hcf
  obtain ⟨r2, hr2, hcf⟩ := ob hcf
  refine gf_X3_30 hx hb hts hown hE hW q1 hr2 dX3_pass_1 ?_
  refine lv_aload_n hx hb dX3_pass_4 rfl (lv_at hl 0 rfl) ?_
  obtain ⟨r3, hr3, hcf⟩ := ob hcf
  refine gf_X3_10 hx hb hts hown hE hW q1 hr3 dX3_pass_5 ?_
  obtain ⟨q4, hcf⟩ := og hcf
  obtain ⟨x5, hx5, hcf⟩ := ob hcf
  refine iv_X3_37 (As := [.ref r3]) (rest := []) hx hb hml hown hts hE (ct_X2_copyFrom l D cy z n Y V G r2 r3 x5 hx5) hW hS q4 rfl rfl hl.1 (Nat.le_of_ble_eq_true rfl) ⟨Nat.le_of_ble_eq_true rfl, Nat.le_of_ble_eq_true rfl⟩ dX3_pass_8 ⟨Nat.zero_le _, Nat.zero_le _⟩ (fun H locs hW hS => ?_)
  refine lv_aload_n hx hb dX3_pass_11 rfl (lv_at hl 0 rfl) ?_
  refine lv_aload_n hx hb dX3_pass_12 rfl (lv_at hl 0 rfl) ?_
  refine gf_X3_10 hx hb hts hown hE hW q1 hr3 dX3_pass_13 ?_
  refine lv_iload_n hx hb dX3_pass_16 rfl (lv_at hl 1 rfl) ?_
  obtain ⟨q6, hcf⟩ := og hcf
  obtain ⟨x7, hx7, hcf⟩ := ob hcf
  refine iv_X3_75 (As := [.int b1]) (rest := [.ref a0]) hx hb hml hown hts hE (ct_X2_passDays l D cy z n Y x5 G r3 b1 x7 hx7) hW hS q6 rfl rfl hl.1 (Nat.le_of_ble_eq_true rfl) ⟨Nat.le_of_ble_eq_true rfl, Nat.le_of_ble_eq_true rfl⟩ dX3_pass_17 ⟨Nat.zero_le _, Nat.zero_le _⟩ (fun H locs hW hS => ?_)
  obtain ⟨x8, hx8, hcf⟩ := ob hcf
  refine iv_X3_45 (As := [.int x7.1]) (rest := []) hx hb hml hown hts hE (ct_X3_recorded l D cy z n Y x7.2 G a0 x7.1 x8 hx8) hW hS q1 rfl rfl hl.1 (Nat.le_of_ble_eq_true rfl) ⟨Nat.le_of_ble_eq_true rfl, Nat.le_of_ble_eq_true rfl⟩ dX3_pass_20 ⟨Nat.zero_le _, Nat.zero_le _⟩ (fun H locs hW hS => ?_)
  have hcf := Option.some.inj hcf; subst hcf
  exact wk_iret hx hb hr hlocks hW hS dX3_pass_23
set_option maxHeartbeats 4000000 in
set_option maxRecDepth 100000 in
theorem ct_X3_set (l : Launch) (D : va_G) (cy : Nat → ClassId) (z n : Nat) (Y : mY) (V : mV) (G : mG) (a0 : Nat) (b1 : Int32) (b2 : Int32) (x : Int32 × mV × mG) (hcf : cf_X3_set Y V G a0 b1 b2 = some x) : CT l yX3_set cX3_set 3 (some .int) (rmd 2) D cy z [.ref a0, .int b1, .int b2] Y n V G (some (.int x.1)) Y n x.2.1 x.2.2 := by
  refine ct_of (by decide) (Nat.le_of_ble_eq_true rfl) ?_
  intro p e s m args below meth c ls hx hb hr hml hown hts hlocks hnm hE hW hl
  have hS : va_S (zA z) s.heap s.heap [] := va_S.rf
  have hl : lv_has ls 3 [(0, .ref a0), (1, .int b1), (2, .int b2)] := hl
  have hown : s.vm.findClass RX3 = some m.cls := hown
  rw [cf_X3_set] at hcf
  refine lv_aload_n hx hb dX3_set_0 rfl (lv_at hl 0 rfl) ?_
  obtain ⟨q1, hcf⟩ := og hcf
  obtain ⟨r2, hr2, hcf⟩ := ob hcf
  refine gf_X3_30 hx hb hts hown hE hW q1 hr2 dX3_set_1 ?_
  refine lv_aload_n hx hb dX3_set_4 rfl (lv_at hl 0 rfl) ?_
  obtain ⟨r3, hr3, hcf⟩ := ob hcf
  refine gf_X3_10 hx hb hts hown hE hW q1 hr3 dX3_set_5 ?_
  obtain ⟨q4, hcf⟩ := og hcf
  obtain ⟨x5, hx5, hcf⟩ := ob hcf
  refine iv_X3_37 (As := [.ref r3]) (rest := []) hx hb hml hown hts hE (ct_X2_copyFrom l D cy z n Y V G r2 r3 x5 hx5) hW hS q4 rfl rfl hl.1 (Nat.le_of_ble_eq_true rfl) ⟨Nat.le_of_ble_eq_true rfl, Nat.le_of_ble_eq_true rfl⟩ dX3_set_8 ⟨Nat.zero_le _, Nat.zero_le _⟩ (fun H locs hW hS => ?_)
  refine lv_aload_n hx hb dX3_set_11 rfl (lv_at hl 0 rfl) ?_
  refine lv_aload_n hx hb dX3_set_12 rfl (lv_at hl 0 rfl) ?_
  refine gf_X3_10 hx hb hts hown hE hW q1 hr3 dX3_set_13 ?_
  refine lv_iload_n hx hb dX3_set_16 rfl (lv_at hl 1 rfl) ?_
  refine lv_iload_n hx hb dX3_set_17 rfl (lv_at hl 2 rfl) ?_
  obtain ⟨q6, hcf⟩ := og hcf
  obtain ⟨x7, hx7, hcf⟩ := ob hcf
  refine iv_X3_78 (As := [.int b1, .int b2]) (rest := [.ref a0]) hx hb hml hown hts hE (ct_X2_putSetting l D cy z n Y x5 G r3 b1 b2 x7 hx7) hW hS q6 rfl rfl hl.1 (Nat.le_of_ble_eq_true rfl) ⟨Nat.le_of_ble_eq_true rfl, Nat.le_of_ble_eq_true rfl⟩ dX3_set_18 ⟨Nat.zero_le _, Nat.zero_le _⟩ (fun H locs hW hS => ?_)
  obtain ⟨x8, hx8, hcf⟩ := ob hcf
  refine iv_X3_45 (As := [.int x7.1]) (rest := []) hx hb hml hown hts hE (ct_X3_recorded l D cy z n Y x7.2 G a0 x7.1 x8 hx8) hW hS q1 rfl rfl hl.1 (Nat.le_of_ble_eq_true rfl) ⟨Nat.le_of_ble_eq_true rfl, Nat.le_of_ble_eq_true rfl⟩ dX3_set_21 ⟨Nat.zero_le _, Nat.zero_le _⟩ (fun H locs hW hS => ?_)
  have hcf := Option.some.inj hcf; subst hcf
  exact wk_iret hx hb hr hlocks hW hS dX3_set_24
set_option maxHeartbeats 4000000 in
set_option maxRecDepth 100000 in
theorem ct_X3_conditionOf (l : Launch) (D : va_G) (cy : Nat → ClassId) (z n : Nat) (Y : mY) (V : mV) (G : mG) (a0 : Nat) (b1 : Int32) (b2 : Int32) (x : Int32) (hcf : cf_X3_conditionOf Y V G a0 b1 b2 = some x) : CT l yX3_conditionOf cX3_conditionOf 4 (some .int) (rmd 3) D cy z [.ref a0, .int b1, .int b2] Y n V G (some (.int x)) Y n V G := by
  refine ct_of (by decide) (Nat.le_of_ble_eq_true rfl) ?_
  intro p e s m args below meth c ls hx hb hr hml hown hts hlocks hnm hE hW hl
  have hS : va_S (zA z) s.heap s.heap [] := va_S.rf
  have hl : lv_has ls 4 [(0, .ref a0), (1, .int b1), (2, .int b2)] := hl
  have hown : s.vm.findClass RX3 = some m.cls := hown
  rw [cf_X3_conditionOf] at hcf
  refine lv_aload_n hx hb dX3_conditionOf_0 rfl (lv_at hl 0 rfl) ?_
  obtain ⟨q1, hcf⟩ := og hcf
  obtain ⟨r2, hr2, hcf⟩ := ob hcf
  refine gf_X3_10 hx hb hts hown hE hW q1 hr2 dX3_conditionOf_1 ?_
  refine lv_iload_n hx hb dX3_conditionOf_4 rfl (lv_at hl 1 rfl) ?_
  obtain ⟨q3, hcf⟩ := og hcf
  obtain ⟨x4, hx4, hcf⟩ := ob hcf
  refine iv_X3_81 (As := [.int b1]) (rest := []) hx hb hml hown hts hE (ct_X2_hasCondition l D cy z n Y V G r2 b1 x4 hx4) hW hS q3 rfl rfl hl.1 (Nat.le_of_ble_eq_true rfl) ⟨Nat.le_of_ble_eq_true rfl, Nat.le_of_ble_eq_true rfl⟩ dX3_conditionOf_5 ⟨Nat.zero_le _, Nat.zero_le _⟩ (fun H locs hW hS => ?_)
  refine lv_if_ne (tgt := 14) hx hb dX3_conditionOf_8 (by decide) (fun q5 => ?_) (fun q5 => ?_)
  · replace hcf := (if_neg q5).symm.trans hcf
    refine lv_aload_n hx hb dX3_conditionOf_14 rfl (lv_at hl 0 rfl) ?_
    refine gf_X3_10 hx hb hts hown hE hW q1 hr2 dX3_conditionOf_15 ?_
    obtain ⟨r6, hr6, hcf⟩ := ob hcf
    refine gf_X3_86 hx hb hts hown hE hW q3 hr6 dX3_conditionOf_18 ?_
    refine lv_iload_n hx hb dX3_conditionOf_21 rfl (lv_at hl 1 rfl) ?_
    obtain ⟨q7, hcf⟩ := og hcf
    obtain ⟨q8, hcf⟩ := og hcf
    obtain ⟨r9, hr9, hcf⟩ := ob hcf
    refine wk_aald hx hb hE hW q7 q8 hr9 dX3_conditionOf_22 ?_
    refine lv_astore_n (lv' := [(3, .ref r9), (0, .ref a0), (1, .int b1), (2, .int b2)]) hx hb dX3_conditionOf_23 rfl hl (by decide) rfl (fun ls hl => ?_)
    refine lv_iload_n hx hb dX3_conditionOf_24 rfl (lv_at hl 3 rfl) ?_
    by_cases q10 : b2 = (0 : Int32)
    · replace hcf := (if_pos q10).symm.trans hcf
      refine wk_tsw (off := 63) (tgt := 88) hx hb dX3_conditionOf_25 (by rw [q10]; rfl) (by decide) ?_
      refine lv_aload_n hx hb dX3_conditionOf_88 rfl (lv_at hl 0 rfl) ?_
      obtain ⟨q11, hcf⟩ := og hcf
      refine gf_X3_90 hx hb hts hown hE hW q11 dX3_conditionOf_89 ?_
      have hcf := Option.some.inj hcf; subst hcf
      exact wk_iret hx hb hr hlocks hW hS dX3_conditionOf_92
    · replace hcf := (if_neg q10).symm.trans hcf
      by_cases q12 : b2 = (1 : Int32)
      · replace hcf := (if_pos q12).symm.trans hcf
        refine wk_tsw (off := 68) (tgt := 93) hx hb dX3_conditionOf_25 (by rw [q12]; rfl) (by decide) ?_
        refine lv_aload_n hx hb dX3_conditionOf_93 rfl (lv_at hl 0 rfl) ?_
        obtain ⟨q13, hcf⟩ := og hcf
        refine gf_X3_95 hx hb hts hown hE hW q13 dX3_conditionOf_94 ?_
        have hcf := Option.some.inj hcf; subst hcf
        exact wk_iret hx hb hr hlocks hW hS dX3_conditionOf_97
      · replace hcf := (if_neg q12).symm.trans hcf
        by_cases q14 : b2 = (2 : Int32)
        · replace hcf := (if_pos q14).symm.trans hcf
          refine wk_tsw (off := 73) (tgt := 98) hx hb dX3_conditionOf_25 (by rw [q14]; rfl) (by decide) ?_
          refine lv_aload_n hx hb dX3_conditionOf_98 rfl (lv_at hl 0 rfl) ?_
          obtain ⟨q15, hcf⟩ := og hcf
          refine gf_X3_98 hx hb hts hown hE hW q15 dX3_conditionOf_99 ?_
          have hcf := Option.some.inj hcf; subst hcf
          exact wk_iret hx hb hr hlocks hW hS dX3_conditionOf_102
        · replace hcf := (if_neg q14).symm.trans hcf
          by_cases q16 : b2 = (3 : Int32)
          · replace hcf := (if_pos q16).symm.trans hcf
            refine wk_tsw (off := 78) (tgt := 103) hx hb dX3_conditionOf_25 (by rw [q16]; rfl) (by decide) ?_
            refine lv_aload_n hx hb dX3_conditionOf_103 rfl (lv_at hl 0 rfl) ?_
            obtain ⟨q17, hcf⟩ := og hcf
            refine gf_X3_101 hx hb hts hown hE hW q17 dX3_conditionOf_104 ?_
            have hcf := Option.some.inj hcf; subst hcf
            exact wk_iret hx hb hr hlocks hW hS dX3_conditionOf_107
          · replace hcf := (if_neg q16).symm.trans hcf
            by_cases q18 : b2 = (4 : Int32)
            · replace hcf := (if_pos q18).symm.trans hcf
              refine wk_tsw (off := 83) (tgt := 108) hx hb dX3_conditionOf_25 (by rw [q18]; rfl) (by decide) ?_
              refine lv_aload_n hx hb dX3_conditionOf_108 rfl (lv_at hl 1 rfl) ?_
              refine gf_X3_10 hx hb hts hown hE hW q1 hr2 dX3_conditionOf_109 ?_
              refine lv_aload_n hx hb dX3_conditionOf_112 rfl (lv_at hl 0 rfl) ?_
              obtain ⟨x19, hx19, hcf⟩ := ob hcf
              refine iv_X3_104 (As := [.ref r9]) (rest := []) hx hb hml hown hts hE (ct_X2_stateOf l D cy z n Y V G r2 r9 x19 hx19) hW hS q3 rfl rfl hl.1 (Nat.le_of_ble_eq_true rfl) ⟨Nat.le_of_ble_eq_true rfl, Nat.le_of_ble_eq_true rfl⟩ dX3_conditionOf_113 ⟨Nat.zero_le _, Nat.zero_le _⟩ (fun H locs hW hS => ?_)
              have hcf := Option.some.inj hcf; subst hcf
              exact wk_iret hx hb hr hlocks hW hS dX3_conditionOf_116
            · replace hcf := (if_neg q18).symm.trans hcf
              by_cases q20 : b2 = (5 : Int32)
              · replace hcf := (if_pos q20).symm.trans hcf
                refine wk_tsw (off := 92) (tgt := 117) hx hb dX3_conditionOf_25 (by rw [q20]; rfl) (by decide) ?_
                refine lv_aload_n hx hb dX3_conditionOf_117 rfl (lv_at hl 0 rfl) ?_
                obtain ⟨q21, hcf⟩ := og hcf
                refine gf_X3_108 hx hb hts hown hE hW q21 dX3_conditionOf_118 ?_
                have hcf := Option.some.inj hcf; subst hcf
                exact wk_iret hx hb hr hlocks hW hS dX3_conditionOf_121
              · replace hcf := (if_neg q20).symm.trans hcf
                by_cases q22 : b2 = (6 : Int32)
                · replace hcf := (if_pos q22).symm.trans hcf
                  refine wk_tsw (off := 97) (tgt := 122) hx hb dX3_conditionOf_25 (by rw [q22]; rfl) (by decide) ?_
                  refine lv_aload_n hx hb dX3_conditionOf_122 rfl (lv_at hl 0 rfl) ?_
                  obtain ⟨q23, hcf⟩ := og hcf
                  refine gf_X3_111 hx hb hts hown hE hW q23 dX3_conditionOf_123 ?_
                  have hcf := Option.some.inj hcf; subst hcf
                  exact wk_iret hx hb hr hlocks hW hS dX3_conditionOf_126
                · replace hcf := (if_neg q22).symm.trans hcf
                  by_cases q24 : b2 = (7 : Int32)
                  · replace hcf := (if_pos q24).symm.trans hcf
                    refine wk_tsw (off := 102) (tgt := 127) hx hb dX3_conditionOf_25 (by rw [q24]; rfl) (by decide) ?_
                    refine lv_aload_n hx hb dX3_conditionOf_127 rfl (lv_at hl 0 rfl) ?_
                    obtain ⟨q25, hcf⟩ := og hcf
                    refine gf_X3_111 hx hb hts hown hE hW q25 dX3_conditionOf_128 ?_
                    refine lv_if_eq (tgt := 141) hx hb dX3_conditionOf_131 (by decide) (fun q26 => ?_) (fun q26 => ?_)
                    · replace hcf := (if_pos q26).symm.trans hcf
                      refine lv_ldc hx hb hown (hts _ q450) dX3_conditionOf_141 ?_
                      have hcf := Option.some.inj hcf; subst hcf
                      exact wk_iret hx hb hr hlocks hW hS dX3_conditionOf_143
                    · replace hcf := (if_neg q26).symm.trans hcf
                      refine lv_aload_n hx hb dX3_conditionOf_134 rfl (lv_at hl 0 rfl) ?_
                      refine gf_X3_114 hx hb hts hown hE hW q25 dX3_conditionOf_135 ?_
                      refine lv_goto (tgt := 143) hx hb dX3_conditionOf_138 (by decide) ?_
                      have hcf := Option.some.inj hcf; subst hcf
                      exact wk_iret hx hb hr hlocks hW hS dX3_conditionOf_143
                  · replace hcf := (if_neg q24).symm.trans hcf
                    by_cases q27 : b2 = (8 : Int32)
                    · replace hcf := (if_pos q27).symm.trans hcf
                      refine wk_tsw (off := 119) (tgt := 144) hx hb dX3_conditionOf_25 (by rw [q27]; rfl) (by decide) ?_
                      refine lv_aload_n hx hb dX3_conditionOf_144 rfl (lv_at hl 0 rfl) ?_
                      obtain ⟨q28, hcf⟩ := og hcf
                      refine gf_X3_118 hx hb hts hown hE hW q28 dX3_conditionOf_145 ?_
                      have hcf := Option.some.inj hcf; subst hcf
                      exact wk_iret hx hb hr hlocks hW hS dX3_conditionOf_148
                    · replace hcf := (if_neg q27).symm.trans hcf
                      by_cases q29 : b2 = (9 : Int32)
                      · replace hcf := (if_pos q29).symm.trans hcf
                        refine wk_tsw (off := 124) (tgt := 149) hx hb dX3_conditionOf_25 (by rw [q29]; rfl) (by decide) ?_
                        refine lv_aload_n hx hb dX3_conditionOf_149 rfl (lv_at hl 0 rfl) ?_
                        obtain ⟨q30, hcf⟩ := og hcf
                        refine gf_X3_121 hx hb hts hown hE hW q30 dX3_conditionOf_150 ?_
                        refine lv_if_eq (tgt := 163) hx hb dX3_conditionOf_153 (by decide) (fun q31 => ?_) (fun q31 => ?_)
                        · replace hcf := (if_pos q31).symm.trans hcf
                          refine lv_ldc hx hb hown (hts _ q450) dX3_conditionOf_163 ?_
                          have hcf := Option.some.inj hcf; subst hcf
                          exact wk_iret hx hb hr hlocks hW hS dX3_conditionOf_165
                        · replace hcf := (if_neg q31).symm.trans hcf
                          refine lv_aload_n hx hb dX3_conditionOf_156 rfl (lv_at hl 0 rfl) ?_
                          refine gf_X3_125 hx hb hts hown hE hW q30 dX3_conditionOf_157 ?_
                          refine lv_goto (tgt := 165) hx hb dX3_conditionOf_160 (by decide) ?_
                          have hcf := Option.some.inj hcf; subst hcf
                          exact wk_iret hx hb hr hlocks hW hS dX3_conditionOf_165
                      · replace hcf := (if_neg q29).symm.trans hcf
                        by_cases q32 : b2 = (10 : Int32)
                        · replace hcf := (if_pos q32).symm.trans hcf
                          refine wk_tsw (off := 141) (tgt := 166) hx hb dX3_conditionOf_25 (by rw [q32]; rfl) (by decide) ?_
                          refine lv_aload_n hx hb dX3_conditionOf_166 rfl (lv_at hl 0 rfl) ?_
                          obtain ⟨q33, hcf⟩ := og hcf
                          refine gf_X3_128 hx hb hts hown hE hW q33 dX3_conditionOf_167 ?_
                          refine lv_if_eq (tgt := 180) hx hb dX3_conditionOf_170 (by decide) (fun q34 => ?_) (fun q34 => ?_)
                          · replace hcf := (if_pos q34).symm.trans hcf
                            refine lv_ldc hx hb hown (hts _ q450) dX3_conditionOf_180 ?_
                            have hcf := Option.some.inj hcf; subst hcf
                            exact wk_iret hx hb hr hlocks hW hS dX3_conditionOf_182
                          · replace hcf := (if_neg q34).symm.trans hcf
                            refine lv_aload_n hx hb dX3_conditionOf_173 rfl (lv_at hl 0 rfl) ?_
                            refine gf_X3_131 hx hb hts hown hE hW q33 dX3_conditionOf_174 ?_
                            refine lv_goto (tgt := 182) hx hb dX3_conditionOf_177 (by decide) ?_
                            have hcf := Option.some.inj hcf; subst hcf
                            exact wk_iret hx hb hr hlocks hW hS dX3_conditionOf_182
                        · replace hcf := (if_neg q32).symm.trans hcf
                          by_cases q35 : b2 = (11 : Int32)
                          · replace hcf := (if_pos q35).symm.trans hcf
                            refine wk_tsw (off := 158) (tgt := 183) hx hb dX3_conditionOf_25 (by rw [q35]; rfl) (by decide) ?_
                            refine lv_aload_n hx hb dX3_conditionOf_183 rfl (lv_at hl 0 rfl) ?_
                            obtain ⟨q36, hcf⟩ := og hcf
                            refine gf_X3_134 hx hb hts hown hE hW q36 dX3_conditionOf_184 ?_
                            have hcf := Option.some.inj hcf; subst hcf
                            exact wk_iret hx hb hr hlocks hW hS dX3_conditionOf_187
                          · replace hcf := (if_neg q35).symm.trans hcf
                            refine wk_tsw (off := 163) (tgt := 188) hx hb dX3_conditionOf_25 (by have eq10 := lv_neT q10 (a := 0) rfl; have eq12 := lv_neT q12 (a := 1) rfl; have eq14 := lv_neT q14 (a := 2) rfl; have eq16 := lv_neT q16 (a := 3) rfl; have eq18 := lv_neT q18 (a := 4) rfl; have eq20 := lv_neT q20 (a := 5) rfl; have eq22 := lv_neT q22 (a := 6) rfl; have eq24 := lv_neT q24 (a := 7) rfl; have eq27 := lv_neT q27 (a := 8) rfl; have eq29 := lv_neT q29 (a := 9) rfl; have eq32 := lv_neT q32 (a := 10) rfl; have eq35 := lv_neT q35 (a := 11) rfl; by_cases hh : (b2).toInt < 0 ∨ 11 < (b2).toInt; exact if_pos hh; exfalso; omega) (by decide) ?_
                            refine lv_ldc hx hb hown (hts _ q304) dX3_conditionOf_188 ?_
                            have hcf := Option.some.inj hcf; subst hcf
                            exact wk_iret hx hb hr hlocks hW hS dX3_conditionOf_190
  · replace hcf := (if_pos q5).symm.trans hcf
    refine lv_ldc hx hb hown (hts _ q304) dX3_conditionOf_11 ?_
    have hcf := Option.some.inj hcf; subst hcf
    exact wk_iret hx hb hr hlocks hW hS dX3_conditionOf_13
set_option maxHeartbeats 4000000 in
set_option maxRecDepth 100000 in
theorem ct_X3_stageOf (l : Launch) (D : va_G) (cy : Nat → ClassId) (z n : Nat) (Y : mY) (V : mV) (G : mG) (a0 : Nat) (b1 : Int32) (b2 : Int32) (x : Int32) (hcf : cf_X3_stageOf Y V G a0 b1 b2 = some x) : CT l yX3_stageOf cX3_stageOf 3 (some .int) (rmd 3) D cy z [.ref a0, .int b1, .int b2] Y n V G (some (.int x)) Y n V G := by
  refine ct_of (by decide) (Nat.le_of_ble_eq_true rfl) ?_
  intro p e s m args below meth c ls hx hb hr hml hown hts hlocks hnm hE hW hl
  have hS : va_S (zA z) s.heap s.heap [] := va_S.rf
  have hl : lv_has ls 3 [(0, .ref a0), (1, .int b1), (2, .int b2)] := hl
  have hown : s.vm.findClass RX3 = some m.cls := hown
  rw [cf_X3_stageOf] at hcf
  refine lv_iload_n hx hb dX3_stageOf_0 rfl (lv_at hl 1 rfl) ?_
  refine lv_iconst (v := (0 : Int32)) hx hb dX3_stageOf_1 (by decide) ?_
  refine lv_iconst (v := (4 : Int32)) hx hb dX3_stageOf_2 (by decide) ?_
  obtain ⟨x1, hx1, hcf⟩ := ob hcf
  refine iv_X3_137 (As := [.int b1, .int (0 : Int32), .int (4 : Int32)]) (rest := []) hx hb hml hown hts hE (ct_X3_isWithin l D cy z n Y V G b1 (0 : Int32) (4 : Int32) x1 hx1) hW hS rfl rfl hl.1 (Nat.le_of_ble_eq_true rfl) ⟨Nat.le_of_ble_eq_true rfl, Nat.le_of_ble_eq_true rfl⟩ dX3_stageOf_3 ⟨Nat.zero_le _, Nat.zero_le _⟩ (fun H locs hW hS => ?_)
  refine lv_if_ne (tgt := 12) hx hb dX3_stageOf_6 (by decide) (fun q2 => ?_) (fun q2 => ?_)
  · replace hcf := (if_neg q2).symm.trans hcf
    refine lv_iload_n hx hb dX3_stageOf_12 rfl (lv_at hl 2 rfl) ?_
    by_cases q3 : b2 = (0 : Int32)
    · replace hcf := (if_pos q3).symm.trans hcf
      refine wk_tsw (off := 31) (tgt := 44) hx hb dX3_stageOf_13 (by rw [q3]; rfl) (by decide) ?_
      refine lv_aload_n hx hb dX3_stageOf_44 rfl (lv_at hl 0 rfl) ?_
      obtain ⟨q4, hcf⟩ := og hcf
      obtain ⟨r5, hr5, hcf⟩ := ob hcf
      refine gf_X3_10 hx hb hts hown hE hW q4 hr5 dX3_stageOf_45 ?_
      refine lv_iload_n hx hb dX3_stageOf_48 rfl (lv_at hl 1 rfl) ?_
      obtain ⟨q6, hcf⟩ := og hcf
      obtain ⟨x7, hx7, hcf⟩ := ob hcf
      refine iv_X3_141 (As := [.int b1]) (rest := []) hx hb hml hown hts hE (ct_X2_progressOf l D cy z n Y V G r5 b1 x7 hx7) hW hS q6 rfl rfl hl.1 (Nat.le_of_ble_eq_true rfl) ⟨Nat.le_of_ble_eq_true rfl, Nat.le_of_ble_eq_true rfl⟩ dX3_stageOf_49 ⟨Nat.zero_le _, Nat.zero_le _⟩ (fun H locs hW hS => ?_)
      have hcf := Option.some.inj hcf; subst hcf
      exact wk_iret hx hb hr hlocks hW hS dX3_stageOf_52
    · replace hcf := (if_neg q3).symm.trans hcf
      by_cases q8 : b2 = (1 : Int32)
      · replace hcf := (if_pos q8).symm.trans hcf
        refine wk_tsw (off := 40) (tgt := 53) hx hb dX3_stageOf_13 (by rw [q8]; rfl) (by decide) ?_
        refine lv_aload_n hx hb dX3_stageOf_53 rfl (lv_at hl 0 rfl) ?_
        obtain ⟨q9, hcf⟩ := og hcf
        obtain ⟨r10, hr10, hcf⟩ := ob hcf
        refine gf_X3_10 hx hb hts hown hE hW q9 hr10 dX3_stageOf_54 ?_
        refine lv_iload_n hx hb dX3_stageOf_57 rfl (lv_at hl 1 rfl) ?_
        obtain ⟨q11, hcf⟩ := og hcf
        obtain ⟨x12, hx12, hcf⟩ := ob hcf
        refine iv_X3_144 (As := [.int b1]) (rest := []) hx hb hml hown hts hE (ct_X2_isBegun l D cy z n Y V G r10 b1 x12 hx12) hW hS q11 rfl rfl hl.1 (Nat.le_of_ble_eq_true rfl) ⟨Nat.le_of_ble_eq_true rfl, Nat.le_of_ble_eq_true rfl⟩ dX3_stageOf_58 ⟨Nat.zero_le _, Nat.zero_le _⟩ (fun H locs hW hS => ?_)
        refine lv_if_eq (tgt := 76) hx hb dX3_stageOf_61 (by decide) (fun q13 => ?_) (fun q13 => ?_)
        · replace hcf := (if_pos q13).symm.trans hcf
          refine lv_ldc hx hb hown (hts _ q450) dX3_stageOf_76 ?_
          have hcf := Option.some.inj hcf; subst hcf
          exact wk_iret hx hb hr hlocks hW hS dX3_stageOf_78
        · replace hcf := (if_neg q13).symm.trans hcf
          refine lv_aload_n hx hb dX3_stageOf_64 rfl (lv_at hl 0 rfl) ?_
          refine gf_X3_10 hx hb hts hown hE hW q9 hr10 dX3_stageOf_65 ?_
          obtain ⟨r14, hr14, hcf⟩ := ob hcf
          refine gf_X3_147 hx hb hts hown hE hW q11 hr14 dX3_stageOf_68 ?_
          refine lv_iload_n hx hb dX3_stageOf_71 rfl (lv_at hl 1 rfl) ?_
          obtain ⟨q15, hcf⟩ := og hcf
          obtain ⟨q16, hcf⟩ := og hcf
          refine wk_iald hx hb hE hW q15 q16 dX3_stageOf_72 ?_
          refine lv_goto (tgt := 78) hx hb dX3_stageOf_73 (by decide) ?_
          have hcf := Option.some.inj hcf; subst hcf
          exact wk_iret hx hb hr hlocks hW hS dX3_stageOf_78
      · replace hcf := (if_neg q8).symm.trans hcf
        by_cases q17 : b2 = (2 : Int32)
        · replace hcf := (if_pos q17).symm.trans hcf
          refine wk_tsw (off := 66) (tgt := 79) hx hb dX3_stageOf_13 (by rw [q17]; rfl) (by decide) ?_
          refine lv_aload_n hx hb dX3_stageOf_79 rfl (lv_at hl 0 rfl) ?_
          obtain ⟨q18, hcf⟩ := og hcf
          obtain ⟨r19, hr19, hcf⟩ := ob hcf
          refine gf_X3_10 hx hb hts hown hE hW q18 hr19 dX3_stageOf_80 ?_
          refine lv_iload_n hx hb dX3_stageOf_83 rfl (lv_at hl 1 rfl) ?_
          obtain ⟨q20, hcf⟩ := og hcf
          obtain ⟨x21, hx21, hcf⟩ := ob hcf
          refine iv_X3_151 (As := [.int b1]) (rest := []) hx hb hml hown hts hE (ct_X2_isFinished l D cy z n Y V G r19 b1 x21 hx21) hW hS q20 rfl rfl hl.1 (Nat.le_of_ble_eq_true rfl) ⟨Nat.le_of_ble_eq_true rfl, Nat.le_of_ble_eq_true rfl⟩ dX3_stageOf_84 ⟨Nat.zero_le _, Nat.zero_le _⟩ (fun H locs hW hS => ?_)
          refine lv_if_eq (tgt := 102) hx hb dX3_stageOf_87 (by decide) (fun q22 => ?_) (fun q22 => ?_)
          · replace hcf := (if_pos q22).symm.trans hcf
            refine lv_ldc hx hb hown (hts _ q450) dX3_stageOf_102 ?_
            have hcf := Option.some.inj hcf; subst hcf
            exact wk_iret hx hb hr hlocks hW hS dX3_stageOf_104
          · replace hcf := (if_neg q22).symm.trans hcf
            refine lv_aload_n hx hb dX3_stageOf_90 rfl (lv_at hl 0 rfl) ?_
            refine gf_X3_10 hx hb hts hown hE hW q18 hr19 dX3_stageOf_91 ?_
            obtain ⟨r23, hr23, hcf⟩ := ob hcf
            refine gf_X3_154 hx hb hts hown hE hW q20 hr23 dX3_stageOf_94 ?_
            refine lv_iload_n hx hb dX3_stageOf_97 rfl (lv_at hl 1 rfl) ?_
            obtain ⟨q24, hcf⟩ := og hcf
            obtain ⟨q25, hcf⟩ := og hcf
            refine wk_iald hx hb hE hW q24 q25 dX3_stageOf_98 ?_
            refine lv_goto (tgt := 104) hx hb dX3_stageOf_99 (by decide) ?_
            have hcf := Option.some.inj hcf; subst hcf
            exact wk_iret hx hb hr hlocks hW hS dX3_stageOf_104
        · replace hcf := (if_neg q17).symm.trans hcf
          by_cases q26 : b2 = (3 : Int32)
          · replace hcf := (if_pos q26).symm.trans hcf
            refine wk_tsw (off := 92) (tgt := 105) hx hb dX3_stageOf_13 (by rw [q26]; rfl) (by decide) ?_
            refine lv_aload_n hx hb dX3_stageOf_105 rfl (lv_at hl 0 rfl) ?_
            obtain ⟨q27, hcf⟩ := og hcf
            obtain ⟨r28, hr28, hcf⟩ := ob hcf
            refine gf_X3_10 hx hb hts hown hE hW q27 hr28 dX3_stageOf_106 ?_
            refine lv_iload_n hx hb dX3_stageOf_109 rfl (lv_at hl 1 rfl) ?_
            obtain ⟨q29, hcf⟩ := og hcf
            obtain ⟨x30, hx30, hcf⟩ := ob hcf
            refine iv_X3_157 (As := [.int b1]) (rest := []) hx hb hml hown hts hE (ct_X2_unmetAhead l D cy z n Y V G r28 b1 x30 hx30) hW hS q29 rfl rfl hl.1 (Nat.le_of_ble_eq_true rfl) ⟨Nat.le_of_ble_eq_true rfl, Nat.le_of_ble_eq_true rfl⟩ dX3_stageOf_110 ⟨Nat.zero_le _, Nat.zero_le _⟩ (fun H locs hW hS => ?_)
            have hcf := Option.some.inj hcf; subst hcf
            exact wk_iret hx hb hr hlocks hW hS dX3_stageOf_113
          · replace hcf := (if_neg q26).symm.trans hcf
            refine wk_tsw (off := 101) (tgt := 114) hx hb dX3_stageOf_13 (by have eq3 := lv_neT q3 (a := 0) rfl; have eq8 := lv_neT q8 (a := 1) rfl; have eq17 := lv_neT q17 (a := 2) rfl; have eq26 := lv_neT q26 (a := 3) rfl; by_cases hh : (b2).toInt < 0 ∨ 3 < (b2).toInt; exact if_pos hh; exfalso; omega) (by decide) ?_
            refine lv_ldc hx hb hown (hts _ q304) dX3_stageOf_114 ?_
            have hcf := Option.some.inj hcf; subst hcf
            exact wk_iret hx hb hr hlocks hW hS dX3_stageOf_116
  · replace hcf := (if_pos q2).symm.trans hcf
    refine lv_ldc hx hb hown (hts _ q304) dX3_stageOf_9 ?_
    have hcf := Option.some.inj hcf; subst hcf
    exact wk_iret hx hb hr hlocks hW hS dX3_stageOf_11
set_option maxHeartbeats 4000000 in
set_option maxRecDepth 100000 in
theorem ct_X3_which (l : Launch) (D : va_G) (cy : Nat → ClassId) (z n : Nat) (Y : mY) (V : mV) (G : mG) (a0 : Nat) (b1 : Int32) (x : Int32) (hcf : cf_X3_which Y V G a0 b1 = some x) : CT l yX3_which cX3_which 2 (some .int) (rmd 4) D cy z [.ref a0, .int b1] Y n V G (some (.int x)) Y n V G := by
  refine ct_of (by decide) (Nat.le_of_ble_eq_true rfl) ?_
  intro p e s m args below meth c ls hx hb hr hml hown hts hlocks hnm hE hW hl
  have hS : va_S (zA z) s.heap s.heap [] := va_S.rf
  have hl : lv_has ls 2 [(0, .ref a0), (1, .int b1)] := hl
  have hown : s.vm.findClass RX3 = some m.cls := hown
  rw [cf_X3_which] at hcf
  refine lv_iload_n hx hb dX3_which_0 rfl (lv_at hl 1 rfl) ?_
  refine lv_iconst (v := (0 : Int32)) hx hb dX3_which_1 (by decide) ?_
  refine lv_iconst (v := (4 : Int32)) hx hb dX3_which_2 (by decide) ?_
  obtain ⟨x1, hx1, hcf⟩ := ob hcf
  refine iv_X3_137 (As := [.int b1, .int (0 : Int32), .int (4 : Int32)]) (rest := []) hx hb hml hown hts hE (ct_X3_isWithin l D cy z n Y V G b1 (0 : Int32) (4 : Int32) x1 hx1) hW hS rfl rfl hl.1 (Nat.le_of_ble_eq_true rfl) ⟨Nat.le_of_ble_eq_true rfl, Nat.le_of_ble_eq_true rfl⟩ dX3_which_3 ⟨Nat.zero_le _, Nat.zero_le _⟩ (fun H locs hW hS => ?_)
  refine lv_if_ne (tgt := 12) hx hb dX3_which_6 (by decide) (fun q2 => ?_) (fun q2 => ?_)
  · replace hcf := (if_neg q2).symm.trans hcf
    refine lv_aload_n hx hb dX3_which_12 rfl (lv_at hl 0 rfl) ?_
    obtain ⟨q3, hcf⟩ := og hcf
    obtain ⟨r4, hr4, hcf⟩ := ob hcf
    refine gf_X3_10 hx hb hts hown hE hW q3 hr4 dX3_which_13 ?_
    refine lv_iload_n hx hb dX3_which_16 rfl (lv_at hl 1 rfl) ?_
    obtain ⟨q5, hcf⟩ := og hcf
    obtain ⟨x6, hx6, hcf⟩ := ob hcf
    refine iv_X3_160 (As := [.int b1]) (rest := []) hx hb hml hown hts hE (ct_X2_withState l D cy z n Y V G r4 b1 x6 hx6) hW hS q5 rfl rfl hl.1 (Nat.le_of_ble_eq_true rfl) ⟨Nat.le_of_ble_eq_true rfl, Nat.le_of_ble_eq_true rfl⟩ dX3_which_17 ⟨Nat.zero_le _, Nat.zero_le _⟩ (fun H locs hW hS => ?_)
    have hcf := Option.some.inj hcf; subst hcf
    exact wk_iret hx hb hr hlocks hW hS dX3_which_20
  · replace hcf := (if_pos q2).symm.trans hcf
    refine lv_ldc hx hb hown (hts _ q304) dX3_which_9 ?_
    have hcf := Option.some.inj hcf; subst hcf
    exact wk_iret hx hb hr hlocks hW hS dX3_which_11
set_option maxHeartbeats 4000000 in
set_option maxRecDepth 100000 in
theorem ct_X3_when (l : Launch) (D : va_G) (cy : Nat → ClassId) (z n : Nat) (Y : mY) (V : mV) (G : mG) (a0 : Nat) (b1 : Int32) (b2 : Int32) (x : Int32 × mV) (hcf : cf_X3_when Y V G a0 b1 b2 = some x) : CT l yX3_when cX3_when 3 (some .int) (rmd 5) D cy z [.ref a0, .int b1, .int b2] Y n V G (some (.int x.1)) Y n x.2 G := by
  refine ct_of (by decide) (Nat.le_of_ble_eq_true rfl) ?_
  intro p e s m args below meth c ls hx hb hr hml hown hts hlocks hnm hE hW hl
  have hS : va_S (zA z) s.heap s.heap [] := va_S.rf
  have hl : lv_has ls 3 [(0, .ref a0), (1, .int b1), (2, .int b2)] := hl
  have hown : s.vm.findClass RX3 = some m.cls := hown
  rw [cf_X3_when] at hcf
  refine lv_aload_n hx hb dX3_when_0 rfl (lv_at hl 0 rfl) ?_
  obtain ⟨q1, hcf⟩ := og hcf
  obtain ⟨r2, hr2, hcf⟩ := ob hcf
  refine gf_X3_10 hx hb hts hown hE hW q1 hr2 dX3_when_1 ?_
  refine lv_iload_n hx hb dX3_when_4 rfl (lv_at hl 1 rfl) ?_
  obtain ⟨q3, hcf⟩ := og hcf
  obtain ⟨x4, hx4, hcf⟩ := ob hcf
  refine iv_X3_81 (As := [.int b1]) (rest := []) hx hb hml hown hts hE (ct_X2_hasCondition l D cy z n Y V G r2 b1 x4 hx4) hW hS q3 rfl rfl hl.1 (Nat.le_of_ble_eq_true rfl) ⟨Nat.le_of_ble_eq_true rfl, Nat.le_of_ble_eq_true rfl⟩ dX3_when_5 ⟨Nat.zero_le _, Nat.zero_le _⟩ (fun H locs hW hS => ?_)
  refine lv_if_eq (tgt := 20) hx hb dX3_when_8 (by decide) (fun q5 => ?_) (fun q5 => ?_)
  · replace hcf := (if_pos q5).symm.trans hcf
    refine lv_ldc hx hb hown (hts _ q304) dX3_when_20 ?_
    have hcf := Option.some.inj hcf; subst hcf
    exact wk_iret hx hb hr hlocks hW hS dX3_when_22
  · replace hcf := (if_neg q5).symm.trans hcf
    refine lv_iload_n hx hb dX3_when_11 rfl (lv_at hl 2 rfl) ?_
    refine lv_iconst (v := (0 : Int32)) hx hb dX3_when_12 (by decide) ?_
    refine lv_iconst (v := (4 : Int32)) hx hb dX3_when_13 (by decide) ?_
    obtain ⟨x6, hx6, hcf⟩ := ob hcf
    refine iv_X3_137 (As := [.int b2, .int (0 : Int32), .int (4 : Int32)]) (rest := []) hx hb hml hown hts hE (ct_X3_isWithin l D cy z n Y V G b2 (0 : Int32) (4 : Int32) x6 hx6) hW hS rfl rfl hl.1 (Nat.le_of_ble_eq_true rfl) ⟨Nat.le_of_ble_eq_true rfl, Nat.le_of_ble_eq_true rfl⟩ dX3_when_14 ⟨Nat.zero_le _, Nat.zero_le _⟩ (fun H locs hW hS => ?_)
    refine lv_if_ne (tgt := 23) hx hb dX3_when_17 (by decide) (fun q7 => ?_) (fun q7 => ?_)
    · replace hcf := (if_neg q7).symm.trans hcf
      refine lv_aload_n hx hb dX3_when_23 rfl (lv_at hl 0 rfl) ?_
      obtain ⟨r8, hr8, hcf⟩ := ob hcf
      refine gf_X3_16 hx hb hts hown hE hW q1 hr8 dX3_when_24 ?_
      refine lv_aload_n hx hb dX3_when_27 rfl (lv_at hl 0 rfl) ?_
      refine gf_X3_10 hx hb hts hown hE hW q1 hr2 dX3_when_28 ?_
      obtain ⟨q9, hcf⟩ := og hcf
      obtain ⟨x10, hx10, hcf⟩ := ob hcf
      refine iv_X3_37 (As := [.ref r2]) (rest := []) hx hb hml hown hts hE (ct_X2_copyFrom l D cy z n Y V G r8 r2 x10 hx10) hW hS q9 rfl rfl hl.1 (Nat.le_of_ble_eq_true rfl) ⟨Nat.le_of_ble_eq_true rfl, Nat.le_of_ble_eq_true rfl⟩ dX3_when_31 ⟨Nat.zero_le _, Nat.zero_le _⟩ (fun H locs hW hS => ?_)
      refine lv_aload_n hx hb dX3_when_34 rfl (lv_at hl 0 rfl) ?_
      refine gf_X3_16 hx hb hts hown hE hW q1 hr8 dX3_when_35 ?_
      refine lv_iload_n hx hb dX3_when_38 rfl (lv_at hl 1 rfl) ?_
      refine lv_iload_n hx hb dX3_when_39 rfl (lv_at hl 2 rfl) ?_
      obtain ⟨x11, hx11, hcf⟩ := ob hcf
      refine iv_X3_163 (As := [.int b1, .int b2]) (rest := []) hx hb hml hown hts hE (ct_X2_daysUntil l D cy z n Y x10 G r8 b1 b2 x11 hx11) hW hS q9 rfl rfl hl.1 (Nat.le_of_ble_eq_true rfl) ⟨Nat.le_of_ble_eq_true rfl, Nat.le_of_ble_eq_true rfl⟩ dX3_when_40 ⟨Nat.zero_le _, Nat.zero_le _⟩ (fun H locs hW hS => ?_)
      have hcf := Option.some.inj hcf; subst hcf
      exact wk_iret hx hb hr hlocks hW hS dX3_when_43
    · replace hcf := (if_pos q7).symm.trans hcf
      refine lv_ldc hx hb hown (hts _ q304) dX3_when_20 ?_
      have hcf := Option.some.inj hcf; subst hcf
      exact wk_iret hx hb hr hlocks hW hS dX3_when_22
set_option maxHeartbeats 4000000 in
set_option maxRecDepth 100000 in
theorem ct_X3_lawful (l : Launch) (D : va_G) (cy : Nat → ClassId) (z n : Nat) (Y : mY) (V : mV) (G : mG) (a0 : Nat) (b1 : Int32) (x : Int32 × mV) (hcf : cf_X3_lawful Y V G a0 b1 = some x) : CT l yX3_lawful cX3_lawful 2 (some .int) (rmd 6) D cy z [.ref a0, .int b1] Y n V G (some (.int x.1)) Y n x.2 G := by
  refine ct_of (by decide) (Nat.le_of_ble_eq_true rfl) ?_
  intro p e s m args below meth c ls hx hb hr hml hown hts hlocks hnm hE hW hl
  have hS : va_S (zA z) s.heap s.heap [] := va_S.rf
  have hl : lv_has ls 2 [(0, .ref a0), (1, .int b1)] := hl
  have hown : s.vm.findClass RX3 = some m.cls := hown
  rw [cf_X3_lawful] at hcf
  refine lv_iload_n hx hb dX3_lawful_0 rfl (lv_at hl 1 rfl) ?_
  refine lv_iconst (v := (0 : Int32)) hx hb dX3_lawful_1 (by decide) ?_
  refine lv_iconst (v := (4 : Int32)) hx hb dX3_lawful_2 (by decide) ?_
  obtain ⟨x1, hx1, hcf⟩ := ob hcf
  refine iv_X3_137 (As := [.int b1, .int (0 : Int32), .int (4 : Int32)]) (rest := []) hx hb hml hown hts hE (ct_X3_isWithin l D cy z n Y V G b1 (0 : Int32) (4 : Int32) x1 hx1) hW hS rfl rfl hl.1 (Nat.le_of_ble_eq_true rfl) ⟨Nat.le_of_ble_eq_true rfl, Nat.le_of_ble_eq_true rfl⟩ dX3_lawful_3 ⟨Nat.zero_le _, Nat.zero_le _⟩ (fun H locs hW hS => ?_)
  refine lv_if_ne (tgt := 12) hx hb dX3_lawful_6 (by decide) (fun q2 => ?_) (fun q2 => ?_)
  · replace hcf := (if_neg q2).symm.trans hcf
    refine lv_aload_n hx hb dX3_lawful_12 rfl (lv_at hl 0 rfl) ?_
    obtain ⟨q3, hcf⟩ := og hcf
    obtain ⟨r4, hr4, hcf⟩ := ob hcf
    refine gf_X3_10 hx hb hts hown hE hW q3 hr4 dX3_lawful_13 ?_
    refine lv_iload_n hx hb dX3_lawful_16 rfl (lv_at hl 1 rfl) ?_
    obtain ⟨q5, hcf⟩ := og hcf
    obtain ⟨x6, hx6, hcf⟩ := ob hcf
    refine iv_X3_166 (As := [.int b1]) (rest := []) hx hb hml hown hts hE (ct_X2_canBegin l D cy z n Y V G r4 b1 x6 hx6) hW hS q5 rfl rfl hl.1 (Nat.le_of_ble_eq_true rfl) ⟨Nat.le_of_ble_eq_true rfl, Nat.le_of_ble_eq_true rfl⟩ dX3_lawful_17 ⟨Nat.zero_le _, Nat.zero_le _⟩ (fun H locs hW hS => ?_)
    refine lv_if_ne (tgt := 26) hx hb dX3_lawful_20 (by decide) (fun q7 => ?_) (fun q7 => ?_)
    · replace hcf := (if_neg q7).symm.trans hcf
      refine lv_aload_n hx hb dX3_lawful_26 rfl (lv_at hl 0 rfl) ?_
      obtain ⟨r8, hr8, hcf⟩ := ob hcf
      refine gf_X3_16 hx hb hts hown hE hW q3 hr8 dX3_lawful_27 ?_
      refine lv_aload_n hx hb dX3_lawful_30 rfl (lv_at hl 0 rfl) ?_
      refine gf_X3_10 hx hb hts hown hE hW q3 hr4 dX3_lawful_31 ?_
      obtain ⟨q9, hcf⟩ := og hcf
      obtain ⟨x10, hx10, hcf⟩ := ob hcf
      refine iv_X3_37 (As := [.ref r4]) (rest := []) hx hb hml hown hts hE (ct_X2_copyFrom l D cy z n Y V G r8 r4 x10 hx10) hW hS q9 rfl rfl hl.1 (Nat.le_of_ble_eq_true rfl) ⟨Nat.le_of_ble_eq_true rfl, Nat.le_of_ble_eq_true rfl⟩ dX3_lawful_34 ⟨Nat.zero_le _, Nat.zero_le _⟩ (fun H locs hW hS => ?_)
      refine lv_aload_n hx hb dX3_lawful_37 rfl (lv_at hl 0 rfl) ?_
      refine gf_X3_16 hx hb hts hown hE hW q3 hr8 dX3_lawful_38 ?_
      refine lv_iload_n hx hb dX3_lawful_41 rfl (lv_at hl 1 rfl) ?_
      obtain ⟨x11, hx11, hcf⟩ := ob hcf
      refine iv_X3_170 (As := [.int b1]) (rest := []) hx hb hml hown hts hE (ct_X2_daysUntilLawful l D cy z n Y x10 G r8 b1 x11 hx11) hW hS q9 rfl rfl hl.1 (Nat.le_of_ble_eq_true rfl) ⟨Nat.le_of_ble_eq_true rfl, Nat.le_of_ble_eq_true rfl⟩ dX3_lawful_42 ⟨Nat.zero_le _, Nat.zero_le _⟩ (fun H locs hW hS => ?_)
      have hcf := Option.some.inj hcf; subst hcf
      exact wk_iret hx hb hr hlocks hW hS dX3_lawful_45
    · replace hcf := (if_pos q7).symm.trans hcf
      refine lv_ldc hx hb hown (hts _ q497) dX3_lawful_23 ?_
      have hcf := Option.some.inj hcf; subst hcf
      exact wk_iret hx hb hr hlocks hW hS dX3_lawful_25
  · replace hcf := (if_pos q2).symm.trans hcf
    refine lv_ldc hx hb hown (hts _ q304) dX3_lawful_9 ?_
    have hcf := Option.some.inj hcf; subst hcf
    exact wk_iret hx hb hr hlocks hW hS dX3_lawful_11
set_option maxHeartbeats 4000000 in
set_option maxRecDepth 100000 in
theorem ct_X3_fine (l : Launch) (D : va_G) (cy : Nat → ClassId) (z n : Nat) (Y : mY) (V : mV) (G : mG) (a0 : Nat) (b1 : Int32) (b2 : Int64) (x : Int64) (hcf : cf_X3_fine Y V G a0 b1 b2 = some x) : CT l yX3_fine cX3_fine 8 (some .long) (rmd 1) D cy z [.ref a0, .int b1, .long b2] Y n V G (some (.long x)) Y n V G := by
  refine ct_of (by decide) (Nat.le_of_ble_eq_true rfl) ?_
  intro p e s m args below meth c ls hx hb hr hml hown hts hlocks hnm hE hW hl
  have hS : va_S (zA z) s.heap s.heap [] := va_S.rf
  have hl : lv_has ls 8 [(0, .ref a0), (1, .int b1), (2, .long b2)] := hl
  have hown : s.vm.findClass RX3 = some m.cls := hown
  rw [cf_X3_fine] at hcf
  refine lv_aload_n hx hb dX3_fine_0 rfl (lv_at hl 0 rfl) ?_
  obtain ⟨q1, hcf⟩ := og hcf
  obtain ⟨r2, hr2, hcf⟩ := ob hcf
  refine gf_X3_10 hx hb hts hown hE hW q1 hr2 dX3_fine_1 ?_
  refine lv_iload_n hx hb dX3_fine_4 rfl (lv_at hl 1 rfl) ?_
  obtain ⟨q3, hcf⟩ := og hcf
  obtain ⟨x4, hx4, hcf⟩ := ob hcf
  refine iv_X3_81 (As := [.int b1]) (rest := []) hx hb hml hown hts hE (ct_X2_hasCondition l D cy z n Y V G r2 b1 x4 hx4) hW hS q3 rfl rfl hl.1 (Nat.le_of_ble_eq_true rfl) ⟨Nat.le_of_ble_eq_true rfl, Nat.le_of_ble_eq_true rfl⟩ dX3_fine_5 ⟨Nat.zero_le _, Nat.zero_le _⟩ (fun H locs hW hS => ?_)
  refine lv_if_eq (tgt := 25) hx hb dX3_fine_8 (by decide) (fun q5 => ?_) (fun q5 => ?_)
  · replace hcf := (if_pos q5).symm.trans hcf
    refine lv_ldc2 hx hb hown (hts _ q486) dX3_fine_25 ?_
    have hcf := Option.some.inj hcf; subst hcf
    exact wk_lret hx hb hr hlocks hW hS dX3_fine_28
  · replace hcf := (if_neg q5).symm.trans hcf
    refine lv_lload_n hx hb dX3_fine_11 rfl (lv_at hl 2 rfl) ?_
    refine lv_lconst (v := (1 : Int64)) hx hb dX3_fine_12 (by decide) ?_
    refine W.lcmp hx hb dX3_fine_13 ?_
    refine lv_if_lt (tgt := 25) hx hb dX3_fine_14 (by decide) (fun q6 => ?_) (fun q6 => ?_)
    · replace hcf := (if_pos q6).symm.trans hcf
      refine lv_ldc2 hx hb hown (hts _ q486) dX3_fine_25 ?_
      have hcf := Option.some.inj hcf; subst hcf
      exact wk_lret hx hb hr hlocks hW hS dX3_fine_28
    · replace hcf := (if_neg q6).symm.trans hcf
      refine lv_lload_n hx hb dX3_fine_17 rfl (lv_at hl 2 rfl) ?_
      refine lv_ldc2 hx hb hown (hts _ q485) dX3_fine_18 ?_
      refine W.lcmp hx hb dX3_fine_21 ?_
      refine lv_if_le (tgt := 29) hx hb dX3_fine_22 (by decide) (fun q7 => ?_) (fun q7 => ?_)
      · replace hcf := (if_pos q7).symm.trans hcf
        refine lv_aload_n hx hb dX3_fine_29 rfl (lv_at hl 0 rfl) ?_
        refine gf_X3_10 hx hb hts hown hE hW q1 hr2 dX3_fine_30 ?_
        obtain ⟨r8, hr8, hcf⟩ := ob hcf
        refine gf_X3_86 hx hb hts hown hE hW q3 hr8 dX3_fine_33 ?_
        refine lv_iload_n hx hb dX3_fine_36 rfl (lv_at hl 1 rfl) ?_
        obtain ⟨q9, hcf⟩ := og hcf
        obtain ⟨q10, hcf⟩ := og hcf
        obtain ⟨r11, hr11, hcf⟩ := ob hcf
        refine wk_aald hx hb hE hW q9 q10 hr11 dX3_fine_37 ?_
        obtain ⟨q12, hcf⟩ := og hcf
        refine gf_X3_134 hx hb hts hown hE hW q12 dX3_fine_38 ?_
        refine lv_i2l hx hb dX3_fine_41 rfl ?_
        refine lv_lstore (lv' := [(4, .long (((V r11 13)).toInt64)), (0, .ref a0), (1, .int b1), (2, .long b2)]) hx hb dX3_fine_42 hl (by decide) rfl (fun ls hl => ?_)
        refine lv_lload hx hb dX3_fine_44 (lv_at hl 0 rfl) ?_
        refine lv_lload hx hb dX3_fine_46 (lv_at hl 0 rfl) ?_
        refine lv_lmul hx hb dX3_fine_48 ?_
        refine lv_lstore (lv' := [(6, .long (((V r11 13)).toInt64 * ((V r11 13)).toInt64)), (4, .long (((V r11 13)).toInt64)), (0, .ref a0), (1, .int b1), (2, .long b2)]) hx hb dX3_fine_49 hl (by decide) rfl (fun ls hl => ?_)
        refine lv_lload hx hb dX3_fine_51 (lv_at hl 0 rfl) ?_
        refine lv_lconst (v := (0 : Int64)) hx hb dX3_fine_53 (by decide) ?_
        refine W.lcmp hx hb dX3_fine_54 ?_
        refine lv_if_le (tgt := 73) hx hb dX3_fine_55 (by decide) (fun q13 => ?_) (fun q13 => ?_)
        · replace hcf := (if_pos q13).symm.trans hcf
          refine lv_lload_n hx hb dX3_fine_73 rfl (lv_at hl 4 rfl) ?_
          refine lv_lload hx hb dX3_fine_74 (lv_at hl 0 rfl) ?_
          refine lv_lmul hx hb dX3_fine_76 ?_
          have hcf := Option.some.inj hcf; subst hcf
          exact wk_lret hx hb hr hlocks hW hS dX3_fine_77
        · replace hcf := (if_neg q13).symm.trans hcf
          refine lv_lload_n hx hb dX3_fine_58 rfl (lv_at hl 4 rfl) ?_
          refine lv_ldc2 hx hb hown (hts _ q487) dX3_fine_59 ?_
          refine lv_lload hx hb dX3_fine_62 (lv_at hl 0 rfl) ?_
          obtain ⟨q14, hcf⟩ := og hcf
          refine lv_ldiv hx hb dX3_fine_64 q14 ?_
          refine W.lcmp hx hb dX3_fine_65 ?_
          refine lv_if_le (tgt := 73) hx hb dX3_fine_66 (by decide) (fun q15 => ?_) (fun q15 => ?_)
          · replace hcf := (if_pos q15).symm.trans hcf
            refine lv_lload_n hx hb dX3_fine_73 rfl (lv_at hl 4 rfl) ?_
            refine lv_lload hx hb dX3_fine_74 (lv_at hl 0 rfl) ?_
            refine lv_lmul hx hb dX3_fine_76 ?_
            have hcf := Option.some.inj hcf; subst hcf
            exact wk_lret hx hb hr hlocks hW hS dX3_fine_77
          · replace hcf := (if_neg q15).symm.trans hcf
            refine lv_ldc2 hx hb hown (hts _ q488) dX3_fine_69 ?_
            have hcf := Option.some.inj hcf; subst hcf
            exact wk_lret hx hb hr hlocks hW hS dX3_fine_72
      · replace hcf := (if_neg q7).symm.trans hcf
        refine lv_ldc2 hx hb hown (hts _ q486) dX3_fine_25 ?_
        have hcf := Option.some.inj hcf; subst hcf
        exact wk_lret hx hb hr hlocks hW hS dX3_fine_28
set_option maxHeartbeats 4000000 in
set_option maxRecDepth 100000 in
theorem wl_X3_bitsOf_13 {p : Program} {l : Launch} {e : Env} {s : State} {m : MethodId} {args : Array Value} {below : List Frame} {meth : Method} {c : Code} {D : va_G} {cy : Nat → ClassId} {z : Nat} {n : Nat}  {Y : mY} {V : mV} {G : mG} (hx : p.tables.exec = Jvm.exec) (hb : c.code = cX3_bitsOf) (hr : meth.sig.returnType = (some .int)) (hml : c.maxLocals = 3) (hown : s.vm.findClass RX3 = some m.cls) (hts : ∀ w ∈ lw_all, w.before args s = true) (hlocks : meth.locks = false) (hE : En D cy s) (x : Int32) : ∀ (k : Nat) (j0 : UInt32) (j1 : UInt32) (j2 : Int32) (H : Heap) (locs : List Loc) (ls : Array Slot), lp_X3_bitsOf_13 k j0 j1 j2 = some x → Wd Y cy D z n V G H → va_S (zA z) s.heap H locs → lv_has ls 3 [(0, .float j0), (1, .float j1), (2, .int j2)] → W p l e (rmd 0) s m args below meth c H locs 0 0 (MQ below (QC D cy z Y n V G (some (.int x))) args s 0 0 (zA z)) (F0 m 13 ls []) := by
  intro k
  induction k with
  | zero =>
    intro j0 j1 j2 H locs ls hcf
    have hcf : none = some _ := hcf
    cases hcf
  | succ k ih =>
    intro j0 j1 j2 H locs ls hcf hW hS hl
    rw [lp_X3_bitsOf_13] at hcf
    refine lv_fload_n hx hb dX3_bitsOf_13 rfl (lv_at hl 1 rfl) ?_
    refine lv_fconst1 hx hb dX3_bitsOf_14 ?_
    refine lv_fcmp hx hb dX3_bitsOf_15 ?_
    refine lv_if_ge (tgt := 34) hx hb dX3_bitsOf_16 (by decide) (fun q2 => ?_) (fun q2 => ?_)
    · replace hcf := (if_pos q2).symm.trans hcf
      refine lv_iload_n hx hb dX3_bitsOf_34 rfl (lv_at hl 2 rfl) ?_
      refine lv_bipush (v := (23 : Int32)) hx hb dX3_bitsOf_35 (by decide) ?_
      refine lv_ishl hx hb dX3_bitsOf_37 ?_
      refine lv_fload_n hx hb dX3_bitsOf_38 rfl (lv_at hl 1 rfl) ?_
      refine lv_fconst1 hx hb dX3_bitsOf_39 ?_
      obtain ⟨q3, hcf⟩ := og hcf
      refine lv_fsub hx hb dX3_bitsOf_40 q3 ?_
      refine lv_ldcf hx hb hown (hts _ q459) dX3_bitsOf_41 ?_
      obtain ⟨q4, hcf⟩ := og hcf
      refine lv_fmul hx hb dX3_bitsOf_43 q4 ?_
      refine lv_f2i hx hb dX3_bitsOf_44 ?_
      refine lv_ior hx hb dX3_bitsOf_45 ?_
      have hcf := Option.some.inj hcf; subst hcf
      exact wk_iret hx hb hr hlocks hW hS dX3_bitsOf_46
    · replace hcf := (if_neg q2).symm.trans hcf
      refine lv_iload_n hx hb dX3_bitsOf_19 rfl (lv_at hl 2 rfl) ?_
      refine lv_iconst (v := (1 : Int32)) hx hb dX3_bitsOf_20 (by decide) ?_
      refine lv_icmp_le (tgt := 34) hx hb dX3_bitsOf_21 (by decide) (fun q5 => ?_) (fun q5 => ?_)
      · replace hcf := (if_pos q5).symm.trans hcf
        refine lv_iload_n hx hb dX3_bitsOf_34 rfl (lv_at hl 2 rfl) ?_
        refine lv_bipush (v := (23 : Int32)) hx hb dX3_bitsOf_35 (by decide) ?_
        refine lv_ishl hx hb dX3_bitsOf_37 ?_
        refine lv_fload_n hx hb dX3_bitsOf_38 rfl (lv_at hl 1 rfl) ?_
        refine lv_fconst1 hx hb dX3_bitsOf_39 ?_
        obtain ⟨q6, hcf⟩ := og hcf
        refine lv_fsub hx hb dX3_bitsOf_40 q6 ?_
        refine lv_ldcf hx hb hown (hts _ q459) dX3_bitsOf_41 ?_
        obtain ⟨q7, hcf⟩ := og hcf
        refine lv_fmul hx hb dX3_bitsOf_43 q7 ?_
        refine lv_f2i hx hb dX3_bitsOf_44 ?_
        refine lv_ior hx hb dX3_bitsOf_45 ?_
        have hcf := Option.some.inj hcf; subst hcf
        exact wk_iret hx hb hr hlocks hW hS dX3_bitsOf_46
      · replace hcf := (if_neg q5).symm.trans hcf
        refine lv_fload_n hx hb dX3_bitsOf_24 rfl (lv_at hl 1 rfl) ?_
        refine lv_fconst2 hx hb dX3_bitsOf_25 ?_
        obtain ⟨q8, hcf⟩ := og hcf
        refine lv_fmul hx hb dX3_bitsOf_26 q8 ?_
        refine lv_fstore_n (lv' := [(1, .float (FP.fmul j1 FP.fconst2)), (0, .float j0), (2, .int j2)]) hx hb dX3_bitsOf_27 rfl hl (by decide) rfl (fun ls hl => ?_)
        refine lv_iinc (v := (j2 + (-1))) (lv' := [(2, .int (j2 + (-1))), (1, .float (FP.fmul j1 FP.fconst2)), (0, .float j0)]) hx hb dX3_bitsOf_28 hl (k := 2) rfl rfl (by decide) rfl (fun ls hl => ?_)
        refine lv_goto (tgt := 13) hx hb dX3_bitsOf_31 (by decide) ?_
        exact ih j0 (FP.fmul j1 FP.fconst2) (j2 + (-1)) _ _ _ hcf hW hS (lv_sub hl [2, 1, 0] rfl)
set_option maxHeartbeats 4000000 in
set_option maxRecDepth 100000 in
theorem ct_X3_bitsOf (l : Launch) (D : va_G) (cy : Nat → ClassId) (z n : Nat) (Y : mY) (V : mV) (G : mG) (b1 : UInt32) (x : Int32) (hcf : cf_X3_bitsOf b1 = some x) : CT l yX3_bitsOf cX3_bitsOf 3 (some .int) (rmd 0) D cy z [.float b1] Y n V G (some (.int x)) Y n V G := by
  refine ct_of (by decide) (Nat.le_of_ble_eq_true rfl) ?_
  intro p e s m args below meth c ls hx hb hr hml hown hts hlocks hnm hE hW hl
  have hS : va_S (zA z) s.heap s.heap [] := va_S.rf
  have hl : lv_has ls 3 [(0, .float b1)] := hl
  have hown : s.vm.findClass RX3 = some m.cls := hown
  rw [cf_X3_bitsOf] at hcf
  refine lv_fload_n hx hb dX3_bitsOf_0 rfl (lv_at hl 0 rfl) ?_
  refine lv_fconst0 hx hb dX3_bitsOf_1 ?_
  refine lv_fcmp hx hb dX3_bitsOf_2 ?_
  refine lv_if_gt (tgt := 8) hx hb dX3_bitsOf_3 (by decide) (fun q1 => ?_) (fun q1 => ?_)
  · replace hcf := (if_pos q1).symm.trans hcf
    refine lv_fload_n hx hb dX3_bitsOf_8 rfl (lv_at hl 0 rfl) ?_
    refine lv_fstore_n (lv' := [(1, .float b1), (0, .float b1)]) hx hb dX3_bitsOf_9 rfl hl (by decide) rfl (fun ls hl => ?_)
    refine lv_bipush (v := (127 : Int32)) hx hb dX3_bitsOf_10 (by decide) ?_
    refine lv_istore_n (lv' := [(2, .int (127 : Int32)), (1, .float b1), (0, .float b1)]) hx hb dX3_bitsOf_12 rfl hl (by decide) rfl (fun ls hl => ?_)
    exact wl_X3_bitsOf_13 hx hb hr hml hown hts hlocks hE x fuB b1 b1 (127 : Int32) _ _ _ hcf hW hS (lv_sub hl [2, 1, 0] rfl)
  · replace hcf := (if_neg q1).symm.trans hcf
    refine lv_iconst (v := (0 : Int32)) hx hb dX3_bitsOf_6 (by decide) ?_
    have hcf := Option.some.inj hcf; subst hcf
    exact wk_iret hx hb hr hlocks hW hS dX3_bitsOf_7
set_option maxHeartbeats 4000000 in
set_option maxRecDepth 100000 in
theorem ct_X3_share (l : Launch) (D : va_G) (cy : Nat → ClassId) (z n : Nat) (Y : mY) (V : mV) (G : mG) (a0 : Nat) (x : Int32) (hcf : cf_X3_share Y V G a0 = some x) : CT l yX3_share cX3_share 3 (some .int) (rmd 4) D cy z [.ref a0] Y n V G (some (.int x)) Y n V G := by
  refine ct_of (by decide) (Nat.le_of_ble_eq_true rfl) ?_
  intro p e s m args below meth c ls hx hb hr hml hown hts hlocks hnm hE hW hl
  have hS : va_S (zA z) s.heap s.heap [] := va_S.rf
  have hl : lv_has ls 3 [(0, .ref a0)] := hl
  have hown : s.vm.findClass RX3 = some m.cls := hown
  rw [cf_X3_share] at hcf
  refine lv_aload_n hx hb dX3_share_0 rfl (lv_at hl 0 rfl) ?_
  obtain ⟨q1, hcf⟩ := og hcf
  obtain ⟨r2, hr2, hcf⟩ := ob hcf
  refine gf_X3_10 hx hb hts hown hE hW q1 hr2 dX3_share_1 ?_
  obtain ⟨q3, hcf⟩ := og hcf
  refine gf_X3_181 hx hb hts hown hE hW q3 dX3_share_4 ?_
  refine lv_istore_n (lv' := [(1, .int (V r2 3)), (0, .ref a0)]) hx hb dX3_share_7 rfl hl (by decide) rfl (fun ls hl => ?_)
  refine lv_iload_n hx hb dX3_share_8 rfl (lv_at hl 0 rfl) ?_
  refine lv_if_gt (tgt := 15) hx hb dX3_share_9 (by decide) (fun q4 => ?_) (fun q4 => ?_)
  · replace hcf := (if_pos q4).symm.trans hcf
    refine lv_aload_n hx hb dX3_share_15 rfl (lv_at hl 1 rfl) ?_
    refine gf_X3_10 hx hb hts hown hE hW q1 hr2 dX3_share_16 ?_
    refine lv_iconst (v := (2 : Int32)) hx hb dX3_share_19 (by decide) ?_
    obtain ⟨x5, hx5, hcf⟩ := ob hcf
    refine iv_X3_160 (As := [.int (2 : Int32)]) (rest := []) hx hb hml hown hts hE (ct_X2_withState l D cy z n Y V G r2 (2 : Int32) x5 hx5) hW hS q3 rfl rfl hl.1 (Nat.le_of_ble_eq_true rfl) ⟨Nat.le_of_ble_eq_true rfl, Nat.le_of_ble_eq_true rfl⟩ dX3_share_20 ⟨Nat.zero_le _, Nat.zero_le _⟩ (fun H locs hW hS => ?_)
    obtain ⟨x6, hx6, hcf⟩ := ob hcf
    refine iv_X3_184 (As := [.int x5]) (rest := []) hx hb hml hown hts hE (ct_J6_bitCount_0f7a4 l D cy z n Y V G x5 x6 hx6) hW hS rfl rfl hl.1 (Nat.le_of_ble_eq_true rfl) ⟨Nat.le_of_ble_eq_true rfl, Nat.le_of_ble_eq_true rfl⟩ dX3_share_23 ⟨Nat.zero_le _, Nat.zero_le _⟩ (fun H locs hW hS => ?_)
    refine lv_istore_n (lv' := [(2, .int x6), (1, .int (V r2 3)), (0, .ref a0)]) hx hb dX3_share_26 rfl hl (by decide) rfl (fun ls hl => ?_)
    refine lv_iload_n hx hb dX3_share_27 rfl (lv_at hl 0 rfl) ?_
    refine lv_i2f hx hb dX3_share_28 ?_
    refine lv_iload_n hx hb dX3_share_29 rfl (lv_at hl 1 rfl) ?_
    refine lv_i2f hx hb dX3_share_30 ?_
    obtain ⟨q7, hcf⟩ := og hcf
    refine lv_fdiv hx hb dX3_share_31 q7 ?_
    obtain ⟨x8, hx8, hcf⟩ := ob hcf
    refine iv_X3_189 (As := [.float (FP.fdiv (FP.i2f x6) (FP.i2f (V r2 3)))]) (rest := []) hx hb hml hown hts hE (ct_X3_bitsOf l D cy z n Y V G (FP.fdiv (FP.i2f x6) (FP.i2f (V r2 3))) x8 hx8) hW hS rfl rfl hl.1 (Nat.le_of_ble_eq_true rfl) ⟨Nat.le_of_ble_eq_true rfl, Nat.le_of_ble_eq_true rfl⟩ dX3_share_32 ⟨Nat.zero_le _, Nat.zero_le _⟩ (fun H locs hW hS => ?_)
    have hcf := Option.some.inj hcf; subst hcf
    exact wk_iret hx hb hr hlocks hW hS dX3_share_35
  · replace hcf := (if_neg q4).symm.trans hcf
    refine lv_ldc hx hb hown (hts _ q450) dX3_share_12 ?_
    have hcf := Option.some.inj hcf; subst hcf
    exact wk_iret hx hb hr hlocks hW hS dX3_share_14
set_option maxHeartbeats 4000000 in
set_option maxRecDepth 100000 in
theorem ct_X3_count (l : Launch) (D : va_G) (cy : Nat → ClassId) (z n : Nat) (Y : mY) (V : mV) (G : mG) (a0 : Nat) (b1 : Int32) (x : Int32) (hcf : cf_X3_count Y V G a0 b1 = some x) : CT l yX3_count cX3_count 2 (some .int) (rmd 2) D cy z [.ref a0, .int b1] Y n V G (some (.int x)) Y n V G := by
  refine ct_of (by decide) (Nat.le_of_ble_eq_true rfl) ?_
  intro p e s m args below meth c ls hx hb hr hml hown hts hlocks hnm hE hW hl
  have hS : va_S (zA z) s.heap s.heap [] := va_S.rf
  have hl : lv_has ls 2 [(0, .ref a0), (1, .int b1)] := hl
  have hown : s.vm.findClass RX3 = some m.cls := hown
  rw [cf_X3_count] at hcf
  refine lv_iload_n hx hb dX3_count_0 rfl (lv_at hl 1 rfl) ?_
  by_cases q1 : b1 = (0 : Int32)
  · replace hcf := (if_pos q1).symm.trans hcf
    refine wk_tsw (off := 103) (tgt := 104) hx hb dX3_count_1 (by rw [q1]; rfl) (by decide) ?_
    refine lv_aload_n hx hb dX3_count_104 rfl (lv_at hl 0 rfl) ?_
    obtain ⟨q2, hcf⟩ := og hcf
    obtain ⟨r3, hr3, hcf⟩ := ob hcf
    refine gf_X3_10 hx hb hts hown hE hW q2 hr3 dX3_count_105 ?_
    obtain ⟨q4, hcf⟩ := og hcf
    refine gf_X3_181 hx hb hts hown hE hW q4 dX3_count_108 ?_
    have hcf := Option.some.inj hcf; subst hcf
    exact wk_iret hx hb hr hlocks hW hS dX3_count_111
  · replace hcf := (if_neg q1).symm.trans hcf
    by_cases q5 : b1 = (1 : Int32)
    · replace hcf := (if_pos q5).symm.trans hcf
      refine wk_tsw (off := 111) (tgt := 112) hx hb dX3_count_1 (by rw [q5]; rfl) (by decide) ?_
      refine lv_aload_n hx hb dX3_count_112 rfl (lv_at hl 0 rfl) ?_
      obtain ⟨q6, hcf⟩ := og hcf
      obtain ⟨r7, hr7, hcf⟩ := ob hcf
      refine gf_X3_10 hx hb hts hown hE hW q6 hr7 dX3_count_113 ?_
      obtain ⟨q8, hcf⟩ := og hcf
      refine gf_X3_193 hx hb hts hown hE hW q8 dX3_count_116 ?_
      have hcf := Option.some.inj hcf; subst hcf
      exact wk_iret hx hb hr hlocks hW hS dX3_count_119
    · replace hcf := (if_neg q5).symm.trans hcf
      by_cases q9 : b1 = (2 : Int32)
      · replace hcf := (if_pos q9).symm.trans hcf
        refine wk_tsw (off := 119) (tgt := 120) hx hb dX3_count_1 (by rw [q9]; rfl) (by decide) ?_
        refine lv_aload_n hx hb dX3_count_120 rfl (lv_at hl 0 rfl) ?_
        obtain ⟨q10, hcf⟩ := og hcf
        obtain ⟨r11, hr11, hcf⟩ := ob hcf
        refine gf_X3_10 hx hb hts hown hE hW q10 hr11 dX3_count_121 ?_
        obtain ⟨q12, hcf⟩ := og hcf
        obtain ⟨x13, hx13, hcf⟩ := ob hcf
        refine iv_X3_196 (As := []) (rest := []) hx hb hml hown hts hE (ct_X2_partsOfAll l D cy z n Y V G r11 x13 hx13) hW hS q12 rfl rfl hl.1 (Nat.le_of_ble_eq_true rfl) ⟨Nat.le_of_ble_eq_true rfl, Nat.le_of_ble_eq_true rfl⟩ dX3_count_124 ⟨Nat.zero_le _, Nat.zero_le _⟩ (fun H locs hW hS => ?_)
        have hcf := Option.some.inj hcf; subst hcf
        exact wk_iret hx hb hr hlocks hW hS dX3_count_127
      · replace hcf := (if_neg q9).symm.trans hcf
        by_cases q14 : b1 = (3 : Int32)
        · replace hcf := (if_pos q14).symm.trans hcf
          refine wk_tsw (off := 127) (tgt := 128) hx hb dX3_count_1 (by rw [q14]; rfl) (by decide) ?_
          refine lv_aload_n hx hb dX3_count_128 rfl (lv_at hl 0 rfl) ?_
          obtain ⟨q15, hcf⟩ := og hcf
          obtain ⟨r16, hr16, hcf⟩ := ob hcf
          refine gf_X3_10 hx hb hts hown hE hW q15 hr16 dX3_count_129 ?_
          obtain ⟨q17, hcf⟩ := og hcf
          obtain ⟨x18, hx18, hcf⟩ := ob hcf
          refine iv_X3_200 (As := []) (rest := []) hx hb hml hown hts hE (ct_X2_approvedOfAll l D cy z n Y V G r16 x18 hx18) hW hS q17 rfl rfl hl.1 (Nat.le_of_ble_eq_true rfl) ⟨Nat.le_of_ble_eq_true rfl, Nat.le_of_ble_eq_true rfl⟩ dX3_count_132 ⟨Nat.zero_le _, Nat.zero_le _⟩ (fun H locs hW hS => ?_)
          have hcf := Option.some.inj hcf; subst hcf
          exact wk_iret hx hb hr hlocks hW hS dX3_count_135
        · replace hcf := (if_neg q14).symm.trans hcf
          by_cases q19 : b1 = (4 : Int32)
          · replace hcf := (if_pos q19).symm.trans hcf
            refine wk_tsw (off := 135) (tgt := 136) hx hb dX3_count_1 (by rw [q19]; rfl) (by decide) ?_
            refine lv_aload_n hx hb dX3_count_136 rfl (lv_at hl 0 rfl) ?_
            obtain ⟨q20, hcf⟩ := og hcf
            obtain ⟨r21, hr21, hcf⟩ := ob hcf
            refine gf_X3_10 hx hb hts hown hE hW q20 hr21 dX3_count_137 ?_
            obtain ⟨q22, hcf⟩ := og hcf
            refine gf_X3_203 hx hb hts hown hE hW q22 dX3_count_140 ?_
            have hcf := Option.some.inj hcf; subst hcf
            exact wk_iret hx hb hr hlocks hW hS dX3_count_143
          · replace hcf := (if_neg q19).symm.trans hcf
            by_cases q23 : b1 = (5 : Int32)
            · replace hcf := (if_pos q23).symm.trans hcf
              refine wk_tsw (off := 143) (tgt := 144) hx hb dX3_count_1 (by rw [q23]; rfl) (by decide) ?_
              refine lv_aload_n hx hb dX3_count_144 rfl (lv_at hl 0 rfl) ?_
              obtain ⟨q24, hcf⟩ := og hcf
              obtain ⟨r25, hr25, hcf⟩ := ob hcf
              refine gf_X3_10 hx hb hts hown hE hW q24 hr25 dX3_count_145 ?_
              obtain ⟨q26, hcf⟩ := og hcf
              refine gf_X3_206 hx hb hts hown hE hW q26 dX3_count_148 ?_
              have hcf := Option.some.inj hcf; subst hcf
              exact wk_iret hx hb hr hlocks hW hS dX3_count_151
            · replace hcf := (if_neg q23).symm.trans hcf
              by_cases q27 : b1 = (6 : Int32)
              · replace hcf := (if_pos q27).symm.trans hcf
                refine wk_tsw (off := 151) (tgt := 152) hx hb dX3_count_1 (by rw [q27]; rfl) (by decide) ?_
                refine lv_aload_n hx hb dX3_count_152 rfl (lv_at hl 0 rfl) ?_
                obtain ⟨q28, hcf⟩ := og hcf
                refine gf_X3_33 hx hb hts hown hE hW q28 dX3_count_153 ?_
                have hcf := Option.some.inj hcf; subst hcf
                exact wk_iret hx hb hr hlocks hW hS dX3_count_156
              · replace hcf := (if_neg q27).symm.trans hcf
                by_cases q29 : b1 = (7 : Int32)
                · replace hcf := (if_pos q29).symm.trans hcf
                  refine wk_tsw (off := 156) (tgt := 157) hx hb dX3_count_1 (by rw [q29]; rfl) (by decide) ?_
                  refine lv_aload_n hx hb dX3_count_157 rfl (lv_at hl 0 rfl) ?_
                  obtain ⟨q30, hcf⟩ := og hcf
                  obtain ⟨r31, hr31, hcf⟩ := ob hcf
                  refine gf_X3_26 hx hb hts hown hE hW q30 hr31 dX3_count_158 ?_
                  obtain ⟨q32, hcf⟩ := og hcf
                  refine gf_X3_209 hx hb hts hown hE hW q32 dX3_count_161 ?_
                  have hcf := Option.some.inj hcf; subst hcf
                  exact wk_iret hx hb hr hlocks hW hS dX3_count_164
                · replace hcf := (if_neg q29).symm.trans hcf
                  by_cases q33 : b1 = (20 : Int32)
                  · replace hcf := (if_pos q33).symm.trans hcf
                    refine wk_tsw (off := 164) (tgt := 165) hx hb dX3_count_1 (by rw [q33]; rfl) (by decide) ?_
                    refine lv_aload_n hx hb dX3_count_165 rfl (lv_at hl 0 rfl) ?_
                    obtain ⟨q34, hcf⟩ := og hcf
                    obtain ⟨r35, hr35, hcf⟩ := ob hcf
                    refine gf_X3_10 hx hb hts hown hE hW q34 hr35 dX3_count_166 ?_
                    obtain ⟨q36, hcf⟩ := og hcf
                    refine gf_X3_212 hx hb hts hown hE hW q36 dX3_count_169 ?_
                    have hcf := Option.some.inj hcf; subst hcf
                    exact wk_iret hx hb hr hlocks hW hS dX3_count_172
                  · replace hcf := (if_neg q33).symm.trans hcf
                    by_cases q37 : b1 = (21 : Int32)
                    · replace hcf := (if_pos q37).symm.trans hcf
                      refine wk_tsw (off := 172) (tgt := 173) hx hb dX3_count_1 (by rw [q37]; rfl) (by decide) ?_
                      refine lv_aload_n hx hb dX3_count_173 rfl (lv_at hl 0 rfl) ?_
                      obtain ⟨q38, hcf⟩ := og hcf
                      obtain ⟨r39, hr39, hcf⟩ := ob hcf
                      refine gf_X3_10 hx hb hts hown hE hW q38 hr39 dX3_count_174 ?_
                      obtain ⟨q40, hcf⟩ := og hcf
                      refine gf_X3_215 hx hb hts hown hE hW q40 dX3_count_177 ?_
                      have hcf := Option.some.inj hcf; subst hcf
                      exact wk_iret hx hb hr hlocks hW hS dX3_count_180
                    · replace hcf := (if_neg q37).symm.trans hcf
                      refine wk_tsw (off := 180) (tgt := 181) hx hb dX3_count_1 (by have eq1 := lv_neT q1 (a := 0) rfl; have eq5 := lv_neT q5 (a := 1) rfl; have eq9 := lv_neT q9 (a := 2) rfl; have eq14 := lv_neT q14 (a := 3) rfl; have eq19 := lv_neT q19 (a := 4) rfl; have eq23 := lv_neT q23 (a := 5) rfl; have eq27 := lv_neT q27 (a := 6) rfl; have eq29 := lv_neT q29 (a := 7) rfl; have eq33 := lv_neT q33 (a := 20) rfl; have eq37 := lv_neT q37 (a := 21) rfl; by_cases hh : (b1).toInt < 0 ∨ 21 < (b1).toInt; exact if_pos hh; rcases (show (b1).toInt = 8 ∨ (b1).toInt = 9 ∨ (b1).toInt = 10 ∨ (b1).toInt = 11 ∨ (b1).toInt = 12 ∨ (b1).toInt = 13 ∨ (b1).toInt = 14 ∨ (b1).toInt = 15 ∨ (b1).toInt = 16 ∨ (b1).toInt = 17 ∨ (b1).toInt = 18 ∨ (b1).toInt = 19 by omega) with hg | hg | hg | hg | hg | hg | hg | hg | hg | hg | hg | hg <;> (rw [sw_off, if_neg hh, hg]; rfl)) (by decide) ?_
                      refine lv_ldc hx hb hown (hts _ q304) dX3_count_181 ?_
                      have hcf := Option.some.inj hcf; subst hcf
                      exact wk_iret hx hb hr hlocks hW hS dX3_count_183
set_option maxHeartbeats 4000000 in
set_option maxRecDepth 100000 in
theorem ct_X3_undo (l : Launch) (D : va_G) (cy : Nat → ClassId) (z n : Nat) (Y : mY) (V : mV) (G : mG) (a0 : Nat) (x : Int32 × mV) (hcf : cf_X3_undo Y V G a0 = some x) : CT l yX3_undo cX3_undo 1 (some .int) (rmd 2) D cy z [.ref a0] Y n V G (some (.int x.1)) Y n x.2 G := by
  refine ct_of (by decide) (Nat.le_of_ble_eq_true rfl) ?_
  intro p e s m args below meth c ls hx hb hr hml hown hts hlocks hnm hE hW hl
  have hS : va_S (zA z) s.heap s.heap [] := va_S.rf
  have hl : lv_has ls 1 [(0, .ref a0)] := hl
  have hown : s.vm.findClass RX3 = some m.cls := hown
  rw [cf_X3_undo] at hcf
  refine lv_aload_n hx hb dX3_undo_0 rfl (lv_at hl 0 rfl) ?_
  obtain ⟨q1, hcf⟩ := og hcf
  refine gf_X3_33 hx hb hts hown hE hW q1 dX3_undo_1 ?_
  refine lv_if_gt (tgt := 10) hx hb dX3_undo_4 (by decide) (fun q2 => ?_) (fun q2 => ?_)
  · replace hcf := (if_pos q2).symm.trans hcf
    refine lv_aload_n hx hb dX3_undo_10 rfl (lv_at hl 0 rfl) ?_
    refine lv_dup hx hb dX3_undo_11 rfl ?_
    refine gf_X3_33 hx hb hts hown hE hW q1 dX3_undo_12 ?_
    refine lv_iconst (v := (1 : Int32)) hx hb dX3_undo_15 (by decide) ?_
    refine lv_isub hx hb dX3_undo_16 ?_
    refine pf_X3_33 hx hb hts hown hE hW hS q1 ((V a0 5) - (1 : Int32)) dX3_undo_17 (fun H locs hW hS => ?_)
    refine lv_aload_n hx hb dX3_undo_20 rfl (lv_at hl 0 rfl) ?_
    obtain ⟨r3, hr3, hcf⟩ := ob hcf
    refine gf_X3_10 hx hb hts hown hE hW q1 hr3 dX3_undo_21 ?_
    refine lv_aload_n hx hb dX3_undo_24 rfl (lv_at hl 0 rfl) ?_
    obtain ⟨r4, hr4, hcf⟩ := ob hcf
    refine gf_X3_19 hx hb hts hown hE hW q1 hr4 dX3_undo_25 ?_
    refine lv_aload_n hx hb dX3_undo_28 rfl (lv_at hl 0 rfl) ?_
    refine gf_X3_33 hx hb hts hown hE hW q1 dX3_undo_29 ?_
    obtain ⟨q5, hcf⟩ := og hcf
    obtain ⟨q6, hcf⟩ := og hcf
    obtain ⟨r7, hr7, hcf⟩ := ob hcf
    refine wk_aald hx hb hE hW q5 q6 hr7 dX3_undo_32 ?_
    obtain ⟨q8, hcf⟩ := og hcf
    obtain ⟨x9, hx9, hcf⟩ := ob hcf
    refine iv_X3_37 (As := [.ref r7]) (rest := []) hx hb hml hown hts hE (ct_X2_copyFrom l D cy z n Y (up2 V a0 5 ((V a0 5) - (1 : Int32))) G r3 r7 x9 hx9) hW hS q8 rfl rfl hl.1 (Nat.le_of_ble_eq_true rfl) ⟨Nat.le_of_ble_eq_true rfl, Nat.le_of_ble_eq_true rfl⟩ dX3_undo_33 ⟨Nat.zero_le _, Nat.zero_le _⟩ (fun H locs hW hS => ?_)
    refine lv_aload_n hx hb dX3_undo_36 rfl (lv_at hl 0 rfl) ?_
    refine gf_X3_33 hx hb hts hown hE hW q1 dX3_undo_37 ?_
    have hcf := Option.some.inj hcf; subst hcf
    exact wk_iret hx hb hr hlocks hW hS dX3_undo_40
  · replace hcf := (if_neg q2).symm.trans hcf
    refine lv_ldc hx hb hown (hts _ q497) dX3_undo_7 ?_
    have hcf := Option.some.inj hcf; subst hcf
    exact wk_iret hx hb hr hlocks hW hS dX3_undo_9
