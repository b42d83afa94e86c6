def lp_X2_copyFrom_41 (Y : mY) (G : mG) : Nat → mV → Nat → Nat → Int32 → Option (mV)
  | 0, _, _, _, _ => none
  | k + 1, V, j0, j1, j2 => if (5 : Int32) ≤ j2 then (if Y.1 j1 = 2 then if Y.1 j0 = 2 then (some (up2 (up2 (up2 V j0 4 (V j1 4)) j0 5 ((up2 V j0 4 (V j1 4)) j1 5)) j0 6 ((up2 (up2 V j0 4 (V j1 4)) j0 5 ((up2 V j0 4 (V j1 4)) j1 5)) j1 6))).bind (fun V8 => some (up2 (up2 V8 j0 7 (V8 j1 7)) j0 8 ((up2 V8 j0 7 (V8 j1 7)) j1 8))) else none else none) else (if Y.1 j0 = 2 then (G j0 1).bind (fun r10 => if Y.1 j1 = 2 then (G j1 1).bind (fun r12 => if Y.1 r12 = 6 then if ¬ (j2 < 0 ∨ Y.2 r12 ≤ j2.toNatClampNeg) then if Y.1 r10 = 6 then if ¬ (j2 < 0 ∨ Y.2 r10 ≤ j2.toNatClampNeg) then (G j0 2).bind (fun r17 => (G j1 2).bind (fun r18 => if Y.1 r18 = 6 then if ¬ (j2 < 0 ∨ Y.2 r18 ≤ j2.toNatClampNeg) then if Y.1 r17 = 6 then if ¬ (j2 < 0 ∨ Y.2 r17 ≤ j2.toNatClampNeg) then (some (up2 (up2 V r10 j2.toNatClampNeg (V r12 j2.toNatClampNeg)) r17 j2.toNatClampNeg ((up2 V r10 j2.toNatClampNeg (V r12 j2.toNatClampNeg)) r18 j2.toNatClampNeg))).bind (fun V23 => lp_X2_copyFrom_41 Y G k V23 j0 j1 (j2 + 1)) else none else none else none else none)) else none else none else none else none) else none) else none)
def lp_X2_copyFrom_10 (Y : mY) (G : mG) : Nat → mV → Nat → Nat → Int32 → Option (mV)
  | 0, _, _, _, _ => none
  | k + 1, V, j0, j1, j2 => if Y.1 j0 = 2 then if (V j0 3) ≤ j2 then (lp_X2_copyFrom_41 Y G fuB V j0 j1 (0 : Int32)) else ((G j0 0).bind (fun r24 => if Y.1 r24 = 7 ∨ Y.1 r24 = 8 then if ¬ (j2 < 0 ∨ Y.2 r24 ≤ j2.toNatClampNeg) then (G r24 j2.toNatClampNeg).bind (fun r27 => if Y.1 j1 = 2 then (G j1 0).bind (fun r29 => if Y.1 r29 = 7 ∨ Y.1 r29 = 8 then if ¬ (j2 < 0 ∨ Y.2 r29 ≤ j2.toNatClampNeg) then (G r29 j2.toNatClampNeg).bind (fun r32 => if Y.1 r27 = 0 then (cf_X0_copyFrom Y V G r27 r32).bind (fun x34 => lp_X2_copyFrom_10 Y G k x34 j0 j1 (j2 + 1)) else none) else none else none) else none) else none else none)) else none
def cf_X2_copyFrom (Y : mY) (V : mV) (G : mG) (a0 : Nat) (b1 : Nat) : Option (mV) := if Y.1 b1 = 2 then if Y.1 a0 = 2 then lp_X2_copyFrom_10 Y G fuB (up2 V a0 3 (V b1 3)) a0 b1 (0 : Int32) else none else none
def cf_X2_hasCondition (Y : mY) (V : mV) (G : mG) (a0 : Nat) (b1 : Int32) : Option (Int32) := if b1 < 0 then (some (0 : Int32)) else (if Y.1 a0 = 2 then if (V a0 3) ≤ b1 then (some (0 : Int32)) else (some (1 : Int32)) else none)
def cf_X2_isBegun (Y : mY) (V : mV) (G : mG) (a0 : Nat) (b1 : Int32) : Option (Int32) := (cf_X3_isWithin b1 (0 : Int32) (4 : Int32)).bind (fun x1 => if x1 = 0 then (some (0 : Int32)) else (if Y.1 a0 = 2 then (G a0 1).bind (fun r4 => if Y.1 r4 = 6 then if ¬ (b1 < 0 ∨ Y.2 r4 ≤ b1.toNatClampNeg) then if (V r4 b1.toNatClampNeg) = (-1 : Int32) then (some (0 : Int32)) else (some (1 : Int32)) else none else none) else none))
def cf_X2_isFinished (Y : mY) (V : mV) (G : mG) (a0 : Nat) (b1 : Int32) : Option (Int32) := (cf_X3_isWithin b1 (0 : Int32) (4 : Int32)).bind (fun x1 => if x1 = 0 then (some (0 : Int32)) else (if Y.1 a0 = 2 then (G a0 2).bind (fun r4 => if Y.1 r4 = 6 then if ¬ (b1 < 0 ∨ Y.2 r4 ≤ b1.toNatClampNeg) then if (V r4 b1.toNatClampNeg) = (-1 : Int32) then (some (0 : Int32)) else (some (1 : Int32)) else none else none) else none))
def cf_X2_canBegin (Y : mY) (V : mV) (G : mG) (a0 : Nat) (b1 : Int32) : Option (Int32) := if Y.1 a0 = 2 then (cf_X2_isBegun Y V G a0 b1).bind (fun x2 => if x2 = 0 then (if b1 = 0 then (some (1 : Int32)) else ((cf_X2_isBegun Y V G a0 (b1 - (1 : Int32))).bind (fun x5 => if x5 = 0 then (some (0 : Int32)) else (some (1 : Int32))))) else (some (0 : Int32))) else none
def cf_X2_progressOf (Y : mY) (V : mV) (G : mG) (a0 : Nat) (b1 : Int32) : Option (Int32) := if Y.1 a0 = 2 then (cf_X2_isFinished Y V G a0 b1).bind (fun x2 => if x2 = 0 then ((cf_X2_isBegun Y V G a0 b1).bind (fun x4 => if x4 = 0 then (some (0 : Int32)) else (some (1 : Int32)))) else (some (2 : Int32))) else none
def cf_X2_stateOf (Y : mY) (V : mV) (G : mG) (a0 : Nat) (b1 : Nat) : Option (Int32) := if Y.1 b1 = 0 then if (V b1 9) = 0 then (if (V b1 8) = 0 then ((cf_X0_isMet Y V G b1).bind (fun x4 => if x4 = 0 then (if (V b1 0) = (1 : Int32) then (if Y.1 a0 = 2 then (cf_X2_isBegun Y V G a0 (V b1 1)).bind (fun x12 => if x12 = 0 then (some (0 : Int32)) else (if (V b1 0) = (2 : Int32) then ((cf_X2_isFinished Y V G a0 (V b1 1)).bind (fun x15 => if x15 = 0 then (some (0 : Int32)) else (some (1 : Int32)))) else (some (1 : Int32)))) else none) else (if (V b1 0) = (2 : Int32) then (if Y.1 a0 = 2 then (cf_X2_isFinished Y V G a0 (V b1 1)).bind (fun x9 => if x9 = 0 then (some (0 : Int32)) else (some (1 : Int32))) else none) else (some (1 : Int32)))) else (some (2 : Int32)))) else (some (3 : Int32))) else (some (4 : Int32)) else none
def lp_X2_withState_4 (Y : mY) (V : mV) (G : mG) : Nat → Nat → Int32 → Int32 → Int32 → Option (Int32)
  | 0, _, _, _, _ => none
  | k + 1, j0, j1, j2, j3 => if Y.1 j0 = 2 then if (V j0 3) ≤ j3 then (some j2) else ((G j0 0).bind (fun r3 => if Y.1 r3 = 7 ∨ Y.1 r3 = 8 then if ¬ (j3 < 0 ∨ Y.2 r3 ≤ j3.toNatClampNeg) then (G r3 j3.toNatClampNeg).bind (fun r6 => (cf_X2_stateOf Y V G j0 r6).bind (fun x7 => if x7 = j1 then (lp_X2_withState_4 Y V G k j0 j1 (j2 ||| ((1 : Int32) <<< (j3 &&& 31))) (j3 + 1)) else (lp_X2_withState_4 Y V G k j0 j1 j2 (j3 + 1)))) else none else none)) else none
def cf_X2_withState (Y : mY) (V : mV) (G : mG) (a0 : Nat) (b1 : Int32) : Option (Int32) := lp_X2_withState_4 Y V G fuB a0 b1 (0 : Int32) (0 : Int32)
def lp_X2_unmetAhead_4 (Y : mY) (V : mV) (G : mG) : Nat → Nat → Int32 → Int32 → Int32 → Option (Int32)
  | 0, _, _, _, _ => none
  | k + 1, j0, j1, j2, j3 => if Y.1 j0 = 2 then if (V j0 3) ≤ j3 then (some j2) else ((G j0 0).bind (fun r3 => if Y.1 r3 = 7 ∨ Y.1 r3 = 8 then if ¬ (j3 < 0 ∨ Y.2 r3 ≤ j3.toNatClampNeg) then (G r3 j3.toNatClampNeg).bind (fun r6 => if Y.1 r6 = 0 then if (V r6 0) = 0 then (if (V r6 1) = j1 then ((cf_X0_isMet Y V G r6).bind (fun x10 => if x10 = 0 then (lp_X2_unmetAhead_4 Y V G k j0 j1 (j2 ||| ((1 : Int32) <<< (j3 &&& 31))) (j3 + 1)) else (lp_X2_unmetAhead_4 Y V G k j0 j1 j2 (j3 + 1)))) else (lp_X2_unmetAhead_4 Y V G k j0 j1 j2 (j3 + 1))) else (lp_X2_unmetAhead_4 Y V G k j0 j1 j2 (j3 + 1)) else none) else none else none)) else none
def cf_X2_unmetAhead (Y : mY) (V : mV) (G : mG) (a0 : Nat) (b1 : Int32) : Option (Int32) := lp_X2_unmetAhead_4 Y V G fuB a0 b1 (0 : Int32) (0 : Int32)
def lp_X2_partsOfAll_4 (Y : mY) (V : mV) (G : mG) : Nat → Nat → Int32 → Int32 → Option (Int32)
  | 0, _, _, _ => none
  | k + 1, j0, j1, j2 => if Y.1 j0 = 2 then if (V j0 3) ≤ j2 then (some j1) else ((G j0 0).bind (fun r3 => if Y.1 r3 = 7 ∨ Y.1 r3 = 8 then if ¬ (j2 < 0 ∨ Y.2 r3 ≤ j2.toNatClampNeg) then (G r3 j2.toNatClampNeg).bind (fun r6 => if Y.1 r6 = 0 then lp_X2_partsOfAll_4 Y V G k j0 (j1 + (V r6 3)) (j2 + 1) else none) else none else none)) else none
def cf_X2_partsOfAll (Y : mY) (V : mV) (G : mG) (a0 : Nat) : Option (Int32) := lp_X2_partsOfAll_4 Y V G fuB a0 (0 : Int32) (0 : Int32)
def lp_X2_approvedOfAll_4 (Y : mY) (V : mV) (G : mG) : Nat → Nat → Int32 → Int32 → Option (Int32)
  | 0, _, _, _ => none
  | k + 1, j0, j1, j2 => if Y.1 j0 = 2 then if (V j0 3) ≤ j2 then (some j1) else ((G j0 0).bind (fun r3 => if Y.1 r3 = 7 ∨ Y.1 r3 = 8 then if ¬ (j2 < 0 ∨ Y.2 r3 ≤ j2.toNatClampNeg) then (G r3 j2.toNatClampNeg).bind (fun r6 => if Y.1 r6 = 0 then (cf_J6_bitCount_0f7a4 (V r6 4)).bind (fun x8 => lp_X2_approvedOfAll_4 Y V G k j0 (j1 + x8) (j2 + 1)) else none) else none else none)) else none
def cf_X2_approvedOfAll (Y : mY) (V : mV) (G : mG) (a0 : Nat) : Option (Int32) := lp_X2_approvedOfAll_4 Y V G fuB a0 (0 : Int32) (0 : Int32)
def cf_X2_leastDays (b1 : Int32) : Option (Int32) := if b1 = (2 : Int32) then (some (1 : Int32)) else (some (0 : Int32))
def cf_X2_addCondition (Y : mY) (V : mV) (G : mG) (a0 : Nat) (b1 : Int32) (b2 : Int32) (b3 : Int32) (b4 : Int32) : Option (Int32 × mV) := (cf_X3_isWithin b1 (0 : Int32) (2 : Int32)).bind (fun x1 => if x1 = 0 then (some ((-1000001 : Int32), V)) else ((cf_X3_isWithin b2 (0 : Int32) (4 : Int32)).bind (fun x3 => if x3 = 0 then (some ((-1000001 : Int32), V)) else ((cf_X2_leastDays b1).bind (fun x5 => (cf_X3_isWithin b3 x5 (365 : Int32)).bind (fun x6 => if x6 = 0 then (some ((-1000001 : Int32), V)) else ((cf_X3_isWithin b4 (1 : Int32) (6 : Int32)).bind (fun x8 => if x8 = 0 then (some ((-1000001 : Int32), V)) else (if Y.1 a0 = 2 then (cf_X2_isBegun Y V G a0 b2).bind (fun x11 => if x11 = 0 then (if (V a0 3) < (10 : Int32) then ((G a0 0).bind (fun r14 => if Y.1 r14 = 7 ∨ Y.1 r14 = 8 then if ¬ ((V a0 3) < 0 ∨ Y.2 r14 ≤ (V a0 3).toNatClampNeg) then (G r14 (V a0 3).toNatClampNeg).bind (fun r17 => if Y.1 r17 = 0 then (cf_X0_startAs Y V G r17 b1 b2 b3 b4).bind (fun x19 => some ((((up2 x19 a0 3 ((x19 a0 3) + (1 : Int32))) a0 3) - (1 : Int32)), (up2 x19 a0 3 ((x19 a0 3) + (1 : Int32))))) else none) else none else none)) else (some ((-1000003 : Int32), V))) else (some ((-1000002 : Int32), V))) else none)))))))))
def cf_X2_startBreach (Y : mY) (V : mV) (G : mG) (a0 : Nat) (b1 : Nat) : Option (mV) := if Y.1 b1 = 0 then if Y.1 a0 = 2 then some (up2 (up2 V b1 8 (1 : Int32)) a0 5 (((up2 V b1 8 (1 : Int32)) a0 5) + (1 : Int32))) else none else none
def lp_X2_beginStage_41 (Y : mY) (G : mG) : Nat → mV → Nat → Int32 → Int32 → Int32 → Option (Int32 × mV)
  | 0, _, _, _, _, _ => none
  | k + 1, V, j0, j1, j2, j3 => if Y.1 j0 = 2 then if (V j0 3) ≤ j3 then (some (j2, V)) else (if (j2 &&& ((1 : Int32) <<< (j3 &&& 31))) = 0 then (lp_X2_beginStage_41 Y G k V j0 j1 j2 (j3 + 1)) else ((G j0 0).bind (fun r13 => if Y.1 r13 = 7 ∨ Y.1 r13 = 8 then if ¬ (j3 < 0 ∨ Y.2 r13 ≤ j3.toNatClampNeg) then (G r13 j3.toNatClampNeg).bind (fun r16 => (cf_X2_startBreach Y V G j0 r16).bind (fun x17 => lp_X2_beginStage_41 Y G k x17 j0 j1 j2 (j3 + 1))) else none else none))) else none
def cf_X2_beginStage (Y : mY) (V : mV) (G : mG) (a0 : Nat) (b1 : Int32) : Option (Int32 × mV) := (cf_X3_isWithin b1 (0 : Int32) (4 : Int32)).bind (fun x1 => if x1 = 0 then (some ((-1000001 : Int32), V)) else (if Y.1 a0 = 2 then (cf_X2_canBegin Y V G a0 b1).bind (fun x4 => if x4 = 0 then (some ((-1000002 : Int32), V)) else ((G a0 1).bind (fun r6 => if Y.1 r6 = 6 then if ¬ (b1 < 0 ∨ Y.2 r6 ≤ b1.toNatClampNeg) then (cf_X2_unmetAhead Y (up2 V r6 b1.toNatClampNeg (V a0 4)) G a0 b1).bind (fun x9 => lp_X2_beginStage_41 Y G fuB (up2 V r6 b1.toNatClampNeg (V a0 4)) a0 b1 x9 (0 : Int32)) else none else none))) else none))
def cf_X2_finishStage (Y : mY) (V : mV) (G : mG) (a0 : Nat) (b1 : Int32) : Option (Int32 × mV) := (cf_X3_isWithin b1 (0 : Int32) (4 : Int32)).bind (fun x1 => if x1 = 0 then (some ((-1000001 : Int32), V)) else (if Y.1 a0 = 2 then (cf_X2_isBegun Y V G a0 b1).bind (fun x4 => if x4 = 0 then (some ((-1000002 : Int32), V)) else ((cf_X2_isFinished Y V G a0 b1).bind (fun x6 => if x6 = 0 then ((G a0 2).bind (fun r8 => if Y.1 r8 = 6 then if ¬ (b1 < 0 ∨ Y.2 r8 ≤ b1.toNatClampNeg) then (G a0 1).bind (fun r11 => if Y.1 r11 = 6 then if ¬ (b1 < 0 ∨ Y.2 r11 ≤ b1.toNatClampNeg) then some ((((up2 V r8 b1.toNatClampNeg (V a0 4)) a0 4) - ((up2 V r8 b1.toNatClampNeg (V a0 4)) r11 b1.toNatClampNeg)), (up2 V r8 b1.toNatClampNeg (V a0 4))) else none else none) else none else none)) else (some ((-1000002 : Int32), V))))) else none))
def cf_X2_applyFor (Y : mY) (V : mV) (G : mG) (a0 : Nat) (b1 : Int32) (b2 : Int32) : Option (Int32 × mV) := if Y.1 a0 = 2 then (cf_X2_hasCondition Y V G a0 b1).bind (fun x2 => if x2 = 0 then (some ((-1000001 : Int32), V)) else ((G a0 0).bind (fun r4 => if Y.1 r4 = 7 ∨ Y.1 r4 = 8 then if ¬ (b1 < 0 ∨ Y.2 r4 ≤ b1.toNatClampNeg) then (G r4 b1.toNatClampNeg).bind (fun r7 => if b2 = 0 then (some ((-1000001 : Int32), V)) else (if Y.1 r7 = 0 then (cf_X0_isPartsSet Y V G r7 b2).bind (fun x10 => if x10 = 0 then (some ((-1000001 : Int32), V)) else (if (V r7 0) = (2 : Int32) then (some ((-1000002 : Int32), V)) else (if (V r7 5) = 0 then (if ((V r7 4) &&& b2) = 0 then (some (((up2 (up2 V r7 5 b2) r7 6 (0 : Int32)) a0 7), (up2 (up2 V r7 5 b2) r7 6 (0 : Int32)))) else (some ((-1000002 : Int32), V))) else (some ((-1000002 : Int32), V))))) else none)) else none else none))) else none
def cf_X2_decideOn (Y : mY) (V : mV) (G : mG) (a0 : Nat) (b1 : Int32) (b2 : Int32) : Option (Int32 × mV) := if Y.1 a0 = 2 then (cf_X2_hasCondition Y V G a0 b1).bind (fun x2 => if x2 = 0 then (some ((-1000001 : Int32), V)) else ((G a0 0).bind (fun r4 => if Y.1 r4 = 7 ∨ Y.1 r4 = 8 then if ¬ (b1 < 0 ∨ Y.2 r4 ≤ b1.toNatClampNeg) then (G r4 b1.toNatClampNeg).bind (fun r7 => if Y.1 r7 = 0 then (cf_X0_isPartsSet Y V G r7 b2).bind (fun x9 => if x9 = 0 then (some ((-1000001 : Int32), V)) else (if (V r7 5) = 0 then (some ((-1000002 : Int32), V)) else (if (b2 &&& ((V r7 5) ^^^ (-1 : Int32))) = 0 then ((cf_X0_approve Y V G r7 b2).bind (fun x13 => (cf_J6_bitCount_0f7a4 (x13 r7 4)).bind (fun x14 => some (((x13 r7 3) - x14), x13)))) else (some ((-1000002 : Int32), V))))) else none) else none else none))) else none
def cf_X2_lapseOf (Y : mY) (V : mV) (G : mG) (a0 : Nat) (b1 : Int32) : Option (Int32 × mV) := if Y.1 a0 = 2 then (cf_X2_hasCondition Y V G a0 b1).bind (fun x2 => if x2 = 0 then (some ((-1000001 : Int32), V)) else ((G a0 0).bind (fun r4 => if Y.1 r4 = 7 ∨ Y.1 r4 = 8 then if ¬ (b1 < 0 ∨ Y.2 r4 ≤ b1.toNatClampNeg) then (G r4 b1.toNatClampNeg).bind (fun r7 => if Y.1 r7 = 0 then if (V r7 0) = (2 : Int32) then ((cf_X2_stateOf Y V G a0 r7).bind (fun x10 => if x10 = (1 : Int32) then ((cf_X2_startBreach Y V G a0 r7).bind (fun x12 => some ((x12 r7 7), x12))) else (some ((-1000002 : Int32), V)))) else (some ((-1000002 : Int32), V)) else none) else none else none))) else none
def cf_X2_cureOf (Y : mY) (V : mV) (G : mG) (a0 : Nat) (b1 : Int32) : Option (Int32 × mV) := if Y.1 a0 = 2 then (cf_X2_hasCondition Y V G a0 b1).bind (fun x2 => if x2 = 0 then (some ((-1000001 : Int32), V)) else ((G a0 0).bind (fun r4 => if Y.1 r4 = 7 ∨ Y.1 r4 = 8 then if ¬ (b1 < 0 ∨ Y.2 r4 ≤ b1.toNatClampNeg) then (G r4 b1.toNatClampNeg).bind (fun r7 => if Y.1 r7 = 0 then if (V r7 0) = (2 : Int32) then ((cf_X2_stateOf Y V G a0 r7).bind (fun x10 => if x10 = (3 : Int32) then ((cf_X0_endBreach Y V G r7).bind (fun x12 => some ((V r7 10), x12))) else (some ((-1000002 : Int32), V)))) else (some ((-1000002 : Int32), V)) else none) else none else none))) else none
def cf_X2_serveOn (Y : mY) (V : mV) (G : mG) (a0 : Nat) (b1 : Int32) (b2 : Int32) : Option (Int32 × mV) := if Y.1 a0 = 2 then (cf_X2_hasCondition Y V G a0 b1).bind (fun x2 => if x2 = 0 then (some ((-1000001 : Int32), V)) else ((cf_X3_isWithin b2 (1 : Int32) (99 : Int32)).bind (fun x4 => if x4 = 0 then (some ((-1000001 : Int32), V)) else ((G a0 0).bind (fun r6 => if Y.1 r6 = 7 ∨ Y.1 r6 = 8 then if ¬ (b1 < 0 ∨ Y.2 r6 ≤ b1.toNatClampNeg) then (G r6 b1.toNatClampNeg).bind (fun r9 => (cf_X2_stateOf Y V G a0 r9).bind (fun x10 => if x10 = (3 : Int32) then (if Y.1 r9 = 0 then some (((up2 (up2 V r9 11 (1 : Int32)) r9 12 b2) r9 10), (up2 (up2 V r9 11 (1 : Int32)) r9 12 b2)) else none) else (some ((-1000002 : Int32), V)))) else none else none))))) else none
def cf_X2_isVariation (b1 : Int32) (b2 : Int32) (b3 : Int32) : Option (Int32) := if b2 = (0 : Int32) then ((cf_X2_leastDays b1).bind (fun x2 => (cf_X3_isWithin b3 x2 (365 : Int32)).bind (fun x3 => if x3 = 0 ∨ x3 = 1 then some x3 else none))) else (if b2 = (1 : Int32) then ((cf_X3_isWithin b3 (1 : Int32) (6 : Int32)).bind (fun x6 => if x6 = 0 ∨ x6 = 1 then some x6 else none)) else (if b2 = (2 : Int32) then ((cf_X3_isWithin b3 (0 : Int32) (4 : Int32)).bind (fun x9 => if x9 = 0 ∨ x9 = 1 then some x9 else none)) else (some (0 : Int32))))
def cf_X2_canVary (Y : mY) (V : mV) (G : mG) (a0 : Nat) (b1 : Nat) (b2 : Int32) (b3 : Int32) : Option (Int32) := if Y.1 a0 = 2 then (cf_X2_stateOf Y V G a0 b1).bind (fun x2 => if x2 = 0 then (if Y.1 b1 = 0 then if (V b1 5) = 0 then (if b2 = (0 : Int32) then (if (V b1 0) = (2 : Int32) then (if b3 ≤ (V b1 7) then (some (0 : Int32)) else (some (1 : Int32))) else (if b3 < (V b1 7) then (some (0 : Int32)) else (some (1 : Int32)))) else (if b2 = (1 : Int32) then (if b3 ≤ (V b1 3) then (some (0 : Int32)) else (some (1 : Int32))) else ((cf_X2_isBegun Y V G a0 b3).bind (fun x12 => if x12 = 0 then (some (1 : Int32)) else (some (0 : Int32)))))) else (some (0 : Int32)) else none) else (if x2 = (1 : Int32) then (if Y.1 b1 = 0 then if (V b1 5) = 0 then (if b2 = (0 : Int32) then (if (V b1 0) = (2 : Int32) then (if b3 ≤ (V b1 7) then (some (0 : Int32)) else (some (1 : Int32))) else (if b3 < (V b1 7) then (some (0 : Int32)) else (some (1 : Int32)))) else (if b2 = (1 : Int32) then (if b3 ≤ (V b1 3) then (some (0 : Int32)) else (some (1 : Int32))) else ((cf_X2_isBegun Y V G a0 b3).bind (fun x23 => if x23 = 0 then (some (1 : Int32)) else (some (0 : Int32)))))) else (some (0 : Int32)) else none) else (some (0 : Int32)))) else none
def cf_X2_varyTo (Y : mY) (V : mV) (G : mG) (a0 : Nat) (b1 : Int32) (b2 : Int32) (b3 : Int32) : Option (Int32 × mV) := if Y.1 a0 = 2 then (cf_X2_hasCondition Y V G a0 b1).bind (fun x2 => if x2 = 0 then (some ((-1000001 : Int32), V)) else ((G a0 0).bind (fun r4 => if Y.1 r4 = 7 ∨ Y.1 r4 = 8 then if ¬ (b1 < 0 ∨ Y.2 r4 ≤ b1.toNatClampNeg) then (G r4 b1.toNatClampNeg).bind (fun r7 => if Y.1 r7 = 0 then (cf_X2_isVariation (V r7 0) b2 b3).bind (fun x9 => if x9 = 0 then (some ((-1000001 : Int32), V)) else ((cf_X2_canVary Y V G a0 r7 b2 b3).bind (fun x11 => if x11 = 0 then (some ((-1000002 : Int32), V)) else (if b2 = (0 : Int32) then (some ((V r7 2), (up2 V r7 2 b3))) else (if b2 = (1 : Int32) then (some ((V r7 3), (up2 V r7 3 b3))) else (some ((V r7 1), (up2 (up2 V r7 1 b3) r7 7 (0 : Int32))))))))) else none) else none else none))) else none
def cf_X2_putSetting (Y : mY) (V : mV) (G : mG) (a0 : Nat) (b1 : Int32) (b2 : Int32) : Option (Int32 × mV) := if b1 = 0 then ((cf_X3_isWithin b2 (0 : Int32) (99 : Int32)).bind (fun x6 => if x6 = 0 then (if b1 = (1 : Int32) then ((cf_X3_isWithin b2 (1 : Int32) (365 : Int32)).bind (fun x9 => if x9 = 0 then (some ((-1000001 : Int32), V)) else (if Y.1 a0 = 2 then some ((V a0 8), (up2 V a0 8 b2)) else none))) else (some ((-1000001 : Int32), V))) else (if Y.1 a0 = 2 then some ((V a0 7), (up2 V a0 7 b2)) else none))) else (if b1 = (1 : Int32) then ((cf_X3_isWithin b2 (1 : Int32) (365 : Int32)).bind (fun x3 => if x3 = 0 then (some ((-1000001 : Int32), V)) else (if Y.1 a0 = 2 then some ((V a0 8), (up2 V a0 8 b2)) else none))) else (some ((-1000001 : Int32), V)))
def cf_X2_passClock (Y : mY) (V : mV) (G : mG) (a0 : Nat) (b1 : Nat) : Option (mV) := if Y.1 b1 = 0 then if (V b1 9) = 0 then (if (V b1 8) = 0 then ((cf_X0_isMet Y V G b1).bind (fun x4 => if x4 = 0 then (if (V b1 0) = (1 : Int32) then (if Y.1 a0 = 2 then (cf_X2_isBegun Y V G a0 (V b1 1)).bind (fun x12 => if x12 = 0 then (if (V b1 0) = (2 : Int32) then ((cf_X2_isFinished Y V G a0 (V b1 1)).bind (fun x15 => if x15 = 0 then (some V) else (some (up2 V b1 7 ((V b1 7) + (1 : Int32)))))) else (some V)) else (if (V b1 5) = 0 then (if ((up2 V b1 7 ((V b1 7) + (1 : Int32))) b1 7) ≤ ((up2 V b1 7 ((V b1 7) + (1 : Int32))) b1 2) then (if ((up2 V b1 7 ((V b1 7) + (1 : Int32))) b1 0) = (2 : Int32) then ((cf_X2_isFinished Y (up2 V b1 7 ((V b1 7) + (1 : Int32))) G a0 ((up2 V b1 7 ((V b1 7) + (1 : Int32))) b1 1)).bind (fun x23 => if x23 = 0 then (some (up2 V b1 7 ((V b1 7) + (1 : Int32)))) else ((some (up2 (up2 V b1 7 ((V b1 7) + (1 : Int32))) b1 7 (((up2 V b1 7 ((V b1 7) + (1 : Int32))) b1 7) + (1 : Int32)))).bind (fun V25 => some V25)))) else (some (up2 V b1 7 ((V b1 7) + (1 : Int32))))) else ((cf_X2_startBreach Y (up2 V b1 7 ((V b1 7) + (1 : Int32))) G a0 b1).bind (fun x26 => if (x26 b1 0) = (2 : Int32) then ((cf_X2_isFinished Y x26 G a0 (x26 b1 1)).bind (fun x28 => if x28 = 0 then (some x26) else (some (up2 x26 b1 7 ((x26 b1 7) + (1 : Int32)))))) else (some x26)))) else (if (V b1 0) = (2 : Int32) then ((cf_X2_isFinished Y V G a0 (V b1 1)).bind (fun x19 => if x19 = 0 then (some V) else (some (up2 V b1 7 ((V b1 7) + (1 : Int32)))))) else (some V)))) else none) else (if (V b1 0) = (2 : Int32) then (if Y.1 a0 = 2 then (cf_X2_isFinished Y V G a0 (V b1 1)).bind (fun x9 => if x9 = 0 then (some V) else (some (up2 V b1 7 ((V b1 7) + (1 : Int32))))) else none) else (some V))) else (some V))) else (some V)) else (some V) else none
def cf_X2_passDayOf (Y : mY) (V : mV) (G : mG) (a0 : Nat) (b1 : Nat) : Option (mV) := if Y.1 b1 = 0 then if (V b1 5) = 0 then (if Y.1 a0 = 2 then (cf_X2_passClock Y V G a0 b1).bind (fun x4 => if (V b1 8) = 0 then (some x4) else (if (x4 b1 8) = 0 then (some x4) else ((cf_X0_ageBreach Y x4 G b1 (x4 a0 8)).bind (fun x7 => some x7)))) else none) else (if Y.1 a0 = 2 then if ((up2 V b1 6 ((V b1 6) + (1 : Int32))) b1 6) < ((up2 V b1 6 ((V b1 6) + (1 : Int32))) a0 7) then ((cf_X2_passClock Y (up2 V b1 6 ((V b1 6) + (1 : Int32))) G a0 b1).bind (fun x10 => if (V b1 8) = 0 then (some x10) else (if (x10 b1 8) = 0 then (some x10) else ((cf_X0_ageBreach Y x10 G b1 (x10 a0 8)).bind (fun x13 => some x13))))) else ((cf_J6_bitCount_0f7a4 ((up2 V b1 6 ((V b1 6) + (1 : Int32))) b1 5)).bind (fun x14 => (some (up2 (up2 V b1 6 ((V b1 6) + (1 : Int32))) a0 6 (((up2 V b1 6 ((V b1 6) + (1 : Int32))) a0 6) + x14))).bind (fun V15 => (cf_X0_approve Y V15 G b1 (V15 b1 5)).bind (fun x16 => (cf_X2_passClock Y x16 G a0 b1).bind (fun x17 => if (V b1 8) = 0 then (some x17) else (if (x17 b1 8) = 0 then (some x17) else ((cf_X0_ageBreach Y x17 G b1 (x17 a0 8)).bind (fun x20 => some x20)))))))) else none) else none
def lp_X2_passDays_48 (Y : mY) (G : mG) : Nat → mV → Nat → Int32 → Int32 → Int32 → Option (mV × Int32 × Int32 × Int32)
  | 0, _, _, _, _, _ => none
  | k + 1, V, j0, j1, j2, j3 => if Y.1 j0 = 2 then if (V j0 3) ≤ j3 then (some (V, j1, j2, j3)) else ((G j0 0).bind (fun r10 => if Y.1 r10 = 7 ∨ Y.1 r10 = 8 then if ¬ (j3 < 0 ∨ Y.2 r10 ≤ j3.toNatClampNeg) then (G r10 j3.toNatClampNeg).bind (fun r13 => (cf_X2_passDayOf Y V G j0 r13).bind (fun x14 => lp_X2_passDays_48 Y G k x14 j0 j1 j2 (j3 + 1))) else none else none)) else none
def lp_X2_passDays_31 (Y : mY) (G : mG) : Nat → mV → Nat → Int32 → Int32 → Option (Int32 × mV)
  | 0, _, _, _, _ => none
  | k + 1, V, j0, j1, j2 => if j1 ≤ j2 then (if Y.1 j0 = 2 then some ((V j0 4), V) else none) else (if Y.1 j0 = 2 then (lp_X2_passDays_48 Y G fuB (up2 V j0 4 ((V j0 4) + (1 : Int32))) j0 j1 j2 (0 : Int32)).bind (fun x15 => lp_X2_passDays_31 Y G k x15.1 j0 x15.2.1 (x15.2.2.1 + 1)) else none)
def cf_X2_passDays (Y : mY) (V : mV) (G : mG) (a0 : Nat) (b1 : Int32) : Option (Int32 × mV) := (cf_X3_isWithin b1 (1 : Int32) (400 : Int32)).bind (fun x1 => if x1 = 0 then (some ((-1000001 : Int32), V)) else (if Y.1 a0 = 2 then if ((V a0 4) + b1) ≤ (9999 : Int32) then (lp_X2_passDays_31 Y G fuB V a0 b1 (0 : Int32)) else (some ((-1000003 : Int32), V)) else none))
def lp_X2_daysUntil_21 (Y : mY) (G : mG) : Nat → mV → Nat → Int32 → Int32 → Nat → Int32 → Option (Int32 × mV)
  | 0, _, _, _, _, _, _ => none
  | k + 1, V, j0, j1, j2, j3, j4 => if (400 : Int32) < j4 then (some ((-1000004 : Int32), V)) else (if Y.1 j0 = 2 then (cf_X2_stateOf Y V G j0 j3).bind (fun x10 => if x10 = j2 then (some (j4, V)) else ((cf_X2_passDayOf Y V G j0 j3).bind (fun x12 => lp_X2_daysUntil_21 Y G k x12 j0 j1 j2 j3 (j4 + 1)))) else none)
def cf_X2_daysUntil (Y : mY) (V : mV) (G : mG) (a0 : Nat) (b1 : Int32) (b2 : Int32) : Option (Int32 × mV) := if Y.1 a0 = 2 then (cf_X2_hasCondition Y V G a0 b1).bind (fun x2 => if x2 = 0 then (some ((-1000004 : Int32), V)) else ((G a0 0).bind (fun r4 => if Y.1 r4 = 7 ∨ Y.1 r4 = 8 then if ¬ (b1 < 0 ∨ Y.2 r4 ≤ b1.toNatClampNeg) then (G r4 b1.toNatClampNeg).bind (fun r7 => lp_X2_daysUntil_21 Y G fuB V a0 b1 b2 r7 (0 : Int32)) else none else none))) else none
def lp_X2_daysUntilLawful_11 (Y : mY) (G : mG) : Nat → mV → Nat → Int32 → Int32 → Int32 → Int32 → Option (Int32 × mV)
  | 0, _, _, _, _, _, _ => none
  | k + 1, V, j0, j1, j2, j3, j4 => if Y.1 j0 = 2 then if (V j0 3) ≤ j4 then (some (j3, V)) else (if (j2 &&& ((1 : Int32) <<< (j4 &&& 31))) = 0 then (lp_X2_daysUntilLawful_11 Y G k V j0 j1 j2 j3 (j4 + 1)) else ((cf_X2_daysUntil Y V G j0 j4 (2 : Int32)).bind (fun x6 => if x6.1 = (-1000004 : Int32) then (some ((-1000004 : Int32), x6.2)) else (lp_X2_daysUntilLawful_11 Y G k x6.2 j0 j1 j2 (if j3 < x6.1 then x6.1 else j3) (j4 + 1))))) else none
def cf_X2_daysUntilLawful (Y : mY) (V : mV) (G : mG) (a0 : Nat) (b1 : Int32) : Option (Int32 × mV) := if Y.1 a0 = 2 then (cf_X2_unmetAhead Y V G a0 b1).bind (fun x2 => lp_X2_daysUntilLawful_11 Y G fuB V a0 b1 x2 (0 : Int32) (0 : Int32)) else none
set_option maxHeartbeats 4000000 in
set_option maxRecDepth 100000 in
theorem wl_X2_copyFrom_41 {p : Program} {l : Launch} {e : Env} {s : State} {m : MethodId} {args : Array Value} {below : List Frame} {meth : Method} {c : Code} {D : va_G} {cy : Nat → ClassId} {z : Nat} {n : Nat} {Y : mY} {G : mG} (hx : p.tables.exec = Jvm.exec) (hb : c.code = cX2_copyFrom) (hr : meth.sig.returnType = none) (hml : c.maxLocals = 3) (hown : s.vm.findClass RX2 = some m.cls) (hts : ∀ w ∈ lw_all, w.before args s = true) (hlocks : meth.locks = false) (hE : En D cy s) (x : mV) : ∀ (k : Nat) (V : mV) (j0 : Nat) (j1 : Nat) (j2 : Int32) (H : Heap) (locs : List Loc) (ls : Array Slot), lp_X2_copyFrom_41 Y G k V j0 j1 j2 = some x → Wd Y cy D z n V G H → va_S (zA z) s.heap H locs → lv_has ls 3 [(0, .ref j0), (1, .ref j1), (2, .int j2)] → W p l e (rmd 1) s m args below meth c H locs 0 0 (MQ below (QC D cy z Y n x G none) args s 0 0 (zA z)) (F0 m 41 ls []) := by
  intro k
  induction k with
  | zero =>
    intro V j0 j1 j2 H locs ls hcf
    have hcf : none = some _ := hcf
    cases hcf
  | succ k ih =>
    intro V j0 j1 j2 H locs ls hcf hW hS hl
    rw [lp_X2_copyFrom_41] at hcf
    refine lv_iload_n hx hb dX2_copyFrom_41 rfl (lv_at hl 2 rfl) ?_
    refine lv_iconst (v := (5 : Int32)) hx hb dX2_copyFrom_42 (by decide) ?_
    refine lv_icmp_ge (tgt := 76) hx hb dX2_copyFrom_43 (by decide) (fun q5 => ?_) (fun q5 => ?_)
    · replace hcf := (if_pos q5).symm.trans hcf
      refine lv_aload_n hx hb dX2_copyFrom_76 rfl (lv_at hl 0 rfl) ?_
      refine lv_aload_n hx hb dX2_copyFrom_77 rfl (lv_at hl 1 rfl) ?_
      obtain ⟨q6, hcf⟩ := og hcf
      refine gf_X2_28 hx hb hts hown hE hW q6 dX2_copyFrom_78 ?_
      obtain ⟨q7, hcf⟩ := og hcf
      refine pf_X2_28 hx hb hts hown hE hW hS q7 (V j1 4) dX2_copyFrom_81 (fun H locs hW hS => ?_)
      refine lv_aload_n hx hb dX2_copyFrom_84 rfl (lv_at hl 0 rfl) ?_
      refine lv_aload_n hx hb dX2_copyFrom_85 rfl (lv_at hl 1 rfl) ?_
      refine gf_X2_31 hx hb hts hown hE hW q6 dX2_copyFrom_86 ?_
      refine pf_X2_31 hx hb hts hown hE hW hS q7 ((up2 V j0 4 (V j1 4)) j1 5) dX2_copyFrom_89 (fun H locs hW hS => ?_)
      refine lv_aload_n hx hb dX2_copyFrom_92 rfl (lv_at hl 0 rfl) ?_
      refine lv_aload_n hx hb dX2_copyFrom_93 rfl (lv_at hl 1 rfl) ?_
      refine gf_X2_34 hx hb hts hown hE hW q6 dX2_copyFrom_94 ?_
      refine pf_X2_34 hx hb hts hown hE hW hS q7 ((up2 (up2 V j0 4 (V j1 4)) j0 5 ((up2 V j0 4 (V j1 4)) j1 5)) j1 6) dX2_copyFrom_97 (fun H locs hW hS => ?_)
      obtain ⟨V8, hV8, hcf⟩ := ob hcf
      rw [Option.some.inj hV8] at hW
      refine lv_aload_n hx hb dX2_copyFrom_100 rfl (lv_at hl 0 rfl) ?_
      refine lv_aload_n hx hb dX2_copyFrom_101 rfl (lv_at hl 1 rfl) ?_
      refine gf_X2_37 hx hb hts hown hE hW q6 dX2_copyFrom_102 ?_
      refine pf_X2_37 hx hb hts hown hE hW hS q7 (V8 j1 7) dX2_copyFrom_105 (fun H locs hW hS => ?_)
      refine lv_aload_n hx hb dX2_copyFrom_108 rfl (lv_at hl 0 rfl) ?_
      refine lv_aload_n hx hb dX2_copyFrom_109 rfl (lv_at hl 1 rfl) ?_
      refine gf_X2_40 hx hb hts hown hE hW q6 dX2_copyFrom_110 ?_
      refine pf_X2_40 hx hb hts hown hE hW hS q7 ((up2 V8 j0 7 (V8 j1 7)) j1 8) dX2_copyFrom_113 (fun H locs hW hS => ?_)
      have hcf := Option.some.inj hcf; subst hcf
      exact wk_vret hx hb hr hlocks hW hS dX2_copyFrom_116
    · replace hcf := (if_neg q5).symm.trans hcf
      refine lv_aload_n hx hb dX2_copyFrom_46 rfl (lv_at hl 0 rfl) ?_
      obtain ⟨q9, hcf⟩ := og hcf
      obtain ⟨r10, hr10, hcf⟩ := ob hcf
      refine gf_X2_17 hx hb hts hown hE hW q9 hr10 dX2_copyFrom_47 ?_
      refine lv_iload_n hx hb dX2_copyFrom_50 rfl (lv_at hl 2 rfl) ?_
      refine lv_aload_n hx hb dX2_copyFrom_51 rfl (lv_at hl 1 rfl) ?_
      obtain ⟨q11, hcf⟩ := og hcf
      obtain ⟨r12, hr12, hcf⟩ := ob hcf
      refine gf_X2_17 hx hb hts hown hE hW q11 hr12 dX2_copyFrom_52 ?_
      refine lv_iload_n hx hb dX2_copyFrom_55 rfl (lv_at hl 2 rfl) ?_
      obtain ⟨q13, hcf⟩ := og hcf
      obtain ⟨q14, hcf⟩ := og hcf
      refine wk_iald hx hb hE hW q13 q14 dX2_copyFrom_56 ?_
      obtain ⟨q15, hcf⟩ := og hcf
      obtain ⟨q16, hcf⟩ := og hcf
      refine wk_iast hx hb hE hW hS q15 q16 dX2_copyFrom_57 (fun H locs hW hS => ?_)
      refine lv_aload_n hx hb dX2_copyFrom_58 rfl (lv_at hl 0 rfl) ?_
      obtain ⟨r17, hr17, hcf⟩ := ob hcf
      refine gf_X2_21 hx hb hts hown hE hW q9 hr17 dX2_copyFrom_59 ?_
      refine lv_iload_n hx hb dX2_copyFrom_62 rfl (lv_at hl 2 rfl) ?_
      refine lv_aload_n hx hb dX2_copyFrom_63 rfl (lv_at hl 1 rfl) ?_
      obtain ⟨r18, hr18, hcf⟩ := ob hcf
      refine gf_X2_21 hx hb hts hown hE hW q11 hr18 dX2_copyFrom_64 ?_
      refine lv_iload_n hx hb dX2_copyFrom_67 rfl (lv_at hl 2 rfl) ?_
      obtain ⟨q19, hcf⟩ := og hcf
      obtain ⟨q20, hcf⟩ := og hcf
      refine wk_iald hx hb hE hW q19 q20 dX2_copyFrom_68 ?_
      obtain ⟨q21, hcf⟩ := og hcf
      obtain ⟨q22, hcf⟩ := og hcf
      refine wk_iast hx hb hE hW hS q21 q22 dX2_copyFrom_69 (fun H locs hW hS => ?_)
      obtain ⟨V23, hV23, hcf⟩ := ob hcf
      rw [Option.some.inj hV23] at hW
      refine lv_iinc (v := (j2 + 1)) (lv' := [(2, .int (j2 + 1)), (0, .ref j0), (1, .ref j1)]) hx hb dX2_copyFrom_70 hl (k := 2) rfl rfl (by decide) rfl (fun ls hl => ?_)
      refine lv_goto (tgt := 41) hx hb dX2_copyFrom_73 (by decide) ?_
      exact ih V23 j0 j1 (j2 + 1) _ _ _ hcf hW hS (lv_sub hl [1, 2, 0] rfl)
set_option maxHeartbeats 4000000 in
set_option maxRecDepth 100000 in
theorem wl_X2_copyFrom_10 {p : Program} {l : Launch} {e : Env} {s : State} {m : MethodId} {args : Array Value} {below : List Frame} {meth : Method} {c : Code} {D : va_G} {cy : Nat → ClassId} {z : Nat} {n : Nat} {Y : mY} {G : mG} (hx : p.tables.exec = Jvm.exec) (hb : c.code = cX2_copyFrom) (hr : meth.sig.returnType = none) (hml : c.maxLocals = 3) (hown : s.vm.findClass RX2 = some m.cls) (hts : ∀ w ∈ lw_all, w.before args s = true) (hlocks : meth.locks = false) (hE : En D cy s) (x : mV) : ∀ (k : Nat) (V : mV) (j0 : Nat) (j1 : Nat) (j2 : Int32) (H : Heap) (locs : List Loc) (ls : Array Slot), lp_X2_copyFrom_10 Y G k V j0 j1 j2 = some x → Wd Y cy D z n V G H → va_S (zA z) s.heap H locs → lv_has ls 3 [(0, .ref j0), (1, .ref j1), (2, .int j2)] → W p l e (rmd 1) s m args below meth c H locs 0 0 (MQ below (QC D cy z Y n x G none) args s 0 0 (zA z)) (F0 m 10 ls []) := by
  intro k
  induction k with
  | zero =>
    intro V j0 j1 j2 H locs ls hcf
    have hcf : none = some _ := hcf
    cases hcf
  | succ k ih =>
    intro V j0 j1 j2 H locs ls hcf hW hS hl
    rw [lp_X2_copyFrom_10] at hcf
    refine lv_iload_n hx hb dX2_copyFrom_10 rfl (lv_at hl 2 rfl) ?_
    refine lv_aload_n hx hb dX2_copyFrom_11 rfl (lv_at hl 0 rfl) ?_
    obtain ⟨q3, hcf⟩ := og hcf
    refine gf_X2_24 hx hb hts hown hE hW q3 dX2_copyFrom_12 ?_
    refine lv_icmp_ge (tgt := 39) hx hb dX2_copyFrom_15 (by decide) (fun q4 => ?_) (fun q4 => ?_)
    · replace hcf := (if_pos q4).symm.trans hcf
      refine lv_iconst (v := (0 : Int32)) hx hb dX2_copyFrom_39 (by decide) ?_
      refine lv_istore_n (lv' := [(2, .int (0 : Int32)), (0, .ref j0), (1, .ref j1)]) hx hb dX2_copyFrom_40 rfl hl (by decide) rfl (fun ls hl => ?_)
      exact wl_X2_copyFrom_41 hx hb hr hml hown hts hlocks hE x fuB V j0 j1 (0 : Int32) _ _ _ hcf hW hS (lv_sub hl [1, 2, 0] rfl)
    · replace hcf := (if_neg q4).symm.trans hcf
      refine lv_aload_n hx hb dX2_copyFrom_18 rfl (lv_at hl 0 rfl) ?_
      obtain ⟨r24, hr24, hcf⟩ := ob hcf
      refine gf_X2_11 hx hb hts hown hE hW q3 hr24 dX2_copyFrom_19 ?_
      refine lv_iload_n hx hb dX2_copyFrom_22 rfl (lv_at hl 2 rfl) ?_
      obtain ⟨q25, hcf⟩ := og hcf
      obtain ⟨q26, hcf⟩ := og hcf
      obtain ⟨r27, hr27, hcf⟩ := ob hcf
      refine wk_aald hx hb hE hW q25 q26 hr27 dX2_copyFrom_23 ?_
      refine lv_aload_n hx hb dX2_copyFrom_24 rfl (lv_at hl 1 rfl) ?_
      obtain ⟨q28, hcf⟩ := og hcf
      obtain ⟨r29, hr29, hcf⟩ := ob hcf
      refine gf_X2_11 hx hb hts hown hE hW q28 hr29 dX2_copyFrom_25 ?_
      refine lv_iload_n hx hb dX2_copyFrom_28 rfl (lv_at hl 2 rfl) ?_
      obtain ⟨q30, hcf⟩ := og hcf
      obtain ⟨q31, hcf⟩ := og hcf
      obtain ⟨r32, hr32, hcf⟩ := ob hcf
      refine wk_aald hx hb hE hW q30 q31 hr32 dX2_copyFrom_29 ?_
      obtain ⟨q33, hcf⟩ := og hcf
      obtain ⟨x34, hx34, hcf⟩ := ob hcf
      refine iv_X2_44 (As := [.ref r32]) (rest := []) hx hb hml hown hts hE (ct_X0_copyFrom l D cy z n Y V G r27 r32 x34 hx34) hW hS q33 rfl rfl hl.1 (Nat.le_of_ble_eq_true rfl) ⟨Nat.le_of_ble_eq_true rfl, Nat.le_of_ble_eq_true rfl⟩ dX2_copyFrom_30 ⟨Nat.zero_le _, Nat.zero_le _⟩ (fun H locs hW hS => ?_)
      refine lv_iinc (v := (j2 + 1)) (lv' := [(2, .int (j2 + 1)), (0, .ref j0), (1, .ref j1)]) hx hb dX2_copyFrom_33 hl (k := 2) rfl rfl (by decide) rfl (fun ls hl => ?_)
      refine lv_goto (tgt := 10) hx hb dX2_copyFrom_36 (by decide) ?_
      exact ih x34 j0 j1 (j2 + 1) _ _ _ hcf hW hS (lv_sub hl [1, 2, 0] rfl)
set_option maxHeartbeats 4000000 in
set_option maxRecDepth 100000 in
theorem ct_X2_copyFrom (l : Launch) (D : va_G) (cy : Nat → ClassId) (z n : Nat) (Y : mY) (V : mV) (G : mG) (a0 : Nat) (b1 : Nat) (x : mV) (hcf : cf_X2_copyFrom Y V G a0 b1 = some x) : CT l yX2_copyFrom cX2_copyFrom 3 none (rmd 1) D cy z [.ref a0, .ref b1] Y n V G none Y n x G := by
  refine ct_of (by decide) (Nat.le_of_ble_eq_true rfl) ?_
  intro p e s m args below meth c ls hx hb hr hml hown hts hlocks hnm hE hW hl
  have hS : va_S (zA z) s.heap s.heap [] := va_S.rf
  have hl : lv_has ls 3 [(0, .ref a0), (1, .ref b1)] := hl
  have hown : s.vm.findClass RX2 = some m.cls := hown
  rw [cf_X2_copyFrom] at hcf
  refine lv_aload_n hx hb dX2_copyFrom_0 rfl (lv_at hl 0 rfl) ?_
  refine lv_aload_n hx hb dX2_copyFrom_1 rfl (lv_at hl 1 rfl) ?_
  obtain ⟨q1, hcf⟩ := og hcf
  refine gf_X2_24 hx hb hts hown hE hW q1 dX2_copyFrom_2 ?_
  obtain ⟨q2, hcf⟩ := og hcf
  refine pf_X2_24 hx hb hts hown hE hW hS q2 (V b1 3) dX2_copyFrom_5 (fun H locs hW hS => ?_)
  refine lv_iconst (v := (0 : Int32)) hx hb dX2_copyFrom_8 (by decide) ?_
  refine lv_istore_n (lv' := [(2, .int (0 : Int32)), (0, .ref a0), (1, .ref b1)]) hx hb dX2_copyFrom_9 rfl hl (by decide) rfl (fun ls hl => ?_)
  exact wl_X2_copyFrom_10 hx hb hr hml hown hts hlocks hE x fuB (up2 V a0 3 (V b1 3)) a0 b1 (0 : Int32) _ _ _ hcf hW hS (lv_sub hl [1, 2, 0] rfl)
set_option maxHeartbeats 4000000 in
set_option maxRecDepth 100000 in
theorem ct_X2_hasCondition (l : Launch) (D : va_G) (cy : Nat → ClassId) (z n : Nat) (Y : mY) (V : mV) (G : mG) (a0 : Nat) (b1 : Int32) (x : Int32) (hcf : cf_X2_hasCondition Y V G a0 b1 = some x) : CT l yX2_hasCondition cX2_hasCondition 2 (some .boolean) (rmd 0) D cy z [.ref a0, .int b1] Y n V G (some (.int x)) Y n V G := by
  refine ct_of (by decide) (Nat.le_of_ble_eq_true rfl) ?_
  intro p e s m args below meth c ls hx hb hr hml hown hts hlocks hnm hE hW hl
  have hS : va_S (zA z) s.heap s.heap [] := va_S.rf
  have hl : lv_has ls 2 [(0, .ref a0), (1, .int b1)] := hl
  have hown : s.vm.findClass RX2 = some m.cls := hown
  rw [cf_X2_hasCondition] at hcf
  refine lv_iload_n hx hb dX2_hasCondition_0 rfl (lv_at hl 1 rfl) ?_
  refine lv_if_lt (tgt := 16) hx hb dX2_hasCondition_1 (by decide) (fun q1 => ?_) (fun q1 => ?_)
  · replace hcf := (if_pos q1).symm.trans hcf
    refine lv_iconst (v := (0 : Int32)) hx hb dX2_hasCondition_16 (by decide) ?_
    have hcf := Option.some.inj hcf; subst hcf
    exact wk_zret hx hb hr hlocks (Or.inl rfl) hW hS dX2_hasCondition_17
  · replace hcf := (if_neg q1).symm.trans hcf
    refine lv_iload_n hx hb dX2_hasCondition_4 rfl (lv_at hl 1 rfl) ?_
    refine lv_aload_n hx hb dX2_hasCondition_5 rfl (lv_at hl 0 rfl) ?_
    obtain ⟨q2, hcf⟩ := og hcf
    refine gf_X2_24 hx hb hts hown hE hW q2 dX2_hasCondition_6 ?_
    refine lv_icmp_ge (tgt := 16) hx hb dX2_hasCondition_9 (by decide) (fun q3 => ?_) (fun q3 => ?_)
    · replace hcf := (if_pos q3).symm.trans hcf
      refine lv_iconst (v := (0 : Int32)) hx hb dX2_hasCondition_16 (by decide) ?_
      have hcf := Option.some.inj hcf; subst hcf
      exact wk_zret hx hb hr hlocks (Or.inl rfl) hW hS dX2_hasCondition_17
    · replace hcf := (if_neg q3).symm.trans hcf
      refine lv_iconst (v := (1 : Int32)) hx hb dX2_hasCondition_12 (by decide) ?_
      refine lv_goto (tgt := 17) hx hb dX2_hasCondition_13 (by decide) ?_
      have hcf := Option.some.inj hcf; subst hcf
      exact wk_zret hx hb hr hlocks (Or.inr rfl) hW hS dX2_hasCondition_17
set_option maxHeartbeats 4000000 in
set_option maxRecDepth 100000 in
theorem ct_X2_isBegun (l : Launch) (D : va_G) (cy : Nat → ClassId) (z n : Nat) (Y : mY) (V : mV) (G : mG) (a0 : Nat) (b1 : Int32) (x : Int32) (hcf : cf_X2_isBegun Y V G a0 b1 = some x) : CT l yX2_isBegun cX2_isBegun 2 (some .boolean) (rmd 1) D cy z [.ref a0, .int b1] Y n V G (some (.int x)) Y n V G := by
  refine ct_of (by decide) (Nat.le_of_ble_eq_true rfl) ?_
  intro p e s m args below meth c ls hx hb hr hml hown hts hlocks hnm hE hW hl
  have hS : va_S (zA z) s.heap s.heap [] := va_S.rf
  have hl : lv_has ls 2 [(0, .ref a0), (1, .int b1)] := hl
  have hown : s.vm.findClass RX2 = some m.cls := hown
  rw [cf_X2_isBegun] at hcf
  refine lv_iload_n hx hb dX2_isBegun_0 rfl (lv_at hl 1 rfl) ?_
  refine lv_iconst (v := (0 : Int32)) hx hb dX2_isBegun_1 (by decide) ?_
  refine lv_iconst (v := (4 : Int32)) hx hb dX2_isBegun_2 (by decide) ?_
  obtain ⟨x1, hx1, hcf⟩ := ob hcf
  refine iv_X2_48 (As := [.int b1, .int (0 : Int32), .int (4 : Int32)]) (rest := []) hx hb hml hown hts hE (ct_X3_isWithin l D cy z n Y V G b1 (0 : Int32) (4 : Int32) x1 hx1) hW hS rfl rfl hl.1 (Nat.le_of_ble_eq_true rfl) ⟨Nat.le_of_ble_eq_true rfl, Nat.le_of_ble_eq_true rfl⟩ dX2_isBegun_3 ⟨Nat.zero_le _, Nat.zero_le _⟩ (fun H locs hW hS => ?_)
  refine lv_if_eq (tgt := 23) hx hb dX2_isBegun_6 (by decide) (fun q2 => ?_) (fun q2 => ?_)
  · replace hcf := (if_pos q2).symm.trans hcf
    refine lv_iconst (v := (0 : Int32)) hx hb dX2_isBegun_23 (by decide) ?_
    have hcf := Option.some.inj hcf; subst hcf
    exact wk_zret hx hb hr hlocks (Or.inl rfl) hW hS dX2_isBegun_24
  · replace hcf := (if_neg q2).symm.trans hcf
    refine lv_aload_n hx hb dX2_isBegun_9 rfl (lv_at hl 0 rfl) ?_
    obtain ⟨q3, hcf⟩ := og hcf
    obtain ⟨r4, hr4, hcf⟩ := ob hcf
    refine gf_X2_17 hx hb hts hown hE hW q3 hr4 dX2_isBegun_10 ?_
    refine lv_iload_n hx hb dX2_isBegun_13 rfl (lv_at hl 1 rfl) ?_
    obtain ⟨q5, hcf⟩ := og hcf
    obtain ⟨q6, hcf⟩ := og hcf
    refine wk_iald hx hb hE hW q5 q6 dX2_isBegun_14 ?_
    refine lv_iconst (v := (-1 : Int32)) hx hb dX2_isBegun_15 (by decide) ?_
    refine lv_icmp_eq (tgt := 23) hx hb dX2_isBegun_16 (by decide) (fun q7 => ?_) (fun q7 => ?_)
    · replace hcf := (if_pos q7).symm.trans hcf
      refine lv_iconst (v := (0 : Int32)) hx hb dX2_isBegun_23 (by decide) ?_
      have hcf := Option.some.inj hcf; subst hcf
      exact wk_zret hx hb hr hlocks (Or.inl rfl) hW hS dX2_isBegun_24
    · replace hcf := (if_neg q7).symm.trans hcf
      refine lv_iconst (v := (1 : Int32)) hx hb dX2_isBegun_19 (by decide) ?_
      refine lv_goto (tgt := 24) hx hb dX2_isBegun_20 (by decide) ?_
      have hcf := Option.some.inj hcf; subst hcf
      exact wk_zret hx hb hr hlocks (Or.inr rfl) hW hS dX2_isBegun_24
set_option maxHeartbeats 4000000 in
set_option maxRecDepth 100000 in
theorem ct_X2_isFinished (l : Launch) (D : va_G) (cy : Nat → ClassId) (z n : Nat) (Y : mY) (V : mV) (G : mG) (a0 : Nat) (b1 : Int32) (x : Int32) (hcf : cf_X2_isFinished Y V G a0 b1 = some x) : CT l yX2_isFinished cX2_isFinished 2 (some .boolean) (rmd 1) D cy z [.ref a0, .int b1] Y n V G (some (.int x)) Y n V G := by
  refine ct_of (by decide) (Nat.le_of_ble_eq_true rfl) ?_
  intro p e s m args below meth c ls hx hb hr hml hown hts hlocks hnm hE hW hl
  have hS : va_S (zA z) s.heap s.heap [] := va_S.rf
  have hl : lv_has ls 2 [(0, .ref a0), (1, .int b1)] := hl
  have hown : s.vm.findClass RX2 = some m.cls := hown
  rw [cf_X2_isFinished] at hcf
  refine lv_iload_n hx hb dX2_isFinished_0 rfl (lv_at hl 1 rfl) ?_
  refine lv_iconst (v := (0 : Int32)) hx hb dX2_isFinished_1 (by decide) ?_
  refine lv_iconst (v := (4 : Int32)) hx hb dX2_isFinished_2 (by decide) ?_
  obtain ⟨x1, hx1, hcf⟩ := ob hcf
  refine iv_X2_48 (As := [.int b1, .int (0 : Int32), .int (4 : Int32)]) (rest := []) hx hb hml hown hts hE (ct_X3_isWithin l D cy z n Y V G b1 (0 : Int32) (4 : Int32) x1 hx1) hW hS rfl rfl hl.1 (Nat.le_of_ble_eq_true rfl) ⟨Nat.le_of_ble_eq_true rfl, Nat.le_of_ble_eq_true rfl⟩ dX2_isFinished_3 ⟨Nat.zero_le _, Nat.zero_le _⟩ (fun H locs hW hS => ?_)
  refine lv_if_eq (tgt := 23) hx hb dX2_isFinished_6 (by decide) (fun q2 => ?_) (fun q2 => ?_)
  · replace hcf := (if_pos q2).symm.trans hcf
    refine lv_iconst (v := (0 : Int32)) hx hb dX2_isFinished_23 (by decide) ?_
    have hcf := Option.some.inj hcf; subst hcf
    exact wk_zret hx hb hr hlocks (Or.inl rfl) hW hS dX2_isFinished_24
  · replace hcf := (if_neg q2).symm.trans hcf
    refine lv_aload_n hx hb dX2_isFinished_9 rfl (lv_at hl 0 rfl) ?_
    obtain ⟨q3, hcf⟩ := og hcf
    obtain ⟨r4, hr4, hcf⟩ := ob hcf
    refine gf_X2_21 hx hb hts hown hE hW q3 hr4 dX2_isFinished_10 ?_
    refine lv_iload_n hx hb dX2_isFinished_13 rfl (lv_at hl 1 rfl) ?_
    obtain ⟨q5, hcf⟩ := og hcf
    obtain ⟨q6, hcf⟩ := og hcf
    refine wk_iald hx hb hE hW q5 q6 dX2_isFinished_14 ?_
    refine lv_iconst (v := (-1 : Int32)) hx hb dX2_isFinished_15 (by decide) ?_
    refine lv_icmp_eq (tgt := 23) hx hb dX2_isFinished_16 (by decide) (fun q7 => ?_) (fun q7 => ?_)
    · replace hcf := (if_pos q7).symm.trans hcf
      refine lv_iconst (v := (0 : Int32)) hx hb dX2_isFinished_23 (by decide) ?_
      have hcf := Option.some.inj hcf; subst hcf
      exact wk_zret hx hb hr hlocks (Or.inl rfl) hW hS dX2_isFinished_24
    · replace hcf := (if_neg q7).symm.trans hcf
      refine lv_iconst (v := (1 : Int32)) hx hb dX2_isFinished_19 (by decide) ?_
      refine lv_goto (tgt := 24) hx hb dX2_isFinished_20 (by decide) ?_
      have hcf := Option.some.inj hcf; subst hcf
      exact wk_zret hx hb hr hlocks (Or.inr rfl) hW hS dX2_isFinished_24
set_option maxHeartbeats 4000000 in
set_option maxRecDepth 100000 in
theorem ct_X2_canBegin (l : Launch) (D : va_G) (cy : Nat → ClassId) (z n : Nat) (Y : mY) (V : mV) (G : mG) (a0 : Nat) (b1 : Int32) (x : Int32) (hcf : cf_X2_canBegin Y V G a0 b1 = some x) : CT l yX2_canBegin cX2_canBegin 2 (some .boolean) (rmd 2) D cy z [.ref a0, .int b1] Y n V G (some (.int x)) Y n V G := by
  refine ct_of (by decide) (Nat.le_of_ble_eq_true rfl) ?_
  intro p e s m args below meth c ls hx hb hr hml hown hts hlocks hnm hE hW hl
  have hS : va_S (zA z) s.heap s.heap [] := va_S.rf
  have hl : lv_has ls 2 [(0, .ref a0), (1, .int b1)] := hl
  have hown : s.vm.findClass RX2 = some m.cls := hown
  rw [cf_X2_canBegin] at hcf
  refine lv_aload_n hx hb dX2_canBegin_0 rfl (lv_at hl 0 rfl) ?_
  refine lv_iload_n hx hb dX2_canBegin_1 rfl (lv_at hl 1 rfl) ?_
  obtain ⟨q1, hcf⟩ := og hcf
  obtain ⟨x2, hx2, hcf⟩ := ob hcf
  refine iv_X2_52 (As := [.int b1]) (rest := []) hx hb hml hown hts hE (ct_X2_isBegun l D cy z n Y V G a0 b1 x2 hx2) hW hS q1 rfl rfl hl.1 (Nat.le_of_ble_eq_true rfl) ⟨Nat.le_of_ble_eq_true rfl, Nat.le_of_ble_eq_true rfl⟩ dX2_canBegin_2 ⟨Nat.zero_le _, Nat.zero_le _⟩ (fun H locs hW hS => ?_)
  refine lv_if_ne (tgt := 26) hx hb dX2_canBegin_5 (by decide) (fun q3 => ?_) (fun q3 => ?_)
  · replace hcf := (if_neg q3).symm.trans hcf
    refine lv_iconst (v := (0 : Int32)) hx hb dX2_canBegin_26 (by decide) ?_
    have hcf := Option.some.inj hcf; subst hcf
    exact wk_zret hx hb hr hlocks (Or.inl rfl) hW hS dX2_canBegin_27
  · replace hcf := (if_pos q3).symm.trans hcf
    refine lv_iload_n hx hb dX2_canBegin_8 rfl (lv_at hl 1 rfl) ?_
    refine lv_if_eq (tgt := 22) hx hb dX2_canBegin_9 (by decide) (fun q4 => ?_) (fun q4 => ?_)
    · replace hcf := (if_pos q4).symm.trans hcf
      refine lv_iconst (v := (1 : Int32)) hx hb dX2_canBegin_22 (by decide) ?_
      refine lv_goto (tgt := 27) hx hb dX2_canBegin_23 (by decide) ?_
      have hcf := Option.some.inj hcf; subst hcf
      exact wk_zret hx hb hr hlocks (Or.inr rfl) hW hS dX2_canBegin_27
    · replace hcf := (if_neg q4).symm.trans hcf
      refine lv_aload_n hx hb dX2_canBegin_12 rfl (lv_at hl 0 rfl) ?_
      refine lv_iload_n hx hb dX2_canBegin_13 rfl (lv_at hl 1 rfl) ?_
      refine lv_iconst (v := (1 : Int32)) hx hb dX2_canBegin_14 (by decide) ?_
      refine lv_isub hx hb dX2_canBegin_15 ?_
      obtain ⟨x5, hx5, hcf⟩ := ob hcf
      refine iv_X2_52 (As := [.int (b1 - (1 : Int32))]) (rest := []) hx hb hml hown hts hE (ct_X2_isBegun l D cy z n Y V G a0 (b1 - (1 : Int32)) x5 hx5) hW hS q1 rfl rfl hl.1 (Nat.le_of_ble_eq_true rfl) ⟨Nat.le_of_ble_eq_true rfl, Nat.le_of_ble_eq_true rfl⟩ dX2_canBegin_16 ⟨Nat.zero_le _, Nat.zero_le _⟩ (fun H locs hW hS => ?_)
      refine lv_if_eq (tgt := 26) hx hb dX2_canBegin_19 (by decide) (fun q6 => ?_) (fun q6 => ?_)
      · replace hcf := (if_pos q6).symm.trans hcf
        refine lv_iconst (v := (0 : Int32)) hx hb dX2_canBegin_26 (by decide) ?_
        have hcf := Option.some.inj hcf; subst hcf
        exact wk_zret hx hb hr hlocks (Or.inl rfl) hW hS dX2_canBegin_27
      · replace hcf := (if_neg q6).symm.trans hcf
        refine lv_iconst (v := (1 : Int32)) hx hb dX2_canBegin_22 (by decide) ?_
        refine lv_goto (tgt := 27) hx hb dX2_canBegin_23 (by decide) ?_
        have hcf := Option.some.inj hcf; subst hcf
        exact wk_zret hx hb hr hlocks (Or.inr rfl) hW hS dX2_canBegin_27
set_option maxHeartbeats 4000000 in
set_option maxRecDepth 100000 in
theorem ct_X2_progressOf (l : Launch) (D : va_G) (cy : Nat → ClassId) (z n : Nat) (Y : mY) (V : mV) (G : mG) (a0 : Nat) (b1 : Int32) (x : Int32) (hcf : cf_X2_progressOf Y V G a0 b1 = some x) : CT l yX2_progressOf cX2_progressOf 2 (some .int) (rmd 2) D cy z [.ref a0, .int b1] Y n V G (some (.int x)) Y n V G := by
  refine ct_of (by decide) (Nat.le_of_ble_eq_true rfl) ?_
  intro p e s m args below meth c ls hx hb hr hml hown hts hlocks hnm hE hW hl
  have hS : va_S (zA z) s.heap s.heap [] := va_S.rf
  have hl : lv_has ls 2 [(0, .ref a0), (1, .int b1)] := hl
  have hown : s.vm.findClass RX2 = some m.cls := hown
  rw [cf_X2_progressOf] at hcf
  refine lv_aload_n hx hb dX2_progressOf_0 rfl (lv_at hl 0 rfl) ?_
  refine lv_iload_n hx hb dX2_progressOf_1 rfl (lv_at hl 1 rfl) ?_
  obtain ⟨q1, hcf⟩ := og hcf
  obtain ⟨x2, hx2, hcf⟩ := ob hcf
  refine iv_X2_56 (As := [.int b1]) (rest := []) hx hb hml hown hts hE (ct_X2_isFinished l D cy z n Y V G a0 b1 x2 hx2) hW hS q1 rfl rfl hl.1 (Nat.le_of_ble_eq_true rfl) ⟨Nat.le_of_ble_eq_true rfl, Nat.le_of_ble_eq_true rfl⟩ dX2_progressOf_2 ⟨Nat.zero_le _, Nat.zero_le _⟩ (fun H locs hW hS => ?_)
  refine lv_if_eq (tgt := 10) hx hb dX2_progressOf_5 (by decide) (fun q3 => ?_) (fun q3 => ?_)
  · replace hcf := (if_pos q3).symm.trans hcf
    refine lv_aload_n hx hb dX2_progressOf_10 rfl (lv_at hl 0 rfl) ?_
    refine lv_iload_n hx hb dX2_progressOf_11 rfl (lv_at hl 1 rfl) ?_
    obtain ⟨x4, hx4, hcf⟩ := ob hcf
    refine iv_X2_52 (As := [.int b1]) (rest := []) hx hb hml hown hts hE (ct_X2_isBegun l D cy z n Y V G a0 b1 x4 hx4) hW hS q1 rfl rfl hl.1 (Nat.le_of_ble_eq_true rfl) ⟨Nat.le_of_ble_eq_true rfl, Nat.le_of_ble_eq_true rfl⟩ dX2_progressOf_12 ⟨Nat.zero_le _, Nat.zero_le _⟩ (fun H locs hW hS => ?_)
    refine lv_if_eq (tgt := 22) hx hb dX2_progressOf_15 (by decide) (fun q5 => ?_) (fun q5 => ?_)
    · replace hcf := (if_pos q5).symm.trans hcf
      refine lv_iconst (v := (0 : Int32)) hx hb dX2_progressOf_22 (by decide) ?_
      have hcf := Option.some.inj hcf; subst hcf
      exact wk_iret hx hb hr hlocks hW hS dX2_progressOf_23
    · replace hcf := (if_neg q5).symm.trans hcf
      refine lv_iconst (v := (1 : Int32)) hx hb dX2_progressOf_18 (by decide) ?_
      refine lv_goto (tgt := 23) hx hb dX2_progressOf_19 (by decide) ?_
      have hcf := Option.some.inj hcf; subst hcf
      exact wk_iret hx hb hr hlocks hW hS dX2_progressOf_23
  · replace hcf := (if_neg q3).symm.trans hcf
    refine lv_iconst (v := (2 : Int32)) hx hb dX2_progressOf_8 (by decide) ?_
    have hcf := Option.some.inj hcf; subst hcf
    exact wk_iret hx hb hr hlocks hW hS dX2_progressOf_9
set_option maxHeartbeats 4000000 in
set_option maxRecDepth 100000 in
theorem ct_X2_stateOf (l : Launch) (D : va_G) (cy : Nat → ClassId) (z n : Nat) (Y : mY) (V : mV) (G : mG) (a0 : Nat) (b1 : Nat) (x : Int32) (hcf : cf_X2_stateOf Y V G a0 b1 = some x) : CT l yX2_stateOf cX2_stateOf 2 (some .int) (rmd 2) D cy z [.ref a0, .ref b1] Y n V G (some (.int x)) Y n V G := by
  refine ct_of (by decide) (Nat.le_of_ble_eq_true rfl) ?_
  intro p e s m args below meth c ls hx hb hr hml hown hts hlocks hnm hE hW hl
  have hS : va_S (zA z) s.heap s.heap [] := va_S.rf
  have hl : lv_has ls 2 [(0, .ref a0), (1, .ref b1)] := hl
  have hown : s.vm.findClass RX2 = some m.cls := hown
  rw [cf_X2_stateOf] at hcf
  refine lv_aload_n hx hb dX2_stateOf_0 rfl (lv_at hl 1 rfl) ?_
  obtain ⟨q1, hcf⟩ := og hcf
  refine gf_X2_59 hx hb hts hown hE hW q1 dX2_stateOf_1 ?_
  refine lv_if_eq (tgt := 9) hx hb dX2_stateOf_4 (by decide) (fun q2 => ?_) (fun q2 => ?_)
  · replace hcf := (if_pos q2).symm.trans hcf
    refine lv_aload_n hx hb dX2_stateOf_9 rfl (lv_at hl 1 rfl) ?_
    refine gf_X2_63 hx hb hts hown hE hW q1 dX2_stateOf_10 ?_
    refine lv_if_eq (tgt := 18) hx hb dX2_stateOf_13 (by decide) (fun q3 => ?_) (fun q3 => ?_)
    · replace hcf := (if_pos q3).symm.trans hcf
      refine lv_aload_n hx hb dX2_stateOf_18 rfl (lv_at hl 1 rfl) ?_
      obtain ⟨x4, hx4, hcf⟩ := ob hcf
      refine iv_X2_66 (As := []) (rest := []) hx hb hml hown hts hE (ct_X0_isMet l D cy z n Y V G b1 x4 hx4) hW hS q1 rfl rfl hl.1 (Nat.le_of_ble_eq_true rfl) ⟨Nat.le_of_ble_eq_true rfl, Nat.le_of_ble_eq_true rfl⟩ dX2_stateOf_19 ⟨Nat.zero_le _, Nat.zero_le _⟩ (fun H locs hW hS => ?_)
      refine lv_if_eq (tgt := 27) hx hb dX2_stateOf_22 (by decide) (fun q5 => ?_) (fun q5 => ?_)
      · replace hcf := (if_pos q5).symm.trans hcf
        refine lv_aload_n hx hb dX2_stateOf_27 rfl (lv_at hl 1 rfl) ?_
        refine gf_X2_70 hx hb hts hown hE hW q1 dX2_stateOf_28 ?_
        refine lv_iconst (v := (1 : Int32)) hx hb dX2_stateOf_31 (by decide) ?_
        refine lv_icmp_ne (tgt := 48) hx hb dX2_stateOf_32 (by decide) (fun q6 => ?_) (fun q6 => ?_)
        · replace hcf := (if_neg q6).symm.trans hcf
          refine lv_aload_n hx hb dX2_stateOf_48 rfl (lv_at hl 1 rfl) ?_
          refine gf_X2_70 hx hb hts hown hE hW q1 dX2_stateOf_49 ?_
          refine lv_iconst (v := (2 : Int32)) hx hb dX2_stateOf_52 (by decide) ?_
          refine lv_icmp_ne (tgt := 69) hx hb dX2_stateOf_53 (by decide) (fun q7 => ?_) (fun q7 => ?_)
          · replace hcf := (if_neg q7).symm.trans hcf
            refine lv_iconst (v := (1 : Int32)) hx hb dX2_stateOf_69 (by decide) ?_
            have hcf := Option.some.inj hcf; subst hcf
            exact wk_iret hx hb hr hlocks hW hS dX2_stateOf_70
          · replace hcf := (if_pos q7).symm.trans hcf
            refine lv_aload_n hx hb dX2_stateOf_56 rfl (lv_at hl 0 rfl) ?_
            refine lv_aload_n hx hb dX2_stateOf_57 rfl (lv_at hl 1 rfl) ?_
            refine gf_X2_73 hx hb hts hown hE hW q1 dX2_stateOf_58 ?_
            obtain ⟨q8, hcf⟩ := og hcf
            obtain ⟨x9, hx9, hcf⟩ := ob hcf
            refine iv_X2_56 (As := [.int (V b1 1)]) (rest := []) hx hb hml hown hts hE (ct_X2_isFinished l D cy z n Y V G a0 (V b1 1) x9 hx9) hW hS q8 rfl rfl hl.1 (Nat.le_of_ble_eq_true rfl) ⟨Nat.le_of_ble_eq_true rfl, Nat.le_of_ble_eq_true rfl⟩ dX2_stateOf_61 ⟨Nat.zero_le _, Nat.zero_le _⟩ (fun H locs hW hS => ?_)
            refine lv_if_ne (tgt := 69) hx hb dX2_stateOf_64 (by decide) (fun q10 => ?_) (fun q10 => ?_)
            · replace hcf := (if_neg q10).symm.trans hcf
              refine lv_iconst (v := (1 : Int32)) hx hb dX2_stateOf_69 (by decide) ?_
              have hcf := Option.some.inj hcf; subst hcf
              exact wk_iret hx hb hr hlocks hW hS dX2_stateOf_70
            · replace hcf := (if_pos q10).symm.trans hcf
              refine lv_iconst (v := (0 : Int32)) hx hb dX2_stateOf_67 (by decide) ?_
              have hcf := Option.some.inj hcf; subst hcf
              exact wk_iret hx hb hr hlocks hW hS dX2_stateOf_68
        · replace hcf := (if_pos q6).symm.trans hcf
          refine lv_aload_n hx hb dX2_stateOf_35 rfl (lv_at hl 0 rfl) ?_
          refine lv_aload_n hx hb dX2_stateOf_36 rfl (lv_at hl 1 rfl) ?_
          refine gf_X2_73 hx hb hts hown hE hW q1 dX2_stateOf_37 ?_
          obtain ⟨q11, hcf⟩ := og hcf
          obtain ⟨x12, hx12, hcf⟩ := ob hcf
          refine iv_X2_52 (As := [.int (V b1 1)]) (rest := []) hx hb hml hown hts hE (ct_X2_isBegun l D cy z n Y V G a0 (V b1 1) x12 hx12) hW hS q11 rfl rfl hl.1 (Nat.le_of_ble_eq_true rfl) ⟨Nat.le_of_ble_eq_true rfl, Nat.le_of_ble_eq_true rfl⟩ dX2_stateOf_40 ⟨Nat.zero_le _, Nat.zero_le _⟩ (fun H locs hW hS => ?_)
          refine lv_if_ne (tgt := 48) hx hb dX2_stateOf_43 (by decide) (fun q13 => ?_) (fun q13 => ?_)
          · replace hcf := (if_neg q13).symm.trans hcf
            refine lv_aload_n hx hb dX2_stateOf_48 rfl (lv_at hl 1 rfl) ?_
            refine gf_X2_70 hx hb hts hown hE hW q1 dX2_stateOf_49 ?_
            refine lv_iconst (v := (2 : Int32)) hx hb dX2_stateOf_52 (by decide) ?_
            refine lv_icmp_ne (tgt := 69) hx hb dX2_stateOf_53 (by decide) (fun q14 => ?_) (fun q14 => ?_)
            · replace hcf := (if_neg q14).symm.trans hcf
              refine lv_iconst (v := (1 : Int32)) hx hb dX2_stateOf_69 (by decide) ?_
              have hcf := Option.some.inj hcf; subst hcf
              exact wk_iret hx hb hr hlocks hW hS dX2_stateOf_70
            · replace hcf := (if_pos q14).symm.trans hcf
              refine lv_aload_n hx hb dX2_stateOf_56 rfl (lv_at hl 0 rfl) ?_
              refine lv_aload_n hx hb dX2_stateOf_57 rfl (lv_at hl 1 rfl) ?_
              refine gf_X2_73 hx hb hts hown hE hW q1 dX2_stateOf_58 ?_
              obtain ⟨x15, hx15, hcf⟩ := ob hcf
              refine iv_X2_56 (As := [.int (V b1 1)]) (rest := []) hx hb hml hown hts hE (ct_X2_isFinished l D cy z n Y V G a0 (V b1 1) x15 hx15) hW hS q11 rfl rfl hl.1 (Nat.le_of_ble_eq_true rfl) ⟨Nat.le_of_ble_eq_true rfl, Nat.le_of_ble_eq_true rfl⟩ dX2_stateOf_61 ⟨Nat.zero_le _, Nat.zero_le _⟩ (fun H locs hW hS => ?_)
              refine lv_if_ne (tgt := 69) hx hb dX2_stateOf_64 (by decide) (fun q16 => ?_) (fun q16 => ?_)
              · replace hcf := (if_neg q16).symm.trans hcf
                refine lv_iconst (v := (1 : Int32)) hx hb dX2_stateOf_69 (by decide) ?_
                have hcf := Option.some.inj hcf; subst hcf
                exact wk_iret hx hb hr hlocks hW hS dX2_stateOf_70
              · replace hcf := (if_pos q16).symm.trans hcf
                refine lv_iconst (v := (0 : Int32)) hx hb dX2_stateOf_67 (by decide) ?_
                have hcf := Option.some.inj hcf; subst hcf
                exact wk_iret hx hb hr hlocks hW hS dX2_stateOf_68
          · replace hcf := (if_pos q13).symm.trans hcf
            refine lv_iconst (v := (0 : Int32)) hx hb dX2_stateOf_46 (by decide) ?_
            have hcf := Option.some.inj hcf; subst hcf
            exact wk_iret hx hb hr hlocks hW hS dX2_stateOf_47
      · replace hcf := (if_neg q5).symm.trans hcf
        refine lv_iconst (v := (2 : Int32)) hx hb dX2_stateOf_25 (by decide) ?_
        have hcf := Option.some.inj hcf; subst hcf
        exact wk_iret hx hb hr hlocks hW hS dX2_stateOf_26
    · replace hcf := (if_neg q3).symm.trans hcf
      refine lv_iconst (v := (3 : Int32)) hx hb dX2_stateOf_16 (by decide) ?_
      have hcf := Option.some.inj hcf; subst hcf
      exact wk_iret hx hb hr hlocks hW hS dX2_stateOf_17
  · replace hcf := (if_neg q2).symm.trans hcf
    refine lv_iconst (v := (4 : Int32)) hx hb dX2_stateOf_7 (by decide) ?_
    have hcf := Option.some.inj hcf; subst hcf
    exact wk_iret hx hb hr hlocks hW hS dX2_stateOf_8
set_option maxHeartbeats 4000000 in
set_option maxRecDepth 100000 in
theorem wl_X2_withState_4 {p : Program} {l : Launch} {e : Env} {s : State} {m : MethodId} {args : Array Value} {below : List Frame} {meth : Method} {c : Code} {D : va_G} {cy : Nat → ClassId} {z : Nat} {n : Nat} {Y : mY} {V : mV} {G : mG} (hx : p.tables.exec = Jvm.exec) (hb : c.code = cX2_withState) (hr : meth.sig.returnType = (some .int)) (hml : c.maxLocals = 4) (hown : s.vm.findClass RX2 = some m.cls) (hts : ∀ w ∈ lw_all, w.before args s = true) (hlocks : meth.locks = false) (hE : En D cy s) (x : Int32) : ∀ (k : Nat) (j0 : Nat) (j1 : Int32) (j2 : Int32) (j3 : Int32) (H : Heap) (locs : List Loc) (ls : Array Slot), lp_X2_withState_4 Y V G k j0 j1 j2 j3 = some x → Wd Y cy D z n V G H → va_S (zA z) s.heap H locs → lv_has ls 4 [(0, .ref j0), (1, .int j1), (2, .int j2), (3, .int j3)] → W p l e (rmd 3) s m args below meth c H locs 0 0 (MQ below (QC D cy z Y n V G (some (.int x))) args s 0 0 (zA z)) (F0 m 4 ls []) := by
  intro k
  induction k with
  | zero =>
    intro j0 j1 j2 j3 H locs ls hcf
    have hcf : none = some _ := hcf
    cases hcf
  | succ k ih =>
    intro j0 j1 j2 j3 H locs ls hcf hW hS hl
    rw [lp_X2_withState_4] at hcf
    refine lv_iload_n hx hb dX2_withState_4 rfl (lv_at hl 3 rfl) ?_
    refine lv_aload_n hx hb dX2_withState_5 rfl (lv_at hl 0 rfl) ?_
    obtain ⟨q1, hcf⟩ := og hcf
    refine gf_X2_24 hx hb hts hown hE hW q1 dX2_withState_6 ?_
    refine lv_icmp_ge (tgt := 38) hx hb dX2_withState_9 (by decide) (fun q2 => ?_) (fun q2 => ?_)
    · replace hcf := (if_pos q2).symm.trans hcf
      refine lv_iload_n hx hb dX2_withState_38 rfl (lv_at hl 2 rfl) ?_
      have hcf := Option.some.inj hcf; subst hcf
      exact wk_iret hx hb hr hlocks hW hS dX2_withState_39
    · replace hcf := (if_neg q2).symm.trans hcf
      refine lv_aload_n hx hb dX2_withState_12 rfl (lv_at hl 0 rfl) ?_
      refine lv_aload_n hx hb dX2_withState_13 rfl (lv_at hl 0 rfl) ?_
      obtain ⟨r3, hr3, hcf⟩ := ob hcf
      refine gf_X2_11 hx hb hts hown hE hW q1 hr3 dX2_withState_14 ?_
      refine lv_iload_n hx hb dX2_withState_17 rfl (lv_at hl 3 rfl) ?_
      obtain ⟨q4, hcf⟩ := og hcf
      obtain ⟨q5, hcf⟩ := og hcf
      obtain ⟨r6, hr6, hcf⟩ := ob hcf
      refine wk_aald hx hb hE hW q4 q5 hr6 dX2_withState_18 ?_
      obtain ⟨x7, hx7, hcf⟩ := ob hcf
      refine iv_X2_76 (As := [.ref r6]) (rest := []) hx hb hml hown hts hE (ct_X2_stateOf l D cy z n Y V G j0 r6 x7 hx7) hW hS q1 rfl rfl hl.1 (Nat.le_of_ble_eq_true rfl) ⟨Nat.le_of_ble_eq_true rfl, Nat.le_of_ble_eq_true rfl⟩ dX2_withState_19 ⟨Nat.zero_le _, Nat.zero_le _⟩ (fun H locs hW hS => ?_)
      refine lv_iload_n hx hb dX2_withState_22 rfl (lv_at hl 1 rfl) ?_
      refine lv_icmp_ne (tgt := 32) hx hb dX2_withState_23 (by decide) (fun q8 => ?_) (fun q8 => ?_)
      · replace hcf := (if_neg q8).symm.trans hcf
        refine lv_iinc (v := (j3 + 1)) (lv' := [(3, .int (j3 + 1)), (0, .ref j0), (1, .int j1), (2, .int j2)]) hx hb dX2_withState_32 hl (k := 3) rfl rfl (by decide) rfl (fun ls hl => ?_)
        refine lv_goto (tgt := 4) hx hb dX2_withState_35 (by decide) ?_
        exact ih j0 j1 j2 (j3 + 1) _ _ _ hcf hW hS (lv_sub hl [1, 2, 3, 0] rfl)
      · replace hcf := (if_pos q8).symm.trans hcf
        refine lv_iload_n hx hb dX2_withState_26 rfl (lv_at hl 2 rfl) ?_
        refine lv_iconst (v := (1 : Int32)) hx hb dX2_withState_27 (by decide) ?_
        refine lv_iload_n hx hb dX2_withState_28 rfl (lv_at hl 3 rfl) ?_
        refine lv_ishl hx hb dX2_withState_29 ?_
        refine lv_ior hx hb dX2_withState_30 ?_
        refine lv_istore_n (lv' := [(2, .int (j2 ||| ((1 : Int32) <<< (j3 &&& 31)))), (0, .ref j0), (1, .int j1), (3, .int j3)]) hx hb dX2_withState_31 rfl hl (by decide) rfl (fun ls hl => ?_)
        refine lv_iinc (v := (j3 + 1)) (lv' := [(3, .int (j3 + 1)), (2, .int (j2 ||| ((1 : Int32) <<< (j3 &&& 31)))), (0, .ref j0), (1, .int j1)]) hx hb dX2_withState_32 hl (k := 3) rfl rfl (by decide) rfl (fun ls hl => ?_)
        refine lv_goto (tgt := 4) hx hb dX2_withState_35 (by decide) ?_
        exact ih j0 j1 (j2 ||| ((1 : Int32) <<< (j3 &&& 31))) (j3 + 1) _ _ _ hcf hW hS (lv_sub hl [2, 3, 1, 0] rfl)
set_option maxHeartbeats 4000000 in
set_option maxRecDepth 100000 in
theorem ct_X2_withState (l : Launch) (D : va_G) (cy : Nat → ClassId) (z n : Nat) (Y : mY) (V : mV) (G : mG) (a0 : Nat) (b1 : Int32) (x : Int32) (hcf : cf_X2_withState Y V G a0 b1 = some x) : CT l yX2_withState cX2_withState 4 (some .int) (rmd 3) D cy z [.ref a0, .int b1] Y n V G (some (.int x)) Y n V G := by
  refine ct_of (by decide) (Nat.le_of_ble_eq_true rfl) ?_
  intro p e s m args below meth c ls hx hb hr hml hown hts hlocks hnm hE hW hl
  have hS : va_S (zA z) s.heap s.heap [] := va_S.rf
  have hl : lv_has ls 4 [(0, .ref a0), (1, .int b1)] := hl
  have hown : s.vm.findClass RX2 = some m.cls := hown
  rw [cf_X2_withState] at hcf
  refine lv_iconst (v := (0 : Int32)) hx hb dX2_withState_0 (by decide) ?_
  refine lv_istore_n (lv' := [(2, .int (0 : Int32)), (0, .ref a0), (1, .int b1)]) hx hb dX2_withState_1 rfl hl (by decide) rfl (fun ls hl => ?_)
  refine lv_iconst (v := (0 : Int32)) hx hb dX2_withState_2 (by decide) ?_
  refine lv_istore_n (lv' := [(3, .int (0 : Int32)), (2, .int (0 : Int32)), (0, .ref a0), (1, .int b1)]) hx hb dX2_withState_3 rfl hl (by decide) rfl (fun ls hl => ?_)
  exact wl_X2_withState_4 hx hb hr hml hown hts hlocks hE x fuB a0 b1 (0 : Int32) (0 : Int32) _ _ _ hcf hW hS (lv_sub hl [2, 3, 1, 0] rfl)
set_option maxHeartbeats 4000000 in
set_option maxRecDepth 100000 in
theorem wl_X2_unmetAhead_4 {p : Program} {l : Launch} {e : Env} {s : State} {m : MethodId} {args : Array Value} {below : List Frame} {meth : Method} {c : Code} {D : va_G} {cy : Nat → ClassId} {z : Nat} {n : Nat} {Y : mY} {V : mV} {G : mG} (hx : p.tables.exec = Jvm.exec) (hb : c.code = cX2_unmetAhead) (hr : meth.sig.returnType = (some .int)) (hml : c.maxLocals = 5) (hown : s.vm.findClass RX2 = some m.cls) (hts : ∀ w ∈ lw_all, w.before args s = true) (hlocks : meth.locks = false) (hE : En D cy s) (x : Int32) : ∀ (k : Nat) (j0 : Nat) (j1 : Int32) (j2 : Int32) (j3 : Int32) (H : Heap) (locs : List Loc) (ls : Array Slot), lp_X2_unmetAhead_4 Y V G k j0 j1 j2 j3 = some x → Wd Y cy D z n V G H → va_S (zA z) s.heap H locs → lv_has ls 5 [(0, .ref j0), (1, .int j1), (2, .int j2), (3, .int j3)] → W p l e (rmd 1) s m args below meth c H locs 0 0 (MQ below (QC D cy z Y n V G (some (.int x))) args s 0 0 (zA z)) (F0 m 4 ls []) := by
  intro k
  induction k with
  | zero =>
    intro j0 j1 j2 j3 H locs ls hcf
    have hcf : none = some _ := hcf
    cases hcf
  | succ k ih =>
    intro j0 j1 j2 j3 H locs ls hcf hW hS hl
    rw [lp_X2_unmetAhead_4] at hcf
    refine lv_iload_n hx hb dX2_unmetAhead_4 rfl (lv_at hl 3 rfl) ?_
    refine lv_aload_n hx hb dX2_unmetAhead_5 rfl (lv_at hl 0 rfl) ?_
    obtain ⟨q1, hcf⟩ := og hcf
    refine gf_X2_24 hx hb hts hown hE hW q1 dX2_unmetAhead_6 ?_
    refine lv_icmp_ge (tgt := 57) hx hb dX2_unmetAhead_9 (by decide) (fun q2 => ?_) (fun q2 => ?_)
    · replace hcf := (if_pos q2).symm.trans hcf
      refine lv_iload_n hx hb dX2_unmetAhead_57 rfl (lv_at hl 2 rfl) ?_
      have hcf := Option.some.inj hcf; subst hcf
      exact wk_iret hx hb hr hlocks hW hS dX2_unmetAhead_58
    · replace hcf := (if_neg q2).symm.trans hcf
      refine lv_aload_n hx hb dX2_unmetAhead_12 rfl (lv_at hl 0 rfl) ?_
      obtain ⟨r3, hr3, hcf⟩ := ob hcf
      refine gf_X2_11 hx hb hts hown hE hW q1 hr3 dX2_unmetAhead_13 ?_
      refine lv_iload_n hx hb dX2_unmetAhead_16 rfl (lv_at hl 3 rfl) ?_
      obtain ⟨q4, hcf⟩ := og hcf
      obtain ⟨q5, hcf⟩ := og hcf
      obtain ⟨r6, hr6, hcf⟩ := ob hcf
      refine wk_aald hx hb hE hW q4 q5 hr6 dX2_unmetAhead_17 ?_
      refine lv_astore (lv' := [(4, .ref r6), (0, .ref j0), (1, .int j1), (2, .int j2), (3, .int j3)]) hx hb dX2_unmetAhead_18 hl (by decide) rfl (fun ls hl => ?_)
      refine lv_aload hx hb dX2_unmetAhead_20 (lv_at hl 0 rfl) ?_
      obtain ⟨q7, hcf⟩ := og hcf
      refine gf_X2_70 hx hb hts hown hE hW q7 dX2_unmetAhead_22 ?_
      refine lv_if_ne (tgt := 51) hx hb dX2_unmetAhead_25 (by decide) (fun q8 => ?_) (fun q8 => ?_)
      · replace hcf := (if_neg q8).symm.trans hcf
        refine lv_iinc (v := (j3 + 1)) (lv' := [(3, .int (j3 + 1)), (4, .ref r6), (0, .ref j0), (1, .int j1), (2, .int j2)]) hx hb dX2_unmetAhead_51 hl (k := 4) rfl rfl (by decide) rfl (fun ls hl => ?_)
        refine lv_goto (tgt := 4) hx hb dX2_unmetAhead_54 (by decide) ?_
        exact ih j0 j1 j2 (j3 + 1) _ _ _ hcf hW hS (lv_sub hl [2, 3, 4, 0] rfl)
      · replace hcf := (if_pos q8).symm.trans hcf
        refine lv_aload hx hb dX2_unmetAhead_28 (lv_at hl 0 rfl) ?_
        refine gf_X2_73 hx hb hts hown hE hW q7 dX2_unmetAhead_30 ?_
        refine lv_iload_n hx hb dX2_unmetAhead_33 rfl (lv_at hl 2 rfl) ?_
        refine lv_icmp_ne (tgt := 51) hx hb dX2_unmetAhead_34 (by decide) (fun q9 => ?_) (fun q9 => ?_)
        · replace hcf := (if_neg q9).symm.trans hcf
          refine lv_iinc (v := (j3 + 1)) (lv' := [(3, .int (j3 + 1)), (4, .ref r6), (0, .ref j0), (1, .int j1), (2, .int j2)]) hx hb dX2_unmetAhead_51 hl (k := 4) rfl rfl (by decide) rfl (fun ls hl => ?_)
          refine lv_goto (tgt := 4) hx hb dX2_unmetAhead_54 (by decide) ?_
          exact ih j0 j1 j2 (j3 + 1) _ _ _ hcf hW hS (lv_sub hl [2, 3, 4, 0] rfl)
        · replace hcf := (if_pos q9).symm.trans hcf
          refine lv_aload hx hb dX2_unmetAhead_37 (lv_at hl 0 rfl) ?_
          obtain ⟨x10, hx10, hcf⟩ := ob hcf
          refine iv_X2_66 (As := []) (rest := []) hx hb hml hown hts hE (ct_X0_isMet l D cy z n Y V G r6 x10 hx10) hW hS q7 rfl rfl hl.1 (Nat.le_of_ble_eq_true rfl) ⟨Nat.le_of_ble_eq_true rfl, Nat.le_of_ble_eq_true rfl⟩ dX2_unmetAhead_39 ⟨Nat.zero_le _, Nat.zero_le _⟩ (fun H locs hW hS => ?_)
          refine lv_if_ne (tgt := 51) hx hb dX2_unmetAhead_42 (by decide) (fun q11 => ?_) (fun q11 => ?_)
          · replace hcf := (if_neg q11).symm.trans hcf
            refine lv_iinc (v := (j3 + 1)) (lv' := [(3, .int (j3 + 1)), (4, .ref r6), (0, .ref j0), (1, .int j1), (2, .int j2)]) hx hb dX2_unmetAhead_51 hl (k := 4) rfl rfl (by decide) rfl (fun ls hl => ?_)
            refine lv_goto (tgt := 4) hx hb dX2_unmetAhead_54 (by decide) ?_
            exact ih j0 j1 j2 (j3 + 1) _ _ _ hcf hW hS (lv_sub hl [2, 3, 4, 0] rfl)
          · replace hcf := (if_pos q11).symm.trans hcf
            refine lv_iload_n hx hb dX2_unmetAhead_45 rfl (lv_at hl 3 rfl) ?_
            refine lv_iconst (v := (1 : Int32)) hx hb dX2_unmetAhead_46 (by decide) ?_
            refine lv_iload_n hx hb dX2_unmetAhead_47 rfl (lv_at hl 4 rfl) ?_
            refine lv_ishl hx hb dX2_unmetAhead_48 ?_
            refine lv_ior hx hb dX2_unmetAhead_49 ?_
            refine lv_istore_n (lv' := [(2, .int (j2 ||| ((1 : Int32) <<< (j3 &&& 31)))), (4, .ref r6), (0, .ref j0), (1, .int j1), (3, .int j3)]) hx hb dX2_unmetAhead_50 rfl hl (by decide) rfl (fun ls hl => ?_)
            refine lv_iinc (v := (j3 + 1)) (lv' := [(3, .int (j3 + 1)), (2, .int (j2 ||| ((1 : Int32) <<< (j3 &&& 31)))), (4, .ref r6), (0, .ref j0), (1, .int j1)]) hx hb dX2_unmetAhead_51 hl (k := 4) rfl rfl (by decide) rfl (fun ls hl => ?_)
            refine lv_goto (tgt := 4) hx hb dX2_unmetAhead_54 (by decide) ?_
            exact ih j0 j1 (j2 ||| ((1 : Int32) <<< (j3 &&& 31))) (j3 + 1) _ _ _ hcf hW hS (lv_sub hl [3, 4, 1, 0] rfl)
set_option maxHeartbeats 4000000 in
set_option maxRecDepth 100000 in
theorem ct_X2_unmetAhead (l : Launch) (D : va_G) (cy : Nat → ClassId) (z n : Nat) (Y : mY) (V : mV) (G : mG) (a0 : Nat) (b1 : Int32) (x : Int32) (hcf : cf_X2_unmetAhead Y V G a0 b1 = some x) : CT l yX2_unmetAhead cX2_unmetAhead 5 (some .int) (rmd 1) D cy z [.ref a0, .int b1] Y n V G (some (.int x)) Y n V G := by
  refine ct_of (by decide) (Nat.le_of_ble_eq_true rfl) ?_
  intro p e s m args below meth c ls hx hb hr hml hown hts hlocks hnm hE hW hl
  have hS : va_S (zA z) s.heap s.heap [] := va_S.rf
  have hl : lv_has ls 5 [(0, .ref a0), (1, .int b1)] := hl
  have hown : s.vm.findClass RX2 = some m.cls := hown
  rw [cf_X2_unmetAhead] at hcf
  refine lv_iconst (v := (0 : Int32)) hx hb dX2_unmetAhead_0 (by decide) ?_
  refine lv_istore_n (lv' := [(2, .int (0 : Int32)), (0, .ref a0), (1, .int b1)]) hx hb dX2_unmetAhead_1 rfl hl (by decide) rfl (fun ls hl => ?_)
  refine lv_iconst (v := (0 : Int32)) hx hb dX2_unmetAhead_2 (by decide) ?_
  refine lv_istore_n (lv' := [(3, .int (0 : Int32)), (2, .int (0 : Int32)), (0, .ref a0), (1, .int b1)]) hx hb dX2_unmetAhead_3 rfl hl (by decide) rfl (fun ls hl => ?_)
  exact wl_X2_unmetAhead_4 hx hb hr hml hown hts hlocks hE x fuB a0 b1 (0 : Int32) (0 : Int32) _ _ _ hcf hW hS (lv_sub hl [2, 3, 1, 0] rfl)
set_option maxHeartbeats 4000000 in
set_option maxRecDepth 100000 in
theorem wl_X2_partsOfAll_4 {p : Program} {l : Launch} {e : Env} {s : State} {m : MethodId} {args : Array Value} {below : List Frame} {meth : Method} {c : Code} {D : va_G} {cy : Nat → ClassId} {z : Nat} {n : Nat} {Y : mY} {V : mV} {G : mG} (hx : p.tables.exec = Jvm.exec) (hb : c.code = cX2_partsOfAll) (hr : meth.sig.returnType = (some .int)) (hml : c.maxLocals = 3) (hown : s.vm.findClass RX2 = some m.cls) (hts : ∀ w ∈ lw_all, w.before args s = true) (hlocks : meth.locks = false) (hE : En D cy s) (x : Int32) : ∀ (k : Nat) (j0 : Nat) (j1 : Int32) (j2 : Int32) (H : Heap) (locs : List Loc) (ls : Array Slot), lp_X2_partsOfAll_4 Y V G k j0 j1 j2 = some x → Wd Y cy D z n V G H → va_S (zA z) s.heap H locs → lv_has ls 3 [(0, .ref j0), (1, .int j1), (2, .int j2)] → W p l e (rmd 0) s m args below meth c H locs 0 0 (MQ below (QC D cy z Y n V G (some (.int x))) args s 0 0 (zA z)) (F0 m 4 ls []) := by
  intro k
  induction k with
  | zero =>
    intro j0 j1 j2 H locs ls hcf
    have hcf : none = some _ := hcf
    cases hcf
  | succ k ih =>
    intro j0 j1 j2 H locs ls hcf hW hS hl
    rw [lp_X2_partsOfAll_4] at hcf
    refine lv_iload_n hx hb dX2_partsOfAll_4 rfl (lv_at hl 2 rfl) ?_
    refine lv_aload_n hx hb dX2_partsOfAll_5 rfl (lv_at hl 0 rfl) ?_
    obtain ⟨q1, hcf⟩ := og hcf
    refine gf_X2_24 hx hb hts hown hE hW q1 dX2_partsOfAll_6 ?_
    refine lv_icmp_ge (tgt := 30) hx hb dX2_partsOfAll_9 (by decide) (fun q2 => ?_) (fun q2 => ?_)
    · replace hcf := (if_pos q2).symm.trans hcf
      refine lv_iload_n hx hb dX2_partsOfAll_30 rfl (lv_at hl 1 rfl) ?_
      have hcf := Option.some.inj hcf; subst hcf
      exact wk_iret hx hb hr hlocks hW hS dX2_partsOfAll_31
    · replace hcf := (if_neg q2).symm.trans hcf
      refine lv_iload_n hx hb dX2_partsOfAll_12 rfl (lv_at hl 1 rfl) ?_
      refine lv_aload_n hx hb dX2_partsOfAll_13 rfl (lv_at hl 0 rfl) ?_
      obtain ⟨r3, hr3, hcf⟩ := ob hcf
      refine gf_X2_11 hx hb hts hown hE hW q1 hr3 dX2_partsOfAll_14 ?_
      refine lv_iload_n hx hb dX2_partsOfAll_17 rfl (lv_at hl 2 rfl) ?_
      obtain ⟨q4, hcf⟩ := og hcf
      obtain ⟨q5, hcf⟩ := og hcf
      obtain ⟨r6, hr6, hcf⟩ := ob hcf
      refine wk_aald hx hb hE hW q4 q5 hr6 dX2_partsOfAll_18 ?_
      obtain ⟨q7, hcf⟩ := og hcf
      refine gf_X2_80 hx hb hts hown hE hW q7 dX2_partsOfAll_19 ?_
      refine lv_iadd hx hb dX2_partsOfAll_22 ?_
      refine lv_istore_n (lv' := [(1, .int (j1 + (V r6 3))), (0, .ref j0), (2, .int j2)]) hx hb dX2_partsOfAll_23 rfl hl (by decide) rfl (fun ls hl => ?_)
      refine lv_iinc (v := (j2 + 1)) (lv' := [(2, .int (j2 + 1)), (1, .int (j1 + (V r6 3))), (0, .ref j0)]) hx hb dX2_partsOfAll_24 hl (k := 2) rfl rfl (by decide) rfl (fun ls hl => ?_)
      refine lv_goto (tgt := 4) hx hb dX2_partsOfAll_27 (by decide) ?_
      exact ih j0 (j1 + (V r6 3)) (j2 + 1) _ _ _ hcf hW hS (lv_sub hl [2, 1, 0] rfl)
set_option maxHeartbeats 4000000 in
set_option maxRecDepth 100000 in
theorem ct_X2_partsOfAll (l : Launch) (D : va_G) (cy : Nat → ClassId) (z n : Nat) (Y : mY) (V : mV) (G : mG) (a0 : Nat) (x : Int32) (hcf : cf_X2_partsOfAll Y V G a0 = some x) : CT l yX2_partsOfAll cX2_partsOfAll 3 (some .int) (rmd 0) D cy z [.ref a0] Y n V G (some (.int x)) Y n V G := by
  refine ct_of (by decide) (Nat.le_of_ble_eq_true rfl) ?_
  intro p e s m args below meth c ls hx hb hr hml hown hts hlocks hnm hE hW hl
  have hS : va_S (zA z) s.heap s.heap [] := va_S.rf
  have hl : lv_has ls 3 [(0, .ref a0)] := hl
  have hown : s.vm.findClass RX2 = some m.cls := hown
  rw [cf_X2_partsOfAll] at hcf
  refine lv_iconst (v := (0 : Int32)) hx hb dX2_partsOfAll_0 (by decide) ?_
  refine lv_istore_n (lv' := [(1, .int (0 : Int32)), (0, .ref a0)]) hx hb dX2_partsOfAll_1 rfl hl (by decide) rfl (fun ls hl => ?_)
  refine lv_iconst (v := (0 : Int32)) hx hb dX2_partsOfAll_2 (by decide) ?_
  refine lv_istore_n (lv' := [(2, .int (0 : Int32)), (1, .int (0 : Int32)), (0, .ref a0)]) hx hb dX2_partsOfAll_3 rfl hl (by decide) rfl (fun ls hl => ?_)
  exact wl_X2_partsOfAll_4 hx hb hr hml hown hts hlocks hE x fuB a0 (0 : Int32) (0 : Int32) _ _ _ hcf hW hS (lv_sub hl [2, 1, 0] rfl)
set_option maxHeartbeats 4000000 in
set_option maxRecDepth 100000 in
theorem wl_X2_approvedOfAll_4 {p : Program} {l : Launch} {e : Env} {s : State} {m : MethodId} {args : Array Value} {below : List Frame} {meth : Method} {c : Code} {D : va_G} {cy : Nat → ClassId} {z : Nat} {n : Nat} {Y : mY} {V : mV} {G : mG} (hx : p.tables.exec = Jvm.exec) (hb : c.code = cX2_approvedOfAll) (hr : meth.sig.returnType = (some .int)) (hml : c.maxLocals = 3) (hown : s.vm.findClass RX2 = some m.cls) (hts : ∀ w ∈ lw_all, w.before args s = true) (hlocks : meth.locks = false) (hE : En D cy s) (x : Int32) : ∀ (k : Nat) (j0 : Nat) (j1 : Int32) (j2 : Int32) (H : Heap) (locs : List Loc) (ls : Array Slot), lp_X2_approvedOfAll_4 Y V G k j0 j1 j2 = some x → Wd Y cy D z n V G H → va_S (zA z) s.heap H locs → lv_has ls 3 [(0, .ref j0), (1, .int j1), (2, .int j2)] → W p l e (rmd 1) s m args below meth c H locs 0 0 (MQ below (QC D cy z Y n V G (some (.int x))) args s 0 0 (zA z)) (F0 m 4 ls []) := by
  intro k
  induction k with
  | zero =>
    intro j0 j1 j2 H locs ls hcf
    have hcf : none = some _ := hcf
    cases hcf
  | succ k ih =>
    intro j0 j1 j2 H locs ls hcf hW hS hl
    rw [lp_X2_approvedOfAll_4] at hcf
    refine lv_iload_n hx hb dX2_approvedOfAll_4 rfl (lv_at hl 2 rfl) ?_
    refine lv_aload_n hx hb dX2_approvedOfAll_5 rfl (lv_at hl 0 rfl) ?_
    obtain ⟨q1, hcf⟩ := og hcf
    refine gf_X2_24 hx hb hts hown hE hW q1 dX2_approvedOfAll_6 ?_
    refine lv_icmp_ge (tgt := 33) hx hb dX2_approvedOfAll_9 (by decide) (fun q2 => ?_) (fun q2 => ?_)
    · replace hcf := (if_pos q2).symm.trans hcf
      refine lv_iload_n hx hb dX2_approvedOfAll_33 rfl (lv_at hl 1 rfl) ?_
      have hcf := Option.some.inj hcf; subst hcf
      exact wk_iret hx hb hr hlocks hW hS dX2_approvedOfAll_34
    · replace hcf := (if_neg q2).symm.trans hcf
      refine lv_iload_n hx hb dX2_approvedOfAll_12 rfl (lv_at hl 1 rfl) ?_
      refine lv_aload_n hx hb dX2_approvedOfAll_13 rfl (lv_at hl 0 rfl) ?_
      obtain ⟨r3, hr3, hcf⟩ := ob hcf
      refine gf_X2_11 hx hb hts hown hE hW q1 hr3 dX2_approvedOfAll_14 ?_
      refine lv_iload_n hx hb dX2_approvedOfAll_17 rfl (lv_at hl 2 rfl) ?_
      obtain ⟨q4, hcf⟩ := og hcf
      obtain ⟨q5, hcf⟩ := og hcf
      obtain ⟨r6, hr6, hcf⟩ := ob hcf
      refine wk_aald hx hb hE hW q4 q5 hr6 dX2_approvedOfAll_18 ?_
      obtain ⟨q7, hcf⟩ := og hcf
      refine gf_X2_83 hx hb hts hown hE hW q7 dX2_approvedOfAll_19 ?_
      obtain ⟨x8, hx8, hcf⟩ := ob hcf
      refine iv_X2_86 (As := [.int (V r6 4)]) (rest := [.int j1]) hx hb hml hown hts hE (ct_J6_bitCount_0f7a4 l D cy z n Y V G (V r6 4) x8 hx8) hW hS rfl rfl hl.1 (Nat.le_of_ble_eq_true rfl) ⟨Nat.le_of_ble_eq_true rfl, Nat.le_of_ble_eq_true rfl⟩ dX2_approvedOfAll_22 ⟨Nat.zero_le _, Nat.zero_le _⟩ (fun H locs hW hS => ?_)
      refine lv_iadd hx hb dX2_approvedOfAll_25 ?_
      refine lv_istore_n (lv' := [(1, .int (j1 + x8)), (0, .ref j0), (2, .int j2)]) hx hb dX2_approvedOfAll_26 rfl hl (by decide) rfl (fun ls hl => ?_)
      refine lv_iinc (v := (j2 + 1)) (lv' := [(2, .int (j2 + 1)), (1, .int (j1 + x8)), (0, .ref j0)]) hx hb dX2_approvedOfAll_27 hl (k := 2) rfl rfl (by decide) rfl (fun ls hl => ?_)
      refine lv_goto (tgt := 4) hx hb dX2_approvedOfAll_30 (by decide) ?_
      exact ih j0 (j1 + x8) (j2 + 1) _ _ _ hcf hW hS (lv_sub hl [2, 1, 0] rfl)
set_option maxHeartbeats 4000000 in
set_option maxRecDepth 100000 in
theorem ct_X2_approvedOfAll (l : Launch) (D : va_G) (cy : Nat → ClassId) (z n : Nat) (Y : mY) (V : mV) (G : mG) (a0 : Nat) (x : Int32) (hcf : cf_X2_approvedOfAll Y V G a0 = some x) : CT l yX2_approvedOfAll cX2_approvedOfAll 3 (some .int) (rmd 1) D cy z [.ref a0] Y n V G (some (.int x)) Y n V G := by
  refine ct_of (by decide) (Nat.le_of_ble_eq_true rfl) ?_
  intro p e s m args below meth c ls hx hb hr hml hown hts hlocks hnm hE hW hl
  have hS : va_S (zA z) s.heap s.heap [] := va_S.rf
  have hl : lv_has ls 3 [(0, .ref a0)] := hl
  have hown : s.vm.findClass RX2 = some m.cls := hown
  rw [cf_X2_approvedOfAll] at hcf
  refine lv_iconst (v := (0 : Int32)) hx hb dX2_approvedOfAll_0 (by decide) ?_
  refine lv_istore_n (lv' := [(1, .int (0 : Int32)), (0, .ref a0)]) hx hb dX2_approvedOfAll_1 rfl hl (by decide) rfl (fun ls hl => ?_)
  refine lv_iconst (v := (0 : Int32)) hx hb dX2_approvedOfAll_2 (by decide) ?_
  refine lv_istore_n (lv' := [(2, .int (0 : Int32)), (1, .int (0 : Int32)), (0, .ref a0)]) hx hb dX2_approvedOfAll_3 rfl hl (by decide) rfl (fun ls hl => ?_)
  exact wl_X2_approvedOfAll_4 hx hb hr hml hown hts hlocks hE x fuB a0 (0 : Int32) (0 : Int32) _ _ _ hcf hW hS (lv_sub hl [2, 1, 0] rfl)
set_option maxHeartbeats 4000000 in
set_option maxRecDepth 100000 in
theorem ct_X2_leastDays (l : Launch) (D : va_G) (cy : Nat → ClassId) (z n : Nat) (Y : mY) (V : mV) (G : mG) (b1 : Int32) (x : Int32) (hcf : cf_X2_leastDays b1 = some x) : CT l yX2_leastDays cX2_leastDays 1 (some .int) (rmd 0) D cy z [.int b1] Y n V G (some (.int x)) Y n V G := by
  refine ct_of (by decide) (Nat.le_of_ble_eq_true rfl) ?_
  intro p e s m args below meth c ls hx hb hr hml hown hts hlocks hnm hE hW hl
  have hS : va_S (zA z) s.heap s.heap [] := va_S.rf
  have hl : lv_has ls 1 [(0, .int b1)] := hl
  have hown : s.vm.findClass RX2 = some m.cls := hown
  rw [cf_X2_leastDays] at hcf
  refine lv_iload_n hx hb dX2_leastDays_0 rfl (lv_at hl 0 rfl) ?_
  refine lv_iconst (v := (2 : Int32)) hx hb dX2_leastDays_1 (by decide) ?_
  refine lv_icmp_ne (tgt := 9) hx hb dX2_leastDays_2 (by decide) (fun q1 => ?_) (fun q1 => ?_)
  · replace hcf := (if_neg q1).symm.trans hcf
    refine lv_iconst (v := (0 : Int32)) hx hb dX2_leastDays_9 (by decide) ?_
    have hcf := Option.some.inj hcf; subst hcf
    exact wk_iret hx hb hr hlocks hW hS dX2_leastDays_10
  · replace hcf := (if_pos q1).symm.trans hcf
    refine lv_iconst (v := (1 : Int32)) hx hb dX2_leastDays_5 (by decide) ?_
    refine lv_goto (tgt := 10) hx hb dX2_leastDays_6 (by decide) ?_
    have hcf := Option.some.inj hcf; subst hcf
    exact wk_iret hx hb hr hlocks hW hS dX2_leastDays_10
set_option maxHeartbeats 4000000 in
set_option maxRecDepth 100000 in
theorem ct_X2_addCondition (l : Launch) (D : va_G) (cy : Nat → ClassId) (z n : Nat) (Y : mY) (V : mV) (G : mG) (a0 : Nat) (b1 : Int32) (b2 : Int32) (b3 : Int32) (b4 : Int32) (x : Int32 × mV) (hcf : cf_X2_addCondition Y V G a0 b1 b2 b3 b4 = some x) : CT l yX2_addCondition cX2_addCondition 5 (some .int) (rmd 2) D cy z [.ref a0, .int b1, .int b2, .int b3, .int b4] Y n V G (some (.int x.1)) Y n x.2 G := by
  refine ct_of (by decide) (Nat.le_of_ble_eq_true rfl) ?_
  intro p e s m args below meth c ls hx hb hr hml hown hts hlocks hnm hE hW hl
  have hS : va_S (zA z) s.heap s.heap [] := va_S.rf
  have hl : lv_has ls 5 [(0, .ref a0), (1, .int b1), (2, .int b2), (3, .int b3), (4, .int b4)] := hl
  have hown : s.vm.findClass RX2 = some m.cls := hown
  rw [cf_X2_addCondition] at hcf
  refine lv_iload_n hx hb dX2_addCondition_0 rfl (lv_at hl 1 rfl) ?_
  refine lv_iconst (v := (0 : Int32)) hx hb dX2_addCondition_1 (by decide) ?_
  refine lv_iconst (v := (2 : Int32)) hx hb dX2_addCondition_2 (by decide) ?_
  obtain ⟨x1, hx1, hcf⟩ := ob hcf
  refine iv_X2_48 (As := [.int b1, .int (0 : Int32), .int (2 : Int32)]) (rest := []) hx hb hml hown hts hE (ct_X3_isWithin l D cy z n Y V G b1 (0 : Int32) (2 : Int32) x1 hx1) hW hS rfl rfl hl.1 (Nat.le_of_ble_eq_true rfl) ⟨Nat.le_of_ble_eq_true rfl, Nat.le_of_ble_eq_true rfl⟩ dX2_addCondition_3 ⟨Nat.zero_le _, Nat.zero_le _⟩ (fun H locs hW hS => ?_)
  refine lv_if_eq (tgt := 43) hx hb dX2_addCondition_6 (by decide) (fun q2 => ?_) (fun q2 => ?_)
  · replace hcf := (if_pos q2).symm.trans hcf
    refine lv_ldc hx hb hown (hts _ q244) dX2_addCondition_43 ?_
    have hcf := Option.some.inj hcf; subst hcf
    exact wk_iret hx hb hr hlocks hW hS dX2_addCondition_45
  · replace hcf := (if_neg q2).symm.trans hcf
    refine lv_iload_n hx hb dX2_addCondition_9 rfl (lv_at hl 2 rfl) ?_
    refine lv_iconst (v := (0 : Int32)) hx hb dX2_addCondition_10 (by decide) ?_
    refine lv_iconst (v := (4 : Int32)) hx hb dX2_addCondition_11 (by decide) ?_
    obtain ⟨x3, hx3, hcf⟩ := ob hcf
    refine iv_X2_48 (As := [.int b2, .int (0 : Int32), .int (4 : Int32)]) (rest := []) hx hb hml hown hts hE (ct_X3_isWithin l D cy z n Y V G b2 (0 : Int32) (4 : Int32) x3 hx3) hW hS rfl rfl hl.1 (Nat.le_of_ble_eq_true rfl) ⟨Nat.le_of_ble_eq_true rfl, Nat.le_of_ble_eq_true rfl⟩ dX2_addCondition_12 ⟨Nat.zero_le _, Nat.zero_le _⟩ (fun H locs hW hS => ?_)
    refine lv_if_eq (tgt := 43) hx hb dX2_addCondition_15 (by decide) (fun q4 => ?_) (fun q4 => ?_)
    · replace hcf := (if_pos q4).symm.trans hcf
      refine lv_ldc hx hb hown (hts _ q244) dX2_addCondition_43 ?_
      have hcf := Option.some.inj hcf; subst hcf
      exact wk_iret hx hb hr hlocks hW hS dX2_addCondition_45
    · replace hcf := (if_neg q4).symm.trans hcf
      refine lv_iload_n hx hb dX2_addCondition_18 rfl (lv_at hl 3 rfl) ?_
      refine lv_iload_n hx hb dX2_addCondition_19 rfl (lv_at hl 1 rfl) ?_
      obtain ⟨x5, hx5, hcf⟩ := ob hcf
      refine iv_X2_92 (As := [.int b1]) (rest := [.int b3]) hx hb hml hown hts hE (ct_X2_leastDays l D cy z n Y V G b1 x5 hx5) hW hS rfl rfl hl.1 (Nat.le_of_ble_eq_true rfl) ⟨Nat.le_of_ble_eq_true rfl, Nat.le_of_ble_eq_true rfl⟩ dX2_addCondition_20 ⟨Nat.zero_le _, Nat.zero_le _⟩ (fun H locs hW hS => ?_)
      refine lv_sipush (v := (365 : Int32)) hx hb dX2_addCondition_23 (by decide) ?_
      obtain ⟨x6, hx6, hcf⟩ := ob hcf
      refine iv_X2_48 (As := [.int b3, .int x5, .int (365 : Int32)]) (rest := []) hx hb hml hown hts hE (ct_X3_isWithin l D cy z n Y V G b3 x5 (365 : Int32) x6 hx6) hW hS rfl rfl hl.1 (Nat.le_of_ble_eq_true rfl) ⟨Nat.le_of_ble_eq_true rfl, Nat.le_of_ble_eq_true rfl⟩ dX2_addCondition_26 ⟨Nat.zero_le _, Nat.zero_le _⟩ (fun H locs hW hS => ?_)
      refine lv_if_eq (tgt := 43) hx hb dX2_addCondition_29 (by decide) (fun q7 => ?_) (fun q7 => ?_)
      · replace hcf := (if_pos q7).symm.trans hcf
        refine lv_ldc hx hb hown (hts _ q244) dX2_addCondition_43 ?_
        have hcf := Option.some.inj hcf; subst hcf
        exact wk_iret hx hb hr hlocks hW hS dX2_addCondition_45
      · replace hcf := (if_neg q7).symm.trans hcf
        refine lv_iload hx hb dX2_addCondition_32 (lv_at hl 4 rfl) ?_
        refine lv_iconst (v := (1 : Int32)) hx hb dX2_addCondition_34 (by decide) ?_
        refine lv_bipush (v := (6 : Int32)) hx hb dX2_addCondition_35 (by decide) ?_
        obtain ⟨x8, hx8, hcf⟩ := ob hcf
        refine iv_X2_48 (As := [.int b4, .int (1 : Int32), .int (6 : Int32)]) (rest := []) hx hb hml hown hts hE (ct_X3_isWithin l D cy z n Y V G b4 (1 : Int32) (6 : Int32) x8 hx8) hW hS rfl rfl hl.1 (Nat.le_of_ble_eq_true rfl) ⟨Nat.le_of_ble_eq_true rfl, Nat.le_of_ble_eq_true rfl⟩ dX2_addCondition_37 ⟨Nat.zero_le _, Nat.zero_le _⟩ (fun H locs hW hS => ?_)
        refine lv_if_ne (tgt := 46) hx hb dX2_addCondition_40 (by decide) (fun q9 => ?_) (fun q9 => ?_)
        · replace hcf := (if_neg q9).symm.trans hcf
          refine lv_aload_n hx hb dX2_addCondition_46 rfl (lv_at hl 0 rfl) ?_
          refine lv_iload_n hx hb dX2_addCondition_47 rfl (lv_at hl 2 rfl) ?_
          obtain ⟨q10, hcf⟩ := og hcf
          obtain ⟨x11, hx11, hcf⟩ := ob hcf
          refine iv_X2_52 (As := [.int b2]) (rest := []) hx hb hml hown hts hE (ct_X2_isBegun l D cy z n Y V G a0 b2 x11 hx11) hW hS q10 rfl rfl hl.1 (Nat.le_of_ble_eq_true rfl) ⟨Nat.le_of_ble_eq_true rfl, Nat.le_of_ble_eq_true rfl⟩ dX2_addCondition_48 ⟨Nat.zero_le _, Nat.zero_le _⟩ (fun H locs hW hS => ?_)
          refine lv_if_eq (tgt := 57) hx hb dX2_addCondition_51 (by decide) (fun q12 => ?_) (fun q12 => ?_)
          · replace hcf := (if_pos q12).symm.trans hcf
            refine lv_aload_n hx hb dX2_addCondition_57 rfl (lv_at hl 0 rfl) ?_
            refine gf_X2_24 hx hb hts hown hE hW q10 dX2_addCondition_58 ?_
            refine lv_bipush (v := (10 : Int32)) hx hb dX2_addCondition_61 (by decide) ?_
            refine lv_icmp_lt (tgt := 69) hx hb dX2_addCondition_63 (by decide) (fun q13 => ?_) (fun q13 => ?_)
            · replace hcf := (if_pos q13).symm.trans hcf
              refine lv_aload_n hx hb dX2_addCondition_69 rfl (lv_at hl 0 rfl) ?_
              obtain ⟨r14, hr14, hcf⟩ := ob hcf
              refine gf_X2_11 hx hb hts hown hE hW q10 hr14 dX2_addCondition_70 ?_
              refine lv_aload_n hx hb dX2_addCondition_73 rfl (lv_at hl 0 rfl) ?_
              refine gf_X2_24 hx hb hts hown hE hW q10 dX2_addCondition_74 ?_
              obtain ⟨q15, hcf⟩ := og hcf
              obtain ⟨q16, hcf⟩ := og hcf
              obtain ⟨r17, hr17, hcf⟩ := ob hcf
              refine wk_aald hx hb hE hW q15 q16 hr17 dX2_addCondition_77 ?_
              refine lv_iload_n hx hb dX2_addCondition_78 rfl (lv_at hl 1 rfl) ?_
              refine lv_iload_n hx hb dX2_addCondition_79 rfl (lv_at hl 2 rfl) ?_
              refine lv_iload_n hx hb dX2_addCondition_80 rfl (lv_at hl 3 rfl) ?_
              refine lv_iload hx hb dX2_addCondition_81 (lv_at hl 4 rfl) ?_
              obtain ⟨q18, hcf⟩ := og hcf
              obtain ⟨x19, hx19, hcf⟩ := ob hcf
              refine iv_X2_98 (As := [.int b1, .int b2, .int b3, .int b4]) (rest := []) hx hb hml hown hts hE (ct_X0_startAs l D cy z n Y V G r17 b1 b2 b3 b4 x19 hx19) hW hS q18 rfl rfl hl.1 (Nat.le_of_ble_eq_true rfl) ⟨Nat.le_of_ble_eq_true rfl, Nat.le_of_ble_eq_true rfl⟩ dX2_addCondition_83 ⟨Nat.zero_le _, Nat.zero_le _⟩ (fun H locs hW hS => ?_)
              refine lv_aload_n hx hb dX2_addCondition_86 rfl (lv_at hl 0 rfl) ?_
              refine lv_dup hx hb dX2_addCondition_87 rfl ?_
              refine gf_X2_24 hx hb hts hown hE hW q10 dX2_addCondition_88 ?_
              refine lv_iconst (v := (1 : Int32)) hx hb dX2_addCondition_91 (by decide) ?_
              refine lv_iadd hx hb dX2_addCondition_92 ?_
              refine pf_X2_24 hx hb hts hown hE hW hS q10 ((x19 a0 3) + (1 : Int32)) dX2_addCondition_93 (fun H locs hW hS => ?_)
              refine lv_aload_n hx hb dX2_addCondition_96 rfl (lv_at hl 0 rfl) ?_
              refine gf_X2_24 hx hb hts hown hE hW q10 dX2_addCondition_97 ?_
              refine lv_iconst (v := (1 : Int32)) hx hb dX2_addCondition_100 (by decide) ?_
              refine lv_isub hx hb dX2_addCondition_101 ?_
              have hcf := Option.some.inj hcf; subst hcf
              exact wk_iret hx hb hr hlocks hW hS dX2_addCondition_102
            · replace hcf := (if_neg q13).symm.trans hcf
              refine lv_ldc hx hb hown (hts _ q250) dX2_addCondition_66 ?_
              have hcf := Option.some.inj hcf; subst hcf
              exact wk_iret hx hb hr hlocks hW hS dX2_addCondition_68
          · replace hcf := (if_neg q12).symm.trans hcf
            refine lv_ldc hx hb hown (hts _ q249) dX2_addCondition_54 ?_
            have hcf := Option.some.inj hcf; subst hcf
            exact wk_iret hx hb hr hlocks hW hS dX2_addCondition_56
        · replace hcf := (if_pos q9).symm.trans hcf
          refine lv_ldc hx hb hown (hts _ q244) dX2_addCondition_43 ?_
          have hcf := Option.some.inj hcf; subst hcf
          exact wk_iret hx hb hr hlocks hW hS dX2_addCondition_45
set_option maxHeartbeats 4000000 in
set_option maxRecDepth 100000 in
theorem ct_X2_startBreach (l : Launch) (D : va_G) (cy : Nat → ClassId) (z n : Nat) (Y : mY) (V : mV) (G : mG) (a0 : Nat) (b1 : Nat) (x : mV) (hcf : cf_X2_startBreach Y V G a0 b1 = some x) : CT l yX2_startBreach cX2_startBreach 2 none (rmd 0) D cy z [.ref a0, .ref b1] Y n V G none Y n x G := by
  refine ct_of (by decide) (Nat.le_of_ble_eq_true rfl) ?_
  intro p e s m args below meth c ls hx hb hr hml hown hts hlocks hnm hE hW hl
  have hS : va_S (zA z) s.heap s.heap [] := va_S.rf
  have hl : lv_has ls 2 [(0, .ref a0), (1, .ref b1)] := hl
  have hown : s.vm.findClass RX2 = some m.cls := hown
  rw [cf_X2_startBreach] at hcf
  refine lv_aload_n hx hb dX2_startBreach_0 rfl (lv_at hl 1 rfl) ?_
  refine lv_iconst (v := (1 : Int32)) hx hb dX2_startBreach_1 (by decide) ?_
  obtain ⟨q1, hcf⟩ := og hcf
  refine pf_X2_63 hx hb hts hown hE hW hS q1 (1 : Int32) (by decide) dX2_startBreach_2 (fun H locs hW hS => ?_)
  refine lv_aload_n hx hb dX2_startBreach_5 rfl (lv_at hl 0 rfl) ?_
  refine lv_dup hx hb dX2_startBreach_6 rfl ?_
  obtain ⟨q2, hcf⟩ := og hcf
  refine gf_X2_31 hx hb hts hown hE hW q2 dX2_startBreach_7 ?_
  refine lv_iconst (v := (1 : Int32)) hx hb dX2_startBreach_10 (by decide) ?_
  refine lv_iadd hx hb dX2_startBreach_11 ?_
  refine pf_X2_31 hx hb hts hown hE hW hS q2 (((up2 V b1 8 (1 : Int32)) a0 5) + (1 : Int32)) dX2_startBreach_12 (fun H locs hW hS => ?_)
  have hcf := Option.some.inj hcf; subst hcf
  exact wk_vret hx hb hr hlocks hW hS dX2_startBreach_15
set_option maxHeartbeats 4000000 in
set_option maxRecDepth 100000 in
theorem wl_X2_beginStage_41 {p : Program} {l : Launch} {e : Env} {s : State} {m : MethodId} {args : Array Value} {below : List Frame} {meth : Method} {c : Code} {D : va_G} {cy : Nat → ClassId} {z : Nat} {n : Nat} {Y : mY} {G : mG} (hx : p.tables.exec = Jvm.exec) (hb : c.code = cX2_beginStage) (hr : meth.sig.returnType = (some .int)) (hml : c.maxLocals = 4) (hown : s.vm.findClass RX2 = some m.cls) (hts : ∀ w ∈ lw_all, w.before args s = true) (hlocks : meth.locks = false) (hE : En D cy s) (x : Int32 × mV) : ∀ (k : Nat) (V : mV) (j0 : Nat) (j1 : Int32) (j2 : Int32) (j3 : Int32) (H : Heap) (locs : List Loc) (ls : Array Slot), lp_X2_beginStage_41 Y G k V j0 j1 j2 j3 = some x → Wd Y cy D z n V G H → va_S (zA z) s.heap H locs → lv_has ls 4 [(0, .ref j0), (1, .int j1), (2, .int j2), (3, .int j3)] → W p l e (rmd 3) s m args below meth c H locs 0 0 (MQ below (QC D cy z Y n x.2 G (some (.int x.1))) args s 0 0 (zA z)) (F0 m 41 ls []) := by
  intro k
  induction k with
  | zero =>
    intro V j0 j1 j2 j3 H locs ls hcf
    have hcf : none = some _ := hcf
    cases hcf
  | succ k ih =>
    intro V j0 j1 j2 j3 H locs ls hcf hW hS hl
    rw [lp_X2_beginStage_41] at hcf
    refine lv_iload_n hx hb dX2_beginStage_41 rfl (lv_at hl 3 rfl) ?_
    refine lv_aload_n hx hb dX2_beginStage_42 rfl (lv_at hl 0 rfl) ?_
    obtain ⟨q10, hcf⟩ := og hcf
    refine gf_X2_24 hx hb hts hown hE hW q10 dX2_beginStage_43 ?_
    refine lv_icmp_ge (tgt := 73) hx hb dX2_beginStage_46 (by decide) (fun q11 => ?_) (fun q11 => ?_)
    · replace hcf := (if_pos q11).symm.trans hcf
      refine lv_iload_n hx hb dX2_beginStage_73 rfl (lv_at hl 2 rfl) ?_
      have hcf := Option.some.inj hcf; subst hcf
      exact wk_iret hx hb hr hlocks hW hS dX2_beginStage_74
    · replace hcf := (if_neg q11).symm.trans hcf
      refine lv_iload_n hx hb dX2_beginStage_49 rfl (lv_at hl 2 rfl) ?_
      refine lv_iconst (v := (1 : Int32)) hx hb dX2_beginStage_50 (by decide) ?_
      refine lv_iload_n hx hb dX2_beginStage_51 rfl (lv_at hl 3 rfl) ?_
      refine lv_ishl hx hb dX2_beginStage_52 ?_
      refine lv_iand hx hb dX2_beginStage_53 ?_
      refine lv_if_eq (tgt := 67) hx hb dX2_beginStage_54 (by decide) (fun q12 => ?_) (fun q12 => ?_)
      · replace hcf := (if_pos q12).symm.trans hcf
        refine lv_iinc (v := (j3 + 1)) (lv' := [(3, .int (j3 + 1)), (0, .ref j0), (1, .int j1), (2, .int j2)]) hx hb dX2_beginStage_67 hl (k := 3) rfl rfl (by decide) rfl (fun ls hl => ?_)
        refine lv_goto (tgt := 41) hx hb dX2_beginStage_70 (by decide) ?_
        exact ih V j0 j1 j2 (j3 + 1) _ _ _ hcf hW hS (lv_sub hl [1, 2, 3, 0] rfl)
      · replace hcf := (if_neg q12).symm.trans hcf
        refine lv_aload_n hx hb dX2_beginStage_57 rfl (lv_at hl 0 rfl) ?_
        refine lv_aload_n hx hb dX2_beginStage_58 rfl (lv_at hl 0 rfl) ?_
        obtain ⟨r13, hr13, hcf⟩ := ob hcf
        refine gf_X2_11 hx hb hts hown hE hW q10 hr13 dX2_beginStage_59 ?_
        refine lv_iload_n hx hb dX2_beginStage_62 rfl (lv_at hl 3 rfl) ?_
        obtain ⟨q14, hcf⟩ := og hcf
        obtain ⟨q15, hcf⟩ := og hcf
        obtain ⟨r16, hr16, hcf⟩ := ob hcf
        refine wk_aald hx hb hE hW q14 q15 hr16 dX2_beginStage_63 ?_
        obtain ⟨x17, hx17, hcf⟩ := ob hcf
        refine iv_X2_108 (As := [.ref r16]) (rest := []) hx hb hml hown hts hE (ct_X2_startBreach l D cy z n Y V G j0 r16 x17 hx17) hW hS q10 rfl rfl hl.1 (Nat.le_of_ble_eq_true rfl) ⟨Nat.le_of_ble_eq_true rfl, Nat.le_of_ble_eq_true rfl⟩ dX2_beginStage_64 ⟨Nat.zero_le _, Nat.zero_le _⟩ (fun H locs hW hS => ?_)
        refine lv_iinc (v := (j3 + 1)) (lv' := [(3, .int (j3 + 1)), (0, .ref j0), (1, .int j1), (2, .int j2)]) hx hb dX2_beginStage_67 hl (k := 3) rfl rfl (by decide) rfl (fun ls hl => ?_)
        refine lv_goto (tgt := 41) hx hb dX2_beginStage_70 (by decide) ?_
        exact ih x17 j0 j1 j2 (j3 + 1) _ _ _ hcf hW hS (lv_sub hl [1, 2, 3, 0] rfl)
set_option maxHeartbeats 4000000 in
set_option maxRecDepth 100000 in
theorem ct_X2_beginStage (l : Launch) (D : va_G) (cy : Nat → ClassId) (z n : Nat) (Y : mY) (V : mV) (G : mG) (a0 : Nat) (b1 : Int32) (x : Int32 × mV) (hcf : cf_X2_beginStage Y V G a0 b1 = some x) : CT l yX2_beginStage cX2_beginStage 4 (some .int) (rmd 3) D cy z [.ref a0, .int b1] Y n V G (some (.int x.1)) Y n x.2 G := by
  refine ct_of (by decide) (Nat.le_of_ble_eq_true rfl) ?_
  intro p e s m args below meth c ls hx hb hr hml hown hts hlocks hnm hE hW hl
  have hS : va_S (zA z) s.heap s.heap [] := va_S.rf
  have hl : lv_has ls 4 [(0, .ref a0), (1, .int b1)] := hl
  have hown : s.vm.findClass RX2 = some m.cls := hown
  rw [cf_X2_beginStage] at hcf
  refine lv_iload_n hx hb dX2_beginStage_0 rfl (lv_at hl 1 rfl) ?_
  refine lv_iconst (v := (0 : Int32)) hx hb dX2_beginStage_1 (by decide) ?_
  refine lv_iconst (v := (4 : Int32)) hx hb dX2_beginStage_2 (by decide) ?_
  obtain ⟨x1, hx1, hcf⟩ := ob hcf
  refine iv_X2_48 (As := [.int b1, .int (0 : Int32), .int (4 : Int32)]) (rest := []) hx hb hml hown hts hE (ct_X3_isWithin l D cy z n Y V G b1 (0 : Int32) (4 : Int32) x1 hx1) hW hS rfl rfl hl.1 (Nat.le_of_ble_eq_true rfl) ⟨Nat.le_of_ble_eq_true rfl, Nat.le_of_ble_eq_true rfl⟩ dX2_beginStage_3 ⟨Nat.zero_le _, Nat.zero_le _⟩ (fun H locs hW hS => ?_)
  refine lv_if_ne (tgt := 12) hx hb dX2_beginStage_6 (by decide) (fun q2 => ?_) (fun q2 => ?_)
  · replace hcf := (if_neg q2).symm.trans hcf
    refine lv_aload_n hx hb dX2_beginStage_12 rfl (lv_at hl 0 rfl) ?_
    refine lv_iload_n hx hb dX2_beginStage_13 rfl (lv_at hl 1 rfl) ?_
    obtain ⟨q3, hcf⟩ := og hcf
    obtain ⟨x4, hx4, hcf⟩ := ob hcf
    refine iv_X2_102 (As := [.int b1]) (rest := []) hx hb hml hown hts hE (ct_X2_canBegin l D cy z n Y V G a0 b1 x4 hx4) hW hS q3 rfl rfl hl.1 (Nat.le_of_ble_eq_true rfl) ⟨Nat.le_of_ble_eq_true rfl, Nat.le_of_ble_eq_true rfl⟩ dX2_beginStage_14 ⟨Nat.zero_le _, Nat.zero_le _⟩ (fun H locs hW hS => ?_)
    refine lv_if_ne (tgt := 23) hx hb dX2_beginStage_17 (by decide) (fun q5 => ?_) (fun q5 => ?_)
    · replace hcf := (if_neg q5).symm.trans hcf
      refine lv_aload_n hx hb dX2_beginStage_23 rfl (lv_at hl 0 rfl) ?_
      obtain ⟨r6, hr6, hcf⟩ := ob hcf
      refine gf_X2_17 hx hb hts hown hE hW q3 hr6 dX2_beginStage_24 ?_
      refine lv_iload_n hx hb dX2_beginStage_27 rfl (lv_at hl 1 rfl) ?_
      refine lv_aload_n hx hb dX2_beginStage_28 rfl (lv_at hl 0 rfl) ?_
      refine gf_X2_28 hx hb hts hown hE hW q3 dX2_beginStage_29 ?_
      obtain ⟨q7, hcf⟩ := og hcf
      obtain ⟨q8, hcf⟩ := og hcf
      refine wk_iast hx hb hE hW hS q7 q8 dX2_beginStage_32 (fun H locs hW hS => ?_)
      refine lv_aload_n hx hb dX2_beginStage_33 rfl (lv_at hl 0 rfl) ?_
      refine lv_iload_n hx hb dX2_beginStage_34 rfl (lv_at hl 1 rfl) ?_
      obtain ⟨x9, hx9, hcf⟩ := ob hcf
      refine iv_X2_105 (As := [.int b1]) (rest := []) hx hb hml hown hts hE (ct_X2_unmetAhead l D cy z n Y (up2 V r6 b1.toNatClampNeg (V a0 4)) G a0 b1 x9 hx9) hW hS q3 rfl rfl hl.1 (Nat.le_of_ble_eq_true rfl) ⟨Nat.le_of_ble_eq_true rfl, Nat.le_of_ble_eq_true rfl⟩ dX2_beginStage_35 ⟨Nat.zero_le _, Nat.zero_le _⟩ (fun H locs hW hS => ?_)
      refine lv_istore_n (lv' := [(2, .int x9), (0, .ref a0), (1, .int b1)]) hx hb dX2_beginStage_38 rfl hl (by decide) rfl (fun ls hl => ?_)
      refine lv_iconst (v := (0 : Int32)) hx hb dX2_beginStage_39 (by decide) ?_
      refine lv_istore_n (lv' := [(3, .int (0 : Int32)), (2, .int x9), (0, .ref a0), (1, .int b1)]) hx hb dX2_beginStage_40 rfl hl (by decide) rfl (fun ls hl => ?_)
      exact wl_X2_beginStage_41 hx hb hr hml hown hts hlocks hE x fuB (up2 V r6 b1.toNatClampNeg (V a0 4)) a0 b1 x9 (0 : Int32) _ _ _ hcf hW hS (lv_sub hl [2, 3, 1, 0] rfl)
    · replace hcf := (if_pos q5).symm.trans hcf
      refine lv_ldc hx hb hown (hts _ q249) dX2_beginStage_20 ?_
      have hcf := Option.some.inj hcf; subst hcf
      exact wk_iret hx hb hr hlocks hW hS dX2_beginStage_22
  · replace hcf := (if_pos q2).symm.trans hcf
    refine lv_ldc hx hb hown (hts _ q244) dX2_beginStage_9 ?_
    have hcf := Option.some.inj hcf; subst hcf
    exact wk_iret hx hb hr hlocks hW hS dX2_beginStage_11
set_option maxHeartbeats 4000000 in
set_option maxRecDepth 100000 in
theorem ct_X2_finishStage (l : Launch) (D : va_G) (cy : Nat → ClassId) (z n : Nat) (Y : mY) (V : mV) (G : mG) (a0 : Nat) (b1 : Int32) (x : Int32 × mV) (hcf : cf_X2_finishStage Y V G a0 b1 = some x) : CT l yX2_finishStage cX2_finishStage 2 (some .int) (rmd 2) D cy z [.ref a0, .int b1] Y n V G (some (.int x.1)) Y n x.2 G := by
  refine ct_of (by decide) (Nat.le_of_ble_eq_true rfl) ?_
  intro p e s m args below meth c ls hx hb hr hml hown hts hlocks hnm hE hW hl
  have hS : va_S (zA z) s.heap s.heap [] := va_S.rf
  have hl : lv_has ls 2 [(0, .ref a0), (1, .int b1)] := hl
  have hown : s.vm.findClass RX2 = some m.cls := hown
  rw [cf_X2_finishStage] at hcf
  refine lv_iload_n hx hb dX2_finishStage_0 rfl (lv_at hl 1 rfl) ?_
  refine lv_iconst (v := (0 : Int32)) hx hb dX2_finishStage_1 (by decide) ?_
  refine lv_iconst (v := (4 : Int32)) hx hb dX2_finishStage_2 (by decide) ?_
  obtain ⟨x1, hx1, hcf⟩ := ob hcf
  refine iv_X2_48 (As := [.int b1, .int (0 : Int32), .int (4 : Int32)]) (rest := []) hx hb hml hown hts hE (ct_X3_isWithin l D cy z n Y V G b1 (0 : Int32) (4 : Int32) x1 hx1) hW hS rfl rfl hl.1 (Nat.le_of_ble_eq_true rfl) ⟨Nat.le_of_ble_eq_true rfl, Nat.le_of_ble_eq_true rfl⟩ dX2_finishStage_3 ⟨Nat.zero_le _, Nat.zero_le _⟩ (fun H locs hW hS => ?_)
  refine lv_if_ne (tgt := 12) hx hb dX2_finishStage_6 (by decide) (fun q2 => ?_) (fun q2 => ?_)
  · replace hcf := (if_neg q2).symm.trans hcf
    refine lv_aload_n hx hb dX2_finishStage_12 rfl (lv_at hl 0 rfl) ?_
    refine lv_iload_n hx hb dX2_finishStage_13 rfl (lv_at hl 1 rfl) ?_
    obtain ⟨q3, hcf⟩ := og hcf
    obtain ⟨x4, hx4, hcf⟩ := ob hcf
    refine iv_X2_52 (As := [.int b1]) (rest := []) hx hb hml hown hts hE (ct_X2_isBegun l D cy z n Y V G a0 b1 x4 hx4) hW hS q3 rfl rfl hl.1 (Nat.le_of_ble_eq_true rfl) ⟨Nat.le_of_ble_eq_true rfl, Nat.le_of_ble_eq_true rfl⟩ dX2_finishStage_14 ⟨Nat.zero_le _, Nat.zero_le _⟩ (fun H locs hW hS => ?_)
    refine lv_if_eq (tgt := 28) hx hb dX2_finishStage_17 (by decide) (fun q5 => ?_) (fun q5 => ?_)
    · replace hcf := (if_pos q5).symm.trans hcf
      refine lv_ldc hx hb hown (hts _ q249) dX2_finishStage_28 ?_
      have hcf := Option.some.inj hcf; subst hcf
      exact wk_iret hx hb hr hlocks hW hS dX2_finishStage_30
    · replace hcf := (if_neg q5).symm.trans hcf
      refine lv_aload_n hx hb dX2_finishStage_20 rfl (lv_at hl 0 rfl) ?_
      refine lv_iload_n hx hb dX2_finishStage_21 rfl (lv_at hl 1 rfl) ?_
      obtain ⟨x6, hx6, hcf⟩ := ob hcf
      refine iv_X2_56 (As := [.int b1]) (rest := []) hx hb hml hown hts hE (ct_X2_isFinished l D cy z n Y V G a0 b1 x6 hx6) hW hS q3 rfl rfl hl.1 (Nat.le_of_ble_eq_true rfl) ⟨Nat.le_of_ble_eq_true rfl, Nat.le_of_ble_eq_true rfl⟩ dX2_finishStage_22 ⟨Nat.zero_le _, Nat.zero_le _⟩ (fun H locs hW hS => ?_)
      refine lv_if_eq (tgt := 31) hx hb dX2_finishStage_25 (by decide) (fun q7 => ?_) (fun q7 => ?_)
      · replace hcf := (if_pos q7).symm.trans hcf
        refine lv_aload_n hx hb dX2_finishStage_31 rfl (lv_at hl 0 rfl) ?_
        obtain ⟨r8, hr8, hcf⟩ := ob hcf
        refine gf_X2_21 hx hb hts hown hE hW q3 hr8 dX2_finishStage_32 ?_
        refine lv_iload_n hx hb dX2_finishStage_35 rfl (lv_at hl 1 rfl) ?_
        refine lv_aload_n hx hb dX2_finishStage_36 rfl (lv_at hl 0 rfl) ?_
        refine gf_X2_28 hx hb hts hown hE hW q3 dX2_finishStage_37 ?_
        obtain ⟨q9, hcf⟩ := og hcf
        obtain ⟨q10, hcf⟩ := og hcf
        refine wk_iast hx hb hE hW hS q9 q10 dX2_finishStage_40 (fun H locs hW hS => ?_)
        refine lv_aload_n hx hb dX2_finishStage_41 rfl (lv_at hl 0 rfl) ?_
        refine gf_X2_28 hx hb hts hown hE hW q3 dX2_finishStage_42 ?_
        refine lv_aload_n hx hb dX2_finishStage_45 rfl (lv_at hl 0 rfl) ?_
        obtain ⟨r11, hr11, hcf⟩ := ob hcf
        refine gf_X2_17 hx hb hts hown hE hW q3 hr11 dX2_finishStage_46 ?_
        refine lv_iload_n hx hb dX2_finishStage_49 rfl (lv_at hl 1 rfl) ?_
        obtain ⟨q12, hcf⟩ := og hcf
        obtain ⟨q13, hcf⟩ := og hcf
        refine wk_iald hx hb hE hW q12 q13 dX2_finishStage_50 ?_
        refine lv_isub hx hb dX2_finishStage_51 ?_
        have hcf := Option.some.inj hcf; subst hcf
        exact wk_iret hx hb hr hlocks hW hS dX2_finishStage_52
      · replace hcf := (if_neg q7).symm.trans hcf
        refine lv_ldc hx hb hown (hts _ q249) dX2_finishStage_28 ?_
        have hcf := Option.some.inj hcf; subst hcf
        exact wk_iret hx hb hr hlocks hW hS dX2_finishStage_30
  · replace hcf := (if_pos q2).symm.trans hcf
    refine lv_ldc hx hb hown (hts _ q244) dX2_finishStage_9 ?_
    have hcf := Option.some.inj hcf; subst hcf
    exact wk_iret hx hb hr hlocks hW hS dX2_finishStage_11
set_option maxHeartbeats 4000000 in
set_option maxRecDepth 100000 in
theorem ct_X2_applyFor (l : Launch) (D : va_G) (cy : Nat → ClassId) (z n : Nat) (Y : mY) (V : mV) (G : mG) (a0 : Nat) (b1 : Int32) (b2 : Int32) (x : Int32 × mV) (hcf : cf_X2_applyFor Y V G a0 b1 b2 = some x) : CT l yX2_applyFor cX2_applyFor 4 (some .int) (rmd 1) D cy z [.ref a0, .int b1, .int b2] Y n V G (some (.int x.1)) Y n x.2 G := by
  refine ct_of (by decide) (Nat.le_of_ble_eq_true rfl) ?_
  intro p e s m args below meth c ls hx hb hr hml hown hts hlocks hnm hE hW hl
  have hS : va_S (zA z) s.heap s.heap [] := va_S.rf
  have hl : lv_has ls 4 [(0, .ref a0), (1, .int b1), (2, .int b2)] := hl
  have hown : s.vm.findClass RX2 = some m.cls := hown
  rw [cf_X2_applyFor] at hcf
  refine lv_aload_n hx hb dX2_applyFor_0 rfl (lv_at hl 0 rfl) ?_
  refine lv_iload_n hx hb dX2_applyFor_1 rfl (lv_at hl 1 rfl) ?_
  obtain ⟨q1, hcf⟩ := og hcf
  obtain ⟨x2, hx2, hcf⟩ := ob hcf
  refine iv_X2_111 (As := [.int b1]) (rest := []) hx hb hml hown hts hE (ct_X2_hasCondition l D cy z n Y V G a0 b1 x2 hx2) hW hS q1 rfl rfl hl.1 (Nat.le_of_ble_eq_true rfl) ⟨Nat.le_of_ble_eq_true rfl, Nat.le_of_ble_eq_true rfl⟩ dX2_applyFor_2 ⟨Nat.zero_le _, Nat.zero_le _⟩ (fun H locs hW hS => ?_)
  refine lv_if_ne (tgt := 11) hx hb dX2_applyFor_5 (by decide) (fun q3 => ?_) (fun q3 => ?_)
  · replace hcf := (if_neg q3).symm.trans hcf
    refine lv_aload_n hx hb dX2_applyFor_11 rfl (lv_at hl 0 rfl) ?_
    obtain ⟨r4, hr4, hcf⟩ := ob hcf
    refine gf_X2_11 hx hb hts hown hE hW q1 hr4 dX2_applyFor_12 ?_
    refine lv_iload_n hx hb dX2_applyFor_15 rfl (lv_at hl 1 rfl) ?_
    obtain ⟨q5, hcf⟩ := og hcf
    obtain ⟨q6, hcf⟩ := og hcf
    obtain ⟨r7, hr7, hcf⟩ := ob hcf
    refine wk_aald hx hb hE hW q5 q6 hr7 dX2_applyFor_16 ?_
    refine lv_astore_n (lv' := [(3, .ref r7), (0, .ref a0), (1, .int b1), (2, .int b2)]) hx hb dX2_applyFor_17 rfl hl (by decide) rfl (fun ls hl => ?_)
    refine lv_iload_n hx hb dX2_applyFor_18 rfl (lv_at hl 3 rfl) ?_
    refine lv_if_eq (tgt := 30) hx hb dX2_applyFor_19 (by decide) (fun q8 => ?_) (fun q8 => ?_)
    · replace hcf := (if_pos q8).symm.trans hcf
      refine lv_ldc hx hb hown (hts _ q244) dX2_applyFor_30 ?_
      have hcf := Option.some.inj hcf; subst hcf
      exact wk_iret hx hb hr hlocks hW hS dX2_applyFor_32
    · replace hcf := (if_neg q8).symm.trans hcf
      refine lv_aload_n hx hb dX2_applyFor_22 rfl (lv_at hl 0 rfl) ?_
      refine lv_iload_n hx hb dX2_applyFor_23 rfl (lv_at hl 3 rfl) ?_
      obtain ⟨q9, hcf⟩ := og hcf
      obtain ⟨x10, hx10, hcf⟩ := ob hcf
      refine iv_X2_114 (As := [.int b2]) (rest := []) hx hb hml hown hts hE (ct_X0_isPartsSet l D cy z n Y V G r7 b2 x10 hx10) hW hS q9 rfl rfl hl.1 (Nat.le_of_ble_eq_true rfl) ⟨Nat.le_of_ble_eq_true rfl, Nat.le_of_ble_eq_true rfl⟩ dX2_applyFor_24 ⟨Nat.zero_le _, Nat.zero_le _⟩ (fun H locs hW hS => ?_)
      refine lv_if_ne (tgt := 33) hx hb dX2_applyFor_27 (by decide) (fun q11 => ?_) (fun q11 => ?_)
      · replace hcf := (if_neg q11).symm.trans hcf
        refine lv_aload_n hx hb dX2_applyFor_33 rfl (lv_at hl 0 rfl) ?_
        refine gf_X2_70 hx hb hts hown hE hW q9 dX2_applyFor_34 ?_
        refine lv_iconst (v := (2 : Int32)) hx hb dX2_applyFor_37 (by decide) ?_
        refine lv_icmp_eq (tgt := 57) hx hb dX2_applyFor_38 (by decide) (fun q12 => ?_) (fun q12 => ?_)
        · replace hcf := (if_pos q12).symm.trans hcf
          refine lv_ldc hx hb hown (hts _ q249) dX2_applyFor_57 ?_
          have hcf := Option.some.inj hcf; subst hcf
          exact wk_iret hx hb hr hlocks hW hS dX2_applyFor_59
        · replace hcf := (if_neg q12).symm.trans hcf
          refine lv_aload_n hx hb dX2_applyFor_41 rfl (lv_at hl 0 rfl) ?_
          refine gf_X2_117 hx hb hts hown hE hW q9 dX2_applyFor_42 ?_
          refine lv_if_ne (tgt := 57) hx hb dX2_applyFor_45 (by decide) (fun q13 => ?_) (fun q13 => ?_)
          · replace hcf := (if_neg q13).symm.trans hcf
            refine lv_ldc hx hb hown (hts _ q249) dX2_applyFor_57 ?_
            have hcf := Option.some.inj hcf; subst hcf
            exact wk_iret hx hb hr hlocks hW hS dX2_applyFor_59
          · replace hcf := (if_pos q13).symm.trans hcf
            refine lv_aload_n hx hb dX2_applyFor_48 rfl (lv_at hl 0 rfl) ?_
            refine gf_X2_83 hx hb hts hown hE hW q9 dX2_applyFor_49 ?_
            refine lv_iload_n hx hb dX2_applyFor_52 rfl (lv_at hl 3 rfl) ?_
            refine lv_iand hx hb dX2_applyFor_53 ?_
            refine lv_if_eq (tgt := 60) hx hb dX2_applyFor_54 (by decide) (fun q14 => ?_) (fun q14 => ?_)
            · replace hcf := (if_pos q14).symm.trans hcf
              refine lv_aload_n hx hb dX2_applyFor_60 rfl (lv_at hl 0 rfl) ?_
              refine lv_iload_n hx hb dX2_applyFor_61 rfl (lv_at hl 3 rfl) ?_
              refine pf_X2_117 hx hb hts hown hE hW hS q9 b2 dX2_applyFor_62 (fun H locs hW hS => ?_)
              refine lv_aload_n hx hb dX2_applyFor_65 rfl (lv_at hl 0 rfl) ?_
              refine lv_iconst (v := (0 : Int32)) hx hb dX2_applyFor_66 (by decide) ?_
              refine pf_X2_120 hx hb hts hown hE hW hS q9 (0 : Int32) dX2_applyFor_67 (fun H locs hW hS => ?_)
              refine lv_aload_n hx hb dX2_applyFor_70 rfl (lv_at hl 1 rfl) ?_
              refine gf_X2_37 hx hb hts hown hE hW q1 dX2_applyFor_71 ?_
              have hcf := Option.some.inj hcf; subst hcf
              exact wk_iret hx hb hr hlocks hW hS dX2_applyFor_74
            · replace hcf := (if_neg q14).symm.trans hcf
              refine lv_ldc hx hb hown (hts _ q249) dX2_applyFor_57 ?_
              have hcf := Option.some.inj hcf; subst hcf
              exact wk_iret hx hb hr hlocks hW hS dX2_applyFor_59
      · replace hcf := (if_pos q11).symm.trans hcf
        refine lv_ldc hx hb hown (hts _ q244) dX2_applyFor_30 ?_
        have hcf := Option.some.inj hcf; subst hcf
        exact wk_iret hx hb hr hlocks hW hS dX2_applyFor_32
  · replace hcf := (if_pos q3).symm.trans hcf
    refine lv_ldc hx hb hown (hts _ q244) dX2_applyFor_8 ?_
    have hcf := Option.some.inj hcf; subst hcf
    exact wk_iret hx hb hr hlocks hW hS dX2_applyFor_10
set_option maxHeartbeats 4000000 in
set_option maxRecDepth 100000 in
theorem ct_X2_decideOn (l : Launch) (D : va_G) (cy : Nat → ClassId) (z n : Nat) (Y : mY) (V : mV) (G : mG) (a0 : Nat) (b1 : Int32) (b2 : Int32) (x : Int32 × mV) (hcf : cf_X2_decideOn Y V G a0 b1 b2 = some x) : CT l yX2_decideOn cX2_decideOn 4 (some .int) (rmd 2) D cy z [.ref a0, .int b1, .int b2] Y n V G (some (.int x.1)) Y n x.2 G := by
  refine ct_of (by decide) (Nat.le_of_ble_eq_true rfl) ?_
  intro p e s m args below meth c ls hx hb hr hml hown hts hlocks hnm hE hW hl
  have hS : va_S (zA z) s.heap s.heap [] := va_S.rf
  have hl : lv_has ls 4 [(0, .ref a0), (1, .int b1), (2, .int b2)] := hl
  have hown : s.vm.findClass RX2 = some m.cls := hown
  rw [cf_X2_decideOn] at hcf
  refine lv_aload_n hx hb dX2_decideOn_0 rfl (lv_at hl 0 rfl) ?_
  refine lv_iload_n hx hb dX2_decideOn_1 rfl (lv_at hl 1 rfl) ?_
  obtain ⟨q1, hcf⟩ := og hcf
  obtain ⟨x2, hx2, hcf⟩ := ob hcf
  refine iv_X2_111 (As := [.int b1]) (rest := []) hx hb hml hown hts hE (ct_X2_hasCondition l D cy z n Y V G a0 b1 x2 hx2) hW hS q1 rfl rfl hl.1 (Nat.le_of_ble_eq_true rfl) ⟨Nat.le_of_ble_eq_true rfl, Nat.le_of_ble_eq_true rfl⟩ dX2_decideOn_2 ⟨Nat.zero_le _, Nat.zero_le _⟩ (fun H locs hW hS => ?_)
  refine lv_if_ne (tgt := 11) hx hb dX2_decideOn_5 (by decide) (fun q3 => ?_) (fun q3 => ?_)
  · replace hcf := (if_neg q3).symm.trans hcf
    refine lv_aload_n hx hb dX2_decideOn_11 rfl (lv_at hl 0 rfl) ?_
    obtain ⟨r4, hr4, hcf⟩ := ob hcf
    refine gf_X2_11 hx hb hts hown hE hW q1 hr4 dX2_decideOn_12 ?_
    refine lv_iload_n hx hb dX2_decideOn_15 rfl (lv_at hl 1 rfl) ?_
    obtain ⟨q5, hcf⟩ := og hcf
    obtain ⟨q6, hcf⟩ := og hcf
    obtain ⟨r7, hr7, hcf⟩ := ob hcf
    refine wk_aald hx hb hE hW q5 q6 hr7 dX2_decideOn_16 ?_
    refine lv_astore_n (lv' := [(3, .ref r7), (0, .ref a0), (1, .int b1), (2, .int b2)]) hx hb dX2_decideOn_17 rfl hl (by decide) rfl (fun ls hl => ?_)
    refine lv_aload_n hx hb dX2_decideOn_18 rfl (lv_at hl 0 rfl) ?_
    refine lv_iload_n hx hb dX2_decideOn_19 rfl (lv_at hl 3 rfl) ?_
    obtain ⟨q8, hcf⟩ := og hcf
    obtain ⟨x9, hx9, hcf⟩ := ob hcf
    refine iv_X2_114 (As := [.int b2]) (rest := []) hx hb hml hown hts hE (ct_X0_isPartsSet l D cy z n Y V G r7 b2 x9 hx9) hW hS q8 rfl rfl hl.1 (Nat.le_of_ble_eq_true rfl) ⟨Nat.le_of_ble_eq_true rfl, Nat.le_of_ble_eq_true rfl⟩ dX2_decideOn_20 ⟨Nat.zero_le _, Nat.zero_le _⟩ (fun H locs hW hS => ?_)
    refine lv_if_ne (tgt := 29) hx hb dX2_decideOn_23 (by decide) (fun q10 => ?_) (fun q10 => ?_)
    · replace hcf := (if_neg q10).symm.trans hcf
      refine lv_aload_n hx hb dX2_decideOn_29 rfl (lv_at hl 0 rfl) ?_
      refine gf_X2_117 hx hb hts hown hE hW q8 dX2_decideOn_30 ?_
      refine lv_if_eq (tgt := 47) hx hb dX2_decideOn_33 (by decide) (fun q11 => ?_) (fun q11 => ?_)
      · replace hcf := (if_pos q11).symm.trans hcf
        refine lv_ldc hx hb hown (hts _ q249) dX2_decideOn_47 ?_
        have hcf := Option.some.inj hcf; subst hcf
        exact wk_iret hx hb hr hlocks hW hS dX2_decideOn_49
      · replace hcf := (if_neg q11).symm.trans hcf
        refine lv_iload_n hx hb dX2_decideOn_36 rfl (lv_at hl 3 rfl) ?_
        refine lv_aload_n hx hb dX2_decideOn_37 rfl (lv_at hl 0 rfl) ?_
        refine gf_X2_117 hx hb hts hown hE hW q8 dX2_decideOn_38 ?_
        refine lv_iconst (v := (-1 : Int32)) hx hb dX2_decideOn_41 (by decide) ?_
        refine lv_ixor hx hb dX2_decideOn_42 ?_
        refine lv_iand hx hb dX2_decideOn_43 ?_
        refine lv_if_eq (tgt := 50) hx hb dX2_decideOn_44 (by decide) (fun q12 => ?_) (fun q12 => ?_)
        · replace hcf := (if_pos q12).symm.trans hcf
          refine lv_aload_n hx hb dX2_decideOn_50 rfl (lv_at hl 0 rfl) ?_
          refine lv_iload_n hx hb dX2_decideOn_51 rfl (lv_at hl 3 rfl) ?_
          obtain ⟨x13, hx13, hcf⟩ := ob hcf
          refine iv_X2_123 (As := [.int b2]) (rest := []) hx hb hml hown hts hE (ct_X0_approve l D cy z n Y V G r7 b2 x13 hx13) hW hS q8 rfl rfl hl.1 (Nat.le_of_ble_eq_true rfl) ⟨Nat.le_of_ble_eq_true rfl, Nat.le_of_ble_eq_true rfl⟩ dX2_decideOn_52 ⟨Nat.zero_le _, Nat.zero_le _⟩ (fun H locs hW hS => ?_)
          refine lv_aload_n hx hb dX2_decideOn_55 rfl (lv_at hl 0 rfl) ?_
          refine gf_X2_80 hx hb hts hown hE hW q8 dX2_decideOn_56 ?_
          refine lv_aload_n hx hb dX2_decideOn_59 rfl (lv_at hl 0 rfl) ?_
          refine gf_X2_83 hx hb hts hown hE hW q8 dX2_decideOn_60 ?_
          obtain ⟨x14, hx14, hcf⟩ := ob hcf
          refine iv_X2_86 (As := [.int (x13 r7 4)]) (rest := [.int (x13 r7 3)]) hx hb hml hown hts hE (ct_J6_bitCount_0f7a4 l D cy z n Y x13 G (x13 r7 4) x14 hx14) hW hS rfl rfl hl.1 (Nat.le_of_ble_eq_true rfl) ⟨Nat.le_of_ble_eq_true rfl, Nat.le_of_ble_eq_true rfl⟩ dX2_decideOn_63 ⟨Nat.zero_le _, Nat.zero_le _⟩ (fun H locs hW hS => ?_)
          refine lv_isub hx hb dX2_decideOn_66 ?_
          have hcf := Option.some.inj hcf; subst hcf
          exact wk_iret hx hb hr hlocks hW hS dX2_decideOn_67
        · replace hcf := (if_neg q12).symm.trans hcf
          refine lv_ldc hx hb hown (hts _ q249) dX2_decideOn_47 ?_
          have hcf := Option.some.inj hcf; subst hcf
          exact wk_iret hx hb hr hlocks hW hS dX2_decideOn_49
    · replace hcf := (if_pos q10).symm.trans hcf
      refine lv_ldc hx hb hown (hts _ q244) dX2_decideOn_26 ?_
      have hcf := Option.some.inj hcf; subst hcf
      exact wk_iret hx hb hr hlocks hW hS dX2_decideOn_28
  · replace hcf := (if_pos q3).symm.trans hcf
    refine lv_ldc hx hb hown (hts _ q244) dX2_decideOn_8 ?_
    have hcf := Option.some.inj hcf; subst hcf
    exact wk_iret hx hb hr hlocks hW hS dX2_decideOn_10
set_option maxHeartbeats 4000000 in
set_option maxRecDepth 100000 in
theorem ct_X2_lapseOf (l : Launch) (D : va_G) (cy : Nat → ClassId) (z n : Nat) (Y : mY) (V : mV) (G : mG) (a0 : Nat) (b1 : Int32) (x : Int32 × mV) (hcf : cf_X2_lapseOf Y V G a0 b1 = some x) : CT l yX2_lapseOf cX2_lapseOf 3 (some .int) (rmd 3) D cy z [.ref a0, .int b1] Y n V G (some (.int x.1)) Y n x.2 G := by
  refine ct_of (by decide) (Nat.le_of_ble_eq_true rfl) ?_
  intro p e s m args below meth c ls hx hb hr hml hown hts hlocks hnm hE hW hl
  have hS : va_S (zA z) s.heap s.heap [] := va_S.rf
  have hl : lv_has ls 3 [(0, .ref a0), (1, .int b1)] := hl
  have hown : s.vm.findClass RX2 = some m.cls := hown
  rw [cf_X2_lapseOf] at hcf
  refine lv_aload_n hx hb dX2_lapseOf_0 rfl (lv_at hl 0 rfl) ?_
  refine lv_iload_n hx hb dX2_lapseOf_1 rfl (lv_at hl 1 rfl) ?_
  obtain ⟨q1, hcf⟩ := og hcf
  obtain ⟨x2, hx2, hcf⟩ := ob hcf
  refine iv_X2_111 (As := [.int b1]) (rest := []) hx hb hml hown hts hE (ct_X2_hasCondition l D cy z n Y V G a0 b1 x2 hx2) hW hS q1 rfl rfl hl.1 (Nat.le_of_ble_eq_true rfl) ⟨Nat.le_of_ble_eq_true rfl, Nat.le_of_ble_eq_true rfl⟩ dX2_lapseOf_2 ⟨Nat.zero_le _, Nat.zero_le _⟩ (fun H locs hW hS => ?_)
  refine lv_if_ne (tgt := 11) hx hb dX2_lapseOf_5 (by decide) (fun q3 => ?_) (fun q3 => ?_)
  · replace hcf := (if_neg q3).symm.trans hcf
    refine lv_aload_n hx hb dX2_lapseOf_11 rfl (lv_at hl 0 rfl) ?_
    obtain ⟨r4, hr4, hcf⟩ := ob hcf
    refine gf_X2_11 hx hb hts hown hE hW q1 hr4 dX2_lapseOf_12 ?_
    refine lv_iload_n hx hb dX2_lapseOf_15 rfl (lv_at hl 1 rfl) ?_
    obtain ⟨q5, hcf⟩ := og hcf
    obtain ⟨q6, hcf⟩ := og hcf
    obtain ⟨r7, hr7, hcf⟩ := ob hcf
    refine wk_aald hx hb hE hW q5 q6 hr7 dX2_lapseOf_16 ?_
    refine lv_astore_n (lv' := [(2, .ref r7), (0, .ref a0), (1, .int b1)]) hx hb dX2_lapseOf_17 rfl hl (by decide) rfl (fun ls hl => ?_)
    refine lv_aload_n hx hb dX2_lapseOf_18 rfl (lv_at hl 0 rfl) ?_
    obtain ⟨q8, hcf⟩ := og hcf
    refine gf_X2_70 hx hb hts hown hE hW q8 dX2_lapseOf_19 ?_
    refine lv_iconst (v := (2 : Int32)) hx hb dX2_lapseOf_22 (by decide) ?_
    refine lv_icmp_ne (tgt := 35) hx hb dX2_lapseOf_23 (by decide) (fun q9 => ?_) (fun q9 => ?_)
    · replace hcf := (if_neg q9).symm.trans hcf
      refine lv_ldc hx hb hown (hts _ q249) dX2_lapseOf_35 ?_
      have hcf := Option.some.inj hcf; subst hcf
      exact wk_iret hx hb hr hlocks hW hS dX2_lapseOf_37
    · replace hcf := (if_pos q9).symm.trans hcf
      refine lv_aload_n hx hb dX2_lapseOf_26 rfl (lv_at hl 1 rfl) ?_
      refine lv_aload_n hx hb dX2_lapseOf_27 rfl (lv_at hl 0 rfl) ?_
      obtain ⟨x10, hx10, hcf⟩ := ob hcf
      refine iv_X2_76 (As := [.ref r7]) (rest := []) hx hb hml hown hts hE (ct_X2_stateOf l D cy z n Y V G a0 r7 x10 hx10) hW hS q1 rfl rfl hl.1 (Nat.le_of_ble_eq_true rfl) ⟨Nat.le_of_ble_eq_true rfl, Nat.le_of_ble_eq_true rfl⟩ dX2_lapseOf_28 ⟨Nat.zero_le _, Nat.zero_le _⟩ (fun H locs hW hS => ?_)
      refine lv_iconst (v := (1 : Int32)) hx hb dX2_lapseOf_31 (by decide) ?_
      refine lv_icmp_eq (tgt := 38) hx hb dX2_lapseOf_32 (by decide) (fun q11 => ?_) (fun q11 => ?_)
      · replace hcf := (if_pos q11).symm.trans hcf
        refine lv_aload_n hx hb dX2_lapseOf_38 rfl (lv_at hl 1 rfl) ?_
        refine lv_aload_n hx hb dX2_lapseOf_39 rfl (lv_at hl 0 rfl) ?_
        obtain ⟨x12, hx12, hcf⟩ := ob hcf
        refine iv_X2_108 (As := [.ref r7]) (rest := []) hx hb hml hown hts hE (ct_X2_startBreach l D cy z n Y V G a0 r7 x12 hx12) hW hS q1 rfl rfl hl.1 (Nat.le_of_ble_eq_true rfl) ⟨Nat.le_of_ble_eq_true rfl, Nat.le_of_ble_eq_true rfl⟩ dX2_lapseOf_40 ⟨Nat.zero_le _, Nat.zero_le _⟩ (fun H locs hW hS => ?_)
        refine lv_aload_n hx hb dX2_lapseOf_43 rfl (lv_at hl 0 rfl) ?_
        refine gf_X2_127 hx hb hts hown hE hW q8 dX2_lapseOf_44 ?_
        have hcf := Option.some.inj hcf; subst hcf
        exact wk_iret hx hb hr hlocks hW hS dX2_lapseOf_47
      · replace hcf := (if_neg q11).symm.trans hcf
        refine lv_ldc hx hb hown (hts _ q249) dX2_lapseOf_35 ?_
        have hcf := Option.some.inj hcf; subst hcf
        exact wk_iret hx hb hr hlocks hW hS dX2_lapseOf_37
  · replace hcf := (if_pos q3).symm.trans hcf
    refine lv_ldc hx hb hown (hts _ q244) dX2_lapseOf_8 ?_
    have hcf := Option.some.inj hcf; subst hcf
    exact wk_iret hx hb hr hlocks hW hS dX2_lapseOf_10
set_option maxHeartbeats 4000000 in
set_option maxRecDepth 100000 in
theorem ct_X2_cureOf (l : Launch) (D : va_G) (cy : Nat → ClassId) (z n : Nat) (Y : mY) (V : mV) (G : mG) (a0 : Nat) (b1 : Int32) (x : Int32 × mV) (hcf : cf_X2_cureOf Y V G a0 b1 = some x) : CT l yX2_cureOf cX2_cureOf 4 (some .int) (rmd 3) D cy z [.ref a0, .int b1] Y n V G (some (.int x.1)) Y n x.2 G := by
  refine ct_of (by decide) (Nat.le_of_ble_eq_true rfl) ?_
  intro p e s m args below meth c ls hx hb hr hml hown hts hlocks hnm hE hW hl
  have hS : va_S (zA z) s.heap s.heap [] := va_S.rf
  have hl : lv_has ls 4 [(0, .ref a0), (1, .int b1)] := hl
  have hown : s.vm.findClass RX2 = some m.cls := hown
  rw [cf_X2_cureOf] at hcf
  refine lv_aload_n hx hb dX2_cureOf_0 rfl (lv_at hl 0 rfl) ?_
  refine lv_iload_n hx hb dX2_cureOf_1 rfl (lv_at hl 1 rfl) ?_
  obtain ⟨q1, hcf⟩ := og hcf
  obtain ⟨x2, hx2, hcf⟩ := ob hcf
  refine iv_X2_111 (As := [.int b1]) (rest := []) hx hb hml hown hts hE (ct_X2_hasCondition l D cy z n Y V G a0 b1 x2 hx2) hW hS q1 rfl rfl hl.1 (Nat.le_of_ble_eq_true rfl) ⟨Nat.le_of_ble_eq_true rfl, Nat.le_of_ble_eq_true rfl⟩ dX2_cureOf_2 ⟨Nat.zero_le _, Nat.zero_le _⟩ (fun H locs hW hS => ?_)
  refine lv_if_ne (tgt := 11) hx hb dX2_cureOf_5 (by decide) (fun q3 => ?_) (fun q3 => ?_)
  · replace hcf := (if_neg q3).symm.trans hcf
    refine lv_aload_n hx hb dX2_cureOf_11 rfl (lv_at hl 0 rfl) ?_
    obtain ⟨r4, hr4, hcf⟩ := ob hcf
    refine gf_X2_11 hx hb hts hown hE hW q1 hr4 dX2_cureOf_12 ?_
    refine lv_iload_n hx hb dX2_cureOf_15 rfl (lv_at hl 1 rfl) ?_
    obtain ⟨q5, hcf⟩ := og hcf
    obtain ⟨q6, hcf⟩ := og hcf
    obtain ⟨r7, hr7, hcf⟩ := ob hcf
    refine wk_aald hx hb hE hW q5 q6 hr7 dX2_cureOf_16 ?_
    refine lv_astore_n (lv' := [(2, .ref r7), (0, .ref a0), (1, .int b1)]) hx hb dX2_cureOf_17 rfl hl (by decide) rfl (fun ls hl => ?_)
    refine lv_aload_n hx hb dX2_cureOf_18 rfl (lv_at hl 0 rfl) ?_
    obtain ⟨q8, hcf⟩ := og hcf
    refine gf_X2_70 hx hb hts hown hE hW q8 dX2_cureOf_19 ?_
    refine lv_iconst (v := (2 : Int32)) hx hb dX2_cureOf_22 (by decide) ?_
    refine lv_icmp_ne (tgt := 35) hx hb dX2_cureOf_23 (by decide) (fun q9 => ?_) (fun q9 => ?_)
    · replace hcf := (if_neg q9).symm.trans hcf
      refine lv_ldc hx hb hown (hts _ q249) dX2_cureOf_35 ?_
      have hcf := Option.some.inj hcf; subst hcf
      exact wk_iret hx hb hr hlocks hW hS dX2_cureOf_37
    · replace hcf := (if_pos q9).symm.trans hcf
      refine lv_aload_n hx hb dX2_cureOf_26 rfl (lv_at hl 1 rfl) ?_
      refine lv_aload_n hx hb dX2_cureOf_27 rfl (lv_at hl 0 rfl) ?_
      obtain ⟨x10, hx10, hcf⟩ := ob hcf
      refine iv_X2_76 (As := [.ref r7]) (rest := []) hx hb hml hown hts hE (ct_X2_stateOf l D cy z n Y V G a0 r7 x10 hx10) hW hS q1 rfl rfl hl.1 (Nat.le_of_ble_eq_true rfl) ⟨Nat.le_of_ble_eq_true rfl, Nat.le_of_ble_eq_true rfl⟩ dX2_cureOf_28 ⟨Nat.zero_le _, Nat.zero_le _⟩ (fun H locs hW hS => ?_)
      refine lv_iconst (v := (3 : Int32)) hx hb dX2_cureOf_31 (by decide) ?_
      refine lv_icmp_eq (tgt := 38) hx hb dX2_cureOf_32 (by decide) (fun q11 => ?_) (fun q11 => ?_)
      · replace hcf := (if_pos q11).symm.trans hcf
        refine lv_aload_n hx hb dX2_cureOf_38 rfl (lv_at hl 0 rfl) ?_
        refine gf_X2_130 hx hb hts hown hE hW q8 dX2_cureOf_39 ?_
        refine lv_istore_n (lv' := [(3, .int (V r7 10)), (2, .ref r7), (0, .ref a0), (1, .int b1)]) hx hb dX2_cureOf_42 rfl hl (by decide) rfl (fun ls hl => ?_)
        refine lv_aload_n hx hb dX2_cureOf_43 rfl (lv_at hl 1 rfl) ?_
        obtain ⟨x12, hx12, hcf⟩ := ob hcf
        refine iv_X2_133 (As := []) (rest := []) hx hb hml hown hts hE (ct_X0_endBreach l D cy z n Y V G r7 x12 hx12) hW hS q8 rfl rfl hl.1 (Nat.le_of_ble_eq_true rfl) ⟨Nat.le_of_ble_eq_true rfl, Nat.le_of_ble_eq_true rfl⟩ dX2_cureOf_44 ⟨Nat.zero_le _, Nat.zero_le _⟩ (fun H locs hW hS => ?_)
        refine lv_iload_n hx hb dX2_cureOf_47 rfl (lv_at hl 0 rfl) ?_
        have hcf := Option.some.inj hcf; subst hcf
        exact wk_iret hx hb hr hlocks hW hS dX2_cureOf_48
      · replace hcf := (if_neg q11).symm.trans hcf
        refine lv_ldc hx hb hown (hts _ q249) dX2_cureOf_35 ?_
        have hcf := Option.some.inj hcf; subst hcf
        exact wk_iret hx hb hr hlocks hW hS dX2_cureOf_37
  · replace hcf := (if_pos q3).symm.trans hcf
    refine lv_ldc hx hb hown (hts _ q244) dX2_cureOf_8 ?_
    have hcf := Option.some.inj hcf; subst hcf
    exact wk_iret hx hb hr hlocks hW hS dX2_cureOf_10
set_option maxHeartbeats 4000000 in
set_option maxRecDepth 100000 in
theorem ct_X2_serveOn (l : Launch) (D : va_G) (cy : Nat → ClassId) (z n : Nat) (Y : mY) (V : mV) (G : mG) (a0 : Nat) (b1 : Int32) (b2 : Int32) (x : Int32 × mV) (hcf : cf_X2_serveOn Y V G a0 b1 b2 = some x) : CT l yX2_serveOn cX2_serveOn 4 (some .int) (rmd 3) D cy z [.ref a0, .int b1, .int b2] Y n V G (some (.int x.1)) Y n x.2 G := by
  refine ct_of (by decide) (Nat.le_of_ble_eq_true rfl) ?_
  intro p e s m args below meth c ls hx hb hr hml hown hts hlocks hnm hE hW hl
  have hS : va_S (zA z) s.heap s.heap [] := va_S.rf
  have hl : lv_has ls 4 [(0, .ref a0), (1, .int b1), (2, .int b2)] := hl
  have hown : s.vm.findClass RX2 = some m.cls := hown
  rw [cf_X2_serveOn] at hcf
  refine lv_aload_n hx hb dX2_serveOn_0 rfl (lv_at hl 0 rfl) ?_
  refine lv_iload_n hx hb dX2_serveOn_1 rfl (lv_at hl 1 rfl) ?_
  obtain ⟨q1, hcf⟩ := og hcf
  obtain ⟨x2, hx2, hcf⟩ := ob hcf
  refine iv_X2_111 (As := [.int b1]) (rest := []) hx hb hml hown hts hE (ct_X2_hasCondition l D cy z n Y V G a0 b1 x2 hx2) hW hS q1 rfl rfl hl.1 (Nat.le_of_ble_eq_true rfl) ⟨Nat.le_of_ble_eq_true rfl, Nat.le_of_ble_eq_true rfl⟩ dX2_serveOn_2 ⟨Nat.zero_le _, Nat.zero_le _⟩ (fun H locs hW hS => ?_)
  refine lv_if_eq (tgt := 18) hx hb dX2_serveOn_5 (by decide) (fun q3 => ?_) (fun q3 => ?_)
  · replace hcf := (if_pos q3).symm.trans hcf
    refine lv_ldc hx hb hown (hts _ q244) dX2_serveOn_18 ?_
    have hcf := Option.some.inj hcf; subst hcf
    exact wk_iret hx hb hr hlocks hW hS dX2_serveOn_20
  · replace hcf := (if_neg q3).symm.trans hcf
    refine lv_iload_n hx hb dX2_serveOn_8 rfl (lv_at hl 2 rfl) ?_
    refine lv_iconst (v := (1 : Int32)) hx hb dX2_serveOn_9 (by decide) ?_
    refine lv_bipush (v := (99 : Int32)) hx hb dX2_serveOn_10 (by decide) ?_
    obtain ⟨x4, hx4, hcf⟩ := ob hcf
    refine iv_X2_48 (As := [.int b2, .int (1 : Int32), .int (99 : Int32)]) (rest := []) hx hb hml hown hts hE (ct_X3_isWithin l D cy z n Y V G b2 (1 : Int32) (99 : Int32) x4 hx4) hW hS rfl rfl hl.1 (Nat.le_of_ble_eq_true rfl) ⟨Nat.le_of_ble_eq_true rfl, Nat.le_of_ble_eq_true rfl⟩ dX2_serveOn_12 ⟨Nat.zero_le _, Nat.zero_le _⟩ (fun H locs hW hS => ?_)
    refine lv_if_ne (tgt := 21) hx hb dX2_serveOn_15 (by decide) (fun q5 => ?_) (fun q5 => ?_)
    · replace hcf := (if_neg q5).symm.trans hcf
      refine lv_aload_n hx hb dX2_serveOn_21 rfl (lv_at hl 0 rfl) ?_
      obtain ⟨r6, hr6, hcf⟩ := ob hcf
      refine gf_X2_11 hx hb hts hown hE hW q1 hr6 dX2_serveOn_22 ?_
      refine lv_iload_n hx hb dX2_serveOn_25 rfl (lv_at hl 1 rfl) ?_
      obtain ⟨q7, hcf⟩ := og hcf
      obtain ⟨q8, hcf⟩ := og hcf
      obtain ⟨r9, hr9, hcf⟩ := ob hcf
      refine wk_aald hx hb hE hW q7 q8 hr9 dX2_serveOn_26 ?_
      refine lv_astore_n (lv' := [(3, .ref r9), (0, .ref a0), (1, .int b1), (2, .int b2)]) hx hb dX2_serveOn_27 rfl hl (by decide) rfl (fun ls hl => ?_)
      refine lv_aload_n hx hb dX2_serveOn_28 rfl (lv_at hl 1 rfl) ?_
      refine lv_aload_n hx hb dX2_serveOn_29 rfl (lv_at hl 0 rfl) ?_
      obtain ⟨x10, hx10, hcf⟩ := ob hcf
      refine iv_X2_76 (As := [.ref r9]) (rest := []) hx hb hml hown hts hE (ct_X2_stateOf l D cy z n Y V G a0 r9 x10 hx10) hW hS q1 rfl rfl hl.1 (Nat.le_of_ble_eq_true rfl) ⟨Nat.le_of_ble_eq_true rfl, Nat.le_of_ble_eq_true rfl⟩ dX2_serveOn_30 ⟨Nat.zero_le _, Nat.zero_le _⟩ (fun H locs hW hS => ?_)
      refine lv_iconst (v := (3 : Int32)) hx hb dX2_serveOn_33 (by decide) ?_
      refine lv_icmp_eq (tgt := 40) hx hb dX2_serveOn_34 (by decide) (fun q11 => ?_) (fun q11 => ?_)
      · replace hcf := (if_pos q11).symm.trans hcf
        refine lv_aload_n hx hb dX2_serveOn_40 rfl (lv_at hl 0 rfl) ?_
        refine lv_iconst (v := (1 : Int32)) hx hb dX2_serveOn_41 (by decide) ?_
        obtain ⟨q12, hcf⟩ := og hcf
        refine pf_X2_136 hx hb hts hown hE hW hS q12 (1 : Int32) (by decide) dX2_serveOn_42 (fun H locs hW hS => ?_)
        refine lv_aload_n hx hb dX2_serveOn_45 rfl (lv_at hl 0 rfl) ?_
        refine lv_iload_n hx hb dX2_serveOn_46 rfl (lv_at hl 3 rfl) ?_
        refine pf_X2_139 hx hb hts hown hE hW hS q12 b2 dX2_serveOn_47 (fun H locs hW hS => ?_)
        refine lv_aload_n hx hb dX2_serveOn_50 rfl (lv_at hl 0 rfl) ?_
        refine gf_X2_130 hx hb hts hown hE hW q12 dX2_serveOn_51 ?_
        have hcf := Option.some.inj hcf; subst hcf
        exact wk_iret hx hb hr hlocks hW hS dX2_serveOn_54
      · replace hcf := (if_neg q11).symm.trans hcf
        refine lv_ldc hx hb hown (hts _ q249) dX2_serveOn_37 ?_
        have hcf := Option.some.inj hcf; subst hcf
        exact wk_iret hx hb hr hlocks hW hS dX2_serveOn_39
    · replace hcf := (if_pos q5).symm.trans hcf
      refine lv_ldc hx hb hown (hts _ q244) dX2_serveOn_18 ?_
      have hcf := Option.some.inj hcf; subst hcf
      exact wk_iret hx hb hr hlocks hW hS dX2_serveOn_20
set_option maxHeartbeats 4000000 in
set_option maxRecDepth 100000 in
theorem ct_X2_isVariation (l : Launch) (D : va_G) (cy : Nat → ClassId) (z n : Nat) (Y : mY) (V : mV) (G : mG) (b1 : Int32) (b2 : Int32) (b3 : Int32) (x : Int32) (hcf : cf_X2_isVariation b1 b2 b3 = some x) : CT l yX2_isVariation cX2_isVariation 3 (some .boolean) (rmd 1) D cy z [.int b1, .int b2, .int b3] Y n V G (some (.int x)) Y n V G := by
  refine ct_of (by decide) (Nat.le_of_ble_eq_true rfl) ?_
  intro p e s m args below meth c ls hx hb hr hml hown hts hlocks hnm hE hW hl
  have hS : va_S (zA z) s.heap s.heap [] := va_S.rf
  have hl : lv_has ls 3 [(0, .int b1), (1, .int b2), (2, .int b3)] := hl
  have hown : s.vm.findClass RX2 = some m.cls := hown
  rw [cf_X2_isVariation] at hcf
  refine lv_iload_n hx hb dX2_isVariation_0 rfl (lv_at hl 1 rfl) ?_
  by_cases q1 : b2 = (0 : Int32)
  · replace hcf := (if_pos q1).symm.trans hcf
    refine wk_tsw (off := 27) (tgt := 28) hx hb dX2_isVariation_1 (by rw [q1]; rfl) (by decide) ?_
    refine lv_iload_n hx hb dX2_isVariation_28 rfl (lv_at hl 2 rfl) ?_
    refine lv_iload_n hx hb dX2_isVariation_29 rfl (lv_at hl 0 rfl) ?_
    obtain ⟨x2, hx2, hcf⟩ := ob hcf
    refine iv_X2_92 (As := [.int b1]) (rest := [.int b3]) hx hb hml hown hts hE (ct_X2_leastDays l D cy z n Y V G b1 x2 hx2) hW hS rfl rfl hl.1 (Nat.le_of_ble_eq_true rfl) ⟨Nat.le_of_ble_eq_true rfl, Nat.le_of_ble_eq_true rfl⟩ dX2_isVariation_30 ⟨Nat.zero_le _, Nat.zero_le _⟩ (fun H locs hW hS => ?_)
    refine lv_sipush (v := (365 : Int32)) hx hb dX2_isVariation_33 (by decide) ?_
    obtain ⟨x3, hx3, hcf⟩ := ob hcf
    refine iv_X2_48 (As := [.int b3, .int x2, .int (365 : Int32)]) (rest := []) hx hb hml hown hts hE (ct_X3_isWithin l D cy z n Y V G b3 x2 (365 : Int32) x3 hx3) hW hS rfl rfl hl.1 (Nat.le_of_ble_eq_true rfl) ⟨Nat.le_of_ble_eq_true rfl, Nat.le_of_ble_eq_true rfl⟩ dX2_isVariation_36 ⟨Nat.zero_le _, Nat.zero_le _⟩ (fun H locs hW hS => ?_)
    obtain ⟨q4, hcf⟩ := og hcf
    have hcf := Option.some.inj hcf; subst hcf
    exact wk_zret hx hb hr hlocks q4 hW hS dX2_isVariation_39
  · replace hcf := (if_neg q1).symm.trans hcf
    by_cases q5 : b2 = (1 : Int32)
    · replace hcf := (if_pos q5).symm.trans hcf
      refine wk_tsw (off := 39) (tgt := 40) hx hb dX2_isVariation_1 (by rw [q5]; rfl) (by decide) ?_
      refine lv_iload_n hx hb dX2_isVariation_40 rfl (lv_at hl 2 rfl) ?_
      refine lv_iconst (v := (1 : Int32)) hx hb dX2_isVariation_41 (by decide) ?_
      refine lv_bipush (v := (6 : Int32)) hx hb dX2_isVariation_42 (by decide) ?_
      obtain ⟨x6, hx6, hcf⟩ := ob hcf
      refine iv_X2_48 (As := [.int b3, .int (1 : Int32), .int (6 : Int32)]) (rest := []) hx hb hml hown hts hE (ct_X3_isWithin l D cy z n Y V G b3 (1 : Int32) (6 : Int32) x6 hx6) hW hS rfl rfl hl.1 (Nat.le_of_ble_eq_true rfl) ⟨Nat.le_of_ble_eq_true rfl, Nat.le_of_ble_eq_true rfl⟩ dX2_isVariation_44 ⟨Nat.zero_le _, Nat.zero_le _⟩ (fun H locs hW hS => ?_)
      obtain ⟨q7, hcf⟩ := og hcf
      have hcf := Option.some.inj hcf; subst hcf
      exact wk_zret hx hb hr hlocks q7 hW hS dX2_isVariation_47
    · replace hcf := (if_neg q5).symm.trans hcf
      by_cases q8 : b2 = (2 : Int32)
      · replace hcf := (if_pos q8).symm.trans hcf
        refine wk_tsw (off := 47) (tgt := 48) hx hb dX2_isVariation_1 (by rw [q8]; rfl) (by decide) ?_
        refine lv_iload_n hx hb dX2_isVariation_48 rfl (lv_at hl 2 rfl) ?_
        refine lv_iconst (v := (0 : Int32)) hx hb dX2_isVariation_49 (by decide) ?_
        refine lv_iconst (v := (4 : Int32)) hx hb dX2_isVariation_50 (by decide) ?_
        obtain ⟨x9, hx9, hcf⟩ := ob hcf
        refine iv_X2_48 (As := [.int b3, .int (0 : Int32), .int (4 : Int32)]) (rest := []) hx hb hml hown hts hE (ct_X3_isWithin l D cy z n Y V G b3 (0 : Int32) (4 : Int32) x9 hx9) hW hS rfl rfl hl.1 (Nat.le_of_ble_eq_true rfl) ⟨Nat.le_of_ble_eq_true rfl, Nat.le_of_ble_eq_true rfl⟩ dX2_isVariation_51 ⟨Nat.zero_le _, Nat.zero_le _⟩ (fun H locs hW hS => ?_)
        obtain ⟨q10, hcf⟩ := og hcf
        have hcf := Option.some.inj hcf; subst hcf
        exact wk_zret hx hb hr hlocks q10 hW hS dX2_isVariation_54
      · replace hcf := (if_neg q8).symm.trans hcf
        refine wk_tsw (off := 54) (tgt := 55) hx hb dX2_isVariation_1 (by have eq1 := lv_neT q1 (a := 0) rfl; have eq5 := lv_neT q5 (a := 1) rfl; have eq8 := lv_neT q8 (a := 2) rfl; by_cases hh : (b2).toInt < 0 ∨ 2 < (b2).toInt; exact if_pos hh; exfalso; omega) (by decide) ?_
        refine lv_iconst (v := (0 : Int32)) hx hb dX2_isVariation_55 (by decide) ?_
        have hcf := Option.some.inj hcf; subst hcf
        exact wk_zret hx hb hr hlocks (Or.inl rfl) hW hS dX2_isVariation_56
set_option maxHeartbeats 4000000 in
set_option maxRecDepth 100000 in
theorem ct_X2_canVary (l : Launch) (D : va_G) (cy : Nat → ClassId) (z n : Nat) (Y : mY) (V : mV) (G : mG) (a0 : Nat) (b1 : Nat) (b2 : Int32) (b3 : Int32) (x : Int32) (hcf : cf_X2_canVary Y V G a0 b1 b2 b3 = some x) : CT l yX2_canVary cX2_canVary 5 (some .boolean) (rmd 3) D cy z [.ref a0, .ref b1, .int b2, .int b3] Y n V G (some (.int x)) Y n V G := by
  refine ct_of (by decide) (Nat.le_of_ble_eq_true rfl) ?_
  intro p e s m args below meth c ls hx hb hr hml hown hts hlocks hnm hE hW hl
  have hS : va_S (zA z) s.heap s.heap [] := va_S.rf
  have hl : lv_has ls 5 [(0, .ref a0), (1, .ref b1), (2, .int b2), (3, .int b3)] := hl
  have hown : s.vm.findClass RX2 = some m.cls := hown
  rw [cf_X2_canVary] at hcf
  refine lv_aload_n hx hb dX2_canVary_0 rfl (lv_at hl 0 rfl) ?_
  refine lv_aload_n hx hb dX2_canVary_1 rfl (lv_at hl 1 rfl) ?_
  obtain ⟨q1, hcf⟩ := og hcf
  obtain ⟨x2, hx2, hcf⟩ := ob hcf
  refine iv_X2_76 (As := [.ref b1]) (rest := []) hx hb hml hown hts hE (ct_X2_stateOf l D cy z n Y V G a0 b1 x2 hx2) hW hS q1 rfl rfl hl.1 (Nat.le_of_ble_eq_true rfl) ⟨Nat.le_of_ble_eq_true rfl, Nat.le_of_ble_eq_true rfl⟩ dX2_canVary_2 ⟨Nat.zero_le _, Nat.zero_le _⟩ (fun H locs hW hS => ?_)
  refine lv_istore (lv' := [(4, .int x2), (0, .ref a0), (1, .ref b1), (2, .int b2), (3, .int b3)]) hx hb dX2_canVary_5 hl (by decide) rfl (fun ls hl => ?_)
  refine lv_iload hx hb dX2_canVary_7 (lv_at hl 0 rfl) ?_
  refine lv_if_eq (tgt := 18) hx hb dX2_canVary_9 (by decide) (fun q3 => ?_) (fun q3 => ?_)
  · replace hcf := (if_pos q3).symm.trans hcf
    refine lv_aload_n hx hb dX2_canVary_18 rfl (lv_at hl 2 rfl) ?_
    obtain ⟨q4, hcf⟩ := og hcf
    refine gf_X2_117 hx hb hts hown hE hW q4 dX2_canVary_19 ?_
    refine lv_if_eq (tgt := 27) hx hb dX2_canVary_22 (by decide) (fun q5 => ?_) (fun q5 => ?_)
    · replace hcf := (if_pos q5).symm.trans hcf
      refine lv_iload_n hx hb dX2_canVary_27 rfl (lv_at hl 3 rfl) ?_
      by_cases q6 : b2 = (0 : Int32)
      · replace hcf := (if_pos q6).symm.trans hcf
        refine lv_lookup (off := 28) (tgt := 56) hx hb dX2_canVary_28 (by decide) (by rw [q6]; rfl) (by decide) ?_
        refine lv_aload_n hx hb dX2_canVary_56 rfl (lv_at hl 2 rfl) ?_
        refine gf_X2_70 hx hb hts hown hE hW q4 dX2_canVary_57 ?_
        refine lv_iconst (v := (2 : Int32)) hx hb dX2_canVary_60 (by decide) ?_
        refine lv_icmp_ne (tgt := 80) hx hb dX2_canVary_61 (by decide) (fun q7 => ?_) (fun q7 => ?_)
        · replace hcf := (if_neg q7).symm.trans hcf
          refine lv_aload_n hx hb dX2_canVary_80 rfl (lv_at hl 2 rfl) ?_
          refine gf_X2_127 hx hb hts hown hE hW q4 dX2_canVary_81 ?_
          refine lv_iload_n hx hb dX2_canVary_84 rfl (lv_at hl 4 rfl) ?_
          refine lv_icmp_gt (tgt := 92) hx hb dX2_canVary_85 (by decide) (fun q8 => ?_) (fun q8 => ?_)
          · replace hcf := (if_pos q8).symm.trans hcf
            refine lv_iconst (v := (0 : Int32)) hx hb dX2_canVary_92 (by decide) ?_
            have hcf := Option.some.inj hcf; subst hcf
            exact wk_zret hx hb hr hlocks (Or.inl rfl) hW hS dX2_canVary_93
          · replace hcf := (if_neg q8).symm.trans hcf
            refine lv_iconst (v := (1 : Int32)) hx hb dX2_canVary_88 (by decide) ?_
            refine lv_goto (tgt := 93) hx hb dX2_canVary_89 (by decide) ?_
            have hcf := Option.some.inj hcf; subst hcf
            exact wk_zret hx hb hr hlocks (Or.inr rfl) hW hS dX2_canVary_93
        · replace hcf := (if_pos q7).symm.trans hcf
          refine lv_aload_n hx hb dX2_canVary_64 rfl (lv_at hl 2 rfl) ?_
          refine gf_X2_127 hx hb hts hown hE hW q4 dX2_canVary_65 ?_
          refine lv_iload_n hx hb dX2_canVary_68 rfl (lv_at hl 4 rfl) ?_
          refine lv_icmp_ge (tgt := 76) hx hb dX2_canVary_69 (by decide) (fun q9 => ?_) (fun q9 => ?_)
          · replace hcf := (if_pos q9).symm.trans hcf
            refine lv_iconst (v := (0 : Int32)) hx hb dX2_canVary_76 (by decide) ?_
            refine lv_goto (tgt := 93) hx hb dX2_canVary_77 (by decide) ?_
            have hcf := Option.some.inj hcf; subst hcf
            exact wk_zret hx hb hr hlocks (Or.inl rfl) hW hS dX2_canVary_93
          · replace hcf := (if_neg q9).symm.trans hcf
            refine lv_iconst (v := (1 : Int32)) hx hb dX2_canVary_72 (by decide) ?_
            refine lv_goto (tgt := 93) hx hb dX2_canVary_73 (by decide) ?_
            have hcf := Option.some.inj hcf; subst hcf
            exact wk_zret hx hb hr hlocks (Or.inr rfl) hW hS dX2_canVary_93
      · replace hcf := (if_neg q6).symm.trans hcf
        by_cases q10 : b2 = (1 : Int32)
        · replace hcf := (if_pos q10).symm.trans hcf
          refine lv_lookup (off := 66) (tgt := 94) hx hb dX2_canVary_28 (by decide) (by rw [q10]; rfl) (by decide) ?_
          refine lv_iload_n hx hb dX2_canVary_94 rfl (lv_at hl 4 rfl) ?_
          refine lv_aload_n hx hb dX2_canVary_95 rfl (lv_at hl 2 rfl) ?_
          refine gf_X2_80 hx hb hts hown hE hW q4 dX2_canVary_96 ?_
          refine lv_icmp_le (tgt := 106) hx hb dX2_canVary_99 (by decide) (fun q11 => ?_) (fun q11 => ?_)
          · replace hcf := (if_pos q11).symm.trans hcf
            refine lv_iconst (v := (0 : Int32)) hx hb dX2_canVary_106 (by decide) ?_
            have hcf := Option.some.inj hcf; subst hcf
            exact wk_zret hx hb hr hlocks (Or.inl rfl) hW hS dX2_canVary_107
          · replace hcf := (if_neg q11).symm.trans hcf
            refine lv_iconst (v := (1 : Int32)) hx hb dX2_canVary_102 (by decide) ?_
            refine lv_goto (tgt := 107) hx hb dX2_canVary_103 (by decide) ?_
            have hcf := Option.some.inj hcf; subst hcf
            exact wk_zret hx hb hr hlocks (Or.inr rfl) hW hS dX2_canVary_107
        · replace hcf := (if_neg q10).symm.trans hcf
          refine lv_lookup (off := 80) (tgt := 108) hx hb dX2_canVary_28 (by decide) (by show Op.lookupswitch.offset [(0, 28), (1, 66)] 80 (b2).toInt = _; rw [lv_osw (a := 0) q6 rfl, lv_osw (a := 1) q10 rfl]; rfl) (by decide) ?_
          refine lv_aload_n hx hb dX2_canVary_108 rfl (lv_at hl 1 rfl) ?_
          refine lv_iload_n hx hb dX2_canVary_109 rfl (lv_at hl 4 rfl) ?_
          obtain ⟨x12, hx12, hcf⟩ := ob hcf
          refine iv_X2_52 (As := [.int b3]) (rest := []) hx hb hml hown hts hE (ct_X2_isBegun l D cy z n Y V G a0 b3 x12 hx12) hW hS q1 rfl rfl hl.1 (Nat.le_of_ble_eq_true rfl) ⟨Nat.le_of_ble_eq_true rfl, Nat.le_of_ble_eq_true rfl⟩ dX2_canVary_110 ⟨Nat.zero_le _, Nat.zero_le _⟩ (fun H locs hW hS => ?_)
          refine lv_if_ne (tgt := 120) hx hb dX2_canVary_113 (by decide) (fun q13 => ?_) (fun q13 => ?_)
          · replace hcf := (if_neg q13).symm.trans hcf
            refine lv_iconst (v := (0 : Int32)) hx hb dX2_canVary_120 (by decide) ?_
            have hcf := Option.some.inj hcf; subst hcf
            exact wk_zret hx hb hr hlocks (Or.inl rfl) hW hS dX2_canVary_121
          · replace hcf := (if_pos q13).symm.trans hcf
            refine lv_iconst (v := (1 : Int32)) hx hb dX2_canVary_116 (by decide) ?_
            refine lv_goto (tgt := 121) hx hb dX2_canVary_117 (by decide) ?_
            have hcf := Option.some.inj hcf; subst hcf
            exact wk_zret hx hb hr hlocks (Or.inr rfl) hW hS dX2_canVary_121
    · replace hcf := (if_neg q5).symm.trans hcf
      refine lv_iconst (v := (0 : Int32)) hx hb dX2_canVary_25 (by decide) ?_
      have hcf := Option.some.inj hcf; subst hcf
      exact wk_zret hx hb hr hlocks (Or.inl rfl) hW hS dX2_canVary_26
  · replace hcf := (if_neg q3).symm.trans hcf
    refine lv_iload hx hb dX2_canVary_12 (lv_at hl 0 rfl) ?_
    refine lv_iconst (v := (1 : Int32)) hx hb dX2_canVary_14 (by decide) ?_
    refine lv_icmp_ne (tgt := 25) hx hb dX2_canVary_15 (by decide) (fun q14 => ?_) (fun q14 => ?_)
    · replace hcf := (if_neg q14).symm.trans hcf
      refine lv_iconst (v := (0 : Int32)) hx hb dX2_canVary_25 (by decide) ?_
      have hcf := Option.some.inj hcf; subst hcf
      exact wk_zret hx hb hr hlocks (Or.inl rfl) hW hS dX2_canVary_26
    · replace hcf := (if_pos q14).symm.trans hcf
      refine lv_aload_n hx hb dX2_canVary_18 rfl (lv_at hl 2 rfl) ?_
      obtain ⟨q15, hcf⟩ := og hcf
      refine gf_X2_117 hx hb hts hown hE hW q15 dX2_canVary_19 ?_
      refine lv_if_eq (tgt := 27) hx hb dX2_canVary_22 (by decide) (fun q16 => ?_) (fun q16 => ?_)
      · replace hcf := (if_pos q16).symm.trans hcf
        refine lv_iload_n hx hb dX2_canVary_27 rfl (lv_at hl 3 rfl) ?_
        by_cases q17 : b2 = (0 : Int32)
        · replace hcf := (if_pos q17).symm.trans hcf
          refine lv_lookup (off := 28) (tgt := 56) hx hb dX2_canVary_28 (by decide) (by rw [q17]; rfl) (by decide) ?_
          refine lv_aload_n hx hb dX2_canVary_56 rfl (lv_at hl 2 rfl) ?_
          refine gf_X2_70 hx hb hts hown hE hW q15 dX2_canVary_57 ?_
          refine lv_iconst (v := (2 : Int32)) hx hb dX2_canVary_60 (by decide) ?_
          refine lv_icmp_ne (tgt := 80) hx hb dX2_canVary_61 (by decide) (fun q18 => ?_) (fun q18 => ?_)
          · replace hcf := (if_neg q18).symm.trans hcf
            refine lv_aload_n hx hb dX2_canVary_80 rfl (lv_at hl 2 rfl) ?_
            refine gf_X2_127 hx hb hts hown hE hW q15 dX2_canVary_81 ?_
            refine lv_iload_n hx hb dX2_canVary_84 rfl (lv_at hl 4 rfl) ?_
            refine lv_icmp_gt (tgt := 92) hx hb dX2_canVary_85 (by decide) (fun q19 => ?_) (fun q19 => ?_)
            · replace hcf := (if_pos q19).symm.trans hcf
              refine lv_iconst (v := (0 : Int32)) hx hb dX2_canVary_92 (by decide) ?_
              have hcf := Option.some.inj hcf; subst hcf
              exact wk_zret hx hb hr hlocks (Or.inl rfl) hW hS dX2_canVary_93
            · replace hcf := (if_neg q19).symm.trans hcf
              refine lv_iconst (v := (1 : Int32)) hx hb dX2_canVary_88 (by decide) ?_
              refine lv_goto (tgt := 93) hx hb dX2_canVary_89 (by decide) ?_
              have hcf := Option.some.inj hcf; subst hcf
              exact wk_zret hx hb hr hlocks (Or.inr rfl) hW hS dX2_canVary_93
          · replace hcf := (if_pos q18).symm.trans hcf
            refine lv_aload_n hx hb dX2_canVary_64 rfl (lv_at hl 2 rfl) ?_
            refine gf_X2_127 hx hb hts hown hE hW q15 dX2_canVary_65 ?_
            refine lv_iload_n hx hb dX2_canVary_68 rfl (lv_at hl 4 rfl) ?_
            refine lv_icmp_ge (tgt := 76) hx hb dX2_canVary_69 (by decide) (fun q20 => ?_) (fun q20 => ?_)
            · replace hcf := (if_pos q20).symm.trans hcf
              refine lv_iconst (v := (0 : Int32)) hx hb dX2_canVary_76 (by decide) ?_
              refine lv_goto (tgt := 93) hx hb dX2_canVary_77 (by decide) ?_
              have hcf := Option.some.inj hcf; subst hcf
              exact wk_zret hx hb hr hlocks (Or.inl rfl) hW hS dX2_canVary_93
            · replace hcf := (if_neg q20).symm.trans hcf
              refine lv_iconst (v := (1 : Int32)) hx hb dX2_canVary_72 (by decide) ?_
              refine lv_goto (tgt := 93) hx hb dX2_canVary_73 (by decide) ?_
              have hcf := Option.some.inj hcf; subst hcf
              exact wk_zret hx hb hr hlocks (Or.inr rfl) hW hS dX2_canVary_93
        · replace hcf := (if_neg q17).symm.trans hcf
          by_cases q21 : b2 = (1 : Int32)
          · replace hcf := (if_pos q21).symm.trans hcf
            refine lv_lookup (off := 66) (tgt := 94) hx hb dX2_canVary_28 (by decide) (by rw [q21]; rfl) (by decide) ?_
            refine lv_iload_n hx hb dX2_canVary_94 rfl (lv_at hl 4 rfl) ?_
            refine lv_aload_n hx hb dX2_canVary_95 rfl (lv_at hl 2 rfl) ?_
            refine gf_X2_80 hx hb hts hown hE hW q15 dX2_canVary_96 ?_
            refine lv_icmp_le (tgt := 106) hx hb dX2_canVary_99 (by decide) (fun q22 => ?_) (fun q22 => ?_)
            · replace hcf := (if_pos q22).symm.trans hcf
              refine lv_iconst (v := (0 : Int32)) hx hb dX2_canVary_106 (by decide) ?_
              have hcf := Option.some.inj hcf; subst hcf
              exact wk_zret hx hb hr hlocks (Or.inl rfl) hW hS dX2_canVary_107
            · replace hcf := (if_neg q22).symm.trans hcf
              refine lv_iconst (v := (1 : Int32)) hx hb dX2_canVary_102 (by decide) ?_
              refine lv_goto (tgt := 107) hx hb dX2_canVary_103 (by decide) ?_
              have hcf := Option.some.inj hcf; subst hcf
              exact wk_zret hx hb hr hlocks (Or.inr rfl) hW hS dX2_canVary_107
          · replace hcf := (if_neg q21).symm.trans hcf
            refine lv_lookup (off := 80) (tgt := 108) hx hb dX2_canVary_28 (by decide) (by show Op.lookupswitch.offset [(0, 28), (1, 66)] 80 (b2).toInt = _; rw [lv_osw (a := 0) q17 rfl, lv_osw (a := 1) q21 rfl]; rfl) (by decide) ?_
            refine lv_aload_n hx hb dX2_canVary_108 rfl (lv_at hl 1 rfl) ?_
            refine lv_iload_n hx hb dX2_canVary_109 rfl (lv_at hl 4 rfl) ?_
            obtain ⟨x23, hx23, hcf⟩ := ob hcf
            refine iv_X2_52 (As := [.int b3]) (rest := []) hx hb hml hown hts hE (ct_X2_isBegun l D cy z n Y V G a0 b3 x23 hx23) hW hS q1 rfl rfl hl.1 (Nat.le_of_ble_eq_true rfl) ⟨Nat.le_of_ble_eq_true rfl, Nat.le_of_ble_eq_true rfl⟩ dX2_canVary_110 ⟨Nat.zero_le _, Nat.zero_le _⟩ (fun H locs hW hS => ?_)
            refine lv_if_ne (tgt := 120) hx hb dX2_canVary_113 (by decide) (fun q24 => ?_) (fun q24 => ?_)
            · replace hcf := (if_neg q24).symm.trans hcf
              refine lv_iconst (v := (0 : Int32)) hx hb dX2_canVary_120 (by decide) ?_
              have hcf := Option.some.inj hcf; subst hcf
              exact wk_zret hx hb hr hlocks (Or.inl rfl) hW hS dX2_canVary_121
            · replace hcf := (if_pos q24).symm.trans hcf
              refine lv_iconst (v := (1 : Int32)) hx hb dX2_canVary_116 (by decide) ?_
              refine lv_goto (tgt := 121) hx hb dX2_canVary_117 (by decide) ?_
              have hcf := Option.some.inj hcf; subst hcf
              exact wk_zret hx hb hr hlocks (Or.inr rfl) hW hS dX2_canVary_121
      · replace hcf := (if_neg q16).symm.trans hcf
        refine lv_iconst (v := (0 : Int32)) hx hb dX2_canVary_25 (by decide) ?_
        have hcf := Option.some.inj hcf; subst hcf
        exact wk_zret hx hb hr hlocks (Or.inl rfl) hW hS dX2_canVary_26
set_option maxHeartbeats 4000000 in
set_option maxRecDepth 100000 in
theorem ct_X2_varyTo (l : Launch) (D : va_G) (cy : Nat → ClassId) (z n : Nat) (Y : mY) (V : mV) (G : mG) (a0 : Nat) (b1 : Int32) (b2 : Int32) (b3 : Int32) (x : Int32 × mV) (hcf : cf_X2_varyTo Y V G a0 b1 b2 b3 = some x) : CT l yX2_varyTo cX2_varyTo 6 (some .int) (rmd 4) D cy z [.ref a0, .int b1, .int b2, .int b3] Y n V G (some (.int x.1)) Y n x.2 G := by
  refine ct_of (by decide) (Nat.le_of_ble_eq_true rfl) ?_
  intro p e s m args below meth c ls hx hb hr hml hown hts hlocks hnm hE hW hl
  have hS : va_S (zA z) s.heap s.heap [] := va_S.rf
  have hl : lv_has ls 6 [(0, .ref a0), (1, .int b1), (2, .int b2), (3, .int b3)] := hl
  have hown : s.vm.findClass RX2 = some m.cls := hown
  rw [cf_X2_varyTo] at hcf
  refine lv_aload_n hx hb dX2_varyTo_0 rfl (lv_at hl 0 rfl) ?_
  refine lv_iload_n hx hb dX2_varyTo_1 rfl (lv_at hl 1 rfl) ?_
  obtain ⟨q1, hcf⟩ := og hcf
  obtain ⟨x2, hx2, hcf⟩ := ob hcf
  refine iv_X2_111 (As := [.int b1]) (rest := []) hx hb hml hown hts hE (ct_X2_hasCondition l D cy z n Y V G a0 b1 x2 hx2) hW hS q1 rfl rfl hl.1 (Nat.le_of_ble_eq_true rfl) ⟨Nat.le_of_ble_eq_true rfl, Nat.le_of_ble_eq_true rfl⟩ dX2_varyTo_2 ⟨Nat.zero_le _, Nat.zero_le _⟩ (fun H locs hW hS => ?_)
  refine lv_if_ne (tgt := 11) hx hb dX2_varyTo_5 (by decide) (fun q3 => ?_) (fun q3 => ?_)
  · replace hcf := (if_neg q3).symm.trans hcf
    refine lv_aload_n hx hb dX2_varyTo_11 rfl (lv_at hl 0 rfl) ?_
    obtain ⟨r4, hr4, hcf⟩ := ob hcf
    refine gf_X2_11 hx hb hts hown hE hW q1 hr4 dX2_varyTo_12 ?_
    refine lv_iload_n hx hb dX2_varyTo_15 rfl (lv_at hl 1 rfl) ?_
    obtain ⟨q5, hcf⟩ := og hcf
    obtain ⟨q6, hcf⟩ := og hcf
    obtain ⟨r7, hr7, hcf⟩ := ob hcf
    refine wk_aald hx hb hE hW q5 q6 hr7 dX2_varyTo_16 ?_
    refine lv_astore (lv' := [(4, .ref r7), (0, .ref a0), (1, .int b1), (2, .int b2), (3, .int b3)]) hx hb dX2_varyTo_17 hl (by decide) rfl (fun ls hl => ?_)
    refine lv_aload hx hb dX2_varyTo_19 (lv_at hl 0 rfl) ?_
    obtain ⟨q8, hcf⟩ := og hcf
    refine gf_X2_70 hx hb hts hown hE hW q8 dX2_varyTo_21 ?_
    refine lv_iload_n hx hb dX2_varyTo_24 rfl (lv_at hl 3 rfl) ?_
    refine lv_iload_n hx hb dX2_varyTo_25 rfl (lv_at hl 4 rfl) ?_
    obtain ⟨x9, hx9, hcf⟩ := ob hcf
    refine iv_X2_142 (As := [.int (V r7 0), .int b2, .int b3]) (rest := []) hx hb hml hown hts hE (ct_X2_isVariation l D cy z n Y V G (V r7 0) b2 b3 x9 hx9) hW hS rfl rfl hl.1 (Nat.le_of_ble_eq_true rfl) ⟨Nat.le_of_ble_eq_true rfl, Nat.le_of_ble_eq_true rfl⟩ dX2_varyTo_26 ⟨Nat.zero_le _, Nat.zero_le _⟩ (fun H locs hW hS => ?_)
    refine lv_if_ne (tgt := 35) hx hb dX2_varyTo_29 (by decide) (fun q10 => ?_) (fun q10 => ?_)
    · replace hcf := (if_neg q10).symm.trans hcf
      refine lv_aload_n hx hb dX2_varyTo_35 rfl (lv_at hl 1 rfl) ?_
      refine lv_aload hx hb dX2_varyTo_36 (lv_at hl 0 rfl) ?_
      refine lv_iload_n hx hb dX2_varyTo_38 rfl (lv_at hl 3 rfl) ?_
      refine lv_iload_n hx hb dX2_varyTo_39 rfl (lv_at hl 4 rfl) ?_
      obtain ⟨x11, hx11, hcf⟩ := ob hcf
      refine iv_X2_145 (As := [.ref r7, .int b2, .int b3]) (rest := []) hx hb hml hown hts hE (ct_X2_canVary l D cy z n Y V G a0 r7 b2 b3 x11 hx11) hW hS q1 rfl rfl hl.1 (Nat.le_of_ble_eq_true rfl) ⟨Nat.le_of_ble_eq_true rfl, Nat.le_of_ble_eq_true rfl⟩ dX2_varyTo_40 ⟨Nat.zero_le _, Nat.zero_le _⟩ (fun H locs hW hS => ?_)
      refine lv_if_ne (tgt := 49) hx hb dX2_varyTo_43 (by decide) (fun q12 => ?_) (fun q12 => ?_)
      · replace hcf := (if_neg q12).symm.trans hcf
        refine lv_iload_n hx hb dX2_varyTo_49 rfl (lv_at hl 3 rfl) ?_
        by_cases q13 : b2 = (0 : Int32)
        · replace hcf := (if_pos q13).symm.trans hcf
          refine lv_lookup (off := 26) (tgt := 76) hx hb dX2_varyTo_50 (by decide) (by rw [q13]; rfl) (by decide) ?_
          refine lv_aload hx hb dX2_varyTo_76 (lv_at hl 0 rfl) ?_
          refine gf_X2_149 hx hb hts hown hE hW q8 dX2_varyTo_78 ?_
          refine lv_istore (lv' := [(5, .int (V r7 2)), (4, .ref r7), (0, .ref a0), (1, .int b1), (2, .int b2), (3, .int b3)]) hx hb dX2_varyTo_81 hl (by decide) rfl (fun ls hl => ?_)
          refine lv_aload hx hb dX2_varyTo_83 (lv_at hl 1 rfl) ?_
          refine lv_iload_n hx hb dX2_varyTo_85 rfl (lv_at hl 5 rfl) ?_
          refine pf_X2_149 hx hb hts hown hE hW hS q8 b3 dX2_varyTo_86 (fun H locs hW hS => ?_)
          refine lv_iload hx hb dX2_varyTo_89 (lv_at hl 0 rfl) ?_
          have hcf := Option.some.inj hcf; subst hcf
          exact wk_iret hx hb hr hlocks hW hS dX2_varyTo_91
        · replace hcf := (if_neg q13).symm.trans hcf
          by_cases q14 : b2 = (1 : Int32)
          · replace hcf := (if_pos q14).symm.trans hcf
            refine lv_lookup (off := 42) (tgt := 92) hx hb dX2_varyTo_50 (by decide) (by rw [q14]; rfl) (by decide) ?_
            refine lv_aload hx hb dX2_varyTo_92 (lv_at hl 0 rfl) ?_
            refine gf_X2_80 hx hb hts hown hE hW q8 dX2_varyTo_94 ?_
            refine lv_istore (lv' := [(5, .int (V r7 3)), (4, .ref r7), (0, .ref a0), (1, .int b1), (2, .int b2), (3, .int b3)]) hx hb dX2_varyTo_97 hl (by decide) rfl (fun ls hl => ?_)
            refine lv_aload hx hb dX2_varyTo_99 (lv_at hl 1 rfl) ?_
            refine lv_iload_n hx hb dX2_varyTo_101 rfl (lv_at hl 5 rfl) ?_
            refine pf_X2_80 hx hb hts hown hE hW hS q8 b3 dX2_varyTo_102 (fun H locs hW hS => ?_)
            refine lv_iload hx hb dX2_varyTo_105 (lv_at hl 0 rfl) ?_
            have hcf := Option.some.inj hcf; subst hcf
            exact wk_iret hx hb hr hlocks hW hS dX2_varyTo_107
          · replace hcf := (if_neg q14).symm.trans hcf
            refine lv_lookup (off := 58) (tgt := 108) hx hb dX2_varyTo_50 (by decide) (by show Op.lookupswitch.offset [(0, 26), (1, 42)] 58 (b2).toInt = _; rw [lv_osw (a := 0) q13 rfl, lv_osw (a := 1) q14 rfl]; rfl) (by decide) ?_
            refine lv_aload hx hb dX2_varyTo_108 (lv_at hl 0 rfl) ?_
            refine gf_X2_73 hx hb hts hown hE hW q8 dX2_varyTo_110 ?_
            refine lv_istore (lv' := [(5, .int (V r7 1)), (4, .ref r7), (0, .ref a0), (1, .int b1), (2, .int b2), (3, .int b3)]) hx hb dX2_varyTo_113 hl (by decide) rfl (fun ls hl => ?_)
            refine lv_aload hx hb dX2_varyTo_115 (lv_at hl 1 rfl) ?_
            refine lv_iload_n hx hb dX2_varyTo_117 rfl (lv_at hl 5 rfl) ?_
            refine pf_X2_73 hx hb hts hown hE hW hS q8 b3 dX2_varyTo_118 (fun H locs hW hS => ?_)
            refine lv_aload hx hb dX2_varyTo_121 (lv_at hl 1 rfl) ?_
            refine lv_iconst (v := (0 : Int32)) hx hb dX2_varyTo_123 (by decide) ?_
            refine pf_X2_127 hx hb hts hown hE hW hS q8 (0 : Int32) dX2_varyTo_124 (fun H locs hW hS => ?_)
            refine lv_iload hx hb dX2_varyTo_127 (lv_at hl 0 rfl) ?_
            have hcf := Option.some.inj hcf; subst hcf
            exact wk_iret hx hb hr hlocks hW hS dX2_varyTo_129
      · replace hcf := (if_pos q12).symm.trans hcf
        refine lv_ldc hx hb hown (hts _ q249) dX2_varyTo_46 ?_
        have hcf := Option.some.inj hcf; subst hcf
        exact wk_iret hx hb hr hlocks hW hS dX2_varyTo_48
    · replace hcf := (if_pos q10).symm.trans hcf
      refine lv_ldc hx hb hown (hts _ q244) dX2_varyTo_32 ?_
      have hcf := Option.some.inj hcf; subst hcf
      exact wk_iret hx hb hr hlocks hW hS dX2_varyTo_34
  · replace hcf := (if_pos q3).symm.trans hcf
    refine lv_ldc hx hb hown (hts _ q244) dX2_varyTo_8 ?_
    have hcf := Option.some.inj hcf; subst hcf
    exact wk_iret hx hb hr hlocks hW hS dX2_varyTo_10
set_option maxHeartbeats 4000000 in
set_option maxRecDepth 100000 in
theorem ct_X2_putSetting (l : Launch) (D : va_G) (cy : Nat → ClassId) (z n : Nat) (Y : mY) (V : mV) (G : mG) (a0 : Nat) (b1 : Int32) (b2 : Int32) (x : Int32 × mV) (hcf : cf_X2_putSetting Y V G a0 b1 b2 = some x) : CT l yX2_putSetting cX2_putSetting 4 (some .int) (rmd 1) D cy z [.ref a0, .int b1, .int b2] Y n V G (some (.int x.1)) Y n x.2 G := by
  refine ct_of (by decide) (Nat.le_of_ble_eq_true rfl) ?_
  intro p e s m args below meth c ls hx hb hr hml hown hts hlocks hnm hE hW hl
  have hS : va_S (zA z) s.heap s.heap [] := va_S.rf
  have hl : lv_has ls 4 [(0, .ref a0), (1, .int b1), (2, .int b2)] := hl
  have hown : s.vm.findClass RX2 = some m.cls := hown
  rw [cf_X2_putSetting] at hcf
  refine lv_iload_n hx hb dX2_putSetting_0 rfl (lv_at hl 1 rfl) ?_
  refine lv_if_ne (tgt := 26) hx hb dX2_putSetting_1 (by decide) (fun q1 => ?_) (fun q1 => ?_)
  · replace hcf := (if_neg q1).symm.trans hcf
    refine lv_iload_n hx hb dX2_putSetting_26 rfl (lv_at hl 1 rfl) ?_
    refine lv_iconst (v := (1 : Int32)) hx hb dX2_putSetting_27 (by decide) ?_
    refine lv_icmp_ne (tgt := 54) hx hb dX2_putSetting_28 (by decide) (fun q2 => ?_) (fun q2 => ?_)
    · replace hcf := (if_neg q2).symm.trans hcf
      refine lv_ldc hx hb hown (hts _ q244) dX2_putSetting_54 ?_
      have hcf := Option.some.inj hcf; subst hcf
      exact wk_iret hx hb hr hlocks hW hS dX2_putSetting_56
    · replace hcf := (if_pos q2).symm.trans hcf
      refine lv_iload_n hx hb dX2_putSetting_31 rfl (lv_at hl 2 rfl) ?_
      refine lv_iconst (v := (1 : Int32)) hx hb dX2_putSetting_32 (by decide) ?_
      refine lv_sipush (v := (365 : Int32)) hx hb dX2_putSetting_33 (by decide) ?_
      obtain ⟨x3, hx3, hcf⟩ := ob hcf
      refine iv_X2_48 (As := [.int b2, .int (1 : Int32), .int (365 : Int32)]) (rest := []) hx hb hml hown hts hE (ct_X3_isWithin l D cy z n Y V G b2 (1 : Int32) (365 : Int32) x3 hx3) hW hS rfl rfl hl.1 (Nat.le_of_ble_eq_true rfl) ⟨Nat.le_of_ble_eq_true rfl, Nat.le_of_ble_eq_true rfl⟩ dX2_putSetting_36 ⟨Nat.zero_le _, Nat.zero_le _⟩ (fun H locs hW hS => ?_)
      refine lv_if_eq (tgt := 54) hx hb dX2_putSetting_39 (by decide) (fun q4 => ?_) (fun q4 => ?_)
      · replace hcf := (if_pos q4).symm.trans hcf
        refine lv_ldc hx hb hown (hts _ q244) dX2_putSetting_54 ?_
        have hcf := Option.some.inj hcf; subst hcf
        exact wk_iret hx hb hr hlocks hW hS dX2_putSetting_56
      · replace hcf := (if_neg q4).symm.trans hcf
        refine lv_aload_n hx hb dX2_putSetting_42 rfl (lv_at hl 0 rfl) ?_
        obtain ⟨q5, hcf⟩ := og hcf
        refine gf_X2_40 hx hb hts hown hE hW q5 dX2_putSetting_43 ?_
        refine lv_istore_n (lv' := [(3, .int (V a0 8)), (0, .ref a0), (1, .int b1), (2, .int b2)]) hx hb dX2_putSetting_46 rfl hl (by decide) rfl (fun ls hl => ?_)
        refine lv_aload_n hx hb dX2_putSetting_47 rfl (lv_at hl 1 rfl) ?_
        refine lv_iload_n hx hb dX2_putSetting_48 rfl (lv_at hl 3 rfl) ?_
        refine pf_X2_40 hx hb hts hown hE hW hS q5 b2 dX2_putSetting_49 (fun H locs hW hS => ?_)
        refine lv_iload_n hx hb dX2_putSetting_52 rfl (lv_at hl 0 rfl) ?_
        have hcf := Option.some.inj hcf; subst hcf
        exact wk_iret hx hb hr hlocks hW hS dX2_putSetting_53
  · replace hcf := (if_pos q1).symm.trans hcf
    refine lv_iload_n hx hb dX2_putSetting_4 rfl (lv_at hl 2 rfl) ?_
    refine lv_iconst (v := (0 : Int32)) hx hb dX2_putSetting_5 (by decide) ?_
    refine lv_bipush (v := (99 : Int32)) hx hb dX2_putSetting_6 (by decide) ?_
    obtain ⟨x6, hx6, hcf⟩ := ob hcf
    refine iv_X2_48 (As := [.int b2, .int (0 : Int32), .int (99 : Int32)]) (rest := []) hx hb hml hown hts hE (ct_X3_isWithin l D cy z n Y V G b2 (0 : Int32) (99 : Int32) x6 hx6) hW hS rfl rfl hl.1 (Nat.le_of_ble_eq_true rfl) ⟨Nat.le_of_ble_eq_true rfl, Nat.le_of_ble_eq_true rfl⟩ dX2_putSetting_8 ⟨Nat.zero_le _, Nat.zero_le _⟩ (fun H locs hW hS => ?_)
    refine lv_if_eq (tgt := 26) hx hb dX2_putSetting_11 (by decide) (fun q7 => ?_) (fun q7 => ?_)
    · replace hcf := (if_pos q7).symm.trans hcf
      refine lv_iload_n hx hb dX2_putSetting_26 rfl (lv_at hl 1 rfl) ?_
      refine lv_iconst (v := (1 : Int32)) hx hb dX2_putSetting_27 (by decide) ?_
      refine lv_icmp_ne (tgt := 54) hx hb dX2_putSetting_28 (by decide) (fun q8 => ?_) (fun q8 => ?_)
      · replace hcf := (if_neg q8).symm.trans hcf
        refine lv_ldc hx hb hown (hts _ q244) dX2_putSetting_54 ?_
        have hcf := Option.some.inj hcf; subst hcf
        exact wk_iret hx hb hr hlocks hW hS dX2_putSetting_56
      · replace hcf := (if_pos q8).symm.trans hcf
        refine lv_iload_n hx hb dX2_putSetting_31 rfl (lv_at hl 2 rfl) ?_
        refine lv_iconst (v := (1 : Int32)) hx hb dX2_putSetting_32 (by decide) ?_
        refine lv_sipush (v := (365 : Int32)) hx hb dX2_putSetting_33 (by decide) ?_
        obtain ⟨x9, hx9, hcf⟩ := ob hcf
        refine iv_X2_48 (As := [.int b2, .int (1 : Int32), .int (365 : Int32)]) (rest := []) hx hb hml hown hts hE (ct_X3_isWithin l D cy z n Y V G b2 (1 : Int32) (365 : Int32) x9 hx9) hW hS rfl rfl hl.1 (Nat.le_of_ble_eq_true rfl) ⟨Nat.le_of_ble_eq_true rfl, Nat.le_of_ble_eq_true rfl⟩ dX2_putSetting_36 ⟨Nat.zero_le _, Nat.zero_le _⟩ (fun H locs hW hS => ?_)
        refine lv_if_eq (tgt := 54) hx hb dX2_putSetting_39 (by decide) (fun q10 => ?_) (fun q10 => ?_)
        · replace hcf := (if_pos q10).symm.trans hcf
          refine lv_ldc hx hb hown (hts _ q244) dX2_putSetting_54 ?_
          have hcf := Option.some.inj hcf; subst hcf
          exact wk_iret hx hb hr hlocks hW hS dX2_putSetting_56
        · replace hcf := (if_neg q10).symm.trans hcf
          refine lv_aload_n hx hb dX2_putSetting_42 rfl (lv_at hl 0 rfl) ?_
          obtain ⟨q11, hcf⟩ := og hcf
          refine gf_X2_40 hx hb hts hown hE hW q11 dX2_putSetting_43 ?_
          refine lv_istore_n (lv' := [(3, .int (V a0 8)), (0, .ref a0), (1, .int b1), (2, .int b2)]) hx hb dX2_putSetting_46 rfl hl (by decide) rfl (fun ls hl => ?_)
          refine lv_aload_n hx hb dX2_putSetting_47 rfl (lv_at hl 1 rfl) ?_
          refine lv_iload_n hx hb dX2_putSetting_48 rfl (lv_at hl 3 rfl) ?_
          refine pf_X2_40 hx hb hts hown hE hW hS q11 b2 dX2_putSetting_49 (fun H locs hW hS => ?_)
          refine lv_iload_n hx hb dX2_putSetting_52 rfl (lv_at hl 0 rfl) ?_
          have hcf := Option.some.inj hcf; subst hcf
          exact wk_iret hx hb hr hlocks hW hS dX2_putSetting_53
    · replace hcf := (if_neg q7).symm.trans hcf
      refine lv_aload_n hx hb dX2_putSetting_14 rfl (lv_at hl 0 rfl) ?_
      obtain ⟨q12, hcf⟩ := og hcf
      refine gf_X2_37 hx hb hts hown hE hW q12 dX2_putSetting_15 ?_
      refine lv_istore_n (lv' := [(3, .int (V a0 7)), (0, .ref a0), (1, .int b1), (2, .int b2)]) hx hb dX2_putSetting_18 rfl hl (by decide) rfl (fun ls hl => ?_)
      refine lv_aload_n hx hb dX2_putSetting_19 rfl (lv_at hl 1 rfl) ?_
      refine lv_iload_n hx hb dX2_putSetting_20 rfl (lv_at hl 3 rfl) ?_
      refine pf_X2_37 hx hb hts hown hE hW hS q12 b2 dX2_putSetting_21 (fun H locs hW hS => ?_)
      refine lv_iload_n hx hb dX2_putSetting_24 rfl (lv_at hl 0 rfl) ?_
      have hcf := Option.some.inj hcf; subst hcf
      exact wk_iret hx hb hr hlocks hW hS dX2_putSetting_25
set_option maxHeartbeats 4000000 in
set_option maxRecDepth 100000 in
theorem ct_X2_passClock (l : Launch) (D : va_G) (cy : Nat → ClassId) (z n : Nat) (Y : mY) (V : mV) (G : mG) (a0 : Nat) (b1 : Nat) (x : mV) (hcf : cf_X2_passClock Y V G a0 b1 = some x) : CT l yX2_passClock cX2_passClock 2 none (rmd 2) D cy z [.ref a0, .ref b1] Y n V G none Y n x G := by
  refine ct_of (by decide) (Nat.le_of_ble_eq_true rfl) ?_
  intro p e s m args below meth c ls hx hb hr hml hown hts hlocks hnm hE hW hl
  have hS : va_S (zA z) s.heap s.heap [] := va_S.rf
  have hl : lv_has ls 2 [(0, .ref a0), (1, .ref b1)] := hl
  have hown : s.vm.findClass RX2 = some m.cls := hown
  rw [cf_X2_passClock] at hcf
  refine lv_aload_n hx hb dX2_passClock_0 rfl (lv_at hl 1 rfl) ?_
  obtain ⟨q1, hcf⟩ := og hcf
  refine gf_X2_59 hx hb hts hown hE hW q1 dX2_passClock_1 ?_
  refine lv_if_ne (tgt := 21) hx hb dX2_passClock_4 (by decide) (fun q2 => ?_) (fun q2 => ?_)
  · replace hcf := (if_neg q2).symm.trans hcf
    have hcf := Option.some.inj hcf; subst hcf
    exact wk_vret hx hb hr hlocks hW hS dX2_passClock_21
  · replace hcf := (if_pos q2).symm.trans hcf
    refine lv_aload_n hx hb dX2_passClock_7 rfl (lv_at hl 1 rfl) ?_
    refine gf_X2_63 hx hb hts hown hE hW q1 dX2_passClock_8 ?_
    refine lv_if_ne (tgt := 21) hx hb dX2_passClock_11 (by decide) (fun q3 => ?_) (fun q3 => ?_)
    · replace hcf := (if_neg q3).symm.trans hcf
      have hcf := Option.some.inj hcf; subst hcf
      exact wk_vret hx hb hr hlocks hW hS dX2_passClock_21
    · replace hcf := (if_pos q3).symm.trans hcf
      refine lv_aload_n hx hb dX2_passClock_14 rfl (lv_at hl 1 rfl) ?_
      obtain ⟨x4, hx4, hcf⟩ := ob hcf
      refine iv_X2_66 (As := []) (rest := []) hx hb hml hown hts hE (ct_X0_isMet l D cy z n Y V G b1 x4 hx4) hW hS q1 rfl rfl hl.1 (Nat.le_of_ble_eq_true rfl) ⟨Nat.le_of_ble_eq_true rfl, Nat.le_of_ble_eq_true rfl⟩ dX2_passClock_15 ⟨Nat.zero_le _, Nat.zero_le _⟩ (fun H locs hW hS => ?_)
      refine lv_if_eq (tgt := 22) hx hb dX2_passClock_18 (by decide) (fun q5 => ?_) (fun q5 => ?_)
      · replace hcf := (if_pos q5).symm.trans hcf
        refine lv_aload_n hx hb dX2_passClock_22 rfl (lv_at hl 1 rfl) ?_
        refine gf_X2_70 hx hb hts hown hE hW q1 dX2_passClock_23 ?_
        refine lv_iconst (v := (1 : Int32)) hx hb dX2_passClock_26 (by decide) ?_
        refine lv_icmp_ne (tgt := 74) hx hb dX2_passClock_27 (by decide) (fun q6 => ?_) (fun q6 => ?_)
        · replace hcf := (if_neg q6).symm.trans hcf
          refine lv_aload_n hx hb dX2_passClock_74 rfl (lv_at hl 1 rfl) ?_
          refine gf_X2_70 hx hb hts hown hE hW q1 dX2_passClock_75 ?_
          refine lv_iconst (v := (2 : Int32)) hx hb dX2_passClock_78 (by decide) ?_
          refine lv_icmp_ne (tgt := 103) hx hb dX2_passClock_79 (by decide) (fun q7 => ?_) (fun q7 => ?_)
          · replace hcf := (if_neg q7).symm.trans hcf
            have hcf := Option.some.inj hcf; subst hcf
            exact wk_vret hx hb hr hlocks hW hS dX2_passClock_103
          · replace hcf := (if_pos q7).symm.trans hcf
            refine lv_aload_n hx hb dX2_passClock_82 rfl (lv_at hl 0 rfl) ?_
            refine lv_aload_n hx hb dX2_passClock_83 rfl (lv_at hl 1 rfl) ?_
            refine gf_X2_73 hx hb hts hown hE hW q1 dX2_passClock_84 ?_
            obtain ⟨q8, hcf⟩ := og hcf
            obtain ⟨x9, hx9, hcf⟩ := ob hcf
            refine iv_X2_56 (As := [.int (V b1 1)]) (rest := []) hx hb hml hown hts hE (ct_X2_isFinished l D cy z n Y V G a0 (V b1 1) x9 hx9) hW hS q8 rfl rfl hl.1 (Nat.le_of_ble_eq_true rfl) ⟨Nat.le_of_ble_eq_true rfl, Nat.le_of_ble_eq_true rfl⟩ dX2_passClock_87 ⟨Nat.zero_le _, Nat.zero_le _⟩ (fun H locs hW hS => ?_)
            refine lv_if_eq (tgt := 103) hx hb dX2_passClock_90 (by decide) (fun q10 => ?_) (fun q10 => ?_)
            · replace hcf := (if_pos q10).symm.trans hcf
              have hcf := Option.some.inj hcf; subst hcf
              exact wk_vret hx hb hr hlocks hW hS dX2_passClock_103
            · replace hcf := (if_neg q10).symm.trans hcf
              refine lv_aload_n hx hb dX2_passClock_93 rfl (lv_at hl 1 rfl) ?_
              refine lv_dup hx hb dX2_passClock_94 rfl ?_
              refine gf_X2_127 hx hb hts hown hE hW q1 dX2_passClock_95 ?_
              refine lv_iconst (v := (1 : Int32)) hx hb dX2_passClock_98 (by decide) ?_
              refine lv_iadd hx hb dX2_passClock_99 ?_
              refine pf_X2_127 hx hb hts hown hE hW hS q1 ((V b1 7) + (1 : Int32)) dX2_passClock_100 (fun H locs hW hS => ?_)
              have hcf := Option.some.inj hcf; subst hcf
              exact wk_vret hx hb hr hlocks hW hS dX2_passClock_103
        · replace hcf := (if_pos q6).symm.trans hcf
          refine lv_aload_n hx hb dX2_passClock_30 rfl (lv_at hl 0 rfl) ?_
          refine lv_aload_n hx hb dX2_passClock_31 rfl (lv_at hl 1 rfl) ?_
          refine gf_X2_73 hx hb hts hown hE hW q1 dX2_passClock_32 ?_
          obtain ⟨q11, hcf⟩ := og hcf
          obtain ⟨x12, hx12, hcf⟩ := ob hcf
          refine iv_X2_52 (As := [.int (V b1 1)]) (rest := []) hx hb hml hown hts hE (ct_X2_isBegun l D cy z n Y V G a0 (V b1 1) x12 hx12) hW hS q11 rfl rfl hl.1 (Nat.le_of_ble_eq_true rfl) ⟨Nat.le_of_ble_eq_true rfl, Nat.le_of_ble_eq_true rfl⟩ dX2_passClock_35 ⟨Nat.zero_le _, Nat.zero_le _⟩ (fun H locs hW hS => ?_)
          refine lv_if_eq (tgt := 74) hx hb dX2_passClock_38 (by decide) (fun q13 => ?_) (fun q13 => ?_)
          · replace hcf := (if_pos q13).symm.trans hcf
            refine lv_aload_n hx hb dX2_passClock_74 rfl (lv_at hl 1 rfl) ?_
            refine gf_X2_70 hx hb hts hown hE hW q1 dX2_passClock_75 ?_
            refine lv_iconst (v := (2 : Int32)) hx hb dX2_passClock_78 (by decide) ?_
            refine lv_icmp_ne (tgt := 103) hx hb dX2_passClock_79 (by decide) (fun q14 => ?_) (fun q14 => ?_)
            · replace hcf := (if_neg q14).symm.trans hcf
              have hcf := Option.some.inj hcf; subst hcf
              exact wk_vret hx hb hr hlocks hW hS dX2_passClock_103
            · replace hcf := (if_pos q14).symm.trans hcf
              refine lv_aload_n hx hb dX2_passClock_82 rfl (lv_at hl 0 rfl) ?_
              refine lv_aload_n hx hb dX2_passClock_83 rfl (lv_at hl 1 rfl) ?_
              refine gf_X2_73 hx hb hts hown hE hW q1 dX2_passClock_84 ?_
              obtain ⟨x15, hx15, hcf⟩ := ob hcf
              refine iv_X2_56 (As := [.int (V b1 1)]) (rest := []) hx hb hml hown hts hE (ct_X2_isFinished l D cy z n Y V G a0 (V b1 1) x15 hx15) hW hS q11 rfl rfl hl.1 (Nat.le_of_ble_eq_true rfl) ⟨Nat.le_of_ble_eq_true rfl, Nat.le_of_ble_eq_true rfl⟩ dX2_passClock_87 ⟨Nat.zero_le _, Nat.zero_le _⟩ (fun H locs hW hS => ?_)
              refine lv_if_eq (tgt := 103) hx hb dX2_passClock_90 (by decide) (fun q16 => ?_) (fun q16 => ?_)
              · replace hcf := (if_pos q16).symm.trans hcf
                have hcf := Option.some.inj hcf; subst hcf
                exact wk_vret hx hb hr hlocks hW hS dX2_passClock_103
              · replace hcf := (if_neg q16).symm.trans hcf
                refine lv_aload_n hx hb dX2_passClock_93 rfl (lv_at hl 1 rfl) ?_
                refine lv_dup hx hb dX2_passClock_94 rfl ?_
                refine gf_X2_127 hx hb hts hown hE hW q1 dX2_passClock_95 ?_
                refine lv_iconst (v := (1 : Int32)) hx hb dX2_passClock_98 (by decide) ?_
                refine lv_iadd hx hb dX2_passClock_99 ?_
                refine pf_X2_127 hx hb hts hown hE hW hS q1 ((V b1 7) + (1 : Int32)) dX2_passClock_100 (fun H locs hW hS => ?_)
                have hcf := Option.some.inj hcf; subst hcf
                exact wk_vret hx hb hr hlocks hW hS dX2_passClock_103
          · replace hcf := (if_neg q13).symm.trans hcf
            refine lv_aload_n hx hb dX2_passClock_41 rfl (lv_at hl 1 rfl) ?_
            refine gf_X2_117 hx hb hts hown hE hW q1 dX2_passClock_42 ?_
            refine lv_if_ne (tgt := 74) hx hb dX2_passClock_45 (by decide) (fun q17 => ?_) (fun q17 => ?_)
            · replace hcf := (if_neg q17).symm.trans hcf
              refine lv_aload_n hx hb dX2_passClock_74 rfl (lv_at hl 1 rfl) ?_
              refine gf_X2_70 hx hb hts hown hE hW q1 dX2_passClock_75 ?_
              refine lv_iconst (v := (2 : Int32)) hx hb dX2_passClock_78 (by decide) ?_
              refine lv_icmp_ne (tgt := 103) hx hb dX2_passClock_79 (by decide) (fun q18 => ?_) (fun q18 => ?_)
              · replace hcf := (if_neg q18).symm.trans hcf
                have hcf := Option.some.inj hcf; subst hcf
                exact wk_vret hx hb hr hlocks hW hS dX2_passClock_103
              · replace hcf := (if_pos q18).symm.trans hcf
                refine lv_aload_n hx hb dX2_passClock_82 rfl (lv_at hl 0 rfl) ?_
                refine lv_aload_n hx hb dX2_passClock_83 rfl (lv_at hl 1 rfl) ?_
                refine gf_X2_73 hx hb hts hown hE hW q1 dX2_passClock_84 ?_
                obtain ⟨x19, hx19, hcf⟩ := ob hcf
                refine iv_X2_56 (As := [.int (V b1 1)]) (rest := []) hx hb hml hown hts hE (ct_X2_isFinished l D cy z n Y V G a0 (V b1 1) x19 hx19) hW hS q11 rfl rfl hl.1 (Nat.le_of_ble_eq_true rfl) ⟨Nat.le_of_ble_eq_true rfl, Nat.le_of_ble_eq_true rfl⟩ dX2_passClock_87 ⟨Nat.zero_le _, Nat.zero_le _⟩ (fun H locs hW hS => ?_)
                refine lv_if_eq (tgt := 103) hx hb dX2_passClock_90 (by decide) (fun q20 => ?_) (fun q20 => ?_)
                · replace hcf := (if_pos q20).symm.trans hcf
                  have hcf := Option.some.inj hcf; subst hcf
                  exact wk_vret hx hb hr hlocks hW hS dX2_passClock_103
                · replace hcf := (if_neg q20).symm.trans hcf
                  refine lv_aload_n hx hb dX2_passClock_93 rfl (lv_at hl 1 rfl) ?_
                  refine lv_dup hx hb dX2_passClock_94 rfl ?_
                  refine gf_X2_127 hx hb hts hown hE hW q1 dX2_passClock_95 ?_
                  refine lv_iconst (v := (1 : Int32)) hx hb dX2_passClock_98 (by decide) ?_
                  refine lv_iadd hx hb dX2_passClock_99 ?_
                  refine pf_X2_127 hx hb hts hown hE hW hS q1 ((V b1 7) + (1 : Int32)) dX2_passClock_100 (fun H locs hW hS => ?_)
                  have hcf := Option.some.inj hcf; subst hcf
                  exact wk_vret hx hb hr hlocks hW hS dX2_passClock_103
            · replace hcf := (if_pos q17).symm.trans hcf
              refine lv_aload_n hx hb dX2_passClock_48 rfl (lv_at hl 1 rfl) ?_
              refine lv_dup hx hb dX2_passClock_49 rfl ?_
              refine gf_X2_127 hx hb hts hown hE hW q1 dX2_passClock_50 ?_
              refine lv_iconst (v := (1 : Int32)) hx hb dX2_passClock_53 (by decide) ?_
              refine lv_iadd hx hb dX2_passClock_54 ?_
              refine pf_X2_127 hx hb hts hown hE hW hS q1 ((V b1 7) + (1 : Int32)) dX2_passClock_55 (fun H locs hW hS => ?_)
              refine lv_aload_n hx hb dX2_passClock_58 rfl (lv_at hl 1 rfl) ?_
              refine gf_X2_127 hx hb hts hown hE hW q1 dX2_passClock_59 ?_
              refine lv_aload_n hx hb dX2_passClock_62 rfl (lv_at hl 1 rfl) ?_
              refine gf_X2_149 hx hb hts hown hE hW q1 dX2_passClock_63 ?_
              refine lv_icmp_le (tgt := 74) hx hb dX2_passClock_66 (by decide) (fun q21 => ?_) (fun q21 => ?_)
              · replace hcf := (if_pos q21).symm.trans hcf
                refine lv_aload_n hx hb dX2_passClock_74 rfl (lv_at hl 1 rfl) ?_
                refine gf_X2_70 hx hb hts hown hE hW q1 dX2_passClock_75 ?_
                refine lv_iconst (v := (2 : Int32)) hx hb dX2_passClock_78 (by decide) ?_
                refine lv_icmp_ne (tgt := 103) hx hb dX2_passClock_79 (by decide) (fun q22 => ?_) (fun q22 => ?_)
                · replace hcf := (if_neg q22).symm.trans hcf
                  have hcf := Option.some.inj hcf; subst hcf
                  exact wk_vret hx hb hr hlocks hW hS dX2_passClock_103
                · replace hcf := (if_pos q22).symm.trans hcf
                  refine lv_aload_n hx hb dX2_passClock_82 rfl (lv_at hl 0 rfl) ?_
                  refine lv_aload_n hx hb dX2_passClock_83 rfl (lv_at hl 1 rfl) ?_
                  refine gf_X2_73 hx hb hts hown hE hW q1 dX2_passClock_84 ?_
                  obtain ⟨x23, hx23, hcf⟩ := ob hcf
                  refine iv_X2_56 (As := [.int ((up2 V b1 7 ((V b1 7) + (1 : Int32))) b1 1)]) (rest := []) hx hb hml hown hts hE (ct_X2_isFinished l D cy z n Y (up2 V b1 7 ((V b1 7) + (1 : Int32))) G a0 ((up2 V b1 7 ((V b1 7) + (1 : Int32))) b1 1) x23 hx23) hW hS q11 rfl rfl hl.1 (Nat.le_of_ble_eq_true rfl) ⟨Nat.le_of_ble_eq_true rfl, Nat.le_of_ble_eq_true rfl⟩ dX2_passClock_87 ⟨Nat.zero_le _, Nat.zero_le _⟩ (fun H locs hW hS => ?_)
                  refine lv_if_eq (tgt := 103) hx hb dX2_passClock_90 (by decide) (fun q24 => ?_) (fun q24 => ?_)
                  · replace hcf := (if_pos q24).symm.trans hcf
                    have hcf := Option.some.inj hcf; subst hcf
                    exact wk_vret hx hb hr hlocks hW hS dX2_passClock_103
                  · replace hcf := (if_neg q24).symm.trans hcf
                    refine lv_aload_n hx hb dX2_passClock_93 rfl (lv_at hl 1 rfl) ?_
                    refine lv_dup hx hb dX2_passClock_94 rfl ?_
                    refine gf_X2_127 hx hb hts hown hE hW q1 dX2_passClock_95 ?_
                    refine lv_iconst (v := (1 : Int32)) hx hb dX2_passClock_98 (by decide) ?_
                    refine lv_iadd hx hb dX2_passClock_99 ?_
                    refine pf_X2_127 hx hb hts hown hE hW hS q1 (((up2 V b1 7 ((V b1 7) + (1 : Int32))) b1 7) + (1 : Int32)) dX2_passClock_100 (fun H locs hW hS => ?_)
                    obtain ⟨V25, hV25, hcf⟩ := ob hcf
                    rw [Option.some.inj hV25] at hW
                    have hcf := Option.some.inj hcf; subst hcf
                    exact wk_vret hx hb hr hlocks hW hS dX2_passClock_103
              · replace hcf := (if_neg q21).symm.trans hcf
                refine lv_aload_n hx hb dX2_passClock_69 rfl (lv_at hl 0 rfl) ?_
                refine lv_aload_n hx hb dX2_passClock_70 rfl (lv_at hl 1 rfl) ?_
                obtain ⟨x26, hx26, hcf⟩ := ob hcf
                refine iv_X2_108 (As := [.ref b1]) (rest := []) hx hb hml hown hts hE (ct_X2_startBreach l D cy z n Y (up2 V b1 7 ((V b1 7) + (1 : Int32))) G a0 b1 x26 hx26) hW hS q11 rfl rfl hl.1 (Nat.le_of_ble_eq_true rfl) ⟨Nat.le_of_ble_eq_true rfl, Nat.le_of_ble_eq_true rfl⟩ dX2_passClock_71 ⟨Nat.zero_le _, Nat.zero_le _⟩ (fun H locs hW hS => ?_)
                refine lv_aload_n hx hb dX2_passClock_74 rfl (lv_at hl 1 rfl) ?_
                refine gf_X2_70 hx hb hts hown hE hW q1 dX2_passClock_75 ?_
                refine lv_iconst (v := (2 : Int32)) hx hb dX2_passClock_78 (by decide) ?_
                refine lv_icmp_ne (tgt := 103) hx hb dX2_passClock_79 (by decide) (fun q27 => ?_) (fun q27 => ?_)
                · replace hcf := (if_neg q27).symm.trans hcf
                  have hcf := Option.some.inj hcf; subst hcf
                  exact wk_vret hx hb hr hlocks hW hS dX2_passClock_103
                · replace hcf := (if_pos q27).symm.trans hcf
                  refine lv_aload_n hx hb dX2_passClock_82 rfl (lv_at hl 0 rfl) ?_
                  refine lv_aload_n hx hb dX2_passClock_83 rfl (lv_at hl 1 rfl) ?_
                  refine gf_X2_73 hx hb hts hown hE hW q1 dX2_passClock_84 ?_
                  obtain ⟨x28, hx28, hcf⟩ := ob hcf
                  refine iv_X2_56 (As := [.int (x26 b1 1)]) (rest := []) hx hb hml hown hts hE (ct_X2_isFinished l D cy z n Y x26 G a0 (x26 b1 1) x28 hx28) hW hS q11 rfl rfl hl.1 (Nat.le_of_ble_eq_true rfl) ⟨Nat.le_of_ble_eq_true rfl, Nat.le_of_ble_eq_true rfl⟩ dX2_passClock_87 ⟨Nat.zero_le _, Nat.zero_le _⟩ (fun H locs hW hS => ?_)
                  refine lv_if_eq (tgt := 103) hx hb dX2_passClock_90 (by decide) (fun q29 => ?_) (fun q29 => ?_)
                  · replace hcf := (if_pos q29).symm.trans hcf
                    have hcf := Option.some.inj hcf; subst hcf
                    exact wk_vret hx hb hr hlocks hW hS dX2_passClock_103
                  · replace hcf := (if_neg q29).symm.trans hcf
                    refine lv_aload_n hx hb dX2_passClock_93 rfl (lv_at hl 1 rfl) ?_
                    refine lv_dup hx hb dX2_passClock_94 rfl ?_
                    refine gf_X2_127 hx hb hts hown hE hW q1 dX2_passClock_95 ?_
                    refine lv_iconst (v := (1 : Int32)) hx hb dX2_passClock_98 (by decide) ?_
                    refine lv_iadd hx hb dX2_passClock_99 ?_
                    refine pf_X2_127 hx hb hts hown hE hW hS q1 ((x26 b1 7) + (1 : Int32)) dX2_passClock_100 (fun H locs hW hS => ?_)
                    have hcf := Option.some.inj hcf; subst hcf
                    exact wk_vret hx hb hr hlocks hW hS dX2_passClock_103
      · replace hcf := (if_neg q5).symm.trans hcf
        have hcf := Option.some.inj hcf; subst hcf
        exact wk_vret hx hb hr hlocks hW hS dX2_passClock_21
set_option maxHeartbeats 4000000 in
set_option maxRecDepth 100000 in
theorem ct_X2_passDayOf (l : Launch) (D : va_G) (cy : Nat → ClassId) (z n : Nat) (Y : mY) (V : mV) (G : mG) (a0 : Nat) (b1 : Nat) (x : mV) (hcf : cf_X2_passDayOf Y V G a0 b1 = some x) : CT l yX2_passDayOf cX2_passDayOf 3 none (rmd 3) D cy z [.ref a0, .ref b1] Y n V G none Y n x G := by
  refine ct_of (by decide) (Nat.le_of_ble_eq_true rfl) ?_
  intro p e s m args below meth c ls hx hb hr hml hown hts hlocks hnm hE hW hl
  have hS : va_S (zA z) s.heap s.heap [] := va_S.rf
  have hl : lv_has ls 3 [(0, .ref a0), (1, .ref b1)] := hl
  have hown : s.vm.findClass RX2 = some m.cls := hown
  rw [cf_X2_passDayOf] at hcf
  refine lv_aload_n hx hb dX2_passDayOf_0 rfl (lv_at hl 1 rfl) ?_
  obtain ⟨q1, hcf⟩ := og hcf
  refine gf_X2_63 hx hb hts hown hE hW q1 dX2_passDayOf_1 ?_
  refine lv_istore_n (lv' := [(2, .int (V b1 8)), (0, .ref a0), (1, .ref b1)]) hx hb dX2_passDayOf_4 rfl hl (by decide) rfl (fun ls hl => ?_)
  refine lv_aload_n hx hb dX2_passDayOf_5 rfl (lv_at hl 2 rfl) ?_
  refine gf_X2_117 hx hb hts hown hE hW q1 dX2_passDayOf_6 ?_
  refine lv_if_eq (tgt := 57) hx hb dX2_passDayOf_9 (by decide) (fun q2 => ?_) (fun q2 => ?_)
  · replace hcf := (if_pos q2).symm.trans hcf
    refine lv_aload_n hx hb dX2_passDayOf_57 rfl (lv_at hl 1 rfl) ?_
    refine lv_aload_n hx hb dX2_passDayOf_58 rfl (lv_at hl 2 rfl) ?_
    obtain ⟨q3, hcf⟩ := og hcf
    obtain ⟨x4, hx4, hcf⟩ := ob hcf
    refine iv_X2_155 (As := [.ref b1]) (rest := []) hx hb hml hown hts hE (ct_X2_passClock l D cy z n Y V G a0 b1 x4 hx4) hW hS q3 rfl rfl hl.1 (Nat.le_of_ble_eq_true rfl) ⟨Nat.le_of_ble_eq_true rfl, Nat.le_of_ble_eq_true rfl⟩ dX2_passDayOf_59 ⟨Nat.zero_le _, Nat.zero_le _⟩ (fun H locs hW hS => ?_)
    refine lv_iload_n hx hb dX2_passDayOf_62 rfl (lv_at hl 0 rfl) ?_
    refine lv_if_eq (tgt := 81) hx hb dX2_passDayOf_63 (by decide) (fun q5 => ?_) (fun q5 => ?_)
    · replace hcf := (if_pos q5).symm.trans hcf
      have hcf := Option.some.inj hcf; subst hcf
      exact wk_vret hx hb hr hlocks hW hS dX2_passDayOf_81
    · replace hcf := (if_neg q5).symm.trans hcf
      refine lv_aload_n hx hb dX2_passDayOf_66 rfl (lv_at hl 2 rfl) ?_
      refine gf_X2_63 hx hb hts hown hE hW q1 dX2_passDayOf_67 ?_
      refine lv_if_eq (tgt := 81) hx hb dX2_passDayOf_70 (by decide) (fun q6 => ?_) (fun q6 => ?_)
      · replace hcf := (if_pos q6).symm.trans hcf
        have hcf := Option.some.inj hcf; subst hcf
        exact wk_vret hx hb hr hlocks hW hS dX2_passDayOf_81
      · replace hcf := (if_neg q6).symm.trans hcf
        refine lv_aload_n hx hb dX2_passDayOf_73 rfl (lv_at hl 2 rfl) ?_
        refine lv_aload_n hx hb dX2_passDayOf_74 rfl (lv_at hl 1 rfl) ?_
        refine gf_X2_40 hx hb hts hown hE hW q3 dX2_passDayOf_75 ?_
        obtain ⟨x7, hx7, hcf⟩ := ob hcf
        refine iv_X2_158 (As := [.int (x4 a0 8)]) (rest := []) hx hb hml hown hts hE (ct_X0_ageBreach l D cy z n Y x4 G b1 (x4 a0 8) x7 hx7) hW hS q1 rfl rfl hl.1 (Nat.le_of_ble_eq_true rfl) ⟨Nat.le_of_ble_eq_true rfl, Nat.le_of_ble_eq_true rfl⟩ dX2_passDayOf_78 ⟨Nat.zero_le _, Nat.zero_le _⟩ (fun H locs hW hS => ?_)
        have hcf := Option.some.inj hcf; subst hcf
        exact wk_vret hx hb hr hlocks hW hS dX2_passDayOf_81
  · replace hcf := (if_neg q2).symm.trans hcf
    refine lv_aload_n hx hb dX2_passDayOf_12 rfl (lv_at hl 2 rfl) ?_
    refine lv_dup hx hb dX2_passDayOf_13 rfl ?_
    refine gf_X2_120 hx hb hts hown hE hW q1 dX2_passDayOf_14 ?_
    refine lv_iconst (v := (1 : Int32)) hx hb dX2_passDayOf_17 (by decide) ?_
    refine lv_iadd hx hb dX2_passDayOf_18 ?_
    refine pf_X2_120 hx hb hts hown hE hW hS q1 ((V b1 6) + (1 : Int32)) dX2_passDayOf_19 (fun H locs hW hS => ?_)
    refine lv_aload_n hx hb dX2_passDayOf_22 rfl (lv_at hl 2 rfl) ?_
    refine gf_X2_120 hx hb hts hown hE hW q1 dX2_passDayOf_23 ?_
    refine lv_aload_n hx hb dX2_passDayOf_26 rfl (lv_at hl 1 rfl) ?_
    obtain ⟨q8, hcf⟩ := og hcf
    refine gf_X2_37 hx hb hts hown hE hW q8 dX2_passDayOf_27 ?_
    refine lv_icmp_lt (tgt := 57) hx hb dX2_passDayOf_30 (by decide) (fun q9 => ?_) (fun q9 => ?_)
    · replace hcf := (if_pos q9).symm.trans hcf
      refine lv_aload_n hx hb dX2_passDayOf_57 rfl (lv_at hl 1 rfl) ?_
      refine lv_aload_n hx hb dX2_passDayOf_58 rfl (lv_at hl 2 rfl) ?_
      obtain ⟨x10, hx10, hcf⟩ := ob hcf
      refine iv_X2_155 (As := [.ref b1]) (rest := []) hx hb hml hown hts hE (ct_X2_passClock l D cy z n Y (up2 V b1 6 ((V b1 6) + (1 : Int32))) G a0 b1 x10 hx10) hW hS q8 rfl rfl hl.1 (Nat.le_of_ble_eq_true rfl) ⟨Nat.le_of_ble_eq_true rfl, Nat.le_of_ble_eq_true rfl⟩ dX2_passDayOf_59 ⟨Nat.zero_le _, Nat.zero_le _⟩ (fun H locs hW hS => ?_)
      refine lv_iload_n hx hb dX2_passDayOf_62 rfl (lv_at hl 0 rfl) ?_
      refine lv_if_eq (tgt := 81) hx hb dX2_passDayOf_63 (by decide) (fun q11 => ?_) (fun q11 => ?_)
      · replace hcf := (if_pos q11).symm.trans hcf
        have hcf := Option.some.inj hcf; subst hcf
        exact wk_vret hx hb hr hlocks hW hS dX2_passDayOf_81
      · replace hcf := (if_neg q11).symm.trans hcf
        refine lv_aload_n hx hb dX2_passDayOf_66 rfl (lv_at hl 2 rfl) ?_
        refine gf_X2_63 hx hb hts hown hE hW q1 dX2_passDayOf_67 ?_
        refine lv_if_eq (tgt := 81) hx hb dX2_passDayOf_70 (by decide) (fun q12 => ?_) (fun q12 => ?_)
        · replace hcf := (if_pos q12).symm.trans hcf
          have hcf := Option.some.inj hcf; subst hcf
          exact wk_vret hx hb hr hlocks hW hS dX2_passDayOf_81
        · replace hcf := (if_neg q12).symm.trans hcf
          refine lv_aload_n hx hb dX2_passDayOf_73 rfl (lv_at hl 2 rfl) ?_
          refine lv_aload_n hx hb dX2_passDayOf_74 rfl (lv_at hl 1 rfl) ?_
          refine gf_X2_40 hx hb hts hown hE hW q8 dX2_passDayOf_75 ?_
          obtain ⟨x13, hx13, hcf⟩ := ob hcf
          refine iv_X2_158 (As := [.int (x10 a0 8)]) (rest := []) hx hb hml hown hts hE (ct_X0_ageBreach l D cy z n Y x10 G b1 (x10 a0 8) x13 hx13) hW hS q1 rfl rfl hl.1 (Nat.le_of_ble_eq_true rfl) ⟨Nat.le_of_ble_eq_true rfl, Nat.le_of_ble_eq_true rfl⟩ dX2_passDayOf_78 ⟨Nat.zero_le _, Nat.zero_le _⟩ (fun H locs hW hS => ?_)
          have hcf := Option.some.inj hcf; subst hcf
          exact wk_vret hx hb hr hlocks hW hS dX2_passDayOf_81
    · replace hcf := (if_neg q9).symm.trans hcf
      refine lv_aload_n hx hb dX2_passDayOf_33 rfl (lv_at hl 1 rfl) ?_
      refine lv_dup hx hb dX2_passDayOf_34 rfl ?_
      refine gf_X2_34 hx hb hts hown hE hW q8 dX2_passDayOf_35 ?_
      refine lv_aload_n hx hb dX2_passDayOf_38 rfl (lv_at hl 2 rfl) ?_
      refine gf_X2_117 hx hb hts hown hE hW q1 dX2_passDayOf_39 ?_
      obtain ⟨x14, hx14, hcf⟩ := ob hcf
      refine iv_X2_86 (As := [.int ((up2 V b1 6 ((V b1 6) + (1 : Int32))) b1 5)]) (rest := [.int ((up2 V b1 6 ((V b1 6) + (1 : Int32))) a0 6), .ref a0]) hx hb hml hown hts hE (ct_J6_bitCount_0f7a4 l D cy z n Y (up2 V b1 6 ((V b1 6) + (1 : Int32))) G ((up2 V b1 6 ((V b1 6) + (1 : Int32))) b1 5) x14 hx14) hW hS rfl rfl hl.1 (Nat.le_of_ble_eq_true rfl) ⟨Nat.le_of_ble_eq_true rfl, Nat.le_of_ble_eq_true rfl⟩ dX2_passDayOf_42 ⟨Nat.zero_le _, Nat.zero_le _⟩ (fun H locs hW hS => ?_)
      refine lv_iadd hx hb dX2_passDayOf_45 ?_
      refine pf_X2_34 hx hb hts hown hE hW hS q8 (((up2 V b1 6 ((V b1 6) + (1 : Int32))) a0 6) + x14) dX2_passDayOf_46 (fun H locs hW hS => ?_)
      obtain ⟨V15, hV15, hcf⟩ := ob hcf
      rw [Option.some.inj hV15] at hW
      refine lv_aload_n hx hb dX2_passDayOf_49 rfl (lv_at hl 2 rfl) ?_
      refine lv_aload_n hx hb dX2_passDayOf_50 rfl (lv_at hl 2 rfl) ?_
      refine gf_X2_117 hx hb hts hown hE hW q1 dX2_passDayOf_51 ?_
      obtain ⟨x16, hx16, hcf⟩ := ob hcf
      refine iv_X2_123 (As := [.int (V15 b1 5)]) (rest := []) hx hb hml hown hts hE (ct_X0_approve l D cy z n Y V15 G b1 (V15 b1 5) x16 hx16) hW hS q1 rfl rfl hl.1 (Nat.le_of_ble_eq_true rfl) ⟨Nat.le_of_ble_eq_true rfl, Nat.le_of_ble_eq_true rfl⟩ dX2_passDayOf_54 ⟨Nat.zero_le _, Nat.zero_le _⟩ (fun H locs hW hS => ?_)
      refine lv_aload_n hx hb dX2_passDayOf_57 rfl (lv_at hl 1 rfl) ?_
      refine lv_aload_n hx hb dX2_passDayOf_58 rfl (lv_at hl 2 rfl) ?_
      obtain ⟨x17, hx17, hcf⟩ := ob hcf
      refine iv_X2_155 (As := [.ref b1]) (rest := []) hx hb hml hown hts hE (ct_X2_passClock l D cy z n Y x16 G a0 b1 x17 hx17) hW hS q8 rfl rfl hl.1 (Nat.le_of_ble_eq_true rfl) ⟨Nat.le_of_ble_eq_true rfl, Nat.le_of_ble_eq_true rfl⟩ dX2_passDayOf_59 ⟨Nat.zero_le _, Nat.zero_le _⟩ (fun H locs hW hS => ?_)
      refine lv_iload_n hx hb dX2_passDayOf_62 rfl (lv_at hl 0 rfl) ?_
      refine lv_if_eq (tgt := 81) hx hb dX2_passDayOf_63 (by decide) (fun q18 => ?_) (fun q18 => ?_)
      · replace hcf := (if_pos q18).symm.trans hcf
        have hcf := Option.some.inj hcf; subst hcf
        exact wk_vret hx hb hr hlocks hW hS dX2_passDayOf_81
      · replace hcf := (if_neg q18).symm.trans hcf
        refine lv_aload_n hx hb dX2_passDayOf_66 rfl (lv_at hl 2 rfl) ?_
        refine gf_X2_63 hx hb hts hown hE hW q1 dX2_passDayOf_67 ?_
        refine lv_if_eq (tgt := 81) hx hb dX2_passDayOf_70 (by decide) (fun q19 => ?_) (fun q19 => ?_)
        · replace hcf := (if_pos q19).symm.trans hcf
          have hcf := Option.some.inj hcf; subst hcf
          exact wk_vret hx hb hr hlocks hW hS dX2_passDayOf_81
        · replace hcf := (if_neg q19).symm.trans hcf
          refine lv_aload_n hx hb dX2_passDayOf_73 rfl (lv_at hl 2 rfl) ?_
          refine lv_aload_n hx hb dX2_passDayOf_74 rfl (lv_at hl 1 rfl) ?_
          refine gf_X2_40 hx hb hts hown hE hW q8 dX2_passDayOf_75 ?_
          obtain ⟨x20, hx20, hcf⟩ := ob hcf
          refine iv_X2_158 (As := [.int (x17 a0 8)]) (rest := []) hx hb hml hown hts hE (ct_X0_ageBreach l D cy z n Y x17 G b1 (x17 a0 8) x20 hx20) hW hS q1 rfl rfl hl.1 (Nat.le_of_ble_eq_true rfl) ⟨Nat.le_of_ble_eq_true rfl, Nat.le_of_ble_eq_true rfl⟩ dX2_passDayOf_78 ⟨Nat.zero_le _, Nat.zero_le _⟩ (fun H locs hW hS => ?_)
          have hcf := Option.some.inj hcf; subst hcf
          exact wk_vret hx hb hr hlocks hW hS dX2_passDayOf_81
set_option maxHeartbeats 4000000 in
set_option maxRecDepth 100000 in
theorem wl_X2_passDays_48 {p : Program} {l : Launch} {e : Env} {s : State} {m : MethodId} {args : Array Value} {below : List Frame} {meth : Method} {c : Code} {D : va_G} {cy : Nat → ClassId} {z : Nat} {Q : State → Prop} {n : Nat} {Y : mY} {G : mG} (hx : p.tables.exec = Jvm.exec) (hb : c.code = cX2_passDays) (hr : meth.sig.returnType = (some .int)) (hml : c.maxLocals = 4) (hown : s.vm.findClass RX2 = some m.cls) (hts : ∀ w ∈ lw_all, w.before args s = true) (hlocks : meth.locks = false) (hE : En D cy s) (y : mV × Int32 × Int32 × Int32) : ∀ (k : Nat) (V : mV) (j0 : Nat) (j1 : Int32) (j2 : Int32) (j3 : Int32) (H : Heap) (locs : List Loc) (ls : Array Slot), lp_X2_passDays_48 Y G k V j0 j1 j2 j3 = some y → Wd Y cy D z n V G H → va_S (zA z) s.heap H locs → lv_has ls 4 [(0, .ref j0), (1, .int j1), (2, .int j2), (3, .int j3)] → (∀ (H : Heap) (locs : List Loc) (ls : Array Slot), Wd Y cy D z n y.1 G H → va_S (zA z) s.heap H locs → lv_has ls 4 [(0, .ref j0), (1, .int y.2.1), (2, .int y.2.2.1), (3, .int y.2.2.2)] → W p l e (rmd 4) s m args below meth c H locs 0 0 Q (F0 m 72 ls [])) → W p l e (rmd 4) s m args below meth c H locs 0 0 Q (F0 m 48 ls []) := by
  intro k
  induction k with
  | zero =>
    intro V j0 j1 j2 j3 H locs ls hcf
    have hcf : none = some _ := hcf
    cases hcf
  | succ k ih =>
    intro V j0 j1 j2 j3 H locs ls hcf hW hS hl kk
    rw [lp_X2_passDays_48] at hcf
    refine lv_iload_n hx hb dX2_passDays_48 rfl (lv_at hl 3 rfl) ?_
    refine lv_aload_n hx hb dX2_passDays_49 rfl (lv_at hl 0 rfl) ?_
    obtain ⟨q8, hcf⟩ := og hcf
    refine gf_X2_24 hx hb hts hown hE hW q8 dX2_passDays_50 ?_
    refine lv_icmp_ge (tgt := 72) hx hb dX2_passDays_53 (by decide) (fun q9 => ?_) (fun q9 => ?_)
    · replace hcf := (if_pos q9).symm.trans hcf
      have hcf := Option.some.inj hcf; subst hcf; exact kk _ _ _ hW hS (lv_sub hl [0, 1, 2, 3] rfl)
    · replace hcf := (if_neg q9).symm.trans hcf
      refine lv_aload_n hx hb dX2_passDays_56 rfl (lv_at hl 0 rfl) ?_
      refine lv_aload_n hx hb dX2_passDays_57 rfl (lv_at hl 0 rfl) ?_
      obtain ⟨r10, hr10, hcf⟩ := ob hcf
      refine gf_X2_11 hx hb hts hown hE hW q8 hr10 dX2_passDays_58 ?_
      refine lv_iload_n hx hb dX2_passDays_61 rfl (lv_at hl 3 rfl) ?_
      obtain ⟨q11, hcf⟩ := og hcf
      obtain ⟨q12, hcf⟩ := og hcf
      obtain ⟨r13, hr13, hcf⟩ := ob hcf
      refine wk_aald hx hb hE hW q11 q12 hr13 dX2_passDays_62 ?_
      obtain ⟨x14, hx14, hcf⟩ := ob hcf
      refine iv_X2_152 (As := [.ref r13]) (rest := []) hx hb hml hown hts hE (ct_X2_passDayOf l D cy z n Y V G j0 r13 x14 hx14) hW hS q8 rfl rfl hl.1 (Nat.le_of_ble_eq_true rfl) ⟨Nat.le_of_ble_eq_true rfl, Nat.le_of_ble_eq_true rfl⟩ dX2_passDays_63 ⟨Nat.zero_le _, Nat.zero_le _⟩ (fun H locs hW hS => ?_)
      refine lv_iinc (v := (j3 + 1)) (lv' := [(3, .int (j3 + 1)), (0, .ref j0), (1, .int j1), (2, .int j2)]) hx hb dX2_passDays_66 hl (k := 3) rfl rfl (by decide) rfl (fun ls hl => ?_)
      refine lv_goto (tgt := 48) hx hb dX2_passDays_69 (by decide) ?_
      exact ih x14 j0 j1 j2 (j3 + 1) _ _ _ hcf hW hS (lv_sub hl [1, 2, 3, 0] rfl) kk
set_option maxHeartbeats 4000000 in
set_option maxRecDepth 100000 in
theorem wl_X2_passDays_31 {p : Program} {l : Launch} {e : Env} {s : State} {m : MethodId} {args : Array Value} {below : List Frame} {meth : Method} {c : Code} {D : va_G} {cy : Nat → ClassId} {z : Nat} {n : Nat} {Y : mY} {G : mG} (hx : p.tables.exec = Jvm.exec) (hb : c.code = cX2_passDays) (hr : meth.sig.returnType = (some .int)) (hml : c.maxLocals = 4) (hown : s.vm.findClass RX2 = some m.cls) (hts : ∀ w ∈ lw_all, w.before args s = true) (hlocks : meth.locks = false) (hE : En D cy s) (x : Int32 × mV) : ∀ (k : Nat) (V : mV) (j0 : Nat) (j1 : Int32) (j2 : Int32) (H : Heap) (locs : List Loc) (ls : Array Slot), lp_X2_passDays_31 Y G k V j0 j1 j2 = some x → Wd Y cy D z n V G H → va_S (zA z) s.heap H locs → lv_has ls 4 [(0, .ref j0), (1, .int j1), (2, .int j2)] → W p l e (rmd 4) s m args below meth c H locs 0 0 (MQ below (QC D cy z Y n x.2 G (some (.int x.1))) args s 0 0 (zA z)) (F0 m 31 ls []) := by
  intro k
  induction k with
  | zero =>
    intro V j0 j1 j2 H locs ls hcf
    have hcf : none = some _ := hcf
    cases hcf
  | succ k ih =>
    intro V j0 j1 j2 H locs ls hcf hW hS hl
    rw [lp_X2_passDays_31] at hcf
    refine lv_iload_n hx hb dX2_passDays_31 rfl (lv_at hl 2 rfl) ?_
    refine lv_iload_n hx hb dX2_passDays_32 rfl (lv_at hl 1 rfl) ?_
    refine lv_icmp_ge (tgt := 78) hx hb dX2_passDays_33 (by decide) (fun q5 => ?_) (fun q5 => ?_)
    · replace hcf := (if_pos q5).symm.trans hcf
      refine lv_aload_n hx hb dX2_passDays_78 rfl (lv_at hl 0 rfl) ?_
      obtain ⟨q6, hcf⟩ := og hcf
      refine gf_X2_28 hx hb hts hown hE hW q6 dX2_passDays_79 ?_
      have hcf := Option.some.inj hcf; subst hcf
      exact wk_iret hx hb hr hlocks hW hS dX2_passDays_82
    · replace hcf := (if_neg q5).symm.trans hcf
      refine lv_aload_n hx hb dX2_passDays_36 rfl (lv_at hl 0 rfl) ?_
      refine lv_dup hx hb dX2_passDays_37 rfl ?_
      obtain ⟨q7, hcf⟩ := og hcf
      refine gf_X2_28 hx hb hts hown hE hW q7 dX2_passDays_38 ?_
      refine lv_iconst (v := (1 : Int32)) hx hb dX2_passDays_41 (by decide) ?_
      refine lv_iadd hx hb dX2_passDays_42 ?_
      refine pf_X2_28 hx hb hts hown hE hW hS q7 ((V j0 4) + (1 : Int32)) dX2_passDays_43 (fun H locs hW hS => ?_)
      refine lv_iconst (v := (0 : Int32)) hx hb dX2_passDays_46 (by decide) ?_
      refine lv_istore_n (lv' := [(3, .int (0 : Int32)), (0, .ref j0), (1, .int j1), (2, .int j2)]) hx hb dX2_passDays_47 rfl hl (by decide) rfl (fun ls hl => ?_)
      obtain ⟨x15, hx15, hcf⟩ := ob hcf
      refine wl_X2_passDays_48 hx hb hr hml hown hts hlocks hE x15 fuB (up2 V j0 4 ((V j0 4) + (1 : Int32))) j0 j1 j2 (0 : Int32) _ _ _ hx15 hW hS (lv_sub hl [1, 2, 3, 0] rfl) (fun H locs ls hW hS hl => ?_)
      refine lv_iinc (v := (x15.2.2.1 + 1)) (lv' := [(2, .int (x15.2.2.1 + 1)), (0, .ref j0), (1, .int x15.2.1), (3, .int x15.2.2.2)]) hx hb dX2_passDays_72 hl (k := 2) rfl rfl (by decide) rfl (fun ls hl => ?_)
      refine lv_goto (tgt := 31) hx hb dX2_passDays_75 (by decide) ?_
      exact ih x15.1 j0 x15.2.1 (x15.2.2.1 + 1) _ _ _ hcf hW hS (lv_sub hl [1, 2, 0] rfl)
set_option maxHeartbeats 4000000 in
set_option maxRecDepth 100000 in
theorem ct_X2_passDays (l : Launch) (D : va_G) (cy : Nat → ClassId) (z n : Nat) (Y : mY) (V : mV) (G : mG) (a0 : Nat) (b1 : Int32) (x : Int32 × mV) (hcf : cf_X2_passDays Y V G a0 b1 = some x) : CT l yX2_passDays cX2_passDays 4 (some .int) (rmd 4) D cy z [.ref a0, .int b1] Y n V G (some (.int x.1)) Y n x.2 G := by
  refine ct_of (by decide) (Nat.le_of_ble_eq_true rfl) ?_
  intro p e s m args below meth c ls hx hb hr hml hown hts hlocks hnm hE hW hl
  have hS : va_S (zA z) s.heap s.heap [] := va_S.rf
  have hl : lv_has ls 4 [(0, .ref a0), (1, .int b1)] := hl
  have hown : s.vm.findClass RX2 = some m.cls := hown
  rw [cf_X2_passDays] at hcf
  refine lv_iload_n hx hb dX2_passDays_0 rfl (lv_at hl 1 rfl) ?_
  refine lv_iconst (v := (1 : Int32)) hx hb dX2_passDays_1 (by decide) ?_
  refine lv_sipush (v := (400 : Int32)) hx hb dX2_passDays_2 (by decide) ?_
  obtain ⟨x1, hx1, hcf⟩ := ob hcf
  refine iv_X2_48 (As := [.int b1, .int (1 : Int32), .int (400 : Int32)]) (rest := []) hx hb hml hown hts hE (ct_X3_isWithin l D cy z n Y V G b1 (1 : Int32) (400 : Int32) x1 hx1) hW hS rfl rfl hl.1 (Nat.le_of_ble_eq_true rfl) ⟨Nat.le_of_ble_eq_true rfl, Nat.le_of_ble_eq_true rfl⟩ dX2_passDays_5 ⟨Nat.zero_le _, Nat.zero_le _⟩ (fun H locs hW hS => ?_)
  refine lv_if_ne (tgt := 14) hx hb dX2_passDays_8 (by decide) (fun q2 => ?_) (fun q2 => ?_)
  · replace hcf := (if_neg q2).symm.trans hcf
    refine lv_aload_n hx hb dX2_passDays_14 rfl (lv_at hl 0 rfl) ?_
    obtain ⟨q3, hcf⟩ := og hcf
    refine gf_X2_28 hx hb hts hown hE hW q3 dX2_passDays_15 ?_
    refine lv_iload_n hx hb dX2_passDays_18 rfl (lv_at hl 1 rfl) ?_
    refine lv_iadd hx hb dX2_passDays_19 ?_
    refine lv_sipush (v := (9999 : Int32)) hx hb dX2_passDays_20 (by decide) ?_
    refine lv_icmp_le (tgt := 29) hx hb dX2_passDays_23 (by decide) (fun q4 => ?_) (fun q4 => ?_)
    · replace hcf := (if_pos q4).symm.trans hcf
      refine lv_iconst (v := (0 : Int32)) hx hb dX2_passDays_29 (by decide) ?_
      refine lv_istore_n (lv' := [(2, .int (0 : Int32)), (0, .ref a0), (1, .int b1)]) hx hb dX2_passDays_30 rfl hl (by decide) rfl (fun ls hl => ?_)
      exact wl_X2_passDays_31 hx hb hr hml hown hts hlocks hE x fuB V a0 b1 (0 : Int32) _ _ _ hcf hW hS (lv_sub hl [1, 2, 0] rfl)
    · replace hcf := (if_neg q4).symm.trans hcf
      refine lv_ldc hx hb hown (hts _ q250) dX2_passDays_26 ?_
      have hcf := Option.some.inj hcf; subst hcf
      exact wk_iret hx hb hr hlocks hW hS dX2_passDays_28
  · replace hcf := (if_pos q2).symm.trans hcf
    refine lv_ldc hx hb hown (hts _ q244) dX2_passDays_11 ?_
    have hcf := Option.some.inj hcf; subst hcf
    exact wk_iret hx hb hr hlocks hW hS dX2_passDays_13
set_option maxHeartbeats 4000000 in
set_option maxRecDepth 100000 in
theorem wl_X2_daysUntil_21 {p : Program} {l : Launch} {e : Env} {s : State} {m : MethodId} {args : Array Value} {below : List Frame} {meth : Method} {c : Code} {D : va_G} {cy : Nat → ClassId} {z : Nat} {n : Nat} {Y : mY} {G : mG} (hx : p.tables.exec = Jvm.exec) (hb : c.code = cX2_daysUntil) (hr : meth.sig.returnType = (some .int)) (hml : c.maxLocals = 5) (hown : s.vm.findClass RX2 = some m.cls) (hts : ∀ w ∈ lw_all, w.before args s = true) (hlocks : meth.locks = false) (hE : En D cy s) (x : Int32 × mV) : ∀ (k : Nat) (V : mV) (j0 : Nat) (j1 : Int32) (j2 : Int32) (j3 : Nat) (j4 : Int32) (H : Heap) (locs : List Loc) (ls : Array Slot), lp_X2_daysUntil_21 Y G k V j0 j1 j2 j3 j4 = some x → Wd Y cy D z n V G H → va_S (zA z) s.heap H locs → lv_has ls 5 [(0, .ref j0), (1, .int j1), (2, .int j2), (3, .ref j3), (4, .int j4)] → W p l e (rmd 4) s m args below meth c H locs 0 0 (MQ below (QC D cy z Y n x.2 G (some (.int x.1))) args s 0 0 (zA z)) (F0 m 21 ls []) := by
  intro k
  induction k with
  | zero =>
    intro V j0 j1 j2 j3 j4 H locs ls hcf
    have hcf : none = some _ := hcf
    cases hcf
  | succ k ih =>
    intro V j0 j1 j2 j3 j4 H locs ls hcf hW hS hl
    rw [lp_X2_daysUntil_21] at hcf
    refine lv_iload hx hb dX2_daysUntil_21 (lv_at hl 4 rfl) ?_
    refine lv_sipush (v := (400 : Int32)) hx hb dX2_daysUntil_23 (by decide) ?_
    refine lv_icmp_gt (tgt := 52) hx hb dX2_daysUntil_26 (by decide) (fun q8 => ?_) (fun q8 => ?_)
    · replace hcf := (if_pos q8).symm.trans hcf
      refine lv_ldc hx hb hown (hts _ q479) dX2_daysUntil_52 ?_
      have hcf := Option.some.inj hcf; subst hcf
      exact wk_iret hx hb hr hlocks hW hS dX2_daysUntil_54
    · replace hcf := (if_neg q8).symm.trans hcf
      refine lv_aload_n hx hb dX2_daysUntil_29 rfl (lv_at hl 0 rfl) ?_
      refine lv_aload_n hx hb dX2_daysUntil_30 rfl (lv_at hl 3 rfl) ?_
      obtain ⟨q9, hcf⟩ := og hcf
      obtain ⟨x10, hx10, hcf⟩ := ob hcf
      refine iv_X2_76 (As := [.ref j3]) (rest := []) hx hb hml hown hts hE (ct_X2_stateOf l D cy z n Y V G j0 j3 x10 hx10) hW hS q9 rfl rfl hl.1 (Nat.le_of_ble_eq_true rfl) ⟨Nat.le_of_ble_eq_true rfl, Nat.le_of_ble_eq_true rfl⟩ dX2_daysUntil_31 ⟨Nat.zero_le _, Nat.zero_le _⟩ (fun H locs hW hS => ?_)
      refine lv_iload_n hx hb dX2_daysUntil_34 rfl (lv_at hl 2 rfl) ?_
      refine lv_icmp_ne (tgt := 41) hx hb dX2_daysUntil_35 (by decide) (fun q11 => ?_) (fun q11 => ?_)
      · replace hcf := (if_neg q11).symm.trans hcf
        refine lv_aload_n hx hb dX2_daysUntil_41 rfl (lv_at hl 0 rfl) ?_
        refine lv_aload_n hx hb dX2_daysUntil_42 rfl (lv_at hl 3 rfl) ?_
        obtain ⟨x12, hx12, hcf⟩ := ob hcf
        refine iv_X2_152 (As := [.ref j3]) (rest := []) hx hb hml hown hts hE (ct_X2_passDayOf l D cy z n Y V G j0 j3 x12 hx12) hW hS q9 rfl rfl hl.1 (Nat.le_of_ble_eq_true rfl) ⟨Nat.le_of_ble_eq_true rfl, Nat.le_of_ble_eq_true rfl⟩ dX2_daysUntil_43 ⟨Nat.zero_le _, Nat.zero_le _⟩ (fun H locs hW hS => ?_)
        refine lv_iinc (v := (j4 + 1)) (lv' := [(4, .int (j4 + 1)), (0, .ref j0), (1, .int j1), (2, .int j2), (3, .ref j3)]) hx hb dX2_daysUntil_46 hl (k := 4) rfl rfl (by decide) rfl (fun ls hl => ?_)
        refine lv_goto (tgt := 21) hx hb dX2_daysUntil_49 (by decide) ?_
        exact ih x12 j0 j1 j2 j3 (j4 + 1) _ _ _ hcf hW hS (lv_sub hl [1, 2, 3, 4, 0] rfl)
      · replace hcf := (if_pos q11).symm.trans hcf
        refine lv_iload hx hb dX2_daysUntil_38 (lv_at hl 4 rfl) ?_
        have hcf := Option.some.inj hcf; subst hcf
        exact wk_iret hx hb hr hlocks hW hS dX2_daysUntil_40
set_option maxHeartbeats 4000000 in
set_option maxRecDepth 100000 in
theorem ct_X2_daysUntil (l : Launch) (D : va_G) (cy : Nat → ClassId) (z n : Nat) (Y : mY) (V : mV) (G : mG) (a0 : Nat) (b1 : Int32) (b2 : Int32) (x : Int32 × mV) (hcf : cf_X2_daysUntil Y V G a0 b1 b2 = some x) : CT l yX2_daysUntil cX2_daysUntil 5 (some .int) (rmd 4) D cy z [.ref a0, .int b1, .int b2] Y n V G (some (.int x.1)) Y n x.2 G := by
  refine ct_of (by decide) (Nat.le_of_ble_eq_true rfl) ?_
  intro p e s m args below meth c ls hx hb hr hml hown hts hlocks hnm hE hW hl
  have hS : va_S (zA z) s.heap s.heap [] := va_S.rf
  have hl : lv_has ls 5 [(0, .ref a0), (1, .int b1), (2, .int b2)] := hl
  have hown : s.vm.findClass RX2 = some m.cls := hown
  rw [cf_X2_daysUntil] at hcf
  refine lv_aload_n hx hb dX2_daysUntil_0 rfl (lv_at hl 0 rfl) ?_
  refine lv_iload_n hx hb dX2_daysUntil_1 rfl (lv_at hl 1 rfl) ?_
  obtain ⟨q1, hcf⟩ := og hcf
  obtain ⟨x2, hx2, hcf⟩ := ob hcf
  refine iv_X2_111 (As := [.int b1]) (rest := []) hx hb hml hown hts hE (ct_X2_hasCondition l D cy z n Y V G a0 b1 x2 hx2) hW hS q1 rfl rfl hl.1 (Nat.le_of_ble_eq_true rfl) ⟨Nat.le_of_ble_eq_true rfl, Nat.le_of_ble_eq_true rfl⟩ dX2_daysUntil_2 ⟨Nat.zero_le _, Nat.zero_le _⟩ (fun H locs hW hS => ?_)
  refine lv_if_ne (tgt := 11) hx hb dX2_daysUntil_5 (by decide) (fun q3 => ?_) (fun q3 => ?_)
  · replace hcf := (if_neg q3).symm.trans hcf
    refine lv_aload_n hx hb dX2_daysUntil_11 rfl (lv_at hl 0 rfl) ?_
    obtain ⟨r4, hr4, hcf⟩ := ob hcf
    refine gf_X2_11 hx hb hts hown hE hW q1 hr4 dX2_daysUntil_12 ?_
    refine lv_iload_n hx hb dX2_daysUntil_15 rfl (lv_at hl 1 rfl) ?_
    obtain ⟨q5, hcf⟩ := og hcf
    obtain ⟨q6, hcf⟩ := og hcf
    obtain ⟨r7, hr7, hcf⟩ := ob hcf
    refine wk_aald hx hb hE hW q5 q6 hr7 dX2_daysUntil_16 ?_
    refine lv_astore_n (lv' := [(3, .ref r7), (0, .ref a0), (1, .int b1), (2, .int b2)]) hx hb dX2_daysUntil_17 rfl hl (by decide) rfl (fun ls hl => ?_)
    refine lv_iconst (v := (0 : Int32)) hx hb dX2_daysUntil_18 (by decide) ?_
    refine lv_istore (lv' := [(4, .int (0 : Int32)), (3, .ref r7), (0, .ref a0), (1, .int b1), (2, .int b2)]) hx hb dX2_daysUntil_19 hl (by decide) rfl (fun ls hl => ?_)
    exact wl_X2_daysUntil_21 hx hb hr hml hown hts hlocks hE x fuB V a0 b1 b2 r7 (0 : Int32) _ _ _ hcf hW hS (lv_sub hl [2, 3, 4, 1, 0] rfl)
  · replace hcf := (if_pos q3).symm.trans hcf
    refine lv_ldc hx hb hown (hts _ q479) dX2_daysUntil_8 ?_
    have hcf := Option.some.inj hcf; subst hcf
    exact wk_iret hx hb hr hlocks hW hS dX2_daysUntil_10
set_option maxHeartbeats 4000000 in
set_option maxRecDepth 100000 in
theorem wl_X2_daysUntilLawful_11 {p : Program} {l : Launch} {e : Env} {s : State} {m : MethodId} {args : Array Value} {below : List Frame} {meth : Method} {c : Code} {D : va_G} {cy : Nat → ClassId} {z : Nat} {n : Nat} {Y : mY} {G : mG} (hx : p.tables.exec = Jvm.exec) (hb : c.code = cX2_daysUntilLawful) (hr : meth.sig.returnType = (some .int)) (hml : c.maxLocals = 6) (hown : s.vm.findClass RX2 = some m.cls) (hts : ∀ w ∈ lw_all, w.before args s = true) (hlocks : meth.locks = false) (hE : En D cy s) (x : Int32 × mV) : ∀ (k : Nat) (V : mV) (j0 : Nat) (j1 : Int32) (j2 : Int32) (j3 : Int32) (j4 : Int32) (H : Heap) (locs : List Loc) (ls : Array Slot), lp_X2_daysUntilLawful_11 Y G k V j0 j1 j2 j3 j4 = some x → Wd Y cy D z n V G H → va_S (zA z) s.heap H locs → lv_has ls 6 [(0, .ref j0), (1, .int j1), (2, .int j2), (3, .int j3), (4, .int j4)] → W p l e (rmd 5) s m args below meth c H locs 0 0 (MQ below (QC D cy z Y n x.2 G (some (.int x.1))) args s 0 0 (zA z)) (F0 m 11 ls []) := by
  intro k
  induction k with
  | zero =>
    intro V j0 j1 j2 j3 j4 H locs ls hcf
    have hcf : none = some _ := hcf
    cases hcf
  | succ k ih =>
    intro V j0 j1 j2 j3 j4 H locs ls hcf hW hS hl
    rw [lp_X2_daysUntilLawful_11] at hcf
    refine lv_iload hx hb dX2_daysUntilLawful_11 (lv_at hl 4 rfl) ?_
    refine lv_aload_n hx hb dX2_daysUntilLawful_13 rfl (lv_at hl 0 rfl) ?_
    obtain ⟨q3, hcf⟩ := og hcf
    refine gf_X2_24 hx hb hts hown hE hW q3 dX2_daysUntilLawful_14 ?_
    refine lv_icmp_ge (tgt := 61) hx hb dX2_daysUntilLawful_17 (by decide) (fun q4 => ?_) (fun q4 => ?_)
    · replace hcf := (if_pos q4).symm.trans hcf
      refine lv_iload_n hx hb dX2_daysUntilLawful_61 rfl (lv_at hl 3 rfl) ?_
      have hcf := Option.some.inj hcf; subst hcf
      exact wk_iret hx hb hr hlocks hW hS dX2_daysUntilLawful_62
    · replace hcf := (if_neg q4).symm.trans hcf
      refine lv_iload_n hx hb dX2_daysUntilLawful_20 rfl (lv_at hl 2 rfl) ?_
      refine lv_iconst (v := (1 : Int32)) hx hb dX2_daysUntilLawful_21 (by decide) ?_
      refine lv_iload hx hb dX2_daysUntilLawful_22 (lv_at hl 4 rfl) ?_
      refine lv_ishl hx hb dX2_daysUntilLawful_24 ?_
      refine lv_iand hx hb dX2_daysUntilLawful_25 ?_
      refine lv_if_eq (tgt := 55) hx hb dX2_daysUntilLawful_26 (by decide) (fun q5 => ?_) (fun q5 => ?_)
      · replace hcf := (if_pos q5).symm.trans hcf
        refine lv_iinc (v := (j4 + 1)) (lv' := [(4, .int (j4 + 1)), (0, .ref j0), (1, .int j1), (2, .int j2), (3, .int j3)]) hx hb dX2_daysUntilLawful_55 hl (k := 4) rfl rfl (by decide) rfl (fun ls hl => ?_)
        refine lv_goto (tgt := 11) hx hb dX2_daysUntilLawful_58 (by decide) ?_
        exact ih V j0 j1 j2 j3 (j4 + 1) _ _ _ hcf hW hS (lv_sub hl [1, 2, 3, 4, 0] rfl)
      · replace hcf := (if_neg q5).symm.trans hcf
        refine lv_aload_n hx hb dX2_daysUntilLawful_29 rfl (lv_at hl 0 rfl) ?_
        refine lv_iload hx hb dX2_daysUntilLawful_30 (lv_at hl 4 rfl) ?_
        refine lv_iconst (v := (2 : Int32)) hx hb dX2_daysUntilLawful_32 (by decide) ?_
        obtain ⟨x6, hx6, hcf⟩ := ob hcf
        refine iv_X2_162 (As := [.int j4, .int (2 : Int32)]) (rest := []) hx hb hml hown hts hE (ct_X2_daysUntil l D cy z n Y V G j0 j4 (2 : Int32) x6 hx6) hW hS q3 rfl rfl hl.1 (Nat.le_of_ble_eq_true rfl) ⟨Nat.le_of_ble_eq_true rfl, Nat.le_of_ble_eq_true rfl⟩ dX2_daysUntilLawful_33 ⟨Nat.zero_le _, Nat.zero_le _⟩ (fun H locs hW hS => ?_)
        refine lv_istore (lv' := [(5, .int x6.1), (0, .ref j0), (1, .int j1), (2, .int j2), (3, .int j3), (4, .int j4)]) hx hb dX2_daysUntilLawful_36 hl (by decide) rfl (fun ls hl => ?_)
        refine lv_iload hx hb dX2_daysUntilLawful_38 (lv_at hl 0 rfl) ?_
        refine lv_ldc hx hb hown (hts _ q479) dX2_daysUntilLawful_40 ?_
        refine lv_icmp_ne (tgt := 48) hx hb dX2_daysUntilLawful_42 (by decide) (fun q7 => ?_) (fun q7 => ?_)
        · replace hcf := (if_neg q7).symm.trans hcf
          refine lv_iload_n hx hb dX2_daysUntilLawful_48 rfl (lv_at hl 4 rfl) ?_
          refine lv_iload hx hb dX2_daysUntilLawful_49 (lv_at hl 0 rfl) ?_
          refine va_mmax hx hb (by rw [hml]; exact hl.1.symm) hown (hts _ q503) (hts _ q504) (hts _ q43) (hts _ q505) (Nat.le_of_ble_eq_true rfl) (Nat.le_of_ble_eq_true rfl) (Nat.zero_le _) (Nat.zero_le _) dX2_daysUntilLawful_51 ?_
          refine lv_istore_n (lv' := [(3, .int (if j3 < x6.1 then x6.1 else j3)), (5, .int x6.1), (0, .ref j0), (1, .int j1), (2, .int j2), (4, .int j4)]) hx hb dX2_daysUntilLawful_54 rfl hl (by decide) rfl (fun ls hl => ?_)
          refine lv_iinc (v := (j4 + 1)) (lv' := [(4, .int (j4 + 1)), (3, .int (if j3 < x6.1 then x6.1 else j3)), (5, .int x6.1), (0, .ref j0), (1, .int j1), (2, .int j2)]) hx hb dX2_daysUntilLawful_55 hl (k := 5) rfl rfl (by decide) rfl (fun ls hl => ?_)
          refine lv_goto (tgt := 11) hx hb dX2_daysUntilLawful_58 (by decide) ?_
          exact ih x6.2 j0 j1 j2 (if j3 < x6.1 then x6.1 else j3) (j4 + 1) _ _ _ hcf hW hS (lv_sub hl [3, 4, 5, 1, 0] rfl)
        · replace hcf := (if_pos q7).symm.trans hcf
          refine lv_ldc hx hb hown (hts _ q479) dX2_daysUntilLawful_45 ?_
          have hcf := Option.some.inj hcf; subst hcf
          exact wk_iret hx hb hr hlocks hW hS dX2_daysUntilLawful_47
set_option maxHeartbeats 4000000 in
set_option maxRecDepth 100000 in
theorem ct_X2_daysUntilLawful (l : Launch) (D : va_G) (cy : Nat → ClassId) (z n : Nat) (Y : mY) (V : mV) (G : mG) (a0 : Nat) (b1 : Int32) (x : Int32 × mV) (hcf : cf_X2_daysUntilLawful Y V G a0 b1 = some x) : CT l yX2_daysUntilLawful cX2_daysUntilLawful 6 (some .int) (rmd 5) D cy z [.ref a0, .int b1] Y n V G (some (.int x.1)) Y n x.2 G := by
  refine ct_of (by decide) (Nat.le_of_ble_eq_true rfl) ?_
  intro p e s m args below meth c ls hx hb hr hml hown hts hlocks hnm hE hW hl
  have hS : va_S (zA z) s.heap s.heap [] := va_S.rf
  have hl : lv_has ls 6 [(0, .ref a0), (1, .int b1)] := hl
  have hown : s.vm.findClass RX2 = some m.cls := hown
  rw [cf_X2_daysUntilLawful] at hcf
  refine lv_aload_n hx hb dX2_daysUntilLawful_0 rfl (lv_at hl 0 rfl) ?_
  refine lv_iload_n hx hb dX2_daysUntilLawful_1 rfl (lv_at hl 1 rfl) ?_
  obtain ⟨q1, hcf⟩ := og hcf
  obtain ⟨x2, hx2, hcf⟩ := ob hcf
  refine iv_X2_105 (As := [.int b1]) (rest := []) hx hb hml hown hts hE (ct_X2_unmetAhead l D cy z n Y V G a0 b1 x2 hx2) hW hS q1 rfl rfl hl.1 (Nat.le_of_ble_eq_true rfl) ⟨Nat.le_of_ble_eq_true rfl, Nat.le_of_ble_eq_true rfl⟩ dX2_daysUntilLawful_2 ⟨Nat.zero_le _, Nat.zero_le _⟩ (fun H locs hW hS => ?_)
  refine lv_istore_n (lv' := [(2, .int x2), (0, .ref a0), (1, .int b1)]) hx hb dX2_daysUntilLawful_5 rfl hl (by decide) rfl (fun ls hl => ?_)
  refine lv_iconst (v := (0 : Int32)) hx hb dX2_daysUntilLawful_6 (by decide) ?_
  refine lv_istore_n (lv' := [(3, .int (0 : Int32)), (2, .int x2), (0, .ref a0), (1, .int b1)]) hx hb dX2_daysUntilLawful_7 rfl hl (by decide) rfl (fun ls hl => ?_)
  refine lv_iconst (v := (0 : Int32)) hx hb dX2_daysUntilLawful_8 (by decide) ?_
  refine lv_istore (lv' := [(4, .int (0 : Int32)), (3, .int (0 : Int32)), (2, .int x2), (0, .ref a0), (1, .int b1)]) hx hb dX2_daysUntilLawful_9 hl (by decide) rfl (fun ls hl => ?_)
  exact wl_X2_daysUntilLawful_11 hx hb hr hml hown hts hlocks hE x fuB V a0 b1 x2 (0 : Int32) (0 : Int32) _ _ _ hcf hW hS (lv_sub hl [3, 4, 2, 1, 0] rfl)
