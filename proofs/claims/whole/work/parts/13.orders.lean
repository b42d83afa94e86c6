def cf_X1_append (Y : mY) (V : mV) (G : mG) (a0 : Nat) (b1 : Int32) : Option (Int32 × mV) := if Y.1 a0 = 1 then if (V a0 2) < (80 : Int32) then ((G a0 0).bind (fun r3 => if Y.1 r3 = 5 then if ¬ ((V a0 2) < 0 ∨ Y.2 r3 ≤ (V a0 2).toNatClampNeg) then (some (up2 (up2 V r3 (V a0 2).toNatClampNeg (vp_nar .char b1)) a0 2 (((up2 V r3 (V a0 2).toNatClampNeg (vp_nar .char b1)) a0 2) + (1 : Int32)))).bind (fun V6 => some ((V6 a0 2), V6)) else none else none)) else (some ((-1000003 : Int32), V)) else none
def cf_X1_empty (Y : mY) (V : mV) (G : mG) (a0 : Nat) : Option (Int32 × mV) := if Y.1 a0 = 1 then some ((V a0 2), (up2 V a0 2 (0 : Int32))) else none
def cf_X1_numbersBehind (b1 : Int32) : Option (Int32) := if b1 = (97 : Int32) then (some (2 : Int32)) else (if b1 = (98 : Int32) then (some (1 : Int32)) else (if b1 = (99 : Int32) then (some (4 : Int32)) else (if b1 = (100 : Int32) then (some (2 : Int32)) else (if b1 = (102 : Int32) then (some (1 : Int32)) else (if b1 = (112 : Int32) then (some (1 : Int32)) else (some (0 : Int32)))))))
def cf_X1_isDigit (b1 : Int32) : Option (Int32) := if b1 < (48 : Int32) then (some (0 : Int32)) else (if (57 : Int32) < b1 then (some (0 : Int32)) else (some (1 : Int32)))
def lp_X1_readNumber_4 (Y : mY) (G : mG) : Nat → mV → Nat → Int32 → Int32 → Int32 → Option (Int32 × mV)
  | 0, _, _, _, _, _ => none
  | k + 1, V, j0, j1, j2, j3 => if (3 : Int32) ≤ j3 then (if j3 = 0 then (some ((0 : Int32), V)) else (if j1 < 0 then (some ((0 : Int32), V)) else (if j1 < (4 : Int32) then (if Y.1 j0 = 1 then (G j0 1).bind (fun r6 => if Y.1 r6 = 6 then if ¬ (j1 < 0 ∨ Y.2 r6 ≤ j1.toNatClampNeg) then some ((1 : Int32), (up2 V r6 j1.toNatClampNeg j2)) else none else none) else none) else (some ((0 : Int32), V))))) else (if Y.1 j0 = 1 then if (V j0 2) ≤ (V j0 4) then (if j3 = 0 then (some ((0 : Int32), V)) else (if j1 < 0 then (some ((0 : Int32), V)) else (if j1 < (4 : Int32) then ((G j0 1).bind (fun r14 => if Y.1 r14 = 6 then if ¬ (j1 < 0 ∨ Y.2 r14 ≤ j1.toNatClampNeg) then some ((1 : Int32), (up2 V r14 j1.toNatClampNeg j2)) else none else none)) else (some ((0 : Int32), V))))) else ((G j0 0).bind (fun r17 => if Y.1 r17 = 5 then if ¬ ((V j0 4) < 0 ∨ Y.2 r17 ≤ (V j0 4).toNatClampNeg) then (cf_X1_isDigit (V r17 (V j0 4).toNatClampNeg)).bind (fun x20 => if x20 = 0 then (if j3 = 0 then (some ((0 : Int32), V)) else (if j1 < 0 then (some ((0 : Int32), V)) else (if j1 < (4 : Int32) then ((G j0 1).bind (fun r25 => if Y.1 r25 = 6 then if ¬ (j1 < 0 ∨ Y.2 r25 ≤ j1.toNatClampNeg) then some ((1 : Int32), (up2 V r25 j1.toNatClampNeg j2)) else none else none)) else (some ((0 : Int32), V))))) else (if ¬ ((V j0 4) < 0 ∨ Y.2 r17 ≤ (V j0 4).toNatClampNeg) then lp_X1_readNumber_4 Y G k (up2 V j0 4 ((V j0 4) + (1 : Int32))) j0 j1 ((j2 * (10 : Int32)) + ((V r17 (V j0 4).toNatClampNeg) - (48 : Int32))) (j3 + 1) else none)) else none else none)) else none)
def cf_X1_readNumber (Y : mY) (V : mV) (G : mG) (a0 : Nat) (b1 : Int32) : Option (Int32 × mV) := lp_X1_readNumber_4 Y G fuB V a0 b1 (0 : Int32) (0 : Int32)
def cf_X1_readSign (Y : mY) (V : mV) (G : mG) (a0 : Nat) (b1 : Int32) : Option (Int32 × mV) := if Y.1 a0 = 1 then if (V a0 2) ≤ (V a0 4) then (some ((0 : Int32), V)) else ((G a0 0).bind (fun r3 => if Y.1 r3 = 5 then if ¬ ((V a0 4) < 0 ∨ Y.2 r3 ≤ (V a0 4).toNatClampNeg) then if (V r3 (V a0 4).toNatClampNeg) = b1 then (some ((1 : Int32), (up2 V a0 4 ((V a0 4) + (1 : Int32))))) else (some ((0 : Int32), V)) else none else none)) else none
def lp_X1_readOrder_46 (Y : mY) (G : mG) : Nat → mV → Nat → Int32 → Int32 → Option (Int32 × mV)
  | 0, _, _, _, _ => none
  | k + 1, V, j0, j1, j2 => if j1 ≤ j2 then (some ((1 : Int32), V)) else (if (j1 - (1 : Int32)) ≤ j2 then (if Y.1 j0 = 1 then (cf_X1_readNumber Y V G j0 j2).bind (fun x7 => if x7.1 = 0 then (some ((0 : Int32), x7.2)) else ((cf_X1_readSign Y x7.2 G j0 (59 : Int32)).bind (fun x9 => if x9.1 = 0 then (some ((0 : Int32), x9.2)) else (lp_X1_readOrder_46 Y G k x9.2 j0 j1 (j2 + 1))))) else none) else (if Y.1 j0 = 1 then (cf_X1_readNumber Y V G j0 j2).bind (fun x12 => if x12.1 = 0 then (some ((0 : Int32), x12.2)) else ((cf_X1_readSign Y x12.2 G j0 (44 : Int32)).bind (fun x14 => if x14.1 = 0 then (some ((0 : Int32), x14.2)) else (lp_X1_readOrder_46 Y G k x14.2 j0 j1 (j2 + 1))))) else none))
def cf_X1_readOrder (Y : mY) (V : mV) (G : mG) (a0 : Nat) : Option (Int32 × mV) := if Y.1 a0 = 1 then if (V a0 2) ≤ (V a0 4) then (if (0 : Int32) = 0 then (some ((0 : Int32), V)) else (lp_X1_readOrder_46 Y G fuB (up2 V a0 4 ((V a0 4) + (1 : Int32))) a0 (0 : Int32) (0 : Int32))) else ((G a0 0).bind (fun r16 => if Y.1 r16 = 5 then if ¬ ((V a0 4) < 0 ∨ Y.2 r16 ≤ (V a0 4).toNatClampNeg) then (cf_X1_numbersBehind (V r16 (V a0 4).toNatClampNeg)).bind (fun x19 => if x19 = 0 then (some ((0 : Int32), V)) else (lp_X1_readOrder_46 Y G fuB (up2 V a0 4 ((V a0 4) + (1 : Int32))) a0 x19 (0 : Int32))) else none else none)) else none
def cf_X1_doOrder (Y : mY) (V : mV) (G : mG) (a0 : Nat) (b1 : Nat) : Option (Int32 × mV) := if Y.1 a0 = 1 then (G a0 0).bind (fun r2 => if Y.1 r2 = 5 then if ¬ ((V a0 3) < 0 ∨ Y.2 r2 ≤ (V a0 3).toNatClampNeg) then if (V r2 (V a0 3).toNatClampNeg) = (97 : Int32) then ((G a0 1).bind (fun r6 => if Y.1 r6 = 6 then if ¬ ((0 : Int32) < 0 ∨ Y.2 r6 ≤ (0 : Int32).toNatClampNeg) then if ¬ ((1 : Int32) < 0 ∨ Y.2 r6 ≤ (1 : Int32).toNatClampNeg) then if Y.1 b1 = 2 then (cf_X2_applyFor Y V G b1 (V r6 (0 : Int32).toNatClampNeg) (V r6 (1 : Int32).toNatClampNeg)).bind (fun x11 => some (x11.1, x11.2)) else none else none else none else none)) else (if (V r2 (V a0 3).toNatClampNeg) = (98 : Int32) then ((G a0 1).bind (fun r13 => if Y.1 r13 = 6 then if ¬ ((0 : Int32) < 0 ∨ Y.2 r13 ≤ (0 : Int32).toNatClampNeg) then if Y.1 b1 = 2 then (cf_X2_beginStage Y V G b1 (V r13 (0 : Int32).toNatClampNeg)).bind (fun x17 => some (x17.1, x17.2)) else none else none else none)) else (if (V r2 (V a0 3).toNatClampNeg) = (99 : Int32) then ((G a0 1).bind (fun r19 => if Y.1 r19 = 6 then if ¬ ((0 : Int32) < 0 ∨ Y.2 r19 ≤ (0 : Int32).toNatClampNeg) then if ¬ ((1 : Int32) < 0 ∨ Y.2 r19 ≤ (1 : Int32).toNatClampNeg) then if ¬ ((2 : Int32) < 0 ∨ Y.2 r19 ≤ (2 : Int32).toNatClampNeg) then if ¬ ((3 : Int32) < 0 ∨ Y.2 r19 ≤ (3 : Int32).toNatClampNeg) then if Y.1 b1 = 2 then (cf_X2_addCondition Y V G b1 (V r19 (0 : Int32).toNatClampNeg) (V r19 (1 : Int32).toNatClampNeg) (V r19 (2 : Int32).toNatClampNeg) (V r19 (3 : Int32).toNatClampNeg)).bind (fun x26 => some (x26.1, x26.2)) else none else none else none else none else none else none)) else (if (V r2 (V a0 3).toNatClampNeg) = (100 : Int32) then ((G a0 1).bind (fun r28 => if Y.1 r28 = 6 then if ¬ ((0 : Int32) < 0 ∨ Y.2 r28 ≤ (0 : Int32).toNatClampNeg) then if ¬ ((1 : Int32) < 0 ∨ Y.2 r28 ≤ (1 : Int32).toNatClampNeg) then if Y.1 b1 = 2 then (cf_X2_decideOn Y V G b1 (V r28 (0 : Int32).toNatClampNeg) (V r28 (1 : Int32).toNatClampNeg)).bind (fun x33 => some (x33.1, x33.2)) else none else none else none else none)) else (if (V r2 (V a0 3).toNatClampNeg) = (102 : Int32) then ((G a0 1).bind (fun r35 => if Y.1 r35 = 6 then if ¬ ((0 : Int32) < 0 ∨ Y.2 r35 ≤ (0 : Int32).toNatClampNeg) then if Y.1 b1 = 2 then (cf_X2_finishStage Y V G b1 (V r35 (0 : Int32).toNatClampNeg)).bind (fun x39 => some (x39.1, x39.2)) else none else none else none)) else ((G a0 1).bind (fun r40 => if Y.1 r40 = 6 then if ¬ ((0 : Int32) < 0 ∨ Y.2 r40 ≤ (0 : Int32).toNatClampNeg) then if Y.1 b1 = 2 then (cf_X2_passDays Y V G b1 (V r40 (0 : Int32).toNatClampNeg)).bind (fun x44 => some (x44.1, x44.2)) else none else none else none)))))) else none else none) else none
def lp_X1_doAll_22 (Y : mY) (G : mG) : Nat → mV → Nat → Nat → Int32 → Option (Int32 × mV)
  | 0, _, _, _, _ => none
  | k + 1, V, j0, j1, j2 => if (80 : Int32) ≤ j2 then (some (j2, V)) else (if Y.1 j0 = 1 then if (V j0 2) ≤ (V j0 4) then (some (j2, V)) else ((cf_X1_readOrder Y (up2 V j0 3 (V j0 4)) G j0).bind (fun x5 => if x5.1 = 0 then ((some (up2 (up2 x5.2 j0 5 (1 : Int32)) j0 6 (((up2 x5.2 j0 5 (1 : Int32)) j0 4) - ((up2 x5.2 j0 5 (1 : Int32)) j0 3)))).bind (fun V9 => some (j2, V9))) else ((cf_X1_doOrder Y x5.2 G j0 j1).bind (fun x7 => if 0 ≤ x7.1 then (lp_X1_doAll_22 Y G k x7.2 j0 j1 (j2 + 1)) else (some (j2, (up2 (up2 x7.2 j0 5 (2 : Int32)) j0 6 x7.1))))))) else none)
def cf_X1_doAll (Y : mY) (V : mV) (G : mG) (a0 : Nat) (b1 : Nat) : Option (Int32 × mV) := if Y.1 a0 = 1 then lp_X1_doAll_22 Y G fuB (up2 (up2 (up2 (up2 V a0 5 (0 : Int32)) a0 6 (0 : Int32)) a0 3 (0 : Int32)) a0 4 (0 : Int32)) a0 b1 (0 : Int32) else none
set_option maxHeartbeats 4000000 in
set_option maxRecDepth 100000 in
theorem ct_X1_append (l : Launch) (D : va_G) (cy : Nat → ClassId) (z n : Nat) (Y : mY) (V : mV) (G : mG) (a0 : Nat) (b1 : Int32) (x : Int32 × mV) (hcf : cf_X1_append Y V G a0 b1 = some x) : CT l yX1_append cX1_append 2 (some .int) (rmd 0) D cy z [.ref a0, .int b1] Y n V G (some (.int x.1)) Y n x.2 G := by
  refine ct_of (by decide) (Nat.le_of_ble_eq_true rfl) ?_
  intro p e s m args below meth c ls hx hb hr hml hown hts hlocks hnm hE hW hl
  have hS : va_S (zA z) s.heap s.heap [] := va_S.rf
  have hl : lv_has ls 2 [(0, .ref a0), (1, .int b1)] := hl
  have hown : s.vm.findClass RX1 = some m.cls := hown
  rw [cf_X1_append] at hcf
  refine lv_aload_n hx hb dX1_append_0 rfl (lv_at hl 0 rfl) ?_
  obtain ⟨q1, hcf⟩ := og hcf
  refine gf_X1_19 hx hb hts hown hE hW q1 dX1_append_1 ?_
  refine lv_bipush (v := (80 : Int32)) hx hb dX1_append_4 (by decide) ?_
  refine lv_icmp_lt (tgt := 12) hx hb dX1_append_6 (by decide) (fun q2 => ?_) (fun q2 => ?_)
  · replace hcf := (if_pos q2).symm.trans hcf
    refine lv_aload_n hx hb dX1_append_12 rfl (lv_at hl 0 rfl) ?_
    obtain ⟨r3, hr3, hcf⟩ := ob hcf
    refine gf_X1_9 hx hb hts hown hE hW q1 hr3 dX1_append_13 ?_
    refine lv_aload_n hx hb dX1_append_16 rfl (lv_at hl 0 rfl) ?_
    refine gf_X1_19 hx hb hts hown hE hW q1 dX1_append_17 ?_
    refine lv_iload_n hx hb dX1_append_20 rfl (lv_at hl 1 rfl) ?_
    obtain ⟨q4, hcf⟩ := og hcf
    obtain ⟨q5, hcf⟩ := og hcf
    refine wk_cast hx hb hE hW hS q4 q5 dX1_append_21 (fun H locs hW hS => ?_)
    refine lv_aload_n hx hb dX1_append_22 rfl (lv_at hl 0 rfl) ?_
    refine lv_dup hx hb dX1_append_23 rfl ?_
    refine gf_X1_19 hx hb hts hown hE hW q1 dX1_append_24 ?_
    refine lv_iconst (v := (1 : Int32)) hx hb dX1_append_27 (by decide) ?_
    refine lv_iadd hx hb dX1_append_28 ?_
    refine pf_X1_19 hx hb hts hown hE hW hS q1 (((up2 V r3 (V a0 2).toNatClampNeg (vp_nar .char b1)) a0 2) + (1 : Int32)) dX1_append_29 (fun H locs hW hS => ?_)
    obtain ⟨V6, hV6, hcf⟩ := ob hcf
    rw [Option.some.inj hV6] at hW
    refine lv_aload_n hx hb dX1_append_32 rfl (lv_at hl 0 rfl) ?_
    refine gf_X1_19 hx hb hts hown hE hW q1 dX1_append_33 ?_
    have hcf := Option.some.inj hcf; subst hcf
    exact wk_iret hx hb hr hlocks hW hS dX1_append_36
  · replace hcf := (if_neg q2).symm.trans hcf
    refine lv_ldc hx hb hown (hts _ q553) dX1_append_9 ?_
    have hcf := Option.some.inj hcf; subst hcf
    exact wk_iret hx hb hr hlocks hW hS dX1_append_11
set_option maxHeartbeats 4000000 in
set_option maxRecDepth 100000 in
theorem ct_X1_empty (l : Launch) (D : va_G) (cy : Nat → ClassId) (z n : Nat) (Y : mY) (V : mV) (G : mG) (a0 : Nat) (x : Int32 × mV) (hcf : cf_X1_empty Y V G a0 = some x) : CT l yX1_empty cX1_empty 2 (some .int) (rmd 0) D cy z [.ref a0] Y n V G (some (.int x.1)) Y n x.2 G := by
  refine ct_of (by decide) (Nat.le_of_ble_eq_true rfl) ?_
  intro p e s m args below meth c ls hx hb hr hml hown hts hlocks hnm hE hW hl
  have hS : va_S (zA z) s.heap s.heap [] := va_S.rf
  have hl : lv_has ls 2 [(0, .ref a0)] := hl
  have hown : s.vm.findClass RX1 = some m.cls := hown
  rw [cf_X1_empty] at hcf
  refine lv_aload_n hx hb dX1_empty_0 rfl (lv_at hl 0 rfl) ?_
  obtain ⟨q1, hcf⟩ := og hcf
  refine gf_X1_19 hx hb hts hown hE hW q1 dX1_empty_1 ?_
  refine lv_istore_n (lv' := [(1, .int (V a0 2)), (0, .ref a0)]) hx hb dX1_empty_4 rfl hl (by decide) rfl (fun ls hl => ?_)
  refine lv_aload_n hx hb dX1_empty_5 rfl (lv_at hl 1 rfl) ?_
  refine lv_iconst (v := (0 : Int32)) hx hb dX1_empty_6 (by decide) ?_
  refine pf_X1_19 hx hb hts hown hE hW hS q1 (0 : Int32) dX1_empty_7 (fun H locs hW hS => ?_)
  refine lv_iload_n hx hb dX1_empty_10 rfl (lv_at hl 0 rfl) ?_
  have hcf := Option.some.inj hcf; subst hcf
  exact wk_iret hx hb hr hlocks hW hS dX1_empty_11
set_option maxHeartbeats 4000000 in
set_option maxRecDepth 100000 in
theorem ct_X1_numbersBehind (l : Launch) (D : va_G) (cy : Nat → ClassId) (z n : Nat) (Y : mY) (V : mV) (G : mG) (b1 : Int32) (x : Int32) (hcf : cf_X1_numbersBehind b1 = some x) : CT l yX1_numbersBehind cX1_numbersBehind 1 (some .int) (rmd 0) D cy z [.int b1] Y n V G (some (.int x)) Y n V G := by
  refine ct_of (by decide) (Nat.le_of_ble_eq_true rfl) ?_
  intro p e s m args below meth c ls hx hb hr hml hown hts hlocks hnm hE hW hl
  have hS : va_S (zA z) s.heap s.heap [] := va_S.rf
  have hl : lv_has ls 1 [(0, .int b1)] := hl
  have hown : s.vm.findClass RX1 = some m.cls := hown
  rw [cf_X1_numbersBehind] at hcf
  refine lv_iload_n hx hb dX1_numbersBehind_0 rfl (lv_at hl 0 rfl) ?_
  by_cases q1 : b1 = (97 : Int32)
  · replace hcf := (if_pos q1).symm.trans hcf
    refine wk_tsw (off := 81) (tgt := 82) hx hb dX1_numbersBehind_1 (by rw [q1]; rfl) (by decide) ?_
    refine lv_iconst (v := (2 : Int32)) hx hb dX1_numbersBehind_82 (by decide) ?_
    have hcf := Option.some.inj hcf; subst hcf
    exact wk_iret hx hb hr hlocks hW hS dX1_numbersBehind_83
  · replace hcf := (if_neg q1).symm.trans hcf
    by_cases q2 : b1 = (98 : Int32)
    · replace hcf := (if_pos q2).symm.trans hcf
      refine wk_tsw (off := 83) (tgt := 84) hx hb dX1_numbersBehind_1 (by rw [q2]; rfl) (by decide) ?_
      refine lv_iconst (v := (1 : Int32)) hx hb dX1_numbersBehind_84 (by decide) ?_
      have hcf := Option.some.inj hcf; subst hcf
      exact wk_iret hx hb hr hlocks hW hS dX1_numbersBehind_85
    · replace hcf := (if_neg q2).symm.trans hcf
      by_cases q3 : b1 = (99 : Int32)
      · replace hcf := (if_pos q3).symm.trans hcf
        refine wk_tsw (off := 79) (tgt := 80) hx hb dX1_numbersBehind_1 (by rw [q3]; rfl) (by decide) ?_
        refine lv_iconst (v := (4 : Int32)) hx hb dX1_numbersBehind_80 (by decide) ?_
        have hcf := Option.some.inj hcf; subst hcf
        exact wk_iret hx hb hr hlocks hW hS dX1_numbersBehind_81
      · replace hcf := (if_neg q3).symm.trans hcf
        by_cases q4 : b1 = (100 : Int32)
        · replace hcf := (if_pos q4).symm.trans hcf
          refine wk_tsw (off := 81) (tgt := 82) hx hb dX1_numbersBehind_1 (by rw [q4]; rfl) (by decide) ?_
          refine lv_iconst (v := (2 : Int32)) hx hb dX1_numbersBehind_82 (by decide) ?_
          have hcf := Option.some.inj hcf; subst hcf
          exact wk_iret hx hb hr hlocks hW hS dX1_numbersBehind_83
        · replace hcf := (if_neg q4).symm.trans hcf
          by_cases q5 : b1 = (102 : Int32)
          · replace hcf := (if_pos q5).symm.trans hcf
            refine wk_tsw (off := 83) (tgt := 84) hx hb dX1_numbersBehind_1 (by rw [q5]; rfl) (by decide) ?_
            refine lv_iconst (v := (1 : Int32)) hx hb dX1_numbersBehind_84 (by decide) ?_
            have hcf := Option.some.inj hcf; subst hcf
            exact wk_iret hx hb hr hlocks hW hS dX1_numbersBehind_85
          · replace hcf := (if_neg q5).symm.trans hcf
            by_cases q6 : b1 = (112 : Int32)
            · replace hcf := (if_pos q6).symm.trans hcf
              refine wk_tsw (off := 83) (tgt := 84) hx hb dX1_numbersBehind_1 (by rw [q6]; rfl) (by decide) ?_
              refine lv_iconst (v := (1 : Int32)) hx hb dX1_numbersBehind_84 (by decide) ?_
              have hcf := Option.some.inj hcf; subst hcf
              exact wk_iret hx hb hr hlocks hW hS dX1_numbersBehind_85
            · replace hcf := (if_neg q6).symm.trans hcf
              refine wk_tsw (off := 85) (tgt := 86) hx hb dX1_numbersBehind_1 (by have eq1 := lv_neT q1 (a := 97) rfl; have eq2 := lv_neT q2 (a := 98) rfl; have eq3 := lv_neT q3 (a := 99) rfl; have eq4 := lv_neT q4 (a := 100) rfl; have eq5 := lv_neT q5 (a := 102) rfl; have eq6 := lv_neT q6 (a := 112) rfl; by_cases hh : (b1).toInt < 97 ∨ 112 < (b1).toInt; exact if_pos hh; rcases (show (b1).toInt = 101 ∨ (b1).toInt = 103 ∨ (b1).toInt = 104 ∨ (b1).toInt = 105 ∨ (b1).toInt = 106 ∨ (b1).toInt = 107 ∨ (b1).toInt = 108 ∨ (b1).toInt = 109 ∨ (b1).toInt = 110 ∨ (b1).toInt = 111 by omega) with hg | hg | hg | hg | hg | hg | hg | hg | hg | hg <;> (rw [sw_off, if_neg hh, hg]; rfl)) (by decide) ?_
              refine lv_iconst (v := (0 : Int32)) hx hb dX1_numbersBehind_86 (by decide) ?_
              have hcf := Option.some.inj hcf; subst hcf
              exact wk_iret hx hb hr hlocks hW hS dX1_numbersBehind_87
set_option maxHeartbeats 4000000 in
set_option maxRecDepth 100000 in
theorem ct_X1_isDigit (l : Launch) (D : va_G) (cy : Nat → ClassId) (z n : Nat) (Y : mY) (V : mV) (G : mG) (b1 : Int32) (x : Int32) (hcf : cf_X1_isDigit b1 = some x) : CT l yX1_isDigit cX1_isDigit 1 (some .boolean) (rmd 0) D cy z [.int b1] Y n V G (some (.int x)) Y n V G := by
  refine ct_of (by decide) (Nat.le_of_ble_eq_true rfl) ?_
  intro p e s m args below meth c ls hx hb hr hml hown hts hlocks hnm hE hW hl
  have hS : va_S (zA z) s.heap s.heap [] := va_S.rf
  have hl : lv_has ls 1 [(0, .int b1)] := hl
  have hown : s.vm.findClass RX1 = some m.cls := hown
  rw [cf_X1_isDigit] at hcf
  refine lv_iload_n hx hb dX1_isDigit_0 rfl (lv_at hl 0 rfl) ?_
  refine lv_bipush (v := (48 : Int32)) hx hb dX1_isDigit_1 (by decide) ?_
  refine lv_icmp_lt (tgt := 16) hx hb dX1_isDigit_3 (by decide) (fun q1 => ?_) (fun q1 => ?_)
  · replace hcf := (if_pos q1).symm.trans hcf
    refine lv_iconst (v := (0 : Int32)) hx hb dX1_isDigit_16 (by decide) ?_
    have hcf := Option.some.inj hcf; subst hcf
    exact wk_zret hx hb hr hlocks (Or.inl rfl) hW hS dX1_isDigit_17
  · replace hcf := (if_neg q1).symm.trans hcf
    refine lv_iload_n hx hb dX1_isDigit_6 rfl (lv_at hl 0 rfl) ?_
    refine lv_bipush (v := (57 : Int32)) hx hb dX1_isDigit_7 (by decide) ?_
    refine lv_icmp_gt (tgt := 16) hx hb dX1_isDigit_9 (by decide) (fun q2 => ?_) (fun q2 => ?_)
    · replace hcf := (if_pos q2).symm.trans hcf
      refine lv_iconst (v := (0 : Int32)) hx hb dX1_isDigit_16 (by decide) ?_
      have hcf := Option.some.inj hcf; subst hcf
      exact wk_zret hx hb hr hlocks (Or.inl rfl) hW hS dX1_isDigit_17
    · replace hcf := (if_neg q2).symm.trans hcf
      refine lv_iconst (v := (1 : Int32)) hx hb dX1_isDigit_12 (by decide) ?_
      refine lv_goto (tgt := 17) hx hb dX1_isDigit_13 (by decide) ?_
      have hcf := Option.some.inj hcf; subst hcf
      exact wk_zret hx hb hr hlocks (Or.inr rfl) hW hS dX1_isDigit_17
set_option maxHeartbeats 4000000 in
set_option maxRecDepth 100000 in
theorem wl_X1_readNumber_4 {p : Program} {l : Launch} {e : Env} {s : State} {m : MethodId} {args : Array Value} {below : List Frame} {meth : Method} {c : Code} {D : va_G} {cy : Nat → ClassId} {z : Nat} {n : Nat} {Y : mY} {G : mG} (hx : p.tables.exec = Jvm.exec) (hb : c.code = cX1_readNumber) (hr : meth.sig.returnType = (some .boolean)) (hml : c.maxLocals = 4) (hown : s.vm.findClass RX1 = some m.cls) (hts : ∀ w ∈ lw_all, w.before args s = true) (hlocks : meth.locks = false) (hE : En D cy s) (x : Int32 × mV) : ∀ (k : Nat) (V : mV) (j0 : Nat) (j1 : Int32) (j2 : Int32) (j3 : Int32) (H : Heap) (locs : List Loc) (ls : Array Slot), lp_X1_readNumber_4 Y G k V j0 j1 j2 j3 = some x → Wd Y cy D z n V G H → va_S (zA z) s.heap H locs → lv_has ls 4 [(0, .ref j0), (1, .int j1), (2, .int j2), (3, .int j3)] → W p l e (rmd 1) s m args below meth c H locs 0 0 (MQ below (QC D cy z Y n x.2 G (some (.int x.1))) args s 0 0 (zA z)) (F0 m 4 ls []) := by
  intro k
  induction k with
  | zero =>
    intro V j0 j1 j2 j3 H locs ls hcf
    have hcf : none = some _ := hcf
    cases hcf
  | succ k ih =>
    intro V j0 j1 j2 j3 H locs ls hcf hW hS hl
    rw [lp_X1_readNumber_4] at hcf
    refine lv_iload_n hx hb dX1_readNumber_4 rfl (lv_at hl 3 rfl) ?_
    refine lv_iconst (v := (3 : Int32)) hx hb dX1_readNumber_5 (by decide) ?_
    refine lv_icmp_ge (tgt := 69) hx hb dX1_readNumber_6 (by decide) (fun q1 => ?_) (fun q1 => ?_)
    · replace hcf := (if_pos q1).symm.trans hcf
      refine lv_iload_n hx hb dX1_readNumber_69 rfl (lv_at hl 3 rfl) ?_
      refine lv_if_eq (tgt := 82) hx hb dX1_readNumber_70 (by decide) (fun q2 => ?_) (fun q2 => ?_)
      · replace hcf := (if_pos q2).symm.trans hcf
        refine lv_iconst (v := (0 : Int32)) hx hb dX1_readNumber_82 (by decide) ?_
        have hcf := Option.some.inj hcf; subst hcf
        exact wk_zret hx hb hr hlocks (Or.inl rfl) hW hS dX1_readNumber_83
      · replace hcf := (if_neg q2).symm.trans hcf
        refine lv_iload_n hx hb dX1_readNumber_73 rfl (lv_at hl 1 rfl) ?_
        refine lv_if_lt (tgt := 82) hx hb dX1_readNumber_74 (by decide) (fun q3 => ?_) (fun q3 => ?_)
        · replace hcf := (if_pos q3).symm.trans hcf
          refine lv_iconst (v := (0 : Int32)) hx hb dX1_readNumber_82 (by decide) ?_
          have hcf := Option.some.inj hcf; subst hcf
          exact wk_zret hx hb hr hlocks (Or.inl rfl) hW hS dX1_readNumber_83
        · replace hcf := (if_neg q3).symm.trans hcf
          refine lv_iload_n hx hb dX1_readNumber_77 rfl (lv_at hl 1 rfl) ?_
          refine lv_iconst (v := (4 : Int32)) hx hb dX1_readNumber_78 (by decide) ?_
          refine lv_icmp_lt (tgt := 84) hx hb dX1_readNumber_79 (by decide) (fun q4 => ?_) (fun q4 => ?_)
          · replace hcf := (if_pos q4).symm.trans hcf
            refine lv_aload_n hx hb dX1_readNumber_84 rfl (lv_at hl 0 rfl) ?_
            obtain ⟨q5, hcf⟩ := og hcf
            obtain ⟨r6, hr6, hcf⟩ := ob hcf
            refine gf_X1_15 hx hb hts hown hE hW q5 hr6 dX1_readNumber_85 ?_
            refine lv_iload_n hx hb dX1_readNumber_88 rfl (lv_at hl 1 rfl) ?_
            refine lv_iload_n hx hb dX1_readNumber_89 rfl (lv_at hl 2 rfl) ?_
            obtain ⟨q7, hcf⟩ := og hcf
            obtain ⟨q8, hcf⟩ := og hcf
            refine wk_iast hx hb hE hW hS q7 q8 dX1_readNumber_90 (fun H locs hW hS => ?_)
            refine lv_iconst (v := (1 : Int32)) hx hb dX1_readNumber_91 (by decide) ?_
            have hcf := Option.some.inj hcf; subst hcf
            exact wk_zret hx hb hr hlocks (Or.inr rfl) hW hS dX1_readNumber_92
          · replace hcf := (if_neg q4).symm.trans hcf
            refine lv_iconst (v := (0 : Int32)) hx hb dX1_readNumber_82 (by decide) ?_
            have hcf := Option.some.inj hcf; subst hcf
            exact wk_zret hx hb hr hlocks (Or.inl rfl) hW hS dX1_readNumber_83
    · replace hcf := (if_neg q1).symm.trans hcf
      refine lv_aload_n hx hb dX1_readNumber_9 rfl (lv_at hl 0 rfl) ?_
      obtain ⟨q9, hcf⟩ := og hcf
      refine gf_X1_26 hx hb hts hown hE hW q9 dX1_readNumber_10 ?_
      refine lv_aload_n hx hb dX1_readNumber_13 rfl (lv_at hl 0 rfl) ?_
      refine gf_X1_19 hx hb hts hown hE hW q9 dX1_readNumber_14 ?_
      refine lv_icmp_ge (tgt := 69) hx hb dX1_readNumber_17 (by decide) (fun q10 => ?_) (fun q10 => ?_)
      · replace hcf := (if_pos q10).symm.trans hcf
        refine lv_iload_n hx hb dX1_readNumber_69 rfl (lv_at hl 3 rfl) ?_
        refine lv_if_eq (tgt := 82) hx hb dX1_readNumber_70 (by decide) (fun q11 => ?_) (fun q11 => ?_)
        · replace hcf := (if_pos q11).symm.trans hcf
          refine lv_iconst (v := (0 : Int32)) hx hb dX1_readNumber_82 (by decide) ?_
          have hcf := Option.some.inj hcf; subst hcf
          exact wk_zret hx hb hr hlocks (Or.inl rfl) hW hS dX1_readNumber_83
        · replace hcf := (if_neg q11).symm.trans hcf
          refine lv_iload_n hx hb dX1_readNumber_73 rfl (lv_at hl 1 rfl) ?_
          refine lv_if_lt (tgt := 82) hx hb dX1_readNumber_74 (by decide) (fun q12 => ?_) (fun q12 => ?_)
          · replace hcf := (if_pos q12).symm.trans hcf
            refine lv_iconst (v := (0 : Int32)) hx hb dX1_readNumber_82 (by decide) ?_
            have hcf := Option.some.inj hcf; subst hcf
            exact wk_zret hx hb hr hlocks (Or.inl rfl) hW hS dX1_readNumber_83
          · replace hcf := (if_neg q12).symm.trans hcf
            refine lv_iload_n hx hb dX1_readNumber_77 rfl (lv_at hl 1 rfl) ?_
            refine lv_iconst (v := (4 : Int32)) hx hb dX1_readNumber_78 (by decide) ?_
            refine lv_icmp_lt (tgt := 84) hx hb dX1_readNumber_79 (by decide) (fun q13 => ?_) (fun q13 => ?_)
            · replace hcf := (if_pos q13).symm.trans hcf
              refine lv_aload_n hx hb dX1_readNumber_84 rfl (lv_at hl 0 rfl) ?_
              obtain ⟨r14, hr14, hcf⟩ := ob hcf
              refine gf_X1_15 hx hb hts hown hE hW q9 hr14 dX1_readNumber_85 ?_
              refine lv_iload_n hx hb dX1_readNumber_88 rfl (lv_at hl 1 rfl) ?_
              refine lv_iload_n hx hb dX1_readNumber_89 rfl (lv_at hl 2 rfl) ?_
              obtain ⟨q15, hcf⟩ := og hcf
              obtain ⟨q16, hcf⟩ := og hcf
              refine wk_iast hx hb hE hW hS q15 q16 dX1_readNumber_90 (fun H locs hW hS => ?_)
              refine lv_iconst (v := (1 : Int32)) hx hb dX1_readNumber_91 (by decide) ?_
              have hcf := Option.some.inj hcf; subst hcf
              exact wk_zret hx hb hr hlocks (Or.inr rfl) hW hS dX1_readNumber_92
            · replace hcf := (if_neg q13).symm.trans hcf
              refine lv_iconst (v := (0 : Int32)) hx hb dX1_readNumber_82 (by decide) ?_
              have hcf := Option.some.inj hcf; subst hcf
              exact wk_zret hx hb hr hlocks (Or.inl rfl) hW hS dX1_readNumber_83
      · replace hcf := (if_neg q10).symm.trans hcf
        refine lv_aload_n hx hb dX1_readNumber_20 rfl (lv_at hl 0 rfl) ?_
        obtain ⟨r17, hr17, hcf⟩ := ob hcf
        refine gf_X1_9 hx hb hts hown hE hW q9 hr17 dX1_readNumber_21 ?_
        refine lv_aload_n hx hb dX1_readNumber_24 rfl (lv_at hl 0 rfl) ?_
        refine gf_X1_26 hx hb hts hown hE hW q9 dX1_readNumber_25 ?_
        obtain ⟨q18, hcf⟩ := og hcf
        obtain ⟨q19, hcf⟩ := og hcf
        refine wk_cald hx hb hE hW q18 q19 dX1_readNumber_28 ?_
        obtain ⟨x20, hx20, hcf⟩ := ob hcf
        refine iv_X1_56 (As := [.int (V r17 (V j0 4).toNatClampNeg)]) (rest := []) hx hb hml hown hts hE (ct_X1_isDigit l D cy z n Y V G (V r17 (V j0 4).toNatClampNeg) x20 hx20) hW hS rfl rfl hl.1 (Nat.le_of_ble_eq_true rfl) ⟨Nat.le_of_ble_eq_true rfl, Nat.le_of_ble_eq_true rfl⟩ dX1_readNumber_29 ⟨Nat.zero_le _, Nat.zero_le _⟩ (fun H locs hW hS => ?_)
        refine lv_if_eq (tgt := 69) hx hb dX1_readNumber_32 (by decide) (fun q21 => ?_) (fun q21 => ?_)
        · replace hcf := (if_pos q21).symm.trans hcf
          refine lv_iload_n hx hb dX1_readNumber_69 rfl (lv_at hl 3 rfl) ?_
          refine lv_if_eq (tgt := 82) hx hb dX1_readNumber_70 (by decide) (fun q22 => ?_) (fun q22 => ?_)
          · replace hcf := (if_pos q22).symm.trans hcf
            refine lv_iconst (v := (0 : Int32)) hx hb dX1_readNumber_82 (by decide) ?_
            have hcf := Option.some.inj hcf; subst hcf
            exact wk_zret hx hb hr hlocks (Or.inl rfl) hW hS dX1_readNumber_83
          · replace hcf := (if_neg q22).symm.trans hcf
            refine lv_iload_n hx hb dX1_readNumber_73 rfl (lv_at hl 1 rfl) ?_
            refine lv_if_lt (tgt := 82) hx hb dX1_readNumber_74 (by decide) (fun q23 => ?_) (fun q23 => ?_)
            · replace hcf := (if_pos q23).symm.trans hcf
              refine lv_iconst (v := (0 : Int32)) hx hb dX1_readNumber_82 (by decide) ?_
              have hcf := Option.some.inj hcf; subst hcf
              exact wk_zret hx hb hr hlocks (Or.inl rfl) hW hS dX1_readNumber_83
            · replace hcf := (if_neg q23).symm.trans hcf
              refine lv_iload_n hx hb dX1_readNumber_77 rfl (lv_at hl 1 rfl) ?_
              refine lv_iconst (v := (4 : Int32)) hx hb dX1_readNumber_78 (by decide) ?_
              refine lv_icmp_lt (tgt := 84) hx hb dX1_readNumber_79 (by decide) (fun q24 => ?_) (fun q24 => ?_)
              · replace hcf := (if_pos q24).symm.trans hcf
                refine lv_aload_n hx hb dX1_readNumber_84 rfl (lv_at hl 0 rfl) ?_
                obtain ⟨r25, hr25, hcf⟩ := ob hcf
                refine gf_X1_15 hx hb hts hown hE hW q9 hr25 dX1_readNumber_85 ?_
                refine lv_iload_n hx hb dX1_readNumber_88 rfl (lv_at hl 1 rfl) ?_
                refine lv_iload_n hx hb dX1_readNumber_89 rfl (lv_at hl 2 rfl) ?_
                obtain ⟨q26, hcf⟩ := og hcf
                obtain ⟨q27, hcf⟩ := og hcf
                refine wk_iast hx hb hE hW hS q26 q27 dX1_readNumber_90 (fun H locs hW hS => ?_)
                refine lv_iconst (v := (1 : Int32)) hx hb dX1_readNumber_91 (by decide) ?_
                have hcf := Option.some.inj hcf; subst hcf
                exact wk_zret hx hb hr hlocks (Or.inr rfl) hW hS dX1_readNumber_92
              · replace hcf := (if_neg q24).symm.trans hcf
                refine lv_iconst (v := (0 : Int32)) hx hb dX1_readNumber_82 (by decide) ?_
                have hcf := Option.some.inj hcf; subst hcf
                exact wk_zret hx hb hr hlocks (Or.inl rfl) hW hS dX1_readNumber_83
        · replace hcf := (if_neg q21).symm.trans hcf
          refine lv_iload_n hx hb dX1_readNumber_35 rfl (lv_at hl 2 rfl) ?_
          refine lv_bipush (v := (10 : Int32)) hx hb dX1_readNumber_36 (by decide) ?_
          refine lv_imul hx hb dX1_readNumber_38 ?_
          refine lv_aload_n hx hb dX1_readNumber_39 rfl (lv_at hl 0 rfl) ?_
          refine gf_X1_9 hx hb hts hown hE hW q9 hr17 dX1_readNumber_40 ?_
          refine lv_aload_n hx hb dX1_readNumber_43 rfl (lv_at hl 0 rfl) ?_
          refine gf_X1_26 hx hb hts hown hE hW q9 dX1_readNumber_44 ?_
          obtain ⟨q28, hcf⟩ := og hcf
          refine wk_cald hx hb hE hW q18 q28 dX1_readNumber_47 ?_
          refine lv_bipush (v := (48 : Int32)) hx hb dX1_readNumber_48 (by decide) ?_
          refine lv_isub hx hb dX1_readNumber_50 ?_
          refine lv_iadd hx hb dX1_readNumber_51 ?_
          refine lv_istore_n (lv' := [(2, .int ((j2 * (10 : Int32)) + ((V r17 (V j0 4).toNatClampNeg) - (48 : Int32)))), (0, .ref j0), (1, .int j1), (3, .int j3)]) hx hb dX1_readNumber_52 rfl hl (by decide) rfl (fun ls hl => ?_)
          refine lv_aload_n hx hb dX1_readNumber_53 rfl (lv_at hl 1 rfl) ?_
          refine lv_dup hx hb dX1_readNumber_54 rfl ?_
          refine gf_X1_26 hx hb hts hown hE hW q9 dX1_readNumber_55 ?_
          refine lv_iconst (v := (1 : Int32)) hx hb dX1_readNumber_58 (by decide) ?_
          refine lv_iadd hx hb dX1_readNumber_59 ?_
          refine pf_X1_26 hx hb hts hown hE hW hS q9 ((V j0 4) + (1 : Int32)) dX1_readNumber_60 (fun H locs hW hS => ?_)
          refine lv_iinc (v := (j3 + 1)) (lv' := [(3, .int (j3 + 1)), (2, .int ((j2 * (10 : Int32)) + ((V r17 (V j0 4).toNatClampNeg) - (48 : Int32)))), (0, .ref j0), (1, .int j1)]) hx hb dX1_readNumber_63 hl (k := 3) rfl rfl (by decide) rfl (fun ls hl => ?_)
          refine lv_goto (tgt := 4) hx hb dX1_readNumber_66 (by decide) ?_
          exact ih (up2 V j0 4 ((V j0 4) + (1 : Int32))) j0 j1 ((j2 * (10 : Int32)) + ((V r17 (V j0 4).toNatClampNeg) - (48 : Int32))) (j3 + 1) _ _ _ hcf hW hS (lv_sub hl [2, 3, 1, 0] rfl)
set_option maxHeartbeats 4000000 in
set_option maxRecDepth 100000 in
theorem ct_X1_readNumber (l : Launch) (D : va_G) (cy : Nat → ClassId) (z n : Nat) (Y : mY) (V : mV) (G : mG) (a0 : Nat) (b1 : Int32) (x : Int32 × mV) (hcf : cf_X1_readNumber Y V G a0 b1 = some x) : CT l yX1_readNumber cX1_readNumber 4 (some .boolean) (rmd 1) D cy z [.ref a0, .int b1] Y n V G (some (.int x.1)) Y n x.2 G := by
  refine ct_of (by decide) (Nat.le_of_ble_eq_true rfl) ?_
  intro p e s m args below meth c ls hx hb hr hml hown hts hlocks hnm hE hW hl
  have hS : va_S (zA z) s.heap s.heap [] := va_S.rf
  have hl : lv_has ls 4 [(0, .ref a0), (1, .int b1)] := hl
  have hown : s.vm.findClass RX1 = some m.cls := hown
  rw [cf_X1_readNumber] at hcf
  refine lv_iconst (v := (0 : Int32)) hx hb dX1_readNumber_0 (by decide) ?_
  refine lv_istore_n (lv' := [(2, .int (0 : Int32)), (0, .ref a0), (1, .int b1)]) hx hb dX1_readNumber_1 rfl hl (by decide) rfl (fun ls hl => ?_)
  refine lv_iconst (v := (0 : Int32)) hx hb dX1_readNumber_2 (by decide) ?_
  refine lv_istore_n (lv' := [(3, .int (0 : Int32)), (2, .int (0 : Int32)), (0, .ref a0), (1, .int b1)]) hx hb dX1_readNumber_3 rfl hl (by decide) rfl (fun ls hl => ?_)
  exact wl_X1_readNumber_4 hx hb hr hml hown hts hlocks hE x fuB V a0 b1 (0 : Int32) (0 : Int32) _ _ _ hcf hW hS (lv_sub hl [2, 3, 1, 0] rfl)
set_option maxHeartbeats 4000000 in
set_option maxRecDepth 100000 in
theorem ct_X1_readSign (l : Launch) (D : va_G) (cy : Nat → ClassId) (z n : Nat) (Y : mY) (V : mV) (G : mG) (a0 : Nat) (b1 : Int32) (x : Int32 × mV) (hcf : cf_X1_readSign Y V G a0 b1 = some x) : CT l yX1_readSign cX1_readSign 2 (some .boolean) (rmd 0) D cy z [.ref a0, .int b1] Y n V G (some (.int x.1)) Y n x.2 G := by
  refine ct_of (by decide) (Nat.le_of_ble_eq_true rfl) ?_
  intro p e s m args below meth c ls hx hb hr hml hown hts hlocks hnm hE hW hl
  have hS : va_S (zA z) s.heap s.heap [] := va_S.rf
  have hl : lv_has ls 2 [(0, .ref a0), (1, .int b1)] := hl
  have hown : s.vm.findClass RX1 = some m.cls := hown
  rw [cf_X1_readSign] at hcf
  refine lv_aload_n hx hb dX1_readSign_0 rfl (lv_at hl 0 rfl) ?_
  obtain ⟨q1, hcf⟩ := og hcf
  refine gf_X1_26 hx hb hts hown hE hW q1 dX1_readSign_1 ?_
  refine lv_aload_n hx hb dX1_readSign_4 rfl (lv_at hl 0 rfl) ?_
  refine gf_X1_19 hx hb hts hown hE hW q1 dX1_readSign_5 ?_
  refine lv_icmp_ge (tgt := 24) hx hb dX1_readSign_8 (by decide) (fun q2 => ?_) (fun q2 => ?_)
  · replace hcf := (if_pos q2).symm.trans hcf
    refine lv_iconst (v := (0 : Int32)) hx hb dX1_readSign_24 (by decide) ?_
    have hcf := Option.some.inj hcf; subst hcf
    exact wk_zret hx hb hr hlocks (Or.inl rfl) hW hS dX1_readSign_25
  · replace hcf := (if_neg q2).symm.trans hcf
    refine lv_aload_n hx hb dX1_readSign_11 rfl (lv_at hl 0 rfl) ?_
    obtain ⟨r3, hr3, hcf⟩ := ob hcf
    refine gf_X1_9 hx hb hts hown hE hW q1 hr3 dX1_readSign_12 ?_
    refine lv_aload_n hx hb dX1_readSign_15 rfl (lv_at hl 0 rfl) ?_
    refine gf_X1_26 hx hb hts hown hE hW q1 dX1_readSign_16 ?_
    obtain ⟨q4, hcf⟩ := og hcf
    obtain ⟨q5, hcf⟩ := og hcf
    refine wk_cald hx hb hE hW q4 q5 dX1_readSign_19 ?_
    refine lv_iload_n hx hb dX1_readSign_20 rfl (lv_at hl 1 rfl) ?_
    refine lv_icmp_eq (tgt := 26) hx hb dX1_readSign_21 (by decide) (fun q6 => ?_) (fun q6 => ?_)
    · replace hcf := (if_pos q6).symm.trans hcf
      refine lv_aload_n hx hb dX1_readSign_26 rfl (lv_at hl 0 rfl) ?_
      refine lv_dup hx hb dX1_readSign_27 rfl ?_
      refine gf_X1_26 hx hb hts hown hE hW q1 dX1_readSign_28 ?_
      refine lv_iconst (v := (1 : Int32)) hx hb dX1_readSign_31 (by decide) ?_
      refine lv_iadd hx hb dX1_readSign_32 ?_
      refine pf_X1_26 hx hb hts hown hE hW hS q1 ((V a0 4) + (1 : Int32)) dX1_readSign_33 (fun H locs hW hS => ?_)
      refine lv_iconst (v := (1 : Int32)) hx hb dX1_readSign_36 (by decide) ?_
      have hcf := Option.some.inj hcf; subst hcf
      exact wk_zret hx hb hr hlocks (Or.inr rfl) hW hS dX1_readSign_37
    · replace hcf := (if_neg q6).symm.trans hcf
      refine lv_iconst (v := (0 : Int32)) hx hb dX1_readSign_24 (by decide) ?_
      have hcf := Option.some.inj hcf; subst hcf
      exact wk_zret hx hb hr hlocks (Or.inl rfl) hW hS dX1_readSign_25
set_option maxHeartbeats 4000000 in
set_option maxRecDepth 100000 in
theorem wl_X1_readOrder_46 {p : Program} {l : Launch} {e : Env} {s : State} {m : MethodId} {args : Array Value} {below : List Frame} {meth : Method} {c : Code} {D : va_G} {cy : Nat → ClassId} {z : Nat} {n : Nat} {Y : mY} {G : mG} (hx : p.tables.exec = Jvm.exec) (hb : c.code = cX1_readOrder) (hr : meth.sig.returnType = (some .boolean)) (hml : c.maxLocals = 4) (hown : s.vm.findClass RX1 = some m.cls) (hts : ∀ w ∈ lw_all, w.before args s = true) (hlocks : meth.locks = false) (hE : En D cy s) (x : Int32 × mV) : ∀ (k : Nat) (V : mV) (j0 : Nat) (j1 : Int32) (j2 : Int32) (H : Heap) (locs : List Loc) (ls : Array Slot), lp_X1_readOrder_46 Y G k V j0 j1 j2 = some x → Wd Y cy D z n V G H → va_S (zA z) s.heap H locs → lv_has ls 4 [(0, .ref j0), (1, .int j1), (2, .int j2)] → W p l e (rmd 2) s m args below meth c H locs 0 0 (MQ below (QC D cy z Y n x.2 G (some (.int x.1))) args s 0 0 (zA z)) (F0 m 46 ls []) := by
  intro k
  induction k with
  | zero =>
    intro V j0 j1 j2 H locs ls hcf
    have hcf : none = some _ := hcf
    cases hcf
  | succ k ih =>
    intro V j0 j1 j2 H locs ls hcf hW hS hl
    rw [lp_X1_readOrder_46] at hcf
    refine lv_iload_n hx hb dX1_readOrder_46 rfl (lv_at hl 2 rfl) ?_
    refine lv_iload_n hx hb dX1_readOrder_47 rfl (lv_at hl 1 rfl) ?_
    refine lv_icmp_ge (tgt := 90) hx hb dX1_readOrder_48 (by decide) (fun q4 => ?_) (fun q4 => ?_)
    · replace hcf := (if_pos q4).symm.trans hcf
      refine lv_iconst (v := (1 : Int32)) hx hb dX1_readOrder_90 (by decide) ?_
      have hcf := Option.some.inj hcf; subst hcf
      exact wk_zret hx hb hr hlocks (Or.inr rfl) hW hS dX1_readOrder_91
    · replace hcf := (if_neg q4).symm.trans hcf
      refine lv_iload_n hx hb dX1_readOrder_51 rfl (lv_at hl 2 rfl) ?_
      refine lv_iload_n hx hb dX1_readOrder_52 rfl (lv_at hl 1 rfl) ?_
      refine lv_iconst (v := (1 : Int32)) hx hb dX1_readOrder_53 (by decide) ?_
      refine lv_isub hx hb dX1_readOrder_54 ?_
      refine lv_icmp_ge (tgt := 63) hx hb dX1_readOrder_55 (by decide) (fun q5 => ?_) (fun q5 => ?_)
      · replace hcf := (if_pos q5).symm.trans hcf
        refine lv_bipush (v := (59 : Int32)) hx hb dX1_readOrder_63 (by decide) ?_
        refine lv_istore_n (lv' := [(3, .int (59 : Int32)), (0, .ref j0), (1, .int j1), (2, .int j2)]) hx hb dX1_readOrder_65 rfl hl (by decide) rfl (fun ls hl => ?_)
        refine lv_aload_n hx hb dX1_readOrder_66 rfl (lv_at hl 1 rfl) ?_
        refine lv_iload_n hx hb dX1_readOrder_67 rfl (lv_at hl 3 rfl) ?_
        obtain ⟨q6, hcf⟩ := og hcf
        obtain ⟨x7, hx7, hcf⟩ := ob hcf
        refine iv_X1_48 (As := [.int j2]) (rest := []) hx hb hml hown hts hE (ct_X1_readNumber l D cy z n Y V G j0 j2 x7 hx7) hW hS q6 rfl rfl hl.1 (Nat.le_of_ble_eq_true rfl) ⟨Nat.le_of_ble_eq_true rfl, Nat.le_of_ble_eq_true rfl⟩ dX1_readOrder_68 ⟨Nat.zero_le _, Nat.zero_le _⟩ (fun H locs hW hS => ?_)
        refine lv_if_eq (tgt := 82) hx hb dX1_readOrder_71 (by decide) (fun q8 => ?_) (fun q8 => ?_)
        · replace hcf := (if_pos q8).symm.trans hcf
          refine lv_iconst (v := (0 : Int32)) hx hb dX1_readOrder_82 (by decide) ?_
          have hcf := Option.some.inj hcf; subst hcf
          exact wk_zret hx hb hr hlocks (Or.inl rfl) hW hS dX1_readOrder_83
        · replace hcf := (if_neg q8).symm.trans hcf
          refine lv_aload_n hx hb dX1_readOrder_74 rfl (lv_at hl 1 rfl) ?_
          refine lv_iload_n hx hb dX1_readOrder_75 rfl (lv_at hl 0 rfl) ?_
          obtain ⟨x9, hx9, hcf⟩ := ob hcf
          refine iv_X1_52 (As := [.int (59 : Int32)]) (rest := []) hx hb hml hown hts hE (ct_X1_readSign l D cy z n Y x7.2 G j0 (59 : Int32) x9 hx9) hW hS q6 rfl rfl hl.1 (Nat.le_of_ble_eq_true rfl) ⟨Nat.le_of_ble_eq_true rfl, Nat.le_of_ble_eq_true rfl⟩ dX1_readOrder_76 ⟨Nat.zero_le _, Nat.zero_le _⟩ (fun H locs hW hS => ?_)
          refine lv_if_ne (tgt := 84) hx hb dX1_readOrder_79 (by decide) (fun q10 => ?_) (fun q10 => ?_)
          · replace hcf := (if_neg q10).symm.trans hcf
            refine lv_iinc (v := (j2 + 1)) (lv' := [(2, .int (j2 + 1)), (3, .int (59 : Int32)), (0, .ref j0), (1, .int j1)]) hx hb dX1_readOrder_84 hl (k := 3) rfl rfl (by decide) rfl (fun ls hl => ?_)
            refine lv_goto (tgt := 46) hx hb dX1_readOrder_87 (by decide) ?_
            exact ih x9.2 j0 j1 (j2 + 1) _ _ _ hcf hW hS (lv_sub hl [2, 3, 0] rfl)
          · replace hcf := (if_pos q10).symm.trans hcf
            refine lv_iconst (v := (0 : Int32)) hx hb dX1_readOrder_82 (by decide) ?_
            have hcf := Option.some.inj hcf; subst hcf
            exact wk_zret hx hb hr hlocks (Or.inl rfl) hW hS dX1_readOrder_83
      · replace hcf := (if_neg q5).symm.trans hcf
        refine lv_bipush (v := (44 : Int32)) hx hb dX1_readOrder_58 (by decide) ?_
        refine lv_goto (tgt := 65) hx hb dX1_readOrder_60 (by decide) ?_
        refine lv_istore_n (lv' := [(3, .int (44 : Int32)), (0, .ref j0), (1, .int j1), (2, .int j2)]) hx hb dX1_readOrder_65 rfl hl (by decide) rfl (fun ls hl => ?_)
        refine lv_aload_n hx hb dX1_readOrder_66 rfl (lv_at hl 1 rfl) ?_
        refine lv_iload_n hx hb dX1_readOrder_67 rfl (lv_at hl 3 rfl) ?_
        obtain ⟨q11, hcf⟩ := og hcf
        obtain ⟨x12, hx12, hcf⟩ := ob hcf
        refine iv_X1_48 (As := [.int j2]) (rest := []) hx hb hml hown hts hE (ct_X1_readNumber l D cy z n Y V G j0 j2 x12 hx12) hW hS q11 rfl rfl hl.1 (Nat.le_of_ble_eq_true rfl) ⟨Nat.le_of_ble_eq_true rfl, Nat.le_of_ble_eq_true rfl⟩ dX1_readOrder_68 ⟨Nat.zero_le _, Nat.zero_le _⟩ (fun H locs hW hS => ?_)
        refine lv_if_eq (tgt := 82) hx hb dX1_readOrder_71 (by decide) (fun q13 => ?_) (fun q13 => ?_)
        · replace hcf := (if_pos q13).symm.trans hcf
          refine lv_iconst (v := (0 : Int32)) hx hb dX1_readOrder_82 (by decide) ?_
          have hcf := Option.some.inj hcf; subst hcf
          exact wk_zret hx hb hr hlocks (Or.inl rfl) hW hS dX1_readOrder_83
        · replace hcf := (if_neg q13).symm.trans hcf
          refine lv_aload_n hx hb dX1_readOrder_74 rfl (lv_at hl 1 rfl) ?_
          refine lv_iload_n hx hb dX1_readOrder_75 rfl (lv_at hl 0 rfl) ?_
          obtain ⟨x14, hx14, hcf⟩ := ob hcf
          refine iv_X1_52 (As := [.int (44 : Int32)]) (rest := []) hx hb hml hown hts hE (ct_X1_readSign l D cy z n Y x12.2 G j0 (44 : Int32) x14 hx14) hW hS q11 rfl rfl hl.1 (Nat.le_of_ble_eq_true rfl) ⟨Nat.le_of_ble_eq_true rfl, Nat.le_of_ble_eq_true rfl⟩ dX1_readOrder_76 ⟨Nat.zero_le _, Nat.zero_le _⟩ (fun H locs hW hS => ?_)
          refine lv_if_ne (tgt := 84) hx hb dX1_readOrder_79 (by decide) (fun q15 => ?_) (fun q15 => ?_)
          · replace hcf := (if_neg q15).symm.trans hcf
            refine lv_iinc (v := (j2 + 1)) (lv' := [(2, .int (j2 + 1)), (3, .int (44 : Int32)), (0, .ref j0), (1, .int j1)]) hx hb dX1_readOrder_84 hl (k := 3) rfl rfl (by decide) rfl (fun ls hl => ?_)
            refine lv_goto (tgt := 46) hx hb dX1_readOrder_87 (by decide) ?_
            exact ih x14.2 j0 j1 (j2 + 1) _ _ _ hcf hW hS (lv_sub hl [2, 3, 0] rfl)
          · replace hcf := (if_pos q15).symm.trans hcf
            refine lv_iconst (v := (0 : Int32)) hx hb dX1_readOrder_82 (by decide) ?_
            have hcf := Option.some.inj hcf; subst hcf
            exact wk_zret hx hb hr hlocks (Or.inl rfl) hW hS dX1_readOrder_83
set_option maxHeartbeats 4000000 in
set_option maxRecDepth 100000 in
theorem ct_X1_readOrder (l : Launch) (D : va_G) (cy : Nat → ClassId) (z n : Nat) (Y : mY) (V : mV) (G : mG) (a0 : Nat) (x : Int32 × mV) (hcf : cf_X1_readOrder Y V G a0 = some x) : CT l yX1_readOrder cX1_readOrder 4 (some .boolean) (rmd 2) D cy z [.ref a0] Y n V G (some (.int x.1)) Y n x.2 G := by
  refine ct_of (by decide) (Nat.le_of_ble_eq_true rfl) ?_
  intro p e s m args below meth c ls hx hb hr hml hown hts hlocks hnm hE hW hl
  have hS : va_S (zA z) s.heap s.heap [] := va_S.rf
  have hl : lv_has ls 4 [(0, .ref a0)] := hl
  have hown : s.vm.findClass RX1 = some m.cls := hown
  rw [cf_X1_readOrder] at hcf
  refine lv_aload_n hx hb dX1_readOrder_0 rfl (lv_at hl 0 rfl) ?_
  obtain ⟨q1, hcf⟩ := og hcf
  refine gf_X1_26 hx hb hts hown hE hW q1 dX1_readOrder_1 ?_
  refine lv_aload_n hx hb dX1_readOrder_4 rfl (lv_at hl 0 rfl) ?_
  refine gf_X1_19 hx hb hts hown hE hW q1 dX1_readOrder_5 ?_
  refine lv_icmp_ge (tgt := 26) hx hb dX1_readOrder_8 (by decide) (fun q2 => ?_) (fun q2 => ?_)
  · replace hcf := (if_pos q2).symm.trans hcf
    refine lv_iconst (v := (0 : Int32)) hx hb dX1_readOrder_26 (by decide) ?_
    refine lv_istore_n (lv' := [(1, .int (0 : Int32)), (0, .ref a0)]) hx hb dX1_readOrder_27 rfl hl (by decide) rfl (fun ls hl => ?_)
    refine lv_iload_n hx hb dX1_readOrder_28 rfl (lv_at hl 0 rfl) ?_
    refine lv_if_ne (tgt := 34) hx hb dX1_readOrder_29 (by decide) (fun q3 => ?_) (fun q3 => ?_)
    · replace hcf := (if_neg q3).symm.trans hcf
      refine lv_aload_n hx hb dX1_readOrder_34 rfl (lv_at hl 1 rfl) ?_
      refine lv_dup hx hb dX1_readOrder_35 rfl ?_
      refine gf_X1_26 hx hb hts hown hE hW q1 dX1_readOrder_36 ?_
      refine lv_iconst (v := (1 : Int32)) hx hb dX1_readOrder_39 (by decide) ?_
      refine lv_iadd hx hb dX1_readOrder_40 ?_
      refine pf_X1_26 hx hb hts hown hE hW hS q1 ((V a0 4) + (1 : Int32)) dX1_readOrder_41 (fun H locs hW hS => ?_)
      refine lv_iconst (v := (0 : Int32)) hx hb dX1_readOrder_44 (by decide) ?_
      refine lv_istore_n (lv' := [(2, .int (0 : Int32)), (1, .int (0 : Int32)), (0, .ref a0)]) hx hb dX1_readOrder_45 rfl hl (by decide) rfl (fun ls hl => ?_)
      exact wl_X1_readOrder_46 hx hb hr hml hown hts hlocks hE x fuB (up2 V a0 4 ((V a0 4) + (1 : Int32))) a0 (0 : Int32) (0 : Int32) _ _ _ hcf hW hS (lv_sub hl [2, 1, 0] rfl)
    · replace hcf := (if_pos q3).symm.trans hcf
      refine lv_iconst (v := (0 : Int32)) hx hb dX1_readOrder_32 (by decide) ?_
      have hcf := Option.some.inj hcf; subst hcf
      exact wk_zret hx hb hr hlocks (Or.inl rfl) hW hS dX1_readOrder_33
  · replace hcf := (if_neg q2).symm.trans hcf
    refine lv_aload_n hx hb dX1_readOrder_11 rfl (lv_at hl 0 rfl) ?_
    obtain ⟨r16, hr16, hcf⟩ := ob hcf
    refine gf_X1_9 hx hb hts hown hE hW q1 hr16 dX1_readOrder_12 ?_
    refine lv_aload_n hx hb dX1_readOrder_15 rfl (lv_at hl 0 rfl) ?_
    refine gf_X1_26 hx hb hts hown hE hW q1 dX1_readOrder_16 ?_
    obtain ⟨q17, hcf⟩ := og hcf
    obtain ⟨q18, hcf⟩ := og hcf
    refine wk_cald hx hb hE hW q17 q18 dX1_readOrder_19 ?_
    obtain ⟨x19, hx19, hcf⟩ := ob hcf
    refine iv_X1_44 (As := [.int (V r16 (V a0 4).toNatClampNeg)]) (rest := []) hx hb hml hown hts hE (ct_X1_numbersBehind l D cy z n Y V G (V r16 (V a0 4).toNatClampNeg) x19 hx19) hW hS rfl rfl hl.1 (Nat.le_of_ble_eq_true rfl) ⟨Nat.le_of_ble_eq_true rfl, Nat.le_of_ble_eq_true rfl⟩ dX1_readOrder_20 ⟨Nat.zero_le _, Nat.zero_le _⟩ (fun H locs hW hS => ?_)
    refine lv_goto (tgt := 27) hx hb dX1_readOrder_23 (by decide) ?_
    refine lv_istore_n (lv' := [(1, .int x19), (0, .ref a0)]) hx hb dX1_readOrder_27 rfl hl (by decide) rfl (fun ls hl => ?_)
    refine lv_iload_n hx hb dX1_readOrder_28 rfl (lv_at hl 0 rfl) ?_
    refine lv_if_ne (tgt := 34) hx hb dX1_readOrder_29 (by decide) (fun q20 => ?_) (fun q20 => ?_)
    · replace hcf := (if_neg q20).symm.trans hcf
      refine lv_aload_n hx hb dX1_readOrder_34 rfl (lv_at hl 1 rfl) ?_
      refine lv_dup hx hb dX1_readOrder_35 rfl ?_
      refine gf_X1_26 hx hb hts hown hE hW q1 dX1_readOrder_36 ?_
      refine lv_iconst (v := (1 : Int32)) hx hb dX1_readOrder_39 (by decide) ?_
      refine lv_iadd hx hb dX1_readOrder_40 ?_
      refine pf_X1_26 hx hb hts hown hE hW hS q1 ((V a0 4) + (1 : Int32)) dX1_readOrder_41 (fun H locs hW hS => ?_)
      refine lv_iconst (v := (0 : Int32)) hx hb dX1_readOrder_44 (by decide) ?_
      refine lv_istore_n (lv' := [(2, .int (0 : Int32)), (1, .int x19), (0, .ref a0)]) hx hb dX1_readOrder_45 rfl hl (by decide) rfl (fun ls hl => ?_)
      exact wl_X1_readOrder_46 hx hb hr hml hown hts hlocks hE x fuB (up2 V a0 4 ((V a0 4) + (1 : Int32))) a0 x19 (0 : Int32) _ _ _ hcf hW hS (lv_sub hl [2, 1, 0] rfl)
    · replace hcf := (if_pos q20).symm.trans hcf
      refine lv_iconst (v := (0 : Int32)) hx hb dX1_readOrder_32 (by decide) ?_
      have hcf := Option.some.inj hcf; subst hcf
      exact wk_zret hx hb hr hlocks (Or.inl rfl) hW hS dX1_readOrder_33
set_option maxHeartbeats 4000000 in
set_option maxRecDepth 100000 in
theorem ct_X1_doOrder (l : Launch) (D : va_G) (cy : Nat → ClassId) (z n : Nat) (Y : mY) (V : mV) (G : mG) (a0 : Nat) (b1 : Nat) (x : Int32 × mV) (hcf : cf_X1_doOrder Y V G a0 b1 = some x) : CT l yX1_doOrder cX1_doOrder 2 (some .int) (rmd 5) D cy z [.ref a0, .ref b1] Y n V G (some (.int x.1)) Y n x.2 G := by
  refine ct_of (by decide) (Nat.le_of_ble_eq_true rfl) ?_
  intro p e s m args below meth c ls hx hb hr hml hown hts hlocks hnm hE hW hl
  have hS : va_S (zA z) s.heap s.heap [] := va_S.rf
  have hl : lv_has ls 2 [(0, .ref a0), (1, .ref b1)] := hl
  have hown : s.vm.findClass RX1 = some m.cls := hown
  rw [cf_X1_doOrder] at hcf
  refine lv_aload_n hx hb dX1_doOrder_0 rfl (lv_at hl 0 rfl) ?_
  obtain ⟨q1, hcf⟩ := og hcf
  obtain ⟨r2, hr2, hcf⟩ := ob hcf
  refine gf_X1_9 hx hb hts hown hE hW q1 hr2 dX1_doOrder_1 ?_
  refine lv_aload_n hx hb dX1_doOrder_4 rfl (lv_at hl 0 rfl) ?_
  refine gf_X1_23 hx hb hts hown hE hW q1 dX1_doOrder_5 ?_
  obtain ⟨q3, hcf⟩ := og hcf
  obtain ⟨q4, hcf⟩ := og hcf
  refine wk_cald hx hb hE hW q3 q4 dX1_doOrder_8 ?_
  by_cases q5 : (V r2 (V a0 3).toNatClampNeg) = (97 : Int32)
  · replace hcf := (if_pos q5).symm.trans hcf
    refine wk_tsw (off := 90) (tgt := 99) hx hb dX1_doOrder_9 (by rw [q5]; rfl) (by decide) ?_
    refine lv_aload_n hx hb dX1_doOrder_99 rfl (lv_at hl 1 rfl) ?_
    refine lv_aload_n hx hb dX1_doOrder_100 rfl (lv_at hl 0 rfl) ?_
    obtain ⟨r6, hr6, hcf⟩ := ob hcf
    refine gf_X1_15 hx hb hts hown hE hW q1 hr6 dX1_doOrder_101 ?_
    refine lv_iconst (v := (0 : Int32)) hx hb dX1_doOrder_104 (by decide) ?_
    obtain ⟨q7, hcf⟩ := og hcf
    obtain ⟨q8, hcf⟩ := og hcf
    refine wk_iald hx hb hE hW q7 q8 dX1_doOrder_105 ?_
    refine lv_aload_n hx hb dX1_doOrder_106 rfl (lv_at hl 0 rfl) ?_
    refine gf_X1_15 hx hb hts hown hE hW q1 hr6 dX1_doOrder_107 ?_
    refine lv_iconst (v := (1 : Int32)) hx hb dX1_doOrder_110 (by decide) ?_
    obtain ⟨q9, hcf⟩ := og hcf
    refine wk_iald hx hb hE hW q7 q9 dX1_doOrder_111 ?_
    obtain ⟨q10, hcf⟩ := og hcf
    obtain ⟨x11, hx11, hcf⟩ := ob hcf
    refine iv_X1_72 (As := [.int (V r6 (0 : Int32).toNatClampNeg), .int (V r6 (1 : Int32).toNatClampNeg)]) (rest := []) hx hb hml hown hts hE (ct_X2_applyFor l D cy z n Y V G b1 (V r6 (0 : Int32).toNatClampNeg) (V r6 (1 : Int32).toNatClampNeg) x11 hx11) hW hS q10 rfl rfl hl.1 (Nat.le_of_ble_eq_true rfl) ⟨Nat.le_of_ble_eq_true rfl, Nat.le_of_ble_eq_true rfl⟩ dX1_doOrder_112 ⟨Nat.zero_le _, Nat.zero_le _⟩ (fun H locs hW hS => ?_)
    have hcf := Option.some.inj hcf; subst hcf
    exact wk_iret hx hb hr hlocks hW hS dX1_doOrder_115
  · replace hcf := (if_neg q5).symm.trans hcf
    by_cases q12 : (V r2 (V a0 3).toNatClampNeg) = (98 : Int32)
    · replace hcf := (if_pos q12).symm.trans hcf
      refine wk_tsw (off := 68) (tgt := 77) hx hb dX1_doOrder_9 (by rw [q12]; rfl) (by decide) ?_
      refine lv_aload_n hx hb dX1_doOrder_77 rfl (lv_at hl 1 rfl) ?_
      refine lv_aload_n hx hb dX1_doOrder_78 rfl (lv_at hl 0 rfl) ?_
      obtain ⟨r13, hr13, hcf⟩ := ob hcf
      refine gf_X1_15 hx hb hts hown hE hW q1 hr13 dX1_doOrder_79 ?_
      refine lv_iconst (v := (0 : Int32)) hx hb dX1_doOrder_82 (by decide) ?_
      obtain ⟨q14, hcf⟩ := og hcf
      obtain ⟨q15, hcf⟩ := og hcf
      refine wk_iald hx hb hE hW q14 q15 dX1_doOrder_83 ?_
      obtain ⟨q16, hcf⟩ := og hcf
      obtain ⟨x17, hx17, hcf⟩ := ob hcf
      refine iv_X1_65 (As := [.int (V r13 (0 : Int32).toNatClampNeg)]) (rest := []) hx hb hml hown hts hE (ct_X2_beginStage l D cy z n Y V G b1 (V r13 (0 : Int32).toNatClampNeg) x17 hx17) hW hS q16 rfl rfl hl.1 (Nat.le_of_ble_eq_true rfl) ⟨Nat.le_of_ble_eq_true rfl, Nat.le_of_ble_eq_true rfl⟩ dX1_doOrder_84 ⟨Nat.zero_le _, Nat.zero_le _⟩ (fun H locs hW hS => ?_)
      have hcf := Option.some.inj hcf; subst hcf
      exact wk_iret hx hb hr hlocks hW hS dX1_doOrder_87
    · replace hcf := (if_neg q12).symm.trans hcf
      by_cases q18 : (V r2 (V a0 3).toNatClampNeg) = (99 : Int32)
      · replace hcf := (if_pos q18).symm.trans hcf
        refine wk_tsw (off := 39) (tgt := 48) hx hb dX1_doOrder_9 (by rw [q18]; rfl) (by decide) ?_
        refine lv_aload_n hx hb dX1_doOrder_48 rfl (lv_at hl 1 rfl) ?_
        refine lv_aload_n hx hb dX1_doOrder_49 rfl (lv_at hl 0 rfl) ?_
        obtain ⟨r19, hr19, hcf⟩ := ob hcf
        refine gf_X1_15 hx hb hts hown hE hW q1 hr19 dX1_doOrder_50 ?_
        refine lv_iconst (v := (0 : Int32)) hx hb dX1_doOrder_53 (by decide) ?_
        obtain ⟨q20, hcf⟩ := og hcf
        obtain ⟨q21, hcf⟩ := og hcf
        refine wk_iald hx hb hE hW q20 q21 dX1_doOrder_54 ?_
        refine lv_aload_n hx hb dX1_doOrder_55 rfl (lv_at hl 0 rfl) ?_
        refine gf_X1_15 hx hb hts hown hE hW q1 hr19 dX1_doOrder_56 ?_
        refine lv_iconst (v := (1 : Int32)) hx hb dX1_doOrder_59 (by decide) ?_
        obtain ⟨q22, hcf⟩ := og hcf
        refine wk_iald hx hb hE hW q20 q22 dX1_doOrder_60 ?_
        refine lv_aload_n hx hb dX1_doOrder_61 rfl (lv_at hl 0 rfl) ?_
        refine gf_X1_15 hx hb hts hown hE hW q1 hr19 dX1_doOrder_62 ?_
        refine lv_iconst (v := (2 : Int32)) hx hb dX1_doOrder_65 (by decide) ?_
        obtain ⟨q23, hcf⟩ := og hcf
        refine wk_iald hx hb hE hW q20 q23 dX1_doOrder_66 ?_
        refine lv_aload_n hx hb dX1_doOrder_67 rfl (lv_at hl 0 rfl) ?_
        refine gf_X1_15 hx hb hts hown hE hW q1 hr19 dX1_doOrder_68 ?_
        refine lv_iconst (v := (3 : Int32)) hx hb dX1_doOrder_71 (by decide) ?_
        obtain ⟨q24, hcf⟩ := og hcf
        refine wk_iald hx hb hE hW q20 q24 dX1_doOrder_72 ?_
        obtain ⟨q25, hcf⟩ := og hcf
        obtain ⟨x26, hx26, hcf⟩ := ob hcf
        refine iv_X1_59 (As := [.int (V r19 (0 : Int32).toNatClampNeg), .int (V r19 (1 : Int32).toNatClampNeg), .int (V r19 (2 : Int32).toNatClampNeg), .int (V r19 (3 : Int32).toNatClampNeg)]) (rest := []) hx hb hml hown hts hE (ct_X2_addCondition l D cy z n Y V G b1 (V r19 (0 : Int32).toNatClampNeg) (V r19 (1 : Int32).toNatClampNeg) (V r19 (2 : Int32).toNatClampNeg) (V r19 (3 : Int32).toNatClampNeg) x26 hx26) hW hS q25 rfl rfl hl.1 (Nat.le_of_ble_eq_true rfl) ⟨Nat.le_of_ble_eq_true rfl, Nat.le_of_ble_eq_true rfl⟩ dX1_doOrder_73 ⟨Nat.zero_le _, Nat.zero_le _⟩ (fun H locs hW hS => ?_)
        have hcf := Option.some.inj hcf; subst hcf
        exact wk_iret hx hb hr hlocks hW hS dX1_doOrder_76
      · replace hcf := (if_neg q18).symm.trans hcf
        by_cases q27 : (V r2 (V a0 3).toNatClampNeg) = (100 : Int32)
        · replace hcf := (if_pos q27).symm.trans hcf
          refine wk_tsw (off := 107) (tgt := 116) hx hb dX1_doOrder_9 (by rw [q27]; rfl) (by decide) ?_
          refine lv_aload_n hx hb dX1_doOrder_116 rfl (lv_at hl 1 rfl) ?_
          refine lv_aload_n hx hb dX1_doOrder_117 rfl (lv_at hl 0 rfl) ?_
          obtain ⟨r28, hr28, hcf⟩ := ob hcf
          refine gf_X1_15 hx hb hts hown hE hW q1 hr28 dX1_doOrder_118 ?_
          refine lv_iconst (v := (0 : Int32)) hx hb dX1_doOrder_121 (by decide) ?_
          obtain ⟨q29, hcf⟩ := og hcf
          obtain ⟨q30, hcf⟩ := og hcf
          refine wk_iald hx hb hE hW q29 q30 dX1_doOrder_122 ?_
          refine lv_aload_n hx hb dX1_doOrder_123 rfl (lv_at hl 0 rfl) ?_
          refine gf_X1_15 hx hb hts hown hE hW q1 hr28 dX1_doOrder_124 ?_
          refine lv_iconst (v := (1 : Int32)) hx hb dX1_doOrder_127 (by decide) ?_
          obtain ⟨q31, hcf⟩ := og hcf
          refine wk_iald hx hb hE hW q29 q31 dX1_doOrder_128 ?_
          obtain ⟨q32, hcf⟩ := og hcf
          obtain ⟨x33, hx33, hcf⟩ := ob hcf
          refine iv_X1_76 (As := [.int (V r28 (0 : Int32).toNatClampNeg), .int (V r28 (1 : Int32).toNatClampNeg)]) (rest := []) hx hb hml hown hts hE (ct_X2_decideOn l D cy z n Y V G b1 (V r28 (0 : Int32).toNatClampNeg) (V r28 (1 : Int32).toNatClampNeg) x33 hx33) hW hS q32 rfl rfl hl.1 (Nat.le_of_ble_eq_true rfl) ⟨Nat.le_of_ble_eq_true rfl, Nat.le_of_ble_eq_true rfl⟩ dX1_doOrder_129 ⟨Nat.zero_le _, Nat.zero_le _⟩ (fun H locs hW hS => ?_)
          have hcf := Option.some.inj hcf; subst hcf
          exact wk_iret hx hb hr hlocks hW hS dX1_doOrder_132
        · replace hcf := (if_neg q27).symm.trans hcf
          by_cases q34 : (V r2 (V a0 3).toNatClampNeg) = (102 : Int32)
          · replace hcf := (if_pos q34).symm.trans hcf
            refine wk_tsw (off := 79) (tgt := 88) hx hb dX1_doOrder_9 (by rw [q34]; rfl) (by decide) ?_
            refine lv_aload_n hx hb dX1_doOrder_88 rfl (lv_at hl 1 rfl) ?_
            refine lv_aload_n hx hb dX1_doOrder_89 rfl (lv_at hl 0 rfl) ?_
            obtain ⟨r35, hr35, hcf⟩ := ob hcf
            refine gf_X1_15 hx hb hts hown hE hW q1 hr35 dX1_doOrder_90 ?_
            refine lv_iconst (v := (0 : Int32)) hx hb dX1_doOrder_93 (by decide) ?_
            obtain ⟨q36, hcf⟩ := og hcf
            obtain ⟨q37, hcf⟩ := og hcf
            refine wk_iald hx hb hE hW q36 q37 dX1_doOrder_94 ?_
            obtain ⟨q38, hcf⟩ := og hcf
            obtain ⟨x39, hx39, hcf⟩ := ob hcf
            refine iv_X1_69 (As := [.int (V r35 (0 : Int32).toNatClampNeg)]) (rest := []) hx hb hml hown hts hE (ct_X2_finishStage l D cy z n Y V G b1 (V r35 (0 : Int32).toNatClampNeg) x39 hx39) hW hS q38 rfl rfl hl.1 (Nat.le_of_ble_eq_true rfl) ⟨Nat.le_of_ble_eq_true rfl, Nat.le_of_ble_eq_true rfl⟩ dX1_doOrder_95 ⟨Nat.zero_le _, Nat.zero_le _⟩ (fun H locs hW hS => ?_)
            have hcf := Option.some.inj hcf; subst hcf
            exact wk_iret hx hb hr hlocks hW hS dX1_doOrder_98
          · replace hcf := (if_neg q34).symm.trans hcf
            refine wk_tsw (off := 124) (tgt := 133) hx hb dX1_doOrder_9 (by have eq5 := lv_neT q5 (a := 97) rfl; have eq12 := lv_neT q12 (a := 98) rfl; have eq18 := lv_neT q18 (a := 99) rfl; have eq27 := lv_neT q27 (a := 100) rfl; have eq34 := lv_neT q34 (a := 102) rfl; by_cases hh : ((V r2 (V a0 3).toNatClampNeg)).toInt < 97 ∨ 102 < ((V r2 (V a0 3).toNatClampNeg)).toInt; exact if_pos hh; rcases (show ((V r2 (V a0 3).toNatClampNeg)).toInt = 101 by omega) with hg <;> (rw [sw_off, if_neg hh, hg]; rfl)) (by decide) ?_
            refine lv_aload_n hx hb dX1_doOrder_133 rfl (lv_at hl 1 rfl) ?_
            refine lv_aload_n hx hb dX1_doOrder_134 rfl (lv_at hl 0 rfl) ?_
            obtain ⟨r40, hr40, hcf⟩ := ob hcf
            refine gf_X1_15 hx hb hts hown hE hW q1 hr40 dX1_doOrder_135 ?_
            refine lv_iconst (v := (0 : Int32)) hx hb dX1_doOrder_138 (by decide) ?_
            obtain ⟨q41, hcf⟩ := og hcf
            obtain ⟨q42, hcf⟩ := og hcf
            refine wk_iald hx hb hE hW q41 q42 dX1_doOrder_139 ?_
            obtain ⟨q43, hcf⟩ := og hcf
            obtain ⟨x44, hx44, hcf⟩ := ob hcf
            refine iv_X1_79 (As := [.int (V r40 (0 : Int32).toNatClampNeg)]) (rest := []) hx hb hml hown hts hE (ct_X2_passDays l D cy z n Y V G b1 (V r40 (0 : Int32).toNatClampNeg) x44 hx44) hW hS q43 rfl rfl hl.1 (Nat.le_of_ble_eq_true rfl) ⟨Nat.le_of_ble_eq_true rfl, Nat.le_of_ble_eq_true rfl⟩ dX1_doOrder_140 ⟨Nat.zero_le _, Nat.zero_le _⟩ (fun H locs hW hS => ?_)
            have hcf := Option.some.inj hcf; subst hcf
            exact wk_iret hx hb hr hlocks hW hS dX1_doOrder_143
set_option maxHeartbeats 4000000 in
set_option maxRecDepth 100000 in
theorem wl_X1_doAll_22 {p : Program} {l : Launch} {e : Env} {s : State} {m : MethodId} {args : Array Value} {below : List Frame} {meth : Method} {c : Code} {D : va_G} {cy : Nat → ClassId} {z : Nat} {n : Nat} {Y : mY} {G : mG} (hx : p.tables.exec = Jvm.exec) (hb : c.code = cX1_doAll) (hr : meth.sig.returnType = (some .int)) (hml : c.maxLocals = 4) (hown : s.vm.findClass RX1 = some m.cls) (hts : ∀ w ∈ lw_all, w.before args s = true) (hlocks : meth.locks = false) (hE : En D cy s) (x : Int32 × mV) : ∀ (k : Nat) (V : mV) (j0 : Nat) (j1 : Nat) (j2 : Int32) (H : Heap) (locs : List Loc) (ls : Array Slot), lp_X1_doAll_22 Y G k V j0 j1 j2 = some x → Wd Y cy D z n V G H → va_S (zA z) s.heap H locs → lv_has ls 4 [(0, .ref j0), (1, .ref j1), (2, .int j2)] → W p l e (rmd 6) s m args below meth c H locs 0 0 (MQ below (QC D cy z Y n x.2 G (some (.int x.1))) args s 0 0 (zA z)) (F0 m 22 ls []) := by
  intro k
  induction k with
  | zero =>
    intro V j0 j1 j2 H locs ls hcf
    have hcf : none = some _ := hcf
    cases hcf
  | succ k ih =>
    intro V j0 j1 j2 H locs ls hcf hW hS hl
    rw [lp_X1_doAll_22] at hcf
    refine lv_iload_n hx hb dX1_doAll_22 rfl (lv_at hl 2 rfl) ?_
    refine lv_bipush (v := (80 : Int32)) hx hb dX1_doAll_23 (by decide) ?_
    refine lv_icmp_ge (tgt := 102) hx hb dX1_doAll_25 (by decide) (fun q2 => ?_) (fun q2 => ?_)
    · replace hcf := (if_pos q2).symm.trans hcf
      refine lv_iload_n hx hb dX1_doAll_102 rfl (lv_at hl 2 rfl) ?_
      have hcf := Option.some.inj hcf; subst hcf
      exact wk_iret hx hb hr hlocks hW hS dX1_doAll_103
    · replace hcf := (if_neg q2).symm.trans hcf
      refine lv_aload_n hx hb dX1_doAll_28 rfl (lv_at hl 0 rfl) ?_
      obtain ⟨q3, hcf⟩ := og hcf
      refine gf_X1_26 hx hb hts hown hE hW q3 dX1_doAll_29 ?_
      refine lv_aload_n hx hb dX1_doAll_32 rfl (lv_at hl 0 rfl) ?_
      refine gf_X1_19 hx hb hts hown hE hW q3 dX1_doAll_33 ?_
      refine lv_icmp_ge (tgt := 102) hx hb dX1_doAll_36 (by decide) (fun q4 => ?_) (fun q4 => ?_)
      · replace hcf := (if_pos q4).symm.trans hcf
        refine lv_iload_n hx hb dX1_doAll_102 rfl (lv_at hl 2 rfl) ?_
        have hcf := Option.some.inj hcf; subst hcf
        exact wk_iret hx hb hr hlocks hW hS dX1_doAll_103
      · replace hcf := (if_neg q4).symm.trans hcf
        refine lv_aload_n hx hb dX1_doAll_39 rfl (lv_at hl 0 rfl) ?_
        refine lv_aload_n hx hb dX1_doAll_40 rfl (lv_at hl 0 rfl) ?_
        refine gf_X1_26 hx hb hts hown hE hW q3 dX1_doAll_41 ?_
        refine pf_X1_23 hx hb hts hown hE hW hS q3 (V j0 4) dX1_doAll_44 (fun H locs hW hS => ?_)
        refine lv_aload_n hx hb dX1_doAll_47 rfl (lv_at hl 0 rfl) ?_
        obtain ⟨x5, hx5, hcf⟩ := ob hcf
        refine iv_X1_36 (As := []) (rest := []) hx hb hml hown hts hE (ct_X1_readOrder l D cy z n Y (up2 V j0 3 (V j0 4)) G j0 x5 hx5) hW hS q3 rfl rfl hl.1 (Nat.le_of_ble_eq_true rfl) ⟨Nat.le_of_ble_eq_true rfl, Nat.le_of_ble_eq_true rfl⟩ dX1_doAll_48 ⟨Nat.zero_le _, Nat.zero_le _⟩ (fun H locs hW hS => ?_)
        refine lv_if_ne (tgt := 74) hx hb dX1_doAll_51 (by decide) (fun q6 => ?_) (fun q6 => ?_)
        · replace hcf := (if_neg q6).symm.trans hcf
          refine lv_aload_n hx hb dX1_doAll_74 rfl (lv_at hl 0 rfl) ?_
          refine lv_aload_n hx hb dX1_doAll_75 rfl (lv_at hl 1 rfl) ?_
          obtain ⟨x7, hx7, hcf⟩ := ob hcf
          refine iv_X1_40 (As := [.ref j1]) (rest := []) hx hb hml hown hts hE (ct_X1_doOrder l D cy z n Y x5.2 G j0 j1 x7 hx7) hW hS q3 rfl rfl hl.1 (Nat.le_of_ble_eq_true rfl) ⟨Nat.le_of_ble_eq_true rfl, Nat.le_of_ble_eq_true rfl⟩ dX1_doAll_76 ⟨Nat.zero_le _, Nat.zero_le _⟩ (fun H locs hW hS => ?_)
          refine lv_istore_n (lv' := [(3, .int x7.1), (0, .ref j0), (1, .ref j1), (2, .int j2)]) hx hb dX1_doAll_79 rfl hl (by decide) rfl (fun ls hl => ?_)
          refine lv_iload_n hx hb dX1_doAll_80 rfl (lv_at hl 0 rfl) ?_
          refine lv_if_ge (tgt := 96) hx hb dX1_doAll_81 (by decide) (fun q8 => ?_) (fun q8 => ?_)
          · replace hcf := (if_pos q8).symm.trans hcf
            refine lv_iinc (v := (j2 + 1)) (lv' := [(2, .int (j2 + 1)), (3, .int x7.1), (0, .ref j0), (1, .ref j1)]) hx hb dX1_doAll_96 hl (k := 3) rfl rfl (by decide) rfl (fun ls hl => ?_)
            refine lv_goto (tgt := 22) hx hb dX1_doAll_99 (by decide) ?_
            exact ih x7.2 j0 j1 (j2 + 1) _ _ _ hcf hW hS (lv_sub hl [2, 3, 0] rfl)
          · replace hcf := (if_neg q8).symm.trans hcf
            refine lv_aload_n hx hb dX1_doAll_84 rfl (lv_at hl 1 rfl) ?_
            refine lv_iconst (v := (2 : Int32)) hx hb dX1_doAll_85 (by decide) ?_
            refine pf_X1_29 hx hb hts hown hE hW hS q3 (2 : Int32) dX1_doAll_86 (fun H locs hW hS => ?_)
            refine lv_aload_n hx hb dX1_doAll_89 rfl (lv_at hl 1 rfl) ?_
            refine lv_iload_n hx hb dX1_doAll_90 rfl (lv_at hl 0 rfl) ?_
            refine pf_X1_32 hx hb hts hown hE hW hS q3 x7.1 dX1_doAll_91 (fun H locs hW hS => ?_)
            refine lv_iload_n hx hb dX1_doAll_94 rfl (lv_at hl 3 rfl) ?_
            have hcf := Option.some.inj hcf; subst hcf
            exact wk_iret hx hb hr hlocks hW hS dX1_doAll_95
        · replace hcf := (if_pos q6).symm.trans hcf
          refine lv_aload_n hx hb dX1_doAll_54 rfl (lv_at hl 0 rfl) ?_
          refine lv_iconst (v := (1 : Int32)) hx hb dX1_doAll_55 (by decide) ?_
          refine pf_X1_29 hx hb hts hown hE hW hS q3 (1 : Int32) dX1_doAll_56 (fun H locs hW hS => ?_)
          refine lv_aload_n hx hb dX1_doAll_59 rfl (lv_at hl 0 rfl) ?_
          refine lv_aload_n hx hb dX1_doAll_60 rfl (lv_at hl 0 rfl) ?_
          refine gf_X1_26 hx hb hts hown hE hW q3 dX1_doAll_61 ?_
          refine lv_aload_n hx hb dX1_doAll_64 rfl (lv_at hl 0 rfl) ?_
          refine gf_X1_23 hx hb hts hown hE hW q3 dX1_doAll_65 ?_
          refine lv_isub hx hb dX1_doAll_68 ?_
          refine pf_X1_32 hx hb hts hown hE hW hS q3 (((up2 x5.2 j0 5 (1 : Int32)) j0 4) - ((up2 x5.2 j0 5 (1 : Int32)) j0 3)) dX1_doAll_69 (fun H locs hW hS => ?_)
          obtain ⟨V9, hV9, hcf⟩ := ob hcf
          rw [Option.some.inj hV9] at hW
          refine lv_iload_n hx hb dX1_doAll_72 rfl (lv_at hl 2 rfl) ?_
          have hcf := Option.some.inj hcf; subst hcf
          exact wk_iret hx hb hr hlocks hW hS dX1_doAll_73
set_option maxHeartbeats 4000000 in
set_option maxRecDepth 100000 in
theorem ct_X1_doAll (l : Launch) (D : va_G) (cy : Nat → ClassId) (z n : Nat) (Y : mY) (V : mV) (G : mG) (a0 : Nat) (b1 : Nat) (x : Int32 × mV) (hcf : cf_X1_doAll Y V G a0 b1 = some x) : CT l yX1_doAll cX1_doAll 4 (some .int) (rmd 6) D cy z [.ref a0, .ref b1] Y n V G (some (.int x.1)) Y n x.2 G := by
  refine ct_of (by decide) (Nat.le_of_ble_eq_true rfl) ?_
  intro p e s m args below meth c ls hx hb hr hml hown hts hlocks hnm hE hW hl
  have hS : va_S (zA z) s.heap s.heap [] := va_S.rf
  have hl : lv_has ls 4 [(0, .ref a0), (1, .ref b1)] := hl
  have hown : s.vm.findClass RX1 = some m.cls := hown
  rw [cf_X1_doAll] at hcf
  refine lv_aload_n hx hb dX1_doAll_0 rfl (lv_at hl 0 rfl) ?_
  refine lv_iconst (v := (0 : Int32)) hx hb dX1_doAll_1 (by decide) ?_
  obtain ⟨q1, hcf⟩ := og hcf
  refine pf_X1_29 hx hb hts hown hE hW hS q1 (0 : Int32) dX1_doAll_2 (fun H locs hW hS => ?_)
  refine lv_aload_n hx hb dX1_doAll_5 rfl (lv_at hl 0 rfl) ?_
  refine lv_iconst (v := (0 : Int32)) hx hb dX1_doAll_6 (by decide) ?_
  refine pf_X1_32 hx hb hts hown hE hW hS q1 (0 : Int32) dX1_doAll_7 (fun H locs hW hS => ?_)
  refine lv_aload_n hx hb dX1_doAll_10 rfl (lv_at hl 0 rfl) ?_
  refine lv_iconst (v := (0 : Int32)) hx hb dX1_doAll_11 (by decide) ?_
  refine pf_X1_23 hx hb hts hown hE hW hS q1 (0 : Int32) dX1_doAll_12 (fun H locs hW hS => ?_)
  refine lv_aload_n hx hb dX1_doAll_15 rfl (lv_at hl 0 rfl) ?_
  refine lv_iconst (v := (0 : Int32)) hx hb dX1_doAll_16 (by decide) ?_
  refine pf_X1_26 hx hb hts hown hE hW hS q1 (0 : Int32) dX1_doAll_17 (fun H locs hW hS => ?_)
  refine lv_iconst (v := (0 : Int32)) hx hb dX1_doAll_20 (by decide) ?_
  refine lv_istore_n (lv' := [(2, .int (0 : Int32)), (0, .ref a0), (1, .ref b1)]) hx hb dX1_doAll_21 rfl hl (by decide) rfl (fun ls hl => ?_)
  exact wl_X1_doAll_22 hx hb hr hml hown hts hlocks hE x fuB (up2 (up2 (up2 (up2 V a0 5 (0 : Int32)) a0 6 (0 : Int32)) a0 3 (0 : Int32)) a0 4 (0 : Int32)) a0 b1 (0 : Int32) _ _ _ hcf hW hS (lv_sub hl [1, 2, 0] rfl)
