def cf_X0_endBreach (Y : mY) (V : mV) (G : mG) (a0 : Nat) : Option (mV) := if Y.1 a0 = 0 then some (up2 (up2 (up2 V a0 8 (0 : Int32)) a0 10 (0 : Int32)) a0 11 (0 : Int32)) else none
def cf_X0_startAs (Y : mY) (V : mV) (G : mG) (a0 : Nat) (b1 : Int32) (b2 : Int32) (b3 : Int32) (b4 : Int32) : Option (mV) := if Y.1 a0 = 0 then (some (up2 (up2 (up2 (up2 (up2 (up2 V a0 0 b1) a0 1 b2) a0 2 b3) a0 3 b4) a0 4 (0 : Int32)) a0 5 (0 : Int32))).bind (fun V2 => (cf_X0_endBreach Y (up2 (up2 (up2 V2 a0 7 (0 : Int32)) a0 9 (0 : Int32)) a0 13 (0 : Int32)) G a0).bind (fun x3 => some x3)) else none
def cf_X0_copyFrom (Y : mY) (V : mV) (G : mG) (a0 : Nat) (b1 : Nat) : Option (mV) := if Y.1 b1 = 0 then if Y.1 a0 = 0 then (some (up2 (up2 (up2 V a0 0 (V b1 0)) a0 1 ((up2 V a0 0 (V b1 0)) b1 1)) a0 2 ((up2 (up2 V a0 0 (V b1 0)) a0 1 ((up2 V a0 0 (V b1 0)) b1 1)) b1 2))).bind (fun V3 => (some (up2 (up2 (up2 V3 a0 3 (V3 b1 3)) a0 4 ((up2 V3 a0 3 (V3 b1 3)) b1 4)) a0 5 ((up2 (up2 V3 a0 3 (V3 b1 3)) a0 4 ((up2 V3 a0 3 (V3 b1 3)) b1 4)) b1 5))).bind (fun V4 => if ((up2 (up2 V4 a0 6 (V4 b1 6)) a0 7 ((up2 V4 a0 6 (V4 b1 6)) b1 7)) b1 8) = 0 ∨ ((up2 (up2 V4 a0 6 (V4 b1 6)) a0 7 ((up2 V4 a0 6 (V4 b1 6)) b1 7)) b1 8) = 1 then (some (up2 (up2 (up2 V4 a0 6 (V4 b1 6)) a0 7 ((up2 V4 a0 6 (V4 b1 6)) b1 7)) a0 8 ((up2 (up2 V4 a0 6 (V4 b1 6)) a0 7 ((up2 V4 a0 6 (V4 b1 6)) b1 7)) b1 8))).bind (fun V6 => if (V6 b1 9) = 0 ∨ (V6 b1 9) = 1 then if ((up2 (up2 V6 a0 9 (V6 b1 9)) a0 10 ((up2 V6 a0 9 (V6 b1 9)) b1 10)) b1 11) = 0 ∨ ((up2 (up2 V6 a0 9 (V6 b1 9)) a0 10 ((up2 V6 a0 9 (V6 b1 9)) b1 10)) b1 11) = 1 then (some (up2 (up2 (up2 V6 a0 9 (V6 b1 9)) a0 10 ((up2 V6 a0 9 (V6 b1 9)) b1 10)) a0 11 ((up2 (up2 V6 a0 9 (V6 b1 9)) a0 10 ((up2 V6 a0 9 (V6 b1 9)) b1 10)) b1 11))).bind (fun V9 => some (up2 (up2 V9 a0 12 (V9 b1 12)) a0 13 ((up2 V9 a0 12 (V9 b1 12)) b1 13))) else none else none) else none)) else none else none
def cf_X0_isMet (Y : mY) (V : mV) (G : mG) (a0 : Nat) : Option (Int32) := if Y.1 a0 = 0 then if (V a0 0) = (2 : Int32) then (if (V a0 7) < (V a0 2) then (some (0 : Int32)) else (some (1 : Int32))) else (if (V a0 4) = (((1 : Int32) <<< ((V a0 3) &&& 31)) - (1 : Int32)) then (some (1 : Int32)) else (some (0 : Int32))) else none
def cf_X0_isPartsSet (Y : mY) (V : mV) (G : mG) (a0 : Nat) (b1 : Int32) : Option (Int32) := if b1 < 0 then (some (0 : Int32)) else (if Y.1 a0 = 0 then if ((1 : Int32) <<< ((V a0 3) &&& 31)) ≤ b1 then (some (0 : Int32)) else (some (1 : Int32)) else none)
def cf_X0_approve (Y : mY) (V : mV) (G : mG) (a0 : Nat) (b1 : Int32) : Option (mV) := if Y.1 a0 = 0 then if ((up2 (up2 V a0 4 ((V a0 4) ||| b1)) a0 5 (0 : Int32)) a0 8) = 0 then (some (up2 (up2 V a0 4 ((V a0 4) ||| b1)) a0 5 (0 : Int32))) else ((cf_X0_isMet Y (up2 (up2 V a0 4 ((V a0 4) ||| b1)) a0 5 (0 : Int32)) G a0).bind (fun x3 => if x3 = 0 then (some (up2 (up2 V a0 4 ((V a0 4) ||| b1)) a0 5 (0 : Int32))) else ((cf_X0_endBreach Y (up2 (up2 V a0 4 ((V a0 4) ||| b1)) a0 5 (0 : Int32)) G a0).bind (fun x5 => some x5)))) else none
def cf_X0_ageBreach (Y : mY) (V : mV) (G : mG) (a0 : Nat) (b1 : Int32) : Option (mV) := if Y.1 a0 = 0 then if ((up2 V a0 10 ((V a0 10) + (1 : Int32))) a0 11) = 0 then (if ((up2 V a0 10 ((V a0 10) + (1 : Int32))) a0 11) = 0 then (if ((up2 V a0 10 ((V a0 10) + (1 : Int32))) a0 10) < b1 then (some (up2 V a0 10 ((V a0 10) + (1 : Int32)))) else ((cf_X0_endBreach Y (up2 V a0 10 ((V a0 10) + (1 : Int32))) G a0).bind (fun x5 => some (up2 x5 a0 9 (1 : Int32))))) else ((some (up2 (up2 V a0 10 ((V a0 10) + (1 : Int32))) a0 13 (((up2 V a0 10 ((V a0 10) + (1 : Int32))) a0 13) + (1 : Int32)))).bind (fun V6 => some V6))) else (if ((up2 V a0 10 ((V a0 10) + (1 : Int32))) a0 12) ≤ 0 then (if ((up2 V a0 10 ((V a0 10) + (1 : Int32))) a0 11) = 0 then (if ((up2 V a0 10 ((V a0 10) + (1 : Int32))) a0 10) < b1 then (some (up2 V a0 10 ((V a0 10) + (1 : Int32)))) else ((cf_X0_endBreach Y (up2 V a0 10 ((V a0 10) + (1 : Int32))) G a0).bind (fun x10 => some (up2 x10 a0 9 (1 : Int32))))) else ((some (up2 (up2 V a0 10 ((V a0 10) + (1 : Int32))) a0 13 (((up2 V a0 10 ((V a0 10) + (1 : Int32))) a0 13) + (1 : Int32)))).bind (fun V11 => some V11))) else ((some (up2 (up2 V a0 10 ((V a0 10) + (1 : Int32))) a0 12 (((up2 V a0 10 ((V a0 10) + (1 : Int32))) a0 12) - (1 : Int32)))).bind (fun V12 => some V12))) else none
set_option maxHeartbeats 4000000 in
set_option maxRecDepth 100000 in
theorem ct_X0_endBreach (l : Launch) (D : va_G) (cy : Nat → ClassId) (z n : Nat) (Y : mY) (V : mV) (G : mG) (a0 : Nat) (x : mV) (hcf : cf_X0_endBreach Y V G a0 = some x) : CT l yX0_endBreach cX0_endBreach 1 none (rmd 0) D cy z [.ref a0] Y n V G none Y n x G := by
  refine ct_of (by decide) (Nat.le_of_ble_eq_true rfl) ?_
  intro p e s m args below meth c ls hx hb hr hml hown hts hlocks hnm hE hW hl
  have hS : va_S (zA z) s.heap s.heap [] := va_S.rf
  have hl : lv_has ls 1 [(0, .ref a0)] := hl
  have hown : s.vm.findClass RX0 = some m.cls := hown
  rw [cf_X0_endBreach] at hcf
  refine lv_aload_n hx hb dX0_endBreach_0 rfl (lv_at hl 0 rfl) ?_
  refine lv_iconst (v := (0 : Int32)) hx hb dX0_endBreach_1 (by decide) ?_
  obtain ⟨q1, hcf⟩ := og hcf
  refine pf_X0_36 hx hb hts hown hE hW hS q1 (0 : Int32) (by decide) dX0_endBreach_2 (fun H locs hW hS => ?_)
  refine lv_aload_n hx hb dX0_endBreach_5 rfl (lv_at hl 0 rfl) ?_
  refine lv_iconst (v := (0 : Int32)) hx hb dX0_endBreach_6 (by decide) ?_
  refine pf_X0_43 hx hb hts hown hE hW hS q1 (0 : Int32) dX0_endBreach_7 (fun H locs hW hS => ?_)
  refine lv_aload_n hx hb dX0_endBreach_10 rfl (lv_at hl 0 rfl) ?_
  refine lv_iconst (v := (0 : Int32)) hx hb dX0_endBreach_11 (by decide) ?_
  refine pf_X0_46 hx hb hts hown hE hW hS q1 (0 : Int32) (by decide) dX0_endBreach_12 (fun H locs hW hS => ?_)
  have hcf := Option.some.inj hcf; subst hcf
  exact wk_vret hx hb hr hlocks hW hS dX0_endBreach_15
set_option maxHeartbeats 4000000 in
set_option maxRecDepth 100000 in
theorem ct_X0_startAs (l : Launch) (D : va_G) (cy : Nat → ClassId) (z n : Nat) (Y : mY) (V : mV) (G : mG) (a0 : Nat) (b1 : Int32) (b2 : Int32) (b3 : Int32) (b4 : Int32) (x : mV) (hcf : cf_X0_startAs Y V G a0 b1 b2 b3 b4 = some x) : CT l yX0_startAs cX0_startAs 5 none (rmd 1) D cy z [.ref a0, .int b1, .int b2, .int b3, .int b4] Y n V G none Y n x G := by
  refine ct_of (by decide) (Nat.le_of_ble_eq_true rfl) ?_
  intro p e s m args below meth c ls hx hb hr hml hown hts hlocks hnm hE hW hl
  have hS : va_S (zA z) s.heap s.heap [] := va_S.rf
  have hl : lv_has ls 5 [(0, .ref a0), (1, .int b1), (2, .int b2), (3, .int b3), (4, .int b4)] := hl
  have hown : s.vm.findClass RX0 = some m.cls := hown
  rw [cf_X0_startAs] at hcf
  refine lv_aload_n hx hb dX0_startAs_0 rfl (lv_at hl 0 rfl) ?_
  refine lv_iload_n hx hb dX0_startAs_1 rfl (lv_at hl 1 rfl) ?_
  obtain ⟨q1, hcf⟩ := og hcf
  refine pf_X0_9 hx hb hts hown hE hW hS q1 b1 dX0_startAs_2 (fun H locs hW hS => ?_)
  refine lv_aload_n hx hb dX0_startAs_5 rfl (lv_at hl 0 rfl) ?_
  refine lv_iload_n hx hb dX0_startAs_6 rfl (lv_at hl 2 rfl) ?_
  refine pf_X0_15 hx hb hts hown hE hW hS q1 b2 dX0_startAs_7 (fun H locs hW hS => ?_)
  refine lv_aload_n hx hb dX0_startAs_10 rfl (lv_at hl 0 rfl) ?_
  refine lv_iload_n hx hb dX0_startAs_11 rfl (lv_at hl 3 rfl) ?_
  refine pf_X0_18 hx hb hts hown hE hW hS q1 b3 dX0_startAs_12 (fun H locs hW hS => ?_)
  refine lv_aload_n hx hb dX0_startAs_15 rfl (lv_at hl 0 rfl) ?_
  refine lv_iload hx hb dX0_startAs_16 (lv_at hl 4 rfl) ?_
  refine pf_X0_21 hx hb hts hown hE hW hS q1 b4 dX0_startAs_18 (fun H locs hW hS => ?_)
  refine lv_aload_n hx hb dX0_startAs_21 rfl (lv_at hl 0 rfl) ?_
  refine lv_iconst (v := (0 : Int32)) hx hb dX0_startAs_22 (by decide) ?_
  refine pf_X0_24 hx hb hts hown hE hW hS q1 (0 : Int32) dX0_startAs_23 (fun H locs hW hS => ?_)
  refine lv_aload_n hx hb dX0_startAs_26 rfl (lv_at hl 0 rfl) ?_
  refine lv_iconst (v := (0 : Int32)) hx hb dX0_startAs_27 (by decide) ?_
  refine pf_X0_27 hx hb hts hown hE hW hS q1 (0 : Int32) dX0_startAs_28 (fun H locs hW hS => ?_)
  obtain ⟨V2, hV2, hcf⟩ := ob hcf
  rw [Option.some.inj hV2] at hW
  refine lv_aload_n hx hb dX0_startAs_31 rfl (lv_at hl 0 rfl) ?_
  refine lv_iconst (v := (0 : Int32)) hx hb dX0_startAs_32 (by decide) ?_
  refine pf_X0_33 hx hb hts hown hE hW hS q1 (0 : Int32) dX0_startAs_33 (fun H locs hW hS => ?_)
  refine lv_aload_n hx hb dX0_startAs_36 rfl (lv_at hl 0 rfl) ?_
  refine lv_iconst (v := (0 : Int32)) hx hb dX0_startAs_37 (by decide) ?_
  refine pf_X0_40 hx hb hts hown hE hW hS q1 (0 : Int32) (by decide) dX0_startAs_38 (fun H locs hW hS => ?_)
  refine lv_aload_n hx hb dX0_startAs_41 rfl (lv_at hl 0 rfl) ?_
  refine lv_iconst (v := (0 : Int32)) hx hb dX0_startAs_42 (by decide) ?_
  refine pf_X0_52 hx hb hts hown hE hW hS q1 (0 : Int32) dX0_startAs_43 (fun H locs hW hS => ?_)
  refine lv_aload_n hx hb dX0_startAs_46 rfl (lv_at hl 0 rfl) ?_
  obtain ⟨x3, hx3, hcf⟩ := ob hcf
  refine iv_X0_55 (As := []) (rest := []) hx hb hml hown hts hE (ct_X0_endBreach l D cy z n Y (up2 (up2 (up2 V2 a0 7 (0 : Int32)) a0 9 (0 : Int32)) a0 13 (0 : Int32)) G a0 x3 hx3) hW hS q1 rfl rfl hl.1 (Nat.le_of_ble_eq_true rfl) ⟨Nat.le_of_ble_eq_true rfl, Nat.le_of_ble_eq_true rfl⟩ dX0_startAs_47 ⟨Nat.zero_le _, Nat.zero_le _⟩ (fun H locs hW hS => ?_)
  have hcf := Option.some.inj hcf; subst hcf
  exact wk_vret hx hb hr hlocks hW hS dX0_startAs_50
set_option maxHeartbeats 4000000 in
set_option maxRecDepth 100000 in
theorem ct_X0_copyFrom (l : Launch) (D : va_G) (cy : Nat → ClassId) (z n : Nat) (Y : mY) (V : mV) (G : mG) (a0 : Nat) (b1 : Nat) (x : mV) (hcf : cf_X0_copyFrom Y V G a0 b1 = some x) : CT l yX0_copyFrom cX0_copyFrom 2 none (rmd 0) D cy z [.ref a0, .ref b1] Y n V G none Y n x G := by
  refine ct_of (by decide) (Nat.le_of_ble_eq_true rfl) ?_
  intro p e s m args below meth c ls hx hb hr hml hown hts hlocks hnm hE hW hl
  have hS : va_S (zA z) s.heap s.heap [] := va_S.rf
  have hl : lv_has ls 2 [(0, .ref a0), (1, .ref b1)] := hl
  have hown : s.vm.findClass RX0 = some m.cls := hown
  rw [cf_X0_copyFrom] at hcf
  refine lv_aload_n hx hb dX0_copyFrom_0 rfl (lv_at hl 0 rfl) ?_
  refine lv_aload_n hx hb dX0_copyFrom_1 rfl (lv_at hl 1 rfl) ?_
  obtain ⟨q1, hcf⟩ := og hcf
  refine gf_X0_9 hx hb hts hown hE hW q1 dX0_copyFrom_2 ?_
  obtain ⟨q2, hcf⟩ := og hcf
  refine pf_X0_9 hx hb hts hown hE hW hS q2 (V b1 0) dX0_copyFrom_5 (fun H locs hW hS => ?_)
  refine lv_aload_n hx hb dX0_copyFrom_8 rfl (lv_at hl 0 rfl) ?_
  refine lv_aload_n hx hb dX0_copyFrom_9 rfl (lv_at hl 1 rfl) ?_
  refine gf_X0_15 hx hb hts hown hE hW q1 dX0_copyFrom_10 ?_
  refine pf_X0_15 hx hb hts hown hE hW hS q2 ((up2 V a0 0 (V b1 0)) b1 1) dX0_copyFrom_13 (fun H locs hW hS => ?_)
  refine lv_aload_n hx hb dX0_copyFrom_16 rfl (lv_at hl 0 rfl) ?_
  refine lv_aload_n hx hb dX0_copyFrom_17 rfl (lv_at hl 1 rfl) ?_
  refine gf_X0_18 hx hb hts hown hE hW q1 dX0_copyFrom_18 ?_
  refine pf_X0_18 hx hb hts hown hE hW hS q2 ((up2 (up2 V a0 0 (V b1 0)) a0 1 ((up2 V a0 0 (V b1 0)) b1 1)) b1 2) dX0_copyFrom_21 (fun H locs hW hS => ?_)
  obtain ⟨V3, hV3, hcf⟩ := ob hcf
  rw [Option.some.inj hV3] at hW
  refine lv_aload_n hx hb dX0_copyFrom_24 rfl (lv_at hl 0 rfl) ?_
  refine lv_aload_n hx hb dX0_copyFrom_25 rfl (lv_at hl 1 rfl) ?_
  refine gf_X0_21 hx hb hts hown hE hW q1 dX0_copyFrom_26 ?_
  refine pf_X0_21 hx hb hts hown hE hW hS q2 (V3 b1 3) dX0_copyFrom_29 (fun H locs hW hS => ?_)
  refine lv_aload_n hx hb dX0_copyFrom_32 rfl (lv_at hl 0 rfl) ?_
  refine lv_aload_n hx hb dX0_copyFrom_33 rfl (lv_at hl 1 rfl) ?_
  refine gf_X0_24 hx hb hts hown hE hW q1 dX0_copyFrom_34 ?_
  refine pf_X0_24 hx hb hts hown hE hW hS q2 ((up2 V3 a0 3 (V3 b1 3)) b1 4) dX0_copyFrom_37 (fun H locs hW hS => ?_)
  refine lv_aload_n hx hb dX0_copyFrom_40 rfl (lv_at hl 0 rfl) ?_
  refine lv_aload_n hx hb dX0_copyFrom_41 rfl (lv_at hl 1 rfl) ?_
  refine gf_X0_27 hx hb hts hown hE hW q1 dX0_copyFrom_42 ?_
  refine pf_X0_27 hx hb hts hown hE hW hS q2 ((up2 (up2 V3 a0 3 (V3 b1 3)) a0 4 ((up2 V3 a0 3 (V3 b1 3)) b1 4)) b1 5) dX0_copyFrom_45 (fun H locs hW hS => ?_)
  obtain ⟨V4, hV4, hcf⟩ := ob hcf
  rw [Option.some.inj hV4] at hW
  refine lv_aload_n hx hb dX0_copyFrom_48 rfl (lv_at hl 0 rfl) ?_
  refine lv_aload_n hx hb dX0_copyFrom_49 rfl (lv_at hl 1 rfl) ?_
  refine gf_X0_30 hx hb hts hown hE hW q1 dX0_copyFrom_50 ?_
  refine pf_X0_30 hx hb hts hown hE hW hS q2 (V4 b1 6) dX0_copyFrom_53 (fun H locs hW hS => ?_)
  refine lv_aload_n hx hb dX0_copyFrom_56 rfl (lv_at hl 0 rfl) ?_
  refine lv_aload_n hx hb dX0_copyFrom_57 rfl (lv_at hl 1 rfl) ?_
  refine gf_X0_33 hx hb hts hown hE hW q1 dX0_copyFrom_58 ?_
  refine pf_X0_33 hx hb hts hown hE hW hS q2 ((up2 V4 a0 6 (V4 b1 6)) b1 7) dX0_copyFrom_61 (fun H locs hW hS => ?_)
  refine lv_aload_n hx hb dX0_copyFrom_64 rfl (lv_at hl 0 rfl) ?_
  refine lv_aload_n hx hb dX0_copyFrom_65 rfl (lv_at hl 1 rfl) ?_
  refine gf_X0_36 hx hb hts hown hE hW q1 dX0_copyFrom_66 ?_
  obtain ⟨q5, hcf⟩ := og hcf
  refine pf_X0_36 hx hb hts hown hE hW hS q2 ((up2 (up2 V4 a0 6 (V4 b1 6)) a0 7 ((up2 V4 a0 6 (V4 b1 6)) b1 7)) b1 8) q5 dX0_copyFrom_69 (fun H locs hW hS => ?_)
  obtain ⟨V6, hV6, hcf⟩ := ob hcf
  rw [Option.some.inj hV6] at hW
  refine lv_aload_n hx hb dX0_copyFrom_72 rfl (lv_at hl 0 rfl) ?_
  refine lv_aload_n hx hb dX0_copyFrom_73 rfl (lv_at hl 1 rfl) ?_
  refine gf_X0_40 hx hb hts hown hE hW q1 dX0_copyFrom_74 ?_
  obtain ⟨q7, hcf⟩ := og hcf
  refine pf_X0_40 hx hb hts hown hE hW hS q2 (V6 b1 9) q7 dX0_copyFrom_77 (fun H locs hW hS => ?_)
  refine lv_aload_n hx hb dX0_copyFrom_80 rfl (lv_at hl 0 rfl) ?_
  refine lv_aload_n hx hb dX0_copyFrom_81 rfl (lv_at hl 1 rfl) ?_
  refine gf_X0_43 hx hb hts hown hE hW q1 dX0_copyFrom_82 ?_
  refine pf_X0_43 hx hb hts hown hE hW hS q2 ((up2 V6 a0 9 (V6 b1 9)) b1 10) dX0_copyFrom_85 (fun H locs hW hS => ?_)
  refine lv_aload_n hx hb dX0_copyFrom_88 rfl (lv_at hl 0 rfl) ?_
  refine lv_aload_n hx hb dX0_copyFrom_89 rfl (lv_at hl 1 rfl) ?_
  refine gf_X0_46 hx hb hts hown hE hW q1 dX0_copyFrom_90 ?_
  obtain ⟨q8, hcf⟩ := og hcf
  refine pf_X0_46 hx hb hts hown hE hW hS q2 ((up2 (up2 V6 a0 9 (V6 b1 9)) a0 10 ((up2 V6 a0 9 (V6 b1 9)) b1 10)) b1 11) q8 dX0_copyFrom_93 (fun H locs hW hS => ?_)
  obtain ⟨V9, hV9, hcf⟩ := ob hcf
  rw [Option.some.inj hV9] at hW
  refine lv_aload_n hx hb dX0_copyFrom_96 rfl (lv_at hl 0 rfl) ?_
  refine lv_aload_n hx hb dX0_copyFrom_97 rfl (lv_at hl 1 rfl) ?_
  refine gf_X0_49 hx hb hts hown hE hW q1 dX0_copyFrom_98 ?_
  refine pf_X0_49 hx hb hts hown hE hW hS q2 (V9 b1 12) dX0_copyFrom_101 (fun H locs hW hS => ?_)
  refine lv_aload_n hx hb dX0_copyFrom_104 rfl (lv_at hl 0 rfl) ?_
  refine lv_aload_n hx hb dX0_copyFrom_105 rfl (lv_at hl 1 rfl) ?_
  refine gf_X0_52 hx hb hts hown hE hW q1 dX0_copyFrom_106 ?_
  refine pf_X0_52 hx hb hts hown hE hW hS q2 ((up2 V9 a0 12 (V9 b1 12)) b1 13) dX0_copyFrom_109 (fun H locs hW hS => ?_)
  have hcf := Option.some.inj hcf; subst hcf
  exact wk_vret hx hb hr hlocks hW hS dX0_copyFrom_112
set_option maxHeartbeats 4000000 in
set_option maxRecDepth 100000 in
theorem ct_X0_isMet (l : Launch) (D : va_G) (cy : Nat → ClassId) (z n : Nat) (Y : mY) (V : mV) (G : mG) (a0 : Nat) (x : Int32) (hcf : cf_X0_isMet Y V G a0 = some x) : CT l yX0_isMet cX0_isMet 1 (some .boolean) (rmd 0) D cy z [.ref a0] Y n V G (some (.int x)) Y n V G := by
  refine ct_of (by decide) (Nat.le_of_ble_eq_true rfl) ?_
  intro p e s m args below meth c ls hx hb hr hml hown hts hlocks hnm hE hW hl
  have hS : va_S (zA z) s.heap s.heap [] := va_S.rf
  have hl : lv_has ls 1 [(0, .ref a0)] := hl
  have hown : s.vm.findClass RX0 = some m.cls := hown
  rw [cf_X0_isMet] at hcf
  refine lv_aload_n hx hb dX0_isMet_0 rfl (lv_at hl 0 rfl) ?_
  obtain ⟨q1, hcf⟩ := og hcf
  refine gf_X0_9 hx hb hts hown hE hW q1 dX0_isMet_1 ?_
  refine lv_iconst (v := (2 : Int32)) hx hb dX0_isMet_4 (by decide) ?_
  refine lv_icmp_ne (tgt := 25) hx hb dX0_isMet_5 (by decide) (fun q2 => ?_) (fun q2 => ?_)
  · replace hcf := (if_neg q2).symm.trans hcf
    refine lv_aload_n hx hb dX0_isMet_25 rfl (lv_at hl 0 rfl) ?_
    refine gf_X0_24 hx hb hts hown hE hW q1 dX0_isMet_26 ?_
    refine lv_iconst (v := (1 : Int32)) hx hb dX0_isMet_29 (by decide) ?_
    refine lv_aload_n hx hb dX0_isMet_30 rfl (lv_at hl 0 rfl) ?_
    refine gf_X0_21 hx hb hts hown hE hW q1 dX0_isMet_31 ?_
    refine lv_ishl hx hb dX0_isMet_34 ?_
    refine lv_iconst (v := (1 : Int32)) hx hb dX0_isMet_35 (by decide) ?_
    refine lv_isub hx hb dX0_isMet_36 ?_
    refine lv_icmp_ne (tgt := 44) hx hb dX0_isMet_37 (by decide) (fun q3 => ?_) (fun q3 => ?_)
    · replace hcf := (if_neg q3).symm.trans hcf
      refine lv_iconst (v := (0 : Int32)) hx hb dX0_isMet_44 (by decide) ?_
      have hcf := Option.some.inj hcf; subst hcf
      exact wk_zret hx hb hr hlocks (Or.inl rfl) hW hS dX0_isMet_45
    · replace hcf := (if_pos q3).symm.trans hcf
      refine lv_iconst (v := (1 : Int32)) hx hb dX0_isMet_40 (by decide) ?_
      refine lv_goto (tgt := 45) hx hb dX0_isMet_41 (by decide) ?_
      have hcf := Option.some.inj hcf; subst hcf
      exact wk_zret hx hb hr hlocks (Or.inr rfl) hW hS dX0_isMet_45
  · replace hcf := (if_pos q2).symm.trans hcf
    refine lv_aload_n hx hb dX0_isMet_8 rfl (lv_at hl 0 rfl) ?_
    refine gf_X0_33 hx hb hts hown hE hW q1 dX0_isMet_9 ?_
    refine lv_aload_n hx hb dX0_isMet_12 rfl (lv_at hl 0 rfl) ?_
    refine gf_X0_18 hx hb hts hown hE hW q1 dX0_isMet_13 ?_
    refine lv_icmp_lt (tgt := 23) hx hb dX0_isMet_16 (by decide) (fun q4 => ?_) (fun q4 => ?_)
    · replace hcf := (if_pos q4).symm.trans hcf
      refine lv_iconst (v := (0 : Int32)) hx hb dX0_isMet_23 (by decide) ?_
      have hcf := Option.some.inj hcf; subst hcf
      exact wk_zret hx hb hr hlocks (Or.inl rfl) hW hS dX0_isMet_24
    · replace hcf := (if_neg q4).symm.trans hcf
      refine lv_iconst (v := (1 : Int32)) hx hb dX0_isMet_19 (by decide) ?_
      refine lv_goto (tgt := 24) hx hb dX0_isMet_20 (by decide) ?_
      have hcf := Option.some.inj hcf; subst hcf
      exact wk_zret hx hb hr hlocks (Or.inr rfl) hW hS dX0_isMet_24
set_option maxHeartbeats 4000000 in
set_option maxRecDepth 100000 in
theorem ct_X0_isPartsSet (l : Launch) (D : va_G) (cy : Nat → ClassId) (z n : Nat) (Y : mY) (V : mV) (G : mG) (a0 : Nat) (b1 : Int32) (x : Int32) (hcf : cf_X0_isPartsSet Y V G a0 b1 = some x) : CT l yX0_isPartsSet cX0_isPartsSet 2 (some .boolean) (rmd 0) D cy z [.ref a0, .int b1] Y n V G (some (.int x)) Y n V G := by
  refine ct_of (by decide) (Nat.le_of_ble_eq_true rfl) ?_
  intro p e s m args below meth c ls hx hb hr hml hown hts hlocks hnm hE hW hl
  have hS : va_S (zA z) s.heap s.heap [] := va_S.rf
  have hl : lv_has ls 2 [(0, .ref a0), (1, .int b1)] := hl
  have hown : s.vm.findClass RX0 = some m.cls := hown
  rw [cf_X0_isPartsSet] at hcf
  refine lv_iload_n hx hb dX0_isPartsSet_0 rfl (lv_at hl 1 rfl) ?_
  refine lv_if_lt (tgt := 18) hx hb dX0_isPartsSet_1 (by decide) (fun q1 => ?_) (fun q1 => ?_)
  · replace hcf := (if_pos q1).symm.trans hcf
    refine lv_iconst (v := (0 : Int32)) hx hb dX0_isPartsSet_18 (by decide) ?_
    have hcf := Option.some.inj hcf; subst hcf
    exact wk_zret hx hb hr hlocks (Or.inl rfl) hW hS dX0_isPartsSet_19
  · replace hcf := (if_neg q1).symm.trans hcf
    refine lv_iload_n hx hb dX0_isPartsSet_4 rfl (lv_at hl 1 rfl) ?_
    refine lv_iconst (v := (1 : Int32)) hx hb dX0_isPartsSet_5 (by decide) ?_
    refine lv_aload_n hx hb dX0_isPartsSet_6 rfl (lv_at hl 0 rfl) ?_
    obtain ⟨q2, hcf⟩ := og hcf
    refine gf_X0_21 hx hb hts hown hE hW q2 dX0_isPartsSet_7 ?_
    refine lv_ishl hx hb dX0_isPartsSet_10 ?_
    refine lv_icmp_ge (tgt := 18) hx hb dX0_isPartsSet_11 (by decide) (fun q3 => ?_) (fun q3 => ?_)
    · replace hcf := (if_pos q3).symm.trans hcf
      refine lv_iconst (v := (0 : Int32)) hx hb dX0_isPartsSet_18 (by decide) ?_
      have hcf := Option.some.inj hcf; subst hcf
      exact wk_zret hx hb hr hlocks (Or.inl rfl) hW hS dX0_isPartsSet_19
    · replace hcf := (if_neg q3).symm.trans hcf
      refine lv_iconst (v := (1 : Int32)) hx hb dX0_isPartsSet_14 (by decide) ?_
      refine lv_goto (tgt := 19) hx hb dX0_isPartsSet_15 (by decide) ?_
      have hcf := Option.some.inj hcf; subst hcf
      exact wk_zret hx hb hr hlocks (Or.inr rfl) hW hS dX0_isPartsSet_19
set_option maxHeartbeats 4000000 in
set_option maxRecDepth 100000 in
theorem ct_X0_approve (l : Launch) (D : va_G) (cy : Nat → ClassId) (z n : Nat) (Y : mY) (V : mV) (G : mG) (a0 : Nat) (b1 : Int32) (x : mV) (hcf : cf_X0_approve Y V G a0 b1 = some x) : CT l yX0_approve cX0_approve 2 none (rmd 1) D cy z [.ref a0, .int b1] Y n V G none Y n x G := by
  refine ct_of (by decide) (Nat.le_of_ble_eq_true rfl) ?_
  intro p e s m args below meth c ls hx hb hr hml hown hts hlocks hnm hE hW hl
  have hS : va_S (zA z) s.heap s.heap [] := va_S.rf
  have hl : lv_has ls 2 [(0, .ref a0), (1, .int b1)] := hl
  have hown : s.vm.findClass RX0 = some m.cls := hown
  rw [cf_X0_approve] at hcf
  refine lv_aload_n hx hb dX0_approve_0 rfl (lv_at hl 0 rfl) ?_
  refine lv_aload_n hx hb dX0_approve_1 rfl (lv_at hl 0 rfl) ?_
  obtain ⟨q1, hcf⟩ := og hcf
  refine gf_X0_24 hx hb hts hown hE hW q1 dX0_approve_2 ?_
  refine lv_iload_n hx hb dX0_approve_5 rfl (lv_at hl 1 rfl) ?_
  refine lv_ior hx hb dX0_approve_6 ?_
  refine pf_X0_24 hx hb hts hown hE hW hS q1 ((V a0 4) ||| b1) dX0_approve_7 (fun H locs hW hS => ?_)
  refine lv_aload_n hx hb dX0_approve_10 rfl (lv_at hl 0 rfl) ?_
  refine lv_iconst (v := (0 : Int32)) hx hb dX0_approve_11 (by decide) ?_
  refine pf_X0_27 hx hb hts hown hE hW hS q1 (0 : Int32) dX0_approve_12 (fun H locs hW hS => ?_)
  refine lv_aload_n hx hb dX0_approve_15 rfl (lv_at hl 0 rfl) ?_
  refine gf_X0_36 hx hb hts hown hE hW q1 dX0_approve_16 ?_
  refine lv_if_eq (tgt := 33) hx hb dX0_approve_19 (by decide) (fun q2 => ?_) (fun q2 => ?_)
  · replace hcf := (if_pos q2).symm.trans hcf
    have hcf := Option.some.inj hcf; subst hcf
    exact wk_vret hx hb hr hlocks hW hS dX0_approve_33
  · replace hcf := (if_neg q2).symm.trans hcf
    refine lv_aload_n hx hb dX0_approve_22 rfl (lv_at hl 0 rfl) ?_
    obtain ⟨x3, hx3, hcf⟩ := ob hcf
    refine iv_X0_58 (As := []) (rest := []) hx hb hml hown hts hE (ct_X0_isMet l D cy z n Y (up2 (up2 V a0 4 ((V a0 4) ||| b1)) a0 5 (0 : Int32)) G a0 x3 hx3) hW hS q1 rfl rfl hl.1 (Nat.le_of_ble_eq_true rfl) ⟨Nat.le_of_ble_eq_true rfl, Nat.le_of_ble_eq_true rfl⟩ dX0_approve_23 ⟨Nat.zero_le _, Nat.zero_le _⟩ (fun H locs hW hS => ?_)
    refine lv_if_eq (tgt := 33) hx hb dX0_approve_26 (by decide) (fun q4 => ?_) (fun q4 => ?_)
    · replace hcf := (if_pos q4).symm.trans hcf
      have hcf := Option.some.inj hcf; subst hcf
      exact wk_vret hx hb hr hlocks hW hS dX0_approve_33
    · replace hcf := (if_neg q4).symm.trans hcf
      refine lv_aload_n hx hb dX0_approve_29 rfl (lv_at hl 0 rfl) ?_
      obtain ⟨x5, hx5, hcf⟩ := ob hcf
      refine iv_X0_55 (As := []) (rest := []) hx hb hml hown hts hE (ct_X0_endBreach l D cy z n Y (up2 (up2 V a0 4 ((V a0 4) ||| b1)) a0 5 (0 : Int32)) G a0 x5 hx5) hW hS q1 rfl rfl hl.1 (Nat.le_of_ble_eq_true rfl) ⟨Nat.le_of_ble_eq_true rfl, Nat.le_of_ble_eq_true rfl⟩ dX0_approve_30 ⟨Nat.zero_le _, Nat.zero_le _⟩ (fun H locs hW hS => ?_)
      have hcf := Option.some.inj hcf; subst hcf
      exact wk_vret hx hb hr hlocks hW hS dX0_approve_33
set_option maxHeartbeats 4000000 in
set_option maxRecDepth 100000 in
theorem ct_X0_ageBreach (l : Launch) (D : va_G) (cy : Nat → ClassId) (z n : Nat) (Y : mY) (V : mV) (G : mG) (a0 : Nat) (b1 : Int32) (x : mV) (hcf : cf_X0_ageBreach Y V G a0 b1 = some x) : CT l yX0_ageBreach cX0_ageBreach 2 none (rmd 1) D cy z [.ref a0, .int b1] Y n V G none Y n x G := by
  refine ct_of (by decide) (Nat.le_of_ble_eq_true rfl) ?_
  intro p e s m args below meth c ls hx hb hr hml hown hts hlocks hnm hE hW hl
  have hS : va_S (zA z) s.heap s.heap [] := va_S.rf
  have hl : lv_has ls 2 [(0, .ref a0), (1, .int b1)] := hl
  have hown : s.vm.findClass RX0 = some m.cls := hown
  rw [cf_X0_ageBreach] at hcf
  refine lv_aload_n hx hb dX0_ageBreach_0 rfl (lv_at hl 0 rfl) ?_
  refine lv_dup hx hb dX0_ageBreach_1 rfl ?_
  obtain ⟨q1, hcf⟩ := og hcf
  refine gf_X0_43 hx hb hts hown hE hW q1 dX0_ageBreach_2 ?_
  refine lv_iconst (v := (1 : Int32)) hx hb dX0_ageBreach_5 (by decide) ?_
  refine lv_iadd hx hb dX0_ageBreach_6 ?_
  refine pf_X0_43 hx hb hts hown hE hW hS q1 ((V a0 10) + (1 : Int32)) dX0_ageBreach_7 (fun H locs hW hS => ?_)
  refine lv_aload_n hx hb dX0_ageBreach_10 rfl (lv_at hl 0 rfl) ?_
  refine gf_X0_46 hx hb hts hown hE hW q1 dX0_ageBreach_11 ?_
  refine lv_if_eq (tgt := 37) hx hb dX0_ageBreach_14 (by decide) (fun q2 => ?_) (fun q2 => ?_)
  · replace hcf := (if_pos q2).symm.trans hcf
    refine lv_aload_n hx hb dX0_ageBreach_37 rfl (lv_at hl 0 rfl) ?_
    refine gf_X0_46 hx hb hts hown hE hW q1 dX0_ageBreach_38 ?_
    refine lv_if_eq (tgt := 57) hx hb dX0_ageBreach_41 (by decide) (fun q3 => ?_) (fun q3 => ?_)
    · replace hcf := (if_pos q3).symm.trans hcf
      refine lv_aload_n hx hb dX0_ageBreach_57 rfl (lv_at hl 0 rfl) ?_
      refine gf_X0_43 hx hb hts hown hE hW q1 dX0_ageBreach_58 ?_
      refine lv_iload_n hx hb dX0_ageBreach_61 rfl (lv_at hl 1 rfl) ?_
      refine lv_icmp_lt (tgt := 74) hx hb dX0_ageBreach_62 (by decide) (fun q4 => ?_) (fun q4 => ?_)
      · replace hcf := (if_pos q4).symm.trans hcf
        have hcf := Option.some.inj hcf; subst hcf
        exact wk_vret hx hb hr hlocks hW hS dX0_ageBreach_74
      · replace hcf := (if_neg q4).symm.trans hcf
        refine lv_aload_n hx hb dX0_ageBreach_65 rfl (lv_at hl 0 rfl) ?_
        obtain ⟨x5, hx5, hcf⟩ := ob hcf
        refine iv_X0_55 (As := []) (rest := []) hx hb hml hown hts hE (ct_X0_endBreach l D cy z n Y (up2 V a0 10 ((V a0 10) + (1 : Int32))) G a0 x5 hx5) hW hS q1 rfl rfl hl.1 (Nat.le_of_ble_eq_true rfl) ⟨Nat.le_of_ble_eq_true rfl, Nat.le_of_ble_eq_true rfl⟩ dX0_ageBreach_66 ⟨Nat.zero_le _, Nat.zero_le _⟩ (fun H locs hW hS => ?_)
        refine lv_aload_n hx hb dX0_ageBreach_69 rfl (lv_at hl 0 rfl) ?_
        refine lv_iconst (v := (1 : Int32)) hx hb dX0_ageBreach_70 (by decide) ?_
        refine pf_X0_40 hx hb hts hown hE hW hS q1 (1 : Int32) (by decide) dX0_ageBreach_71 (fun H locs hW hS => ?_)
        have hcf := Option.some.inj hcf; subst hcf
        exact wk_vret hx hb hr hlocks hW hS dX0_ageBreach_74
    · replace hcf := (if_neg q3).symm.trans hcf
      refine lv_aload_n hx hb dX0_ageBreach_44 rfl (lv_at hl 0 rfl) ?_
      refine lv_dup hx hb dX0_ageBreach_45 rfl ?_
      refine gf_X0_52 hx hb hts hown hE hW q1 dX0_ageBreach_46 ?_
      refine lv_iconst (v := (1 : Int32)) hx hb dX0_ageBreach_49 (by decide) ?_
      refine lv_iadd hx hb dX0_ageBreach_50 ?_
      refine pf_X0_52 hx hb hts hown hE hW hS q1 (((up2 V a0 10 ((V a0 10) + (1 : Int32))) a0 13) + (1 : Int32)) dX0_ageBreach_51 (fun H locs hW hS => ?_)
      obtain ⟨V6, hV6, hcf⟩ := ob hcf
      rw [Option.some.inj hV6] at hW
      refine lv_goto (tgt := 74) hx hb dX0_ageBreach_54 (by decide) ?_
      have hcf := Option.some.inj hcf; subst hcf
      exact wk_vret hx hb hr hlocks hW hS dX0_ageBreach_74
  · replace hcf := (if_neg q2).symm.trans hcf
    refine lv_aload_n hx hb dX0_ageBreach_17 rfl (lv_at hl 0 rfl) ?_
    refine gf_X0_49 hx hb hts hown hE hW q1 dX0_ageBreach_18 ?_
    refine lv_if_le (tgt := 37) hx hb dX0_ageBreach_21 (by decide) (fun q7 => ?_) (fun q7 => ?_)
    · replace hcf := (if_pos q7).symm.trans hcf
      refine lv_aload_n hx hb dX0_ageBreach_37 rfl (lv_at hl 0 rfl) ?_
      refine gf_X0_46 hx hb hts hown hE hW q1 dX0_ageBreach_38 ?_
      refine lv_if_eq (tgt := 57) hx hb dX0_ageBreach_41 (by decide) (fun q8 => ?_) (fun q8 => ?_)
      · replace hcf := (if_pos q8).symm.trans hcf
        refine lv_aload_n hx hb dX0_ageBreach_57 rfl (lv_at hl 0 rfl) ?_
        refine gf_X0_43 hx hb hts hown hE hW q1 dX0_ageBreach_58 ?_
        refine lv_iload_n hx hb dX0_ageBreach_61 rfl (lv_at hl 1 rfl) ?_
        refine lv_icmp_lt (tgt := 74) hx hb dX0_ageBreach_62 (by decide) (fun q9 => ?_) (fun q9 => ?_)
        · replace hcf := (if_pos q9).symm.trans hcf
          have hcf := Option.some.inj hcf; subst hcf
          exact wk_vret hx hb hr hlocks hW hS dX0_ageBreach_74
        · replace hcf := (if_neg q9).symm.trans hcf
          refine lv_aload_n hx hb dX0_ageBreach_65 rfl (lv_at hl 0 rfl) ?_
          obtain ⟨x10, hx10, hcf⟩ := ob hcf
          refine iv_X0_55 (As := []) (rest := []) hx hb hml hown hts hE (ct_X0_endBreach l D cy z n Y (up2 V a0 10 ((V a0 10) + (1 : Int32))) G a0 x10 hx10) hW hS q1 rfl rfl hl.1 (Nat.le_of_ble_eq_true rfl) ⟨Nat.le_of_ble_eq_true rfl, Nat.le_of_ble_eq_true rfl⟩ dX0_ageBreach_66 ⟨Nat.zero_le _, Nat.zero_le _⟩ (fun H locs hW hS => ?_)
          refine lv_aload_n hx hb dX0_ageBreach_69 rfl (lv_at hl 0 rfl) ?_
          refine lv_iconst (v := (1 : Int32)) hx hb dX0_ageBreach_70 (by decide) ?_
          refine pf_X0_40 hx hb hts hown hE hW hS q1 (1 : Int32) (by decide) dX0_ageBreach_71 (fun H locs hW hS => ?_)
          have hcf := Option.some.inj hcf; subst hcf
          exact wk_vret hx hb hr hlocks hW hS dX0_ageBreach_74
      · replace hcf := (if_neg q8).symm.trans hcf
        refine lv_aload_n hx hb dX0_ageBreach_44 rfl (lv_at hl 0 rfl) ?_
        refine lv_dup hx hb dX0_ageBreach_45 rfl ?_
        refine gf_X0_52 hx hb hts hown hE hW q1 dX0_ageBreach_46 ?_
        refine lv_iconst (v := (1 : Int32)) hx hb dX0_ageBreach_49 (by decide) ?_
        refine lv_iadd hx hb dX0_ageBreach_50 ?_
        refine pf_X0_52 hx hb hts hown hE hW hS q1 (((up2 V a0 10 ((V a0 10) + (1 : Int32))) a0 13) + (1 : Int32)) dX0_ageBreach_51 (fun H locs hW hS => ?_)
        obtain ⟨V11, hV11, hcf⟩ := ob hcf
        rw [Option.some.inj hV11] at hW
        refine lv_goto (tgt := 74) hx hb dX0_ageBreach_54 (by decide) ?_
        have hcf := Option.some.inj hcf; subst hcf
        exact wk_vret hx hb hr hlocks hW hS dX0_ageBreach_74
    · replace hcf := (if_neg q7).symm.trans hcf
      refine lv_aload_n hx hb dX0_ageBreach_24 rfl (lv_at hl 0 rfl) ?_
      refine lv_dup hx hb dX0_ageBreach_25 rfl ?_
      refine gf_X0_49 hx hb hts hown hE hW q1 dX0_ageBreach_26 ?_
      refine lv_iconst (v := (1 : Int32)) hx hb dX0_ageBreach_29 (by decide) ?_
      refine lv_isub hx hb dX0_ageBreach_30 ?_
      refine pf_X0_49 hx hb hts hown hE hW hS q1 (((up2 V a0 10 ((V a0 10) + (1 : Int32))) a0 12) - (1 : Int32)) dX0_ageBreach_31 (fun H locs hW hS => ?_)
      obtain ⟨V12, hV12, hcf⟩ := ob hcf
      rw [Option.some.inj hV12] at hW
      refine lv_goto (tgt := 74) hx hb dX0_ageBreach_34 (by decide) ?_
      have hcf := Option.some.inj hcf; subst hcf
      exact wk_vret hx hb hr hlocks hW hS dX0_ageBreach_74
