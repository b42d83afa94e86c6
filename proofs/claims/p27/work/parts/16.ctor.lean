def cf_X0_init (n : Nat) (Y : mY) (V : mV) (G : mG) (a0 : Nat) : Option (Nat × mY × mV × mG) := if Y.1 a0 = 0 then (some (up2 (up2 (up2 (up2 (up2 V a0 0 (0 : Int32)) a0 1 (0 : Int32)) a0 2 (0 : Int32)) a0 3 (1 : Int32)) a0 4 (0 : Int32))).bind (fun V2 => (some (up2 (up2 (up2 (up2 (up2 V2 a0 5 (0 : Int32)) a0 6 (0 : Int32)) a0 7 (0 : Int32)) a0 8 (0 : Int32)) a0 9 (0 : Int32))).bind (fun V3 => if 0 ≤ 0 then some (n, Y, (up2 (up2 (up2 (up2 V3 a0 10 (0 : Int32)) a0 11 (0 : Int32)) a0 12 (0 : Int32)) a0 13 (0 : Int32)), G) else none)) else none
def cf_X1_init (n : Nat) (Y : mY) (V : mV) (G : mG) (a0 : Nat) : Option (Nat × mY × mV × mG) := if 0 + 1 ≤ 2 then if ¬ (80 : Int32) < 0 then if Y.2 n = (80 : Int32).toNatClampNeg then if (80 : Int32).toNatClampNeg ≤ 600 then if (va_up Y.1 n 5, Y.2).1 a0 = 1 then if (0 + 1) + 1 ≤ 2 then if ¬ (4 : Int32) < 0 then if (va_up Y.1 n 5, Y.2).2 (n + 1) = (4 : Int32).toNatClampNeg then if (4 : Int32).toNatClampNeg ≤ 600 then if (va_up (va_up Y.1 n 5, Y.2).1 (n + 1) 6, (va_up Y.1 n 5, Y.2).2).1 a0 = 1 then (some (up2 (up2 (up2 (va_up (va_up V n (fun _ => 0)) (n + 1) (fun _ => 0)) a0 2 (0 : Int32)) a0 3 (0 : Int32)) a0 4 (0 : Int32))).bind (fun V11 => if ((0 + 1) + 1) ≤ 2 then some (((n + 1) + 1), (va_up (va_up Y.1 n 5, Y.2).1 (n + 1) 6, (va_up Y.1 n 5, Y.2).2), (up2 (up2 V11 a0 5 (0 : Int32)) a0 6 (0 : Int32)), (up2 (up2 G a0 0 (some n)) a0 1 (some (n + 1)))) else none) else none else none else none else none else none else none else none else none else none else none
def lp_X2_init_88  : Nat → Nat → Nat → mY → mV → mG → Nat → Int32 → Option (Nat × mY × mV × mG)
  | 0, _, _, _, _, _, _, _ => none
  | k + 1, u, n, Y, V, G, j0, j1 => if (5 : Int32) ≤ j1 then (if u ≤ 13 then some (n, Y, V, G) else none) else (if Y.1 j0 = 2 then (G j0 1).bind (fun r22 => if Y.1 r22 = 6 then if ¬ (j1 < 0 ∨ Y.2 r22 ≤ j1.toNatClampNeg) then (G j0 2).bind (fun r25 => if Y.1 r25 = 6 then if ¬ (j1 < 0 ∨ Y.2 r25 ≤ j1.toNatClampNeg) then lp_X2_init_88 k u n Y (up2 (up2 V r22 j1.toNatClampNeg (-1 : Int32)) r25 j1.toNatClampNeg (-1 : Int32)) G j0 (j1 + 1) else none else none) else none else none) else none)
def lp_X2_init_61  : Nat → Nat → Nat → mY → mV → mG → Nat → Int32 → Option (Nat × mY × mV × mG)
  | 0, _, _, _, _, _, _, _ => none
  | k + 1, u, n, Y, V, G, j0, j1 => if (10 : Int32) ≤ j1 then (lp_X2_init_88 fuB u n Y V G j0 (0 : Int32)) else (if Y.1 j0 = 2 then (G j0 0).bind (fun r29 => if u + 1 ≤ 13 then if (u + 1) + 0 ≤ 13 then (cf_X0_init (n + 1) (va_up Y.1 n 0, Y.2) (va_up V n (fun _ => 0)) (va_up G n (fun _ => none)) n).bind (fun x32 => if (x32.2.1.1 r29 = 7 ∧ x32.2.1.1 n = 0) ∨ (x32.2.1.1 r29 = 8 ∧ x32.2.1.1 n = 2) then if ¬ (j1 < 0 ∨ x32.2.1.2 r29 ≤ j1.toNatClampNeg) then lp_X2_init_61 k ((u + 1) + 0) x32.1 x32.2.1 x32.2.2.1 (up2 x32.2.2.2 r29 j1.toNatClampNeg (some n)) j0 (j1 + 1) else none else none) else none else none) else none)
def cf_X2_init (n : Nat) (Y : mY) (V : mV) (G : mG) (a0 : Nat) : Option (Nat × mY × mV × mG) := if 0 + 1 ≤ 13 then if ¬ (10 : Int32) < 0 then if Y.2 n = (10 : Int32).toNatClampNeg then if (10 : Int32).toNatClampNeg ≤ 600 then if (va_up Y.1 n 7, Y.2).1 a0 = 2 then if (0 + 1) + 1 ≤ 13 then if ¬ (5 : Int32) < 0 then if (va_up Y.1 n 7, Y.2).2 (n + 1) = (5 : Int32).toNatClampNeg then if (5 : Int32).toNatClampNeg ≤ 600 then if (va_up (va_up Y.1 n 7, Y.2).1 (n + 1) 6, (va_up Y.1 n 7, Y.2).2).1 a0 = 2 then if ((0 + 1) + 1) + 1 ≤ 13 then if ¬ (5 : Int32) < 0 then if (va_up (va_up Y.1 n 7, Y.2).1 (n + 1) 6, (va_up Y.1 n 7, Y.2).2).2 ((n + 1) + 1) = (5 : Int32).toNatClampNeg then if (5 : Int32).toNatClampNeg ≤ 600 then if (va_up (va_up (va_up Y.1 n 7, Y.2).1 (n + 1) 6, (va_up Y.1 n 7, Y.2).2).1 ((n + 1) + 1) 6, (va_up (va_up Y.1 n 7, Y.2).1 (n + 1) 6, (va_up Y.1 n 7, Y.2).2).2).1 a0 = 2 then (some (up2 (up2 (up2 (va_up G n (fun _ => none)) a0 0 (some n)) a0 1 (some (n + 1))) a0 2 (some ((n + 1) + 1)))).bind (fun G16 => (some (up2 (up2 (va_up (va_up V (n + 1) (fun _ => 0)) ((n + 1) + 1) (fun _ => 0)) a0 3 (0 : Int32)) a0 4 (0 : Int32))).bind (fun V17 => lp_X2_init_61 fuB (((0 + 1) + 1) + 1) (((n + 1) + 1) + 1) (va_up (va_up (va_up Y.1 n 7, Y.2).1 (n + 1) 6, (va_up Y.1 n 7, Y.2).2).1 ((n + 1) + 1) 6, (va_up (va_up Y.1 n 7, Y.2).1 (n + 1) 6, (va_up Y.1 n 7, Y.2).2).2) (up2 (up2 (up2 (up2 V17 a0 5 (0 : Int32)) a0 6 (0 : Int32)) a0 7 (56 : Int32)) a0 8 (100 : Int32)) G16 a0 (0 : Int32))) else none else none else none else none else none else none else none else none else none else none else none else none else none else none else none
def lp_X3_init_63  : Nat → Nat → Nat → mY → mV → mG → Nat → Int32 → Option (Nat × mY × mV × mG)
  | 0, _, _, _, _, _, _, _ => none
  | k + 1, u, n, Y, V, G, j0, j1 => if (4 : Int32) ≤ j1 then (if u ≤ 102 then some (n, Y, V, G) else none) else (if Y.1 j0 = 3 then (G j0 2).bind (fun r26 => if u + 1 ≤ 102 then if (u + 1) + 13 ≤ 102 then (cf_X2_init (n + 1) (va_up Y.1 n 2, Y.2) (va_up V n (fun _ => 0)) (va_up G n (fun _ => none)) n).bind (fun x29 => if (x29.2.1.1 r26 = 7 ∧ x29.2.1.1 n = 0) ∨ (x29.2.1.1 r26 = 8 ∧ x29.2.1.1 n = 2) then if ¬ (j1 < 0 ∨ x29.2.1.2 r26 ≤ j1.toNatClampNeg) then lp_X3_init_63 k ((u + 1) + 13) x29.1 x29.2.1 x29.2.2.1 (up2 x29.2.2.2 r26 j1.toNatClampNeg (some n)) j0 (j1 + 1) else none else none) else none else none) else none)
def cf_X3_init (n : Nat) (Y : mY) (V : mV) (G : mG) (a0 : Nat) : Option (Nat × mY × mV × mG) := if 0 + 1 ≤ 102 then if (0 + 1) + 13 ≤ 102 then (cf_X2_init (n + 1) (va_up Y.1 n 2, Y.2) (va_up V n (fun _ => 0)) (va_up G n (fun _ => none)) n).bind (fun x3 => if x3.2.1.1 a0 = 3 then if ((0 + 1) + 13) + 1 ≤ 102 then if (((0 + 1) + 13) + 1) + 13 ≤ 102 then (cf_X2_init (x3.1 + 1) (va_up x3.2.1.1 x3.1 2, x3.2.1.2) (va_up x3.2.2.1 x3.1 (fun _ => 0)) (va_up (up2 x3.2.2.2 a0 0 (some n)) x3.1 (fun _ => none)) x3.1).bind (fun x7 => if x7.2.1.1 a0 = 3 then if ((((0 + 1) + 13) + 1) + 13) + 1 ≤ 102 then if ¬ (4 : Int32) < 0 then if x7.2.1.2 x7.1 = (4 : Int32).toNatClampNeg then if (4 : Int32).toNatClampNeg ≤ 600 then if (va_up x7.2.1.1 x7.1 8, x7.2.1.2).1 a0 = 3 then if (((((0 + 1) + 13) + 1) + 13) + 1) + 1 ≤ 102 then (some (va_up (up2 (va_up (up2 x7.2.2.2 a0 1 (some x3.1)) x7.1 (fun _ => none)) a0 2 (some x7.1)) (x7.1 + 1) (fun _ => none))).bind (fun G15 => if ((((((0 + 1) + 13) + 1) + 13) + 1) + 1) + 2 ≤ 102 then (cf_X1_init ((x7.1 + 1) + 1) (va_up (va_up x7.2.1.1 x7.1 8, x7.2.1.2).1 (x7.1 + 1) 1, (va_up x7.2.1.1 x7.1 8, x7.2.1.2).2) (va_up x7.2.2.1 (x7.1 + 1) (fun _ => 0)) G15 (x7.1 + 1)).bind (fun x17 => if x17.2.1.1 a0 = 3 then if (((((((0 + 1) + 13) + 1) + 13) + 1) + 1) + 2) + 1 ≤ 102 then if ((((((((0 + 1) + 13) + 1) + 13) + 1) + 1) + 2) + 1) + 13 ≤ 102 then (cf_X2_init (x17.1 + 1) (va_up x17.2.1.1 x17.1 2, x17.2.1.2) (va_up x17.2.2.1 x17.1 (fun _ => 0)) (va_up (up2 x17.2.2.2 a0 3 (some (x7.1 + 1))) x17.1 (fun _ => none)) x17.1).bind (fun x21 => if x21.2.1.1 a0 = 3 then lp_X3_init_63 fuB (((((((((0 + 1) + 13) + 1) + 13) + 1) + 1) + 2) + 1) + 13) x21.1 x21.2.1 (up2 x21.2.2.1 a0 5 (0 : Int32)) (up2 x21.2.2.2 a0 4 (some x17.1)) a0 (0 : Int32) else none) else none else none else none) else none) else none else none else none else none else none else none else none) else none else none else none) else none else none
set_option maxHeartbeats 4000000 in
set_option maxRecDepth 100000 in
theorem ct_X0_init (l : Launch) (D : va_G) (cy : Nat → ClassId) (z n : Nat) (Y : mY) (V : mV) (G : mG) (a0 : Nat) (x : Nat × mY × mV × mG) (hcf : cf_X0_init n Y V G a0 = some x) (hzn : z ≤ n) : CT l yX0_init cX0_init 1 none ({ frames := 1, cells := 0, slots := 0, locals := 40 } : Room) D cy z [.ref a0] Y n V G none x.2.1 x.1 x.2.2.1 x.2.2.2 := by
  refine ct_of (by decide) (Nat.le_of_ble_eq_true rfl) ?_
  intro p e s m args below meth c ls hx hb hr hml hown hts hlocks hnm hE hW hl
  have hS : va_S (zA z) s.heap s.heap [] := va_S.rf
  have hl : lv_has ls 1 [(0, .ref a0)] := hl
  have hown : s.vm.findClass RX0 = some m.cls := hown
  have hnm : meth.name = "<init>" := hnm
  have hz : z ≤ s.heap.size := by rw [hW.1]; exact hzn
  rw [cf_X0_init] at hcf
  refine lv_aload_n hx hb dX0_init_0 rfl (lv_at hl 0 rfl) ?_
  refine wk_obj hx hb hts hown hml q64 q50 q51 hl.1 dX0_init_1 ⟨by decide, by decide⟩ ?_
  refine lv_aload_n hx hb dX0_init_4 rfl (lv_at hl 0 rfl) ?_
  refine lv_iconst (v := (0 : Int32)) hx hb dX0_init_5 (by decide) ?_
  obtain ⟨q1, hcf⟩ := og hcf
  refine pf_X0_9 hx hb hts hown hE hW hS q1 (0 : Int32) dX0_init_6 (fun H locs hW hS => ?_)
  refine lv_aload_n hx hb dX0_init_9 rfl (lv_at hl 0 rfl) ?_
  refine lv_iconst (v := (0 : Int32)) hx hb dX0_init_10 (by decide) ?_
  refine pf_X0_15 hx hb hts hown hE hW hS q1 (0 : Int32) dX0_init_11 (fun H locs hW hS => ?_)
  refine lv_aload_n hx hb dX0_init_14 rfl (lv_at hl 0 rfl) ?_
  refine lv_iconst (v := (0 : Int32)) hx hb dX0_init_15 (by decide) ?_
  refine pf_X0_18 hx hb hts hown hE hW hS q1 (0 : Int32) dX0_init_16 (fun H locs hW hS => ?_)
  refine lv_aload_n hx hb dX0_init_19 rfl (lv_at hl 0 rfl) ?_
  refine lv_iconst (v := (1 : Int32)) hx hb dX0_init_20 (by decide) ?_
  refine pf_X0_21 hx hb hts hown hE hW hS q1 (1 : Int32) dX0_init_21 (fun H locs hW hS => ?_)
  refine lv_aload_n hx hb dX0_init_24 rfl (lv_at hl 0 rfl) ?_
  refine lv_iconst (v := (0 : Int32)) hx hb dX0_init_25 (by decide) ?_
  refine pf_X0_24 hx hb hts hown hE hW hS q1 (0 : Int32) dX0_init_26 (fun H locs hW hS => ?_)
  obtain ⟨V2, hV2, hcf⟩ := ob hcf
  rw [Option.some.inj hV2] at hW
  refine lv_aload_n hx hb dX0_init_29 rfl (lv_at hl 0 rfl) ?_
  refine lv_iconst (v := (0 : Int32)) hx hb dX0_init_30 (by decide) ?_
  refine pf_X0_27 hx hb hts hown hE hW hS q1 (0 : Int32) dX0_init_31 (fun H locs hW hS => ?_)
  refine lv_aload_n hx hb dX0_init_34 rfl (lv_at hl 0 rfl) ?_
  refine lv_iconst (v := (0 : Int32)) hx hb dX0_init_35 (by decide) ?_
  refine pf_X0_30 hx hb hts hown hE hW hS q1 (0 : Int32) dX0_init_36 (fun H locs hW hS => ?_)
  refine lv_aload_n hx hb dX0_init_39 rfl (lv_at hl 0 rfl) ?_
  refine lv_iconst (v := (0 : Int32)) hx hb dX0_init_40 (by decide) ?_
  refine pf_X0_33 hx hb hts hown hE hW hS q1 (0 : Int32) dX0_init_41 (fun H locs hW hS => ?_)
  refine lv_aload_n hx hb dX0_init_44 rfl (lv_at hl 0 rfl) ?_
  refine lv_iconst (v := (0 : Int32)) hx hb dX0_init_45 (by decide) ?_
  refine pf_X0_36 hx hb hts hown hE hW hS q1 (0 : Int32) (by decide) dX0_init_46 (fun H locs hW hS => ?_)
  refine lv_aload_n hx hb dX0_init_49 rfl (lv_at hl 0 rfl) ?_
  refine lv_iconst (v := (0 : Int32)) hx hb dX0_init_50 (by decide) ?_
  refine pf_X0_40 hx hb hts hown hE hW hS q1 (0 : Int32) (by decide) dX0_init_51 (fun H locs hW hS => ?_)
  obtain ⟨V3, hV3, hcf⟩ := ob hcf
  rw [Option.some.inj hV3] at hW
  refine lv_aload_n hx hb dX0_init_54 rfl (lv_at hl 0 rfl) ?_
  refine lv_iconst (v := (0 : Int32)) hx hb dX0_init_55 (by decide) ?_
  refine pf_X0_43 hx hb hts hown hE hW hS q1 (0 : Int32) dX0_init_56 (fun H locs hW hS => ?_)
  refine lv_aload_n hx hb dX0_init_59 rfl (lv_at hl 0 rfl) ?_
  refine lv_iconst (v := (0 : Int32)) hx hb dX0_init_60 (by decide) ?_
  refine pf_X0_46 hx hb hts hown hE hW hS q1 (0 : Int32) (by decide) dX0_init_61 (fun H locs hW hS => ?_)
  refine lv_aload_n hx hb dX0_init_64 rfl (lv_at hl 0 rfl) ?_
  refine lv_iconst (v := (0 : Int32)) hx hb dX0_init_65 (by decide) ?_
  refine pf_X0_49 hx hb hts hown hE hW hS q1 (0 : Int32) dX0_init_66 (fun H locs hW hS => ?_)
  refine lv_aload_n hx hb dX0_init_69 rfl (lv_at hl 0 rfl) ?_
  refine lv_iconst (v := (0 : Int32)) hx hb dX0_init_70 (by decide) ?_
  refine pf_X0_52 hx hb hts hown hE hW hS q1 (0 : Int32) dX0_init_71 (fun H locs hW hS => ?_)
  obtain ⟨q4, hcf⟩ := og hcf
  have hcf := Option.some.inj hcf; subst hcf
  refine W.widen (k := 0) (n := 0) (by omega) (by omega) ?_
  exact wk_vret hx hb hr hlocks hW hS dX0_init_74
set_option maxHeartbeats 4000000 in
set_option maxRecDepth 100000 in
theorem ct_X1_init (l : Launch) (D : va_G) (cy : Nat → ClassId) (z n : Nat) (Y : mY) (V : mV) (G : mG) (a0 : Nat) (x : Nat × mY × mV × mG) (hcf : cf_X1_init n Y V G a0 = some x) (hzn : z ≤ n) : CT l yX1_init cX1_init 1 none ({ frames := 1, cells := 2, slots := 1200, locals := 40 } : Room) D cy z [.ref a0] Y n V G none x.2.1 x.1 x.2.2.1 x.2.2.2 := by
  refine ct_of (by decide) (Nat.le_of_ble_eq_true rfl) ?_
  intro p e s m args below meth c ls hx hb hr hml hown hts hlocks hnm hE hW hl
  have hS : va_S (zA z) s.heap s.heap [] := va_S.rf
  have hl : lv_has ls 1 [(0, .ref a0)] := hl
  have hown : s.vm.findClass RX1 = some m.cls := hown
  have hnm : meth.name = "<init>" := hnm
  have hz : z ≤ s.heap.size := by rw [hW.1]; exact hzn
  rw [cf_X1_init] at hcf
  refine lv_aload_n hx hb dX1_init_0 rfl (lv_at hl 0 rfl) ?_
  refine wk_obj hx hb hts hown hml q178 q50 q51 hl.1 dX1_init_1 ⟨by decide, by decide⟩ ?_
  refine lv_aload_n hx hb dX1_init_4 rfl (lv_at hl 0 rfl) ?_
  refine lv_bipush (v := (80 : Int32)) hx hb dX1_init_5 (by decide) ?_
  obtain ⟨q1, hcf⟩ := og hcf
  obtain ⟨q2, hcf⟩ := og hcf
  obtain ⟨q3, hcf⟩ := og hcf
  obtain ⟨q4, hcf⟩ := og hcf
  refine wk_newI hx hb hts hE hW hz hS (atype := .char) (ci := 5) (Or.inl ⟨rfl, rfl⟩) q202 (i := (80 : Int32)) q2 rfl q3 (by omega) dX1_init_7 (by show 0 + 1 ≤ 2; omega) (by show 600 * 0 + _ ≤ 1200; omega) (fun H hW hS => ?_)
  refine W.widen (k := 0 + 1) (n := 600 * (0 + 1)) (Nat.le_refl _) (by omega) ?_
  obtain ⟨q5, hcf⟩ := og hcf
  refine pf_X1_9 hx hb hts hown hE hW hS q5 n hnm dX1_init_9 (fun H locs hW hS => ?_)
  refine lv_aload_n hx hb dX1_init_12 rfl (lv_at hl 0 rfl) ?_
  refine lv_iconst (v := (4 : Int32)) hx hb dX1_init_13 (by decide) ?_
  obtain ⟨q6, hcf⟩ := og hcf
  obtain ⟨q7, hcf⟩ := og hcf
  obtain ⟨q8, hcf⟩ := og hcf
  obtain ⟨q9, hcf⟩ := og hcf
  refine wk_newI hx hb hts hE hW hz hS (atype := .int) (ci := 6) (Or.inr ⟨rfl, rfl⟩) q134 (i := (4 : Int32)) q7 rfl q8 (by omega) dX1_init_14 (by show (0 + 1) + 1 ≤ 2; omega) (by show 600 * (0 + 1) + _ ≤ 1200; omega) (fun H hW hS => ?_)
  refine W.widen (k := (0 + 1) + 1) (n := 600 * ((0 + 1) + 1)) (Nat.le_refl _) (by omega) ?_
  obtain ⟨q10, hcf⟩ := og hcf
  refine pf_X1_15 hx hb hts hown hE hW hS q10 (n + 1) hnm dX1_init_16 (fun H locs hW hS => ?_)
  refine lv_aload_n hx hb dX1_init_19 rfl (lv_at hl 0 rfl) ?_
  refine lv_iconst (v := (0 : Int32)) hx hb dX1_init_20 (by decide) ?_
  refine pf_X1_19 hx hb hts hown hE hW hS q10 (0 : Int32) dX1_init_21 (fun H locs hW hS => ?_)
  refine lv_aload_n hx hb dX1_init_24 rfl (lv_at hl 0 rfl) ?_
  refine lv_iconst (v := (0 : Int32)) hx hb dX1_init_25 (by decide) ?_
  refine pf_X1_23 hx hb hts hown hE hW hS q10 (0 : Int32) dX1_init_26 (fun H locs hW hS => ?_)
  refine lv_aload_n hx hb dX1_init_29 rfl (lv_at hl 0 rfl) ?_
  refine lv_iconst (v := (0 : Int32)) hx hb dX1_init_30 (by decide) ?_
  refine pf_X1_26 hx hb hts hown hE hW hS q10 (0 : Int32) dX1_init_31 (fun H locs hW hS => ?_)
  obtain ⟨V11, hV11, hcf⟩ := ob hcf
  rw [Option.some.inj hV11] at hW
  refine lv_aload_n hx hb dX1_init_34 rfl (lv_at hl 0 rfl) ?_
  refine lv_iconst (v := (0 : Int32)) hx hb dX1_init_35 (by decide) ?_
  refine pf_X1_29 hx hb hts hown hE hW hS q10 (0 : Int32) dX1_init_36 (fun H locs hW hS => ?_)
  refine lv_aload_n hx hb dX1_init_39 rfl (lv_at hl 0 rfl) ?_
  refine lv_iconst (v := (0 : Int32)) hx hb dX1_init_40 (by decide) ?_
  refine pf_X1_32 hx hb hts hown hE hW hS q10 (0 : Int32) dX1_init_41 (fun H locs hW hS => ?_)
  obtain ⟨q12, hcf⟩ := og hcf
  have hcf := Option.some.inj hcf; subst hcf
  refine W.widen (k := 2) (n := 1200) (by omega) (by omega) ?_
  exact wk_vret hx hb hr hlocks hW hS dX1_init_44
set_option maxHeartbeats 4000000 in
set_option maxRecDepth 100000 in
theorem wl_X2_init_88 {p : Program} {l : Launch} {e : Env} {s : State} {m : MethodId} {args : Array Value} {below : List Frame} {meth : Method} {c : Code} {D : va_G} {cy : Nat → ClassId} {z : Nat}  (hx : p.tables.exec = Jvm.exec) (hb : c.code = cX2_init) (hr : meth.sig.returnType = none) (hml : c.maxLocals = 2) (hown : s.vm.findClass RX2 = some m.cls) (hts : ∀ w ∈ lw_all, w.before args s = true) (hlocks : meth.locks = false) (hE : En D cy s) (hnm : meth.name = "<init>") (hz : z ≤ s.heap.size) (x : Nat × mY × mV × mG) : ∀ (k : Nat) (u : Nat) (n : Nat) (Y : mY) (V : mV) (G : mG) (j0 : Nat) (j1 : Int32) (H : Heap) (locs : List Loc) (ls : Array Slot), lp_X2_init_88 k u n Y V G j0 j1 = some x → Wd Y cy D z n V G H → va_S (zA z) s.heap H locs → lv_has ls 2 [(0, .ref j0), (1, .int j1)] → W p l e ({ frames := 2, cells := 13, slots := 7800, locals := 80 } : Room) s m args below meth c H locs u (600 * u) (MQ below (QC D cy z x.2.1 x.1 x.2.2.1 x.2.2.2 none) args s 13 7800 (zA z)) (F0 m 88 ls []) := by
  intro k
  induction k with
  | zero =>
    intro u n Y V G j0 j1 H locs ls hcf
    have hcf : none = some _ := hcf
    cases hcf
  | succ k ih =>
    intro u n Y V G j0 j1 H locs ls hcf hW hS hl
    rw [lp_X2_init_88] at hcf
    refine lv_iload_n hx hb dX2_init_88 rfl (lv_at hl 1 rfl) ?_
    refine lv_iconst (v := (5 : Int32)) hx hb dX2_init_89 (by decide) ?_
    refine lv_icmp_ge (tgt := 113) hx hb dX2_init_90 (by decide) (fun q19 => ?_) (fun q19 => ?_)
    · replace hcf := (if_pos q19).symm.trans hcf
      obtain ⟨q20, hcf⟩ := og hcf
      have hcf := Option.some.inj hcf; subst hcf
      refine W.widen (k := 13) (n := 7800) (by omega) (by omega) ?_
      exact wk_vret hx hb hr hlocks hW hS dX2_init_113
    · replace hcf := (if_neg q19).symm.trans hcf
      refine lv_aload_n hx hb dX2_init_93 rfl (lv_at hl 0 rfl) ?_
      obtain ⟨q21, hcf⟩ := og hcf
      obtain ⟨r22, hr22, hcf⟩ := ob hcf
      refine gf_X2_17 hx hb hts hown hE hW q21 hr22 dX2_init_94 ?_
      refine lv_iload_n hx hb dX2_init_97 rfl (lv_at hl 1 rfl) ?_
      refine lv_iconst (v := (-1 : Int32)) hx hb dX2_init_98 (by decide) ?_
      obtain ⟨q23, hcf⟩ := og hcf
      obtain ⟨q24, hcf⟩ := og hcf
      refine wk_iast hx hb hE hW hS q23 q24 dX2_init_99 (fun H locs hW hS => ?_)
      refine lv_aload_n hx hb dX2_init_100 rfl (lv_at hl 0 rfl) ?_
      obtain ⟨r25, hr25, hcf⟩ := ob hcf
      refine gf_X2_21 hx hb hts hown hE hW q21 hr25 dX2_init_101 ?_
      refine lv_iload_n hx hb dX2_init_104 rfl (lv_at hl 1 rfl) ?_
      refine lv_iconst (v := (-1 : Int32)) hx hb dX2_init_105 (by decide) ?_
      obtain ⟨q26, hcf⟩ := og hcf
      obtain ⟨q27, hcf⟩ := og hcf
      refine wk_iast hx hb hE hW hS q26 q27 dX2_init_106 (fun H locs hW hS => ?_)
      refine lv_iinc (v := (j1 + 1)) (lv' := [(1, .int (j1 + 1)), (0, .ref j0)]) hx hb dX2_init_107 hl (k := 1) rfl rfl (by decide) rfl (fun ls hl => ?_)
      refine lv_goto (tgt := 88) hx hb dX2_init_110 (by decide) ?_
      exact ih u n Y (up2 (up2 V r22 j1.toNatClampNeg (-1 : Int32)) r25 j1.toNatClampNeg (-1 : Int32)) G j0 (j1 + 1) _ _ _ hcf hW hS (lv_sub hl [1, 0] rfl)
set_option maxHeartbeats 4000000 in
set_option maxRecDepth 100000 in
theorem wl_X2_init_61 {p : Program} {l : Launch} {e : Env} {s : State} {m : MethodId} {args : Array Value} {below : List Frame} {meth : Method} {c : Code} {D : va_G} {cy : Nat → ClassId} {z : Nat}  (hx : p.tables.exec = Jvm.exec) (hb : c.code = cX2_init) (hr : meth.sig.returnType = none) (hml : c.maxLocals = 2) (hown : s.vm.findClass RX2 = some m.cls) (hts : ∀ w ∈ lw_all, w.before args s = true) (hlocks : meth.locks = false) (hE : En D cy s) (hnm : meth.name = "<init>") (hz : z ≤ s.heap.size) (x : Nat × mY × mV × mG) : ∀ (k : Nat) (u : Nat) (n : Nat) (Y : mY) (V : mV) (G : mG) (j0 : Nat) (j1 : Int32) (H : Heap) (locs : List Loc) (ls : Array Slot), lp_X2_init_61 k u n Y V G j0 j1 = some x → Wd Y cy D z n V G H → va_S (zA z) s.heap H locs → lv_has ls 2 [(0, .ref j0), (1, .int j1)] → W p l e ({ frames := 2, cells := 13, slots := 7800, locals := 80 } : Room) s m args below meth c H locs u (600 * u) (MQ below (QC D cy z x.2.1 x.1 x.2.2.1 x.2.2.2 none) args s 13 7800 (zA z)) (F0 m 61 ls []) := by
  intro k
  induction k with
  | zero =>
    intro u n Y V G j0 j1 H locs ls hcf
    have hcf : none = some _ := hcf
    cases hcf
  | succ k ih =>
    intro u n Y V G j0 j1 H locs ls hcf hW hS hl
    rw [lp_X2_init_61] at hcf
    refine lv_iload_n hx hb dX2_init_61 rfl (lv_at hl 1 rfl) ?_
    refine lv_bipush (v := (10 : Int32)) hx hb dX2_init_62 (by decide) ?_
    refine lv_icmp_ge (tgt := 86) hx hb dX2_init_64 (by decide) (fun q18 => ?_) (fun q18 => ?_)
    · replace hcf := (if_pos q18).symm.trans hcf
      refine lv_iconst (v := (0 : Int32)) hx hb dX2_init_86 (by decide) ?_
      refine lv_istore_n (lv' := [(1, .int (0 : Int32)), (0, .ref j0)]) hx hb dX2_init_87 rfl hl (by decide) rfl (fun ls hl => ?_)
      refine W.widen (k := u) (n := 600 * u) (Nat.le_refl _) (by omega) ?_
      exact wl_X2_init_88 hx hb hr hml hown hts hlocks hE hnm hz x fuB u n Y V G j0 (0 : Int32) _ _ _ hcf hW hS (lv_sub hl [1, 0] rfl)
    · replace hcf := (if_neg q18).symm.trans hcf
      refine lv_aload_n hx hb dX2_init_67 rfl (lv_at hl 0 rfl) ?_
      obtain ⟨q28, hcf⟩ := og hcf
      obtain ⟨r29, hr29, hcf⟩ := ob hcf
      refine gf_X2_11 hx hb hts hown hE hW q28 hr29 dX2_init_68 ?_
      refine lv_iload_n hx hb dX2_init_71 rfl (lv_at hl 1 rfl) ?_
      obtain ⟨q30, hcf⟩ := og hcf
      refine wk_new hx hb hts hown hE hW hz hS (C := RX0) (T := TX0) (N := 14) (ci := 0) rfl inX0 tyX0 tyX0_ok q58 q60 q40 (by decide) hfX0 dX2_init_72 (by show u + 1 ≤ 13; omega) (by show 600 * u + 14 ≤ 7800; omega) (fun H hW hS => ?_)
      refine W.widen (k := u + 1) (n := 600 * (u + 1)) (Nat.le_refl _) (by omega) ?_
      refine lv_dup hx hb dX2_init_75 rfl ?_
      obtain ⟨q31, hcf⟩ := og hcf
      obtain ⟨x32, hx32, hcf⟩ := ob hcf
      have hzn : z ≤ (n + 1) := by have := hS.1; have := hW.1; omega
      refine iv_X2_43 (As := []) (rest := [.ref n, .int j1, .ref r29]) hx hb hml hown hts hE (ct_X0_init l D cy z (n + 1) (va_up Y.1 n 0, Y.2) (va_up V n (fun _ => 0)) (va_up G n (fun _ => none)) n x32 hx32 hzn) hW hS rfl rfl hl.1 (Nat.le_of_ble_eq_true rfl) ⟨Nat.le_of_ble_eq_true rfl, Nat.le_of_ble_eq_true rfl⟩ dX2_init_76 ⟨by show (u + 1) + 0 ≤ 13; omega, by show 600 * (u + 1) + 0 ≤ 7800; omega⟩ (fun H locs hW hS => ?_)
      refine W.widen (k := (u + 1) + 0) (n := 600 * ((u + 1) + 0)) (Nat.le_refl _) (by show 600 * (u + 1) + 0 ≤ _; omega) ?_
      obtain ⟨q33, hcf⟩ := og hcf
      obtain ⟨q34, hcf⟩ := og hcf
      refine wk_aast hx hb hE hW hS q33 q34 dX2_init_79 (fun H locs hW hS => ?_)
      refine lv_iinc (v := (j1 + 1)) (lv' := [(1, .int (j1 + 1)), (0, .ref j0)]) hx hb dX2_init_80 hl (k := 1) rfl rfl (by decide) rfl (fun ls hl => ?_)
      refine lv_goto (tgt := 61) hx hb dX2_init_83 (by decide) ?_
      exact ih ((u + 1) + 0) x32.1 x32.2.1 x32.2.2.1 (up2 x32.2.2.2 r29 j1.toNatClampNeg (some n)) j0 (j1 + 1) _ _ _ hcf hW hS (lv_sub hl [1, 0] rfl)
set_option maxHeartbeats 4000000 in
set_option maxRecDepth 100000 in
theorem ct_X2_init (l : Launch) (D : va_G) (cy : Nat → ClassId) (z n : Nat) (Y : mY) (V : mV) (G : mG) (a0 : Nat) (x : Nat × mY × mV × mG) (hcf : cf_X2_init n Y V G a0 = some x) (hzn : z ≤ n) : CT l yX2_init cX2_init 2 none ({ frames := 2, cells := 13, slots := 7800, locals := 80 } : Room) D cy z [.ref a0] Y n V G none x.2.1 x.1 x.2.2.1 x.2.2.2 := by
  refine ct_of (by decide) (Nat.le_of_ble_eq_true rfl) ?_
  intro p e s m args below meth c ls hx hb hr hml hown hts hlocks hnm hE hW hl
  have hS : va_S (zA z) s.heap s.heap [] := va_S.rf
  have hl : lv_has ls 2 [(0, .ref a0)] := hl
  have hown : s.vm.findClass RX2 = some m.cls := hown
  have hnm : meth.name = "<init>" := hnm
  have hz : z ≤ s.heap.size := by rw [hW.1]; exact hzn
  rw [cf_X2_init] at hcf
  refine lv_aload_n hx hb dX2_init_0 rfl (lv_at hl 0 rfl) ?_
  refine wk_obj hx hb hts hown hml q57 q50 q51 hl.1 dX2_init_1 ⟨by decide, by decide⟩ ?_
  refine lv_aload_n hx hb dX2_init_4 rfl (lv_at hl 0 rfl) ?_
  refine lv_bipush (v := (10 : Int32)) hx hb dX2_init_5 (by decide) ?_
  obtain ⟨q1, hcf⟩ := og hcf
  obtain ⟨q2, hcf⟩ := og hcf
  obtain ⟨q3, hcf⟩ := og hcf
  obtain ⟨q4, hcf⟩ := og hcf
  refine wk_newO hx hb hts (C := RX0) (ci := 7) hown hE hW hz hS q58 (Or.inl ⟨rfl, rfl⟩) (i := (10 : Int32)) q2 rfl q3 (by omega) dX2_init_7 (by show 0 + 1 ≤ 13; omega) (by show 600 * 0 + _ ≤ 7800; omega) (fun H hW hS => ?_)
  refine W.widen (k := 0 + 1) (n := 600 * (0 + 1)) (Nat.le_refl _) (by omega) ?_
  obtain ⟨q5, hcf⟩ := og hcf
  refine pf_X2_11 hx hb hts hown hE hW hS q5 n hnm dX2_init_10 (fun H locs hW hS => ?_)
  refine lv_aload_n hx hb dX2_init_13 rfl (lv_at hl 0 rfl) ?_
  refine lv_iconst (v := (5 : Int32)) hx hb dX2_init_14 (by decide) ?_
  obtain ⟨q6, hcf⟩ := og hcf
  obtain ⟨q7, hcf⟩ := og hcf
  obtain ⟨q8, hcf⟩ := og hcf
  obtain ⟨q9, hcf⟩ := og hcf
  refine wk_newI hx hb hts hE hW hz hS (atype := .int) (ci := 6) (Or.inr ⟨rfl, rfl⟩) q134 (i := (5 : Int32)) q7 rfl q8 (by omega) dX2_init_15 (by show (0 + 1) + 1 ≤ 13; omega) (by show 600 * (0 + 1) + _ ≤ 7800; omega) (fun H hW hS => ?_)
  refine W.widen (k := (0 + 1) + 1) (n := 600 * ((0 + 1) + 1)) (Nat.le_refl _) (by omega) ?_
  obtain ⟨q10, hcf⟩ := og hcf
  refine pf_X2_17 hx hb hts hown hE hW hS q10 (n + 1) hnm dX2_init_17 (fun H locs hW hS => ?_)
  refine lv_aload_n hx hb dX2_init_20 rfl (lv_at hl 0 rfl) ?_
  refine lv_iconst (v := (5 : Int32)) hx hb dX2_init_21 (by decide) ?_
  obtain ⟨q11, hcf⟩ := og hcf
  obtain ⟨q12, hcf⟩ := og hcf
  obtain ⟨q13, hcf⟩ := og hcf
  obtain ⟨q14, hcf⟩ := og hcf
  refine wk_newI hx hb hts hE hW hz hS (atype := .int) (ci := 6) (Or.inr ⟨rfl, rfl⟩) q134 (i := (5 : Int32)) q12 rfl q13 (by omega) dX2_init_22 (by show ((0 + 1) + 1) + 1 ≤ 13; omega) (by show 600 * ((0 + 1) + 1) + _ ≤ 7800; omega) (fun H hW hS => ?_)
  refine W.widen (k := ((0 + 1) + 1) + 1) (n := 600 * (((0 + 1) + 1) + 1)) (Nat.le_refl _) (by omega) ?_
  obtain ⟨q15, hcf⟩ := og hcf
  refine pf_X2_21 hx hb hts hown hE hW hS q15 ((n + 1) + 1) hnm dX2_init_24 (fun H locs hW hS => ?_)
  obtain ⟨G16, hG16, hcf⟩ := ob hcf
  rw [Option.some.inj hG16] at hW
  refine lv_aload_n hx hb dX2_init_27 rfl (lv_at hl 0 rfl) ?_
  refine lv_iconst (v := (0 : Int32)) hx hb dX2_init_28 (by decide) ?_
  refine pf_X2_24 hx hb hts hown hE hW hS q15 (0 : Int32) dX2_init_29 (fun H locs hW hS => ?_)
  refine lv_aload_n hx hb dX2_init_32 rfl (lv_at hl 0 rfl) ?_
  refine lv_iconst (v := (0 : Int32)) hx hb dX2_init_33 (by decide) ?_
  refine pf_X2_28 hx hb hts hown hE hW hS q15 (0 : Int32) dX2_init_34 (fun H locs hW hS => ?_)
  obtain ⟨V17, hV17, hcf⟩ := ob hcf
  rw [Option.some.inj hV17] at hW
  refine lv_aload_n hx hb dX2_init_37 rfl (lv_at hl 0 rfl) ?_
  refine lv_iconst (v := (0 : Int32)) hx hb dX2_init_38 (by decide) ?_
  refine pf_X2_31 hx hb hts hown hE hW hS q15 (0 : Int32) dX2_init_39 (fun H locs hW hS => ?_)
  refine lv_aload_n hx hb dX2_init_42 rfl (lv_at hl 0 rfl) ?_
  refine lv_iconst (v := (0 : Int32)) hx hb dX2_init_43 (by decide) ?_
  refine pf_X2_34 hx hb hts hown hE hW hS q15 (0 : Int32) dX2_init_44 (fun H locs hW hS => ?_)
  refine lv_aload_n hx hb dX2_init_47 rfl (lv_at hl 0 rfl) ?_
  refine lv_bipush (v := (56 : Int32)) hx hb dX2_init_48 (by decide) ?_
  refine pf_X2_37 hx hb hts hown hE hW hS q15 (56 : Int32) dX2_init_50 (fun H locs hW hS => ?_)
  refine lv_aload_n hx hb dX2_init_53 rfl (lv_at hl 0 rfl) ?_
  refine lv_bipush (v := (100 : Int32)) hx hb dX2_init_54 (by decide) ?_
  refine pf_X2_40 hx hb hts hown hE hW hS q15 (100 : Int32) dX2_init_56 (fun H locs hW hS => ?_)
  refine lv_iconst (v := (0 : Int32)) hx hb dX2_init_59 (by decide) ?_
  refine lv_istore_n (lv' := [(1, .int (0 : Int32)), (0, .ref a0)]) hx hb dX2_init_60 rfl hl (by decide) rfl (fun ls hl => ?_)
  refine W.widen (k := (((0 + 1) + 1) + 1)) (n := 600 * (((0 + 1) + 1) + 1)) (Nat.le_refl _) (by omega) ?_
  exact wl_X2_init_61 hx hb hr hml hown hts hlocks hE hnm hz x fuB (((0 + 1) + 1) + 1) (((n + 1) + 1) + 1) (va_up (va_up (va_up Y.1 n 7, Y.2).1 (n + 1) 6, (va_up Y.1 n 7, Y.2).2).1 ((n + 1) + 1) 6, (va_up (va_up Y.1 n 7, Y.2).1 (n + 1) 6, (va_up Y.1 n 7, Y.2).2).2) (up2 (up2 (up2 (up2 V17 a0 5 (0 : Int32)) a0 6 (0 : Int32)) a0 7 (56 : Int32)) a0 8 (100 : Int32)) G16 a0 (0 : Int32) _ _ _ hcf hW hS (lv_sub hl [1, 0] rfl)
set_option maxHeartbeats 4000000 in
set_option maxRecDepth 100000 in
theorem wl_X3_init_63 {p : Program} {l : Launch} {e : Env} {s : State} {m : MethodId} {args : Array Value} {below : List Frame} {meth : Method} {c : Code} {D : va_G} {cy : Nat → ClassId} {z : Nat}  (hx : p.tables.exec = Jvm.exec) (hb : c.code = cX3_init) (hr : meth.sig.returnType = none) (hml : c.maxLocals = 2) (hown : s.vm.findClass RX3 = some m.cls) (hts : ∀ w ∈ lw_all, w.before args s = true) (hlocks : meth.locks = false) (hE : En D cy s) (hnm : meth.name = "<init>") (hz : z ≤ s.heap.size) (x : Nat × mY × mV × mG) : ∀ (k : Nat) (u : Nat) (n : Nat) (Y : mY) (V : mV) (G : mG) (j0 : Nat) (j1 : Int32) (H : Heap) (locs : List Loc) (ls : Array Slot), lp_X3_init_63 k u n Y V G j0 j1 = some x → Wd Y cy D z n V G H → va_S (zA z) s.heap H locs → lv_has ls 2 [(0, .ref j0), (1, .int j1)] → W p l e ({ frames := 3, cells := 102, slots := 61200, locals := 120 } : Room) s m args below meth c H locs u (600 * u) (MQ below (QC D cy z x.2.1 x.1 x.2.2.1 x.2.2.2 none) args s 102 61200 (zA z)) (F0 m 63 ls []) := by
  intro k
  induction k with
  | zero =>
    intro u n Y V G j0 j1 H locs ls hcf
    have hcf : none = some _ := hcf
    cases hcf
  | succ k ih =>
    intro u n Y V G j0 j1 H locs ls hcf hW hS hl
    rw [lp_X3_init_63] at hcf
    refine lv_iload_n hx hb dX3_init_63 rfl (lv_at hl 1 rfl) ?_
    refine lv_iconst (v := (4 : Int32)) hx hb dX3_init_64 (by decide) ?_
    refine lv_icmp_ge (tgt := 87) hx hb dX3_init_65 (by decide) (fun q23 => ?_) (fun q23 => ?_)
    · replace hcf := (if_pos q23).symm.trans hcf
      obtain ⟨q24, hcf⟩ := og hcf
      have hcf := Option.some.inj hcf; subst hcf
      refine W.widen (k := 102) (n := 61200) (by omega) (by omega) ?_
      exact wk_vret hx hb hr hlocks hW hS dX3_init_87
    · replace hcf := (if_neg q23).symm.trans hcf
      refine lv_aload_n hx hb dX3_init_68 rfl (lv_at hl 0 rfl) ?_
      obtain ⟨q25, hcf⟩ := og hcf
      obtain ⟨r26, hr26, hcf⟩ := ob hcf
      refine gf_X3_19 hx hb hts hown hE hW q25 hr26 dX3_init_69 ?_
      refine lv_iload_n hx hb dX3_init_72 rfl (lv_at hl 1 rfl) ?_
      obtain ⟨q27, hcf⟩ := og hcf
      refine wk_new hx hb hts hown hE hW hz hS (C := RX2) (T := TX2) (N := 9) (ci := 2) rfl inX2 tyX2 tyX2_ok q52 q53 q39 (by decide) hfX2 dX3_init_73 (by show u + 1 ≤ 102; omega) (by show 600 * u + 9 ≤ 61200; omega) (fun H hW hS => ?_)
      refine W.widen (k := u + 1) (n := 600 * (u + 1)) (Nat.le_refl _) (by omega) ?_
      refine lv_dup hx hb dX3_init_76 rfl ?_
      obtain ⟨q28, hcf⟩ := og hcf
      obtain ⟨x29, hx29, hcf⟩ := ob hcf
      have hzn : z ≤ (n + 1) := by have := hS.1; have := hW.1; omega
      refine iv_X3_9 (As := []) (rest := [.ref n, .int j1, .ref r26]) hx hb hml hown hts hE (ct_X2_init l D cy z (n + 1) (va_up Y.1 n 2, Y.2) (va_up V n (fun _ => 0)) (va_up G n (fun _ => none)) n x29 hx29 hzn) hW hS rfl rfl hl.1 (Nat.le_of_ble_eq_true rfl) ⟨Nat.le_of_ble_eq_true rfl, Nat.le_of_ble_eq_true rfl⟩ dX3_init_77 ⟨by show (u + 1) + 13 ≤ 102; omega, by show 600 * (u + 1) + 7800 ≤ 61200; omega⟩ (fun H locs hW hS => ?_)
      refine W.widen (k := (u + 1) + 13) (n := 600 * ((u + 1) + 13)) (Nat.le_refl _) (by show 600 * (u + 1) + 7800 ≤ _; omega) ?_
      obtain ⟨q30, hcf⟩ := og hcf
      obtain ⟨q31, hcf⟩ := og hcf
      refine wk_aast hx hb hE hW hS q30 q31 dX3_init_80 (fun H locs hW hS => ?_)
      refine lv_iinc (v := (j1 + 1)) (lv' := [(1, .int (j1 + 1)), (0, .ref j0)]) hx hb dX3_init_81 hl (k := 1) rfl rfl (by decide) rfl (fun ls hl => ?_)
      refine lv_goto (tgt := 63) hx hb dX3_init_84 (by decide) ?_
      exact ih ((u + 1) + 13) x29.1 x29.2.1 x29.2.2.1 (up2 x29.2.2.2 r26 j1.toNatClampNeg (some n)) j0 (j1 + 1) _ _ _ hcf hW hS (lv_sub hl [1, 0] rfl)
set_option maxHeartbeats 4000000 in
set_option maxRecDepth 100000 in
theorem ct_X3_init (l : Launch) (D : va_G) (cy : Nat → ClassId) (z n : Nat) (Y : mY) (V : mV) (G : mG) (a0 : Nat) (x : Nat × mY × mV × mG) (hcf : cf_X3_init n Y V G a0 = some x) (hzn : z ≤ n) : CT l yX3_init cX3_init 2 none ({ frames := 3, cells := 102, slots := 61200, locals := 120 } : Room) D cy z [.ref a0] Y n V G none x.2.1 x.1 x.2.2.1 x.2.2.2 := by
  refine ct_of (by decide) (Nat.le_of_ble_eq_true rfl) ?_
  intro p e s m args below meth c ls hx hb hr hml hown hts hlocks hnm hE hW hl
  have hS : va_S (zA z) s.heap s.heap [] := va_S.rf
  have hl : lv_has ls 2 [(0, .ref a0)] := hl
  have hown : s.vm.findClass RX3 = some m.cls := hown
  have hnm : meth.name = "<init>" := hnm
  have hz : z ≤ s.heap.size := by rw [hW.1]; exact hzn
  rw [cf_X3_init] at hcf
  refine lv_aload_n hx hb dX3_init_0 rfl (lv_at hl 0 rfl) ?_
  refine wk_obj hx hb hts hown hml q49 q50 q51 hl.1 dX3_init_1 ⟨by decide, by decide⟩ ?_
  refine lv_aload_n hx hb dX3_init_4 rfl (lv_at hl 0 rfl) ?_
  obtain ⟨q1, hcf⟩ := og hcf
  refine wk_new hx hb hts hown hE hW hz hS (C := RX2) (T := TX2) (N := 9) (ci := 2) rfl inX2 tyX2 tyX2_ok q52 q53 q39 (by decide) hfX2 dX3_init_5 (by show 0 + 1 ≤ 102; omega) (by show 600 * 0 + 9 ≤ 61200; omega) (fun H hW hS => ?_)
  refine W.widen (k := 0 + 1) (n := 600 * (0 + 1)) (Nat.le_refl _) (by omega) ?_
  refine lv_dup hx hb dX3_init_8 rfl ?_
  obtain ⟨q2, hcf⟩ := og hcf
  obtain ⟨x3, hx3, hcf⟩ := ob hcf
  have hzn : z ≤ (n + 1) := by have := hS.1; have := hW.1; omega
  refine iv_X3_9 (As := []) (rest := [.ref n, .ref a0]) hx hb hml hown hts hE (ct_X2_init l D cy z (n + 1) (va_up Y.1 n 2, Y.2) (va_up V n (fun _ => 0)) (va_up G n (fun _ => none)) n x3 hx3 hzn) hW hS rfl rfl hl.1 (Nat.le_of_ble_eq_true rfl) ⟨Nat.le_of_ble_eq_true rfl, Nat.le_of_ble_eq_true rfl⟩ dX3_init_9 ⟨by show (0 + 1) + 13 ≤ 102; omega, by show 600 * (0 + 1) + 7800 ≤ 61200; omega⟩ (fun H locs hW hS => ?_)
  refine W.widen (k := (0 + 1) + 13) (n := 600 * ((0 + 1) + 13)) (Nat.le_refl _) (by show 600 * (0 + 1) + 7800 ≤ _; omega) ?_
  obtain ⟨q4, hcf⟩ := og hcf
  refine pf_X3_10 hx hb hts hown hE hW hS q4 n hnm dX3_init_12 (fun H locs hW hS => ?_)
  refine lv_aload_n hx hb dX3_init_15 rfl (lv_at hl 0 rfl) ?_
  obtain ⟨q5, hcf⟩ := og hcf
  refine wk_new hx hb hts hown hE hW hz hS (C := RX2) (T := TX2) (N := 9) (ci := 2) rfl inX2 tyX2 tyX2_ok q52 q53 q39 (by decide) hfX2 dX3_init_16 (by show ((0 + 1) + 13) + 1 ≤ 102; omega) (by show 600 * ((0 + 1) + 13) + 9 ≤ 61200; omega) (fun H hW hS => ?_)
  refine W.widen (k := ((0 + 1) + 13) + 1) (n := 600 * (((0 + 1) + 13) + 1)) (Nat.le_refl _) (by omega) ?_
  refine lv_dup hx hb dX3_init_19 rfl ?_
  obtain ⟨q6, hcf⟩ := og hcf
  obtain ⟨x7, hx7, hcf⟩ := ob hcf
  have hzn : z ≤ (x3.1 + 1) := by have := hS.1; have := hW.1; omega
  refine iv_X3_9 (As := []) (rest := [.ref x3.1, .ref a0]) hx hb hml hown hts hE (ct_X2_init l D cy z (x3.1 + 1) (va_up x3.2.1.1 x3.1 2, x3.2.1.2) (va_up x3.2.2.1 x3.1 (fun _ => 0)) (va_up (up2 x3.2.2.2 a0 0 (some n)) x3.1 (fun _ => none)) x3.1 x7 hx7 hzn) hW hS rfl rfl hl.1 (Nat.le_of_ble_eq_true rfl) ⟨Nat.le_of_ble_eq_true rfl, Nat.le_of_ble_eq_true rfl⟩ dX3_init_20 ⟨by show (((0 + 1) + 13) + 1) + 13 ≤ 102; omega, by show 600 * (((0 + 1) + 13) + 1) + 7800 ≤ 61200; omega⟩ (fun H locs hW hS => ?_)
  refine W.widen (k := (((0 + 1) + 13) + 1) + 13) (n := 600 * ((((0 + 1) + 13) + 1) + 13)) (Nat.le_refl _) (by show 600 * (((0 + 1) + 13) + 1) + 7800 ≤ _; omega) ?_
  obtain ⟨q8, hcf⟩ := og hcf
  refine pf_X3_16 hx hb hts hown hE hW hS q8 x3.1 hnm dX3_init_23 (fun H locs hW hS => ?_)
  refine lv_aload_n hx hb dX3_init_26 rfl (lv_at hl 0 rfl) ?_
  refine lv_iconst (v := (4 : Int32)) hx hb dX3_init_27 (by decide) ?_
  obtain ⟨q9, hcf⟩ := og hcf
  obtain ⟨q10, hcf⟩ := og hcf
  obtain ⟨q11, hcf⟩ := og hcf
  obtain ⟨q12, hcf⟩ := og hcf
  refine wk_newO hx hb hts (C := RX2) (ci := 8) hown hE hW hz hS q52 (Or.inr ⟨rfl, rfl⟩) (i := (4 : Int32)) q10 rfl q11 (by omega) dX3_init_28 (by show ((((0 + 1) + 13) + 1) + 13) + 1 ≤ 102; omega) (by show 600 * ((((0 + 1) + 13) + 1) + 13) + _ ≤ 61200; omega) (fun H hW hS => ?_)
  refine W.widen (k := ((((0 + 1) + 13) + 1) + 13) + 1) (n := 600 * (((((0 + 1) + 13) + 1) + 13) + 1)) (Nat.le_refl _) (by omega) ?_
  obtain ⟨q13, hcf⟩ := og hcf
  refine pf_X3_19 hx hb hts hown hE hW hS q13 x7.1 hnm dX3_init_31 (fun H locs hW hS => ?_)
  refine lv_aload_n hx hb dX3_init_34 rfl (lv_at hl 0 rfl) ?_
  obtain ⟨q14, hcf⟩ := og hcf
  refine wk_new hx hb hts hown hE hW hz hS (C := RX1) (T := TX1) (N := 7) (ci := 1) rfl inX1 tyX1 tyX1_ok q173 q174 q41 (by decide) hfX1 dX3_init_35 (by show (((((0 + 1) + 13) + 1) + 13) + 1) + 1 ≤ 102; omega) (by show 600 * (((((0 + 1) + 13) + 1) + 13) + 1) + 7 ≤ 61200; omega) (fun H hW hS => ?_)
  refine W.widen (k := (((((0 + 1) + 13) + 1) + 13) + 1) + 1) (n := 600 * ((((((0 + 1) + 13) + 1) + 13) + 1) + 1)) (Nat.le_refl _) (by omega) ?_
  obtain ⟨G15, hG15, hcf⟩ := ob hcf
  rw [Option.some.inj hG15] at hW
  refine lv_dup hx hb dX3_init_38 rfl ?_
  obtain ⟨q16, hcf⟩ := og hcf
  obtain ⟨x17, hx17, hcf⟩ := ob hcf
  have hzn : z ≤ ((x7.1 + 1) + 1) := by have := hS.1; have := hW.1; omega
  refine iv_X3_25 (As := []) (rest := [.ref (x7.1 + 1), .ref a0]) hx hb hml hown hts hE (ct_X1_init l D cy z ((x7.1 + 1) + 1) (va_up (va_up x7.2.1.1 x7.1 8, x7.2.1.2).1 (x7.1 + 1) 1, (va_up x7.2.1.1 x7.1 8, x7.2.1.2).2) (va_up x7.2.2.1 (x7.1 + 1) (fun _ => 0)) G15 (x7.1 + 1) x17 hx17 hzn) hW hS rfl rfl hl.1 (Nat.le_of_ble_eq_true rfl) ⟨Nat.le_of_ble_eq_true rfl, Nat.le_of_ble_eq_true rfl⟩ dX3_init_39 ⟨by show ((((((0 + 1) + 13) + 1) + 13) + 1) + 1) + 2 ≤ 102; omega, by show 600 * ((((((0 + 1) + 13) + 1) + 13) + 1) + 1) + 1200 ≤ 61200; omega⟩ (fun H locs hW hS => ?_)
  refine W.widen (k := ((((((0 + 1) + 13) + 1) + 13) + 1) + 1) + 2) (n := 600 * (((((((0 + 1) + 13) + 1) + 13) + 1) + 1) + 2)) (Nat.le_refl _) (by show 600 * ((((((0 + 1) + 13) + 1) + 13) + 1) + 1) + 1200 ≤ _; omega) ?_
  obtain ⟨q18, hcf⟩ := og hcf
  refine pf_X3_26 hx hb hts hown hE hW hS q18 (x7.1 + 1) hnm dX3_init_42 (fun H locs hW hS => ?_)
  refine lv_aload_n hx hb dX3_init_45 rfl (lv_at hl 0 rfl) ?_
  obtain ⟨q19, hcf⟩ := og hcf
  refine wk_new hx hb hts hown hE hW hz hS (C := RX2) (T := TX2) (N := 9) (ci := 2) rfl inX2 tyX2 tyX2_ok q52 q53 q39 (by decide) hfX2 dX3_init_46 (by show (((((((0 + 1) + 13) + 1) + 13) + 1) + 1) + 2) + 1 ≤ 102; omega) (by show 600 * (((((((0 + 1) + 13) + 1) + 13) + 1) + 1) + 2) + 9 ≤ 61200; omega) (fun H hW hS => ?_)
  refine W.widen (k := (((((((0 + 1) + 13) + 1) + 13) + 1) + 1) + 2) + 1) (n := 600 * ((((((((0 + 1) + 13) + 1) + 13) + 1) + 1) + 2) + 1)) (Nat.le_refl _) (by omega) ?_
  refine lv_dup hx hb dX3_init_49 rfl ?_
  obtain ⟨q20, hcf⟩ := og hcf
  obtain ⟨x21, hx21, hcf⟩ := ob hcf
  have hzn : z ≤ (x17.1 + 1) := by have := hS.1; have := hW.1; omega
  refine iv_X3_9 (As := []) (rest := [.ref x17.1, .ref a0]) hx hb hml hown hts hE (ct_X2_init l D cy z (x17.1 + 1) (va_up x17.2.1.1 x17.1 2, x17.2.1.2) (va_up x17.2.2.1 x17.1 (fun _ => 0)) (va_up (up2 x17.2.2.2 a0 3 (some (x7.1 + 1))) x17.1 (fun _ => none)) x17.1 x21 hx21 hzn) hW hS rfl rfl hl.1 (Nat.le_of_ble_eq_true rfl) ⟨Nat.le_of_ble_eq_true rfl, Nat.le_of_ble_eq_true rfl⟩ dX3_init_50 ⟨by show ((((((((0 + 1) + 13) + 1) + 13) + 1) + 1) + 2) + 1) + 13 ≤ 102; omega, by show 600 * ((((((((0 + 1) + 13) + 1) + 13) + 1) + 1) + 2) + 1) + 7800 ≤ 61200; omega⟩ (fun H locs hW hS => ?_)
  refine W.widen (k := ((((((((0 + 1) + 13) + 1) + 13) + 1) + 1) + 2) + 1) + 13) (n := 600 * (((((((((0 + 1) + 13) + 1) + 13) + 1) + 1) + 2) + 1) + 13)) (Nat.le_refl _) (by show 600 * ((((((((0 + 1) + 13) + 1) + 13) + 1) + 1) + 2) + 1) + 7800 ≤ _; omega) ?_
  obtain ⟨q22, hcf⟩ := og hcf
  refine pf_X3_30 hx hb hts hown hE hW hS q22 x17.1 dX3_init_53 (fun H locs hW hS => ?_)
  refine lv_aload_n hx hb dX3_init_56 rfl (lv_at hl 0 rfl) ?_
  refine lv_iconst (v := (0 : Int32)) hx hb dX3_init_57 (by decide) ?_
  refine pf_X3_33 hx hb hts hown hE hW hS q22 (0 : Int32) dX3_init_58 (fun H locs hW hS => ?_)
  refine lv_iconst (v := (0 : Int32)) hx hb dX3_init_61 (by decide) ?_
  refine lv_istore_n (lv' := [(1, .int (0 : Int32)), (0, .ref a0)]) hx hb dX3_init_62 rfl hl (by decide) rfl (fun ls hl => ?_)
  refine W.widen (k := (((((((((0 + 1) + 13) + 1) + 13) + 1) + 1) + 2) + 1) + 13)) (n := 600 * (((((((((0 + 1) + 13) + 1) + 13) + 1) + 1) + 2) + 1) + 13)) (Nat.le_refl _) (by omega) ?_
  exact wl_X3_init_63 hx hb hr hml hown hts hlocks hE hnm hz x fuB (((((((((0 + 1) + 13) + 1) + 13) + 1) + 1) + 2) + 1) + 13) x21.1 x21.2.1 (up2 x21.2.2.1 a0 5 (0 : Int32)) (up2 x21.2.2.2 a0 4 (some x17.1)) a0 (0 : Int32) _ _ _ hcf hW hS (lv_sub hl [1, 0] rfl)
