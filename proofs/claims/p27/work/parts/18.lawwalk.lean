def lp_L_law_214 (L : Nat) (xs : Nat → Int32) (Y : mY) : Nat → mV → mG → Nat → Nat → Int32 → Int32 → Option (Int32)
  | 0, _, _, _, _, _, _ => none
  | k + 1, V, G, j1, j2, j3, j4 => if (50 : Int32) ≤ j4 then (if j3 = 0 then (some (0 : Int32)) else ((cf_L_cell L xs (50 : Int32)).bind (fun x11 => (cf_L_comes Y V G j1 j2 x11).bind (fun x12 => if x12.1 = 0 then (some (0 : Int32)) else (some (1 : Int32)))))) else (if j3 = 0 then (if j3 = 0 then (some (0 : Int32)) else ((cf_L_cell L xs (50 : Int32)).bind (fun x16 => (cf_L_comes Y V G j1 j2 x16).bind (fun x17 => if x17.1 = 0 then (some (0 : Int32)) else (some (1 : Int32)))))) else ((cf_L_cell L xs j4).bind (fun x19 => (cf_L_isStep Y V G j1 j2 x19).bind (fun x20 => if x20.1 = 0 then (lp_L_law_214 L xs Y k x20.2.1 x20.2.2 j1 j2 (0 : Int32) (j4 + 1)) else ((cf_L_areAlike Y x20.2.1 x20.2.2 j1 j2).bind (fun x22 => if x22.1 = 0 then (lp_L_law_214 L xs Y k x22.2 x20.2.2 j1 j2 (0 : Int32) (j4 + 1)) else (lp_L_law_214 L xs Y k x22.2 x20.2.2 j1 j2 (1 : Int32) (j4 + 1))))))))
def lp_L_law_21 (L : Nat) (xs : Nat → Int32) (Y : mY) : Nat → mV → mG → Nat → Nat → Int32 → Int32 → Option (Int32)
  | 0, _, _, _, _, _, _ => none
  | k + 1, V, G, j1, j2, j3, j4 => if (5 : Int32) ≤ j4 then (if j3 = 0 then (lp_L_law_214 L xs Y fuB V G j1 j2 (0 : Int32) (5 : Int32)) else (if Y.1 j1 = 3 then (cf_X3_set Y V G j1 (0 : Int32) (6 : Int32)).bind (fun x25 => if x25.1 = (56 : Int32) then (if Y.1 j2 = 3 then (cf_X3_set Y x25.2.1 x25.2.2 j2 (0 : Int32) (6 : Int32)).bind (fun x28 => if x28.1 = (56 : Int32) then ((cf_X3_set Y x28.2.1 x28.2.2 j1 (1 : Int32) (9 : Int32)).bind (fun x30 => if x30.1 = (100 : Int32) then ((cf_X3_set Y x30.2.1 x30.2.2 j2 (1 : Int32) (9 : Int32)).bind (fun x32 => if x32.1 = (100 : Int32) then (lp_L_law_214 L xs Y fuB x32.2.1 x32.2.2 j1 j2 (1 : Int32) (5 : Int32)) else (lp_L_law_214 L xs Y fuB x32.2.1 x32.2.2 j1 j2 (0 : Int32) (5 : Int32)))) else (lp_L_law_214 L xs Y fuB x30.2.1 x30.2.2 j1 j2 (0 : Int32) (5 : Int32)))) else (lp_L_law_214 L xs Y fuB x28.2.1 x28.2.2 j1 j2 (0 : Int32) (5 : Int32))) else none) else (lp_L_law_214 L xs Y fuB x25.2.1 x25.2.2 j1 j2 (0 : Int32) (5 : Int32))) else none)) else ((cf_L_cell L xs j4).bind (fun x34 => (cf_L_cell L xs ((4 : Int32) - j4)).bind (fun x35 => if j3 = 0 then (lp_L_law_21 L xs Y k V G j1 j2 (0 : Int32) (j4 + 1)) else ((cf_L_up x34 (3 : Int32)).bind (fun x37 => (cf_L_up (x34 >>> ((3 : Int32) &&& 31)) (3 : Int32)).bind (fun x38 => (cf_L_up (x34 >>> ((6 : Int32) &&& 31)) (12 : Int32)).bind (fun x39 => (cf_L_up (x34 >>> ((12 : Int32) &&& 31)) (3 : Int32)).bind (fun x40 => if Y.1 j1 = 3 then (cf_X3_condition Y V G j1 x37 x38 ((1 : Int32) + x39) ((1 : Int32) + x40)).bind (fun x42 => if x42.1 = j4 then ((cf_L_up x35 (3 : Int32)).bind (fun x44 => (cf_L_up (x35 >>> ((3 : Int32) &&& 31)) (3 : Int32)).bind (fun x45 => (cf_L_up (x35 >>> ((6 : Int32) &&& 31)) (12 : Int32)).bind (fun x46 => (cf_L_up (x35 >>> ((12 : Int32) &&& 31)) (3 : Int32)).bind (fun x47 => if Y.1 j2 = 3 then (cf_X3_condition Y x42.2.1 x42.2.2 j2 x44 x45 ((1 : Int32) + x46) ((1 : Int32) + x47)).bind (fun x49 => if x49.1 = j4 then (lp_L_law_21 L xs Y k x49.2.1 x49.2.2 j1 j2 (1 : Int32) (j4 + 1)) else (lp_L_law_21 L xs Y k x49.2.1 x49.2.2 j1 j2 (0 : Int32) (j4 + 1))) else none))))) else (lp_L_law_21 L xs Y k x42.2.1 x42.2.2 j1 j2 (0 : Int32) (j4 + 1))) else none))))))))
def cf_L_law (L : Nat) (xs : Nat → Int32) (n : Nat) (Y : mY) (V : mV) (G : mG) : Option (Int32) := if 0 + 1 ≤ 210 then if (0 + 1) + 102 ≤ 210 then (cf_X3_init (n + 1) (va_up Y.1 n 3, Y.2) (va_up V n (fun _ => 0)) (va_up G n (fun _ => none)) n).bind (fun x3 => if ((0 + 1) + 102) + 1 ≤ 210 then if (((0 + 1) + 102) + 1) + 102 ≤ 210 then (cf_X3_init (x3.1 + 1) (va_up x3.2.1.1 x3.1 3, x3.2.1.2) (va_up x3.2.2.1 x3.1 (fun _ => 0)) (va_up x3.2.2.2 x3.1 (fun _ => none)) x3.1).bind (fun x6 => lp_L_law_21 L xs x6.2.1 fuB x6.2.2.1 x6.2.2.2 n x3.1 (1 : Int32) (0 : Int32)) else none else none) else none else none
set_option maxHeartbeats 4000000 in
set_option maxRecDepth 100000 in
theorem wl_L_law_214 {p : Program} {l : Launch} {e : Env} {s : State} {m : MethodId} {below : List Frame} {meth : Method} {c : Code} {D : va_G} {cy : Nat → ClassId} {z n b L : Nat} {xs : Nat → Int32} {Y : mY} (hx : p.tables.exec = Jvm.exec) (hb : c.code = cL_law) (hr : meth.sig.returnType = ret) (hml : c.maxLocals = 7) (hown : s.vm.findClass RL = some m.cls) (hts : ∀ w ∈ lw_all, w.before #[Value.ref b] s = true) (hlocks : meth.locks = false) (hE : En D cy s) (hX : va_X b L xs s s.heap) (hbl : b < s.heap.size) (hbA : ¬ zA z b) (hzs : s.heap.size ≤ z) (hd0 : s.drawn.sameBut s.drawn lw_cs) : ∀ (k : Nat) (V : mV) (G : mG) (j1 : Nat) (j2 : Nat) (j3 : Int32) (j4 : Int32) (H : Heap) (locs : List Loc) (ls : Array Slot), lp_L_law_214 L xs Y k V G j1 j2 j3 j4 = some 1 → Wd Y cy D z n V G H → va_S (zA z) s.heap H locs → lv_has ls 7 [(0, .ref b), (1, .ref j1), (2, .ref j2), (3, .int j3), (4, .int j4)] → W p l e room_1 s m #[Value.ref b] below meth c H locs 210 126000 (lw_Z below #[Value.ref b] s) (F0 m 214 ls []) := by
  intro k
  induction k with
  | zero =>
    intro V G j1 j2 j3 j4 H locs ls hcf
    have hcf : none = some _ := hcf
    cases hcf
  | succ k ih =>
    intro V G j1 j2 j3 j4 H locs ls hcf hW hS hl
    rw [lp_L_law_214] at hcf
    refine lv_iload hx hb dL_law_214 (lv_at hl 4 rfl) ?_
    refine lv_bipush (v := (50 : Int32)) hx hb dL_law_216 (by decide) ?_
    refine lv_icmp_ge (tgt := 259) hx hb dL_law_218 (by decide) (fun q9 => ?_) (fun q9 => ?_)
    · replace hcf := (if_pos q9).symm.trans hcf
      refine lv_iload_n hx hb dL_law_259 rfl (lv_at hl 3 rfl) ?_
      refine lv_if_eq (tgt := 281) hx hb dL_law_260 (by decide) (fun q10 => ?_) (fun q10 => ?_)
      · replace hcf := (if_pos q10).symm.trans hcf
        refine lv_iconst (v := (0 : Int32)) hx hb dL_law_281 (by decide) ?_
        exact absurd hcf (by decide)
      · replace hcf := (if_neg q10).symm.trans hcf
        refine lv_aload_n hx hb dL_law_263 rfl (lv_at hl 1 rfl) ?_
        refine lv_aload_n hx hb dL_law_264 rfl (lv_at hl 2 rfl) ?_
        refine lv_aload_n hx hb dL_law_265 rfl (lv_at hl 0 rfl) ?_
        refine lv_bipush (v := (50 : Int32)) hx hb dL_law_266 (by decide) ?_
        obtain ⟨x11, hx11, hcf⟩ := ob hcf
        refine iv_L_92 (As := [.ref b, .int (50 : Int32)]) (rest := [.ref j2, .ref j1]) hx hb hml hown hts hE (ct_L_cell l D cy z n Y V G hbA (50 : Int32) x11 hx11) hX hbl hbA hW hS rfl rfl hl.1 (Nat.le_of_ble_eq_true rfl) ⟨Nat.le_of_ble_eq_true rfl, Nat.le_of_ble_eq_true rfl⟩ dL_law_268 ⟨Nat.le_of_ble_eq_true rfl, Nat.le_of_ble_eq_true rfl⟩ (fun H locs hW hS => ?_)
        obtain ⟨x12, hx12, hcf⟩ := ob hcf
        refine iv_L_107 (As := [.ref j1, .ref j2, .int x11]) (rest := []) hx hb hml hown hts hE (ct_L_comes l D cy z n Y V G j1 j2 x11 x12 hx12) hW hS rfl rfl hl.1 (Nat.le_of_ble_eq_true rfl) ⟨Nat.le_of_ble_eq_true rfl, Nat.le_of_ble_eq_true rfl⟩ dL_law_271 ⟨Nat.le_of_ble_eq_true rfl, Nat.le_of_ble_eq_true rfl⟩ (fun H locs hW hS => ?_)
        refine lv_if_eq (tgt := 281) hx hb dL_law_274 (by decide) (fun q13 => ?_) (fun q13 => ?_)
        · replace hcf := (if_pos q13).symm.trans hcf
          refine lv_iconst (v := (0 : Int32)) hx hb dL_law_281 (by decide) ?_
          exact absurd hcf (by decide)
        · replace hcf := (if_neg q13).symm.trans hcf
          refine lv_iconst (v := (1 : Int32)) hx hb dL_law_277 (by decide) ?_
          refine lv_goto (tgt := 282) hx hb dL_law_278 (by decide) ?_
          refine va_forget (fun q hq => Nat.le_trans hzs (hS.2.2 q hq)) ?_
          refine W.widen (k := 600000) (n := 7302250) (Nat.le_of_ble_eq_true rfl) (Nat.le_of_ble_eq_true rfl) ?_
          refine W.base ?_
          exact lw_ret (d0 := s.drawn) hd0 hx hb hr hlocks dL_law_282
    · replace hcf := (if_neg q9).symm.trans hcf
      refine lv_iload_n hx hb dL_law_221 rfl (lv_at hl 3 rfl) ?_
      refine lv_if_eq (tgt := 259) hx hb dL_law_222 (by decide) (fun q14 => ?_) (fun q14 => ?_)
      · replace hcf := (if_pos q14).symm.trans hcf
        refine lv_iload_n hx hb dL_law_259 rfl (lv_at hl 3 rfl) ?_
        refine lv_if_eq (tgt := 281) hx hb dL_law_260 (by decide) (fun q15 => ?_) (fun q15 => ?_)
        · replace hcf := (if_pos q15).symm.trans hcf
          refine lv_iconst (v := (0 : Int32)) hx hb dL_law_281 (by decide) ?_
          exact absurd hcf (by decide)
        · replace hcf := (if_neg q15).symm.trans hcf
          refine lv_aload_n hx hb dL_law_263 rfl (lv_at hl 1 rfl) ?_
          refine lv_aload_n hx hb dL_law_264 rfl (lv_at hl 2 rfl) ?_
          refine lv_aload_n hx hb dL_law_265 rfl (lv_at hl 0 rfl) ?_
          refine lv_bipush (v := (50 : Int32)) hx hb dL_law_266 (by decide) ?_
          obtain ⟨x16, hx16, hcf⟩ := ob hcf
          refine iv_L_92 (As := [.ref b, .int (50 : Int32)]) (rest := [.ref j2, .ref j1]) hx hb hml hown hts hE (ct_L_cell l D cy z n Y V G hbA (50 : Int32) x16 hx16) hX hbl hbA hW hS rfl rfl hl.1 (Nat.le_of_ble_eq_true rfl) ⟨Nat.le_of_ble_eq_true rfl, Nat.le_of_ble_eq_true rfl⟩ dL_law_268 ⟨Nat.le_of_ble_eq_true rfl, Nat.le_of_ble_eq_true rfl⟩ (fun H locs hW hS => ?_)
          obtain ⟨x17, hx17, hcf⟩ := ob hcf
          refine iv_L_107 (As := [.ref j1, .ref j2, .int x16]) (rest := []) hx hb hml hown hts hE (ct_L_comes l D cy z n Y V G j1 j2 x16 x17 hx17) hW hS rfl rfl hl.1 (Nat.le_of_ble_eq_true rfl) ⟨Nat.le_of_ble_eq_true rfl, Nat.le_of_ble_eq_true rfl⟩ dL_law_271 ⟨Nat.le_of_ble_eq_true rfl, Nat.le_of_ble_eq_true rfl⟩ (fun H locs hW hS => ?_)
          refine lv_if_eq (tgt := 281) hx hb dL_law_274 (by decide) (fun q18 => ?_) (fun q18 => ?_)
          · replace hcf := (if_pos q18).symm.trans hcf
            refine lv_iconst (v := (0 : Int32)) hx hb dL_law_281 (by decide) ?_
            exact absurd hcf (by decide)
          · replace hcf := (if_neg q18).symm.trans hcf
            refine lv_iconst (v := (1 : Int32)) hx hb dL_law_277 (by decide) ?_
            refine lv_goto (tgt := 282) hx hb dL_law_278 (by decide) ?_
            refine va_forget (fun q hq => Nat.le_trans hzs (hS.2.2 q hq)) ?_
            refine W.widen (k := 600000) (n := 7302250) (Nat.le_of_ble_eq_true rfl) (Nat.le_of_ble_eq_true rfl) ?_
            refine W.base ?_
            exact lw_ret (d0 := s.drawn) hd0 hx hb hr hlocks dL_law_282
      · replace hcf := (if_neg q14).symm.trans hcf
        refine lv_aload_n hx hb dL_law_225 rfl (lv_at hl 1 rfl) ?_
        refine lv_aload_n hx hb dL_law_226 rfl (lv_at hl 2 rfl) ?_
        refine lv_aload_n hx hb dL_law_227 rfl (lv_at hl 0 rfl) ?_
        refine lv_iload hx hb dL_law_228 (lv_at hl 4 rfl) ?_
        obtain ⟨x19, hx19, hcf⟩ := ob hcf
        refine iv_L_92 (As := [.ref b, .int j4]) (rest := [.ref j2, .ref j1]) hx hb hml hown hts hE (ct_L_cell l D cy z n Y V G hbA j4 x19 hx19) hX hbl hbA hW hS rfl rfl hl.1 (Nat.le_of_ble_eq_true rfl) ⟨Nat.le_of_ble_eq_true rfl, Nat.le_of_ble_eq_true rfl⟩ dL_law_230 ⟨Nat.le_of_ble_eq_true rfl, Nat.le_of_ble_eq_true rfl⟩ (fun H locs hW hS => ?_)
        obtain ⟨x20, hx20, hcf⟩ := ob hcf
        refine iv_L_100 (As := [.ref j1, .ref j2, .int x19]) (rest := []) hx hb hml hown hts hE (ct_L_isStep l D cy z n Y V G j1 j2 x19 x20 hx20) hW hS rfl rfl hl.1 (Nat.le_of_ble_eq_true rfl) ⟨Nat.le_of_ble_eq_true rfl, Nat.le_of_ble_eq_true rfl⟩ dL_law_233 ⟨Nat.le_of_ble_eq_true rfl, Nat.le_of_ble_eq_true rfl⟩ (fun H locs hW hS => ?_)
        refine lv_if_eq (tgt := 251) hx hb dL_law_236 (by decide) (fun q21 => ?_) (fun q21 => ?_)
        · replace hcf := (if_pos q21).symm.trans hcf
          refine lv_iconst (v := (0 : Int32)) hx hb dL_law_251 (by decide) ?_
          refine lv_istore_n (lv' := [(3, .int (0 : Int32)), (0, .ref b), (1, .ref j1), (2, .ref j2), (4, .int j4)]) hx hb dL_law_252 rfl hl (by decide) rfl (fun ls hl => ?_)
          refine lv_iinc (v := (j4 + 1)) (lv' := [(4, .int (j4 + 1)), (3, .int (0 : Int32)), (0, .ref b), (1, .ref j1), (2, .ref j2)]) hx hb dL_law_253 hl (k := 4) rfl rfl (by decide) rfl (fun ls hl => ?_)
          refine lv_goto (tgt := 214) hx hb dL_law_256 (by decide) ?_
          exact ih x20.2.1 x20.2.2 j1 j2 (0 : Int32) (j4 + 1) _ _ _ hcf hW hS (lv_sub hl [2, 3, 4, 1, 0] rfl)
        · replace hcf := (if_neg q21).symm.trans hcf
          refine lv_aload_n hx hb dL_law_239 rfl (lv_at hl 1 rfl) ?_
          refine lv_aload_n hx hb dL_law_240 rfl (lv_at hl 2 rfl) ?_
          obtain ⟨x22, hx22, hcf⟩ := ob hcf
          refine iv_L_103 (As := [.ref j1, .ref j2]) (rest := []) hx hb hml hown hts hE (ct_L_areAlike l D cy z n Y x20.2.1 x20.2.2 j1 j2 x22 hx22) hW hS rfl rfl hl.1 (Nat.le_of_ble_eq_true rfl) ⟨Nat.le_of_ble_eq_true rfl, Nat.le_of_ble_eq_true rfl⟩ dL_law_241 ⟨Nat.le_of_ble_eq_true rfl, Nat.le_of_ble_eq_true rfl⟩ (fun H locs hW hS => ?_)
          refine lv_if_eq (tgt := 251) hx hb dL_law_244 (by decide) (fun q23 => ?_) (fun q23 => ?_)
          · replace hcf := (if_pos q23).symm.trans hcf
            refine lv_iconst (v := (0 : Int32)) hx hb dL_law_251 (by decide) ?_
            refine lv_istore_n (lv' := [(3, .int (0 : Int32)), (0, .ref b), (1, .ref j1), (2, .ref j2), (4, .int j4)]) hx hb dL_law_252 rfl hl (by decide) rfl (fun ls hl => ?_)
            refine lv_iinc (v := (j4 + 1)) (lv' := [(4, .int (j4 + 1)), (3, .int (0 : Int32)), (0, .ref b), (1, .ref j1), (2, .ref j2)]) hx hb dL_law_253 hl (k := 4) rfl rfl (by decide) rfl (fun ls hl => ?_)
            refine lv_goto (tgt := 214) hx hb dL_law_256 (by decide) ?_
            exact ih x22.2 x20.2.2 j1 j2 (0 : Int32) (j4 + 1) _ _ _ hcf hW hS (lv_sub hl [2, 3, 4, 1, 0] rfl)
          · replace hcf := (if_neg q23).symm.trans hcf
            refine lv_iconst (v := (1 : Int32)) hx hb dL_law_247 (by decide) ?_
            refine lv_goto (tgt := 252) hx hb dL_law_248 (by decide) ?_
            refine lv_istore_n (lv' := [(3, .int (1 : Int32)), (0, .ref b), (1, .ref j1), (2, .ref j2), (4, .int j4)]) hx hb dL_law_252 rfl hl (by decide) rfl (fun ls hl => ?_)
            refine lv_iinc (v := (j4 + 1)) (lv' := [(4, .int (j4 + 1)), (3, .int (1 : Int32)), (0, .ref b), (1, .ref j1), (2, .ref j2)]) hx hb dL_law_253 hl (k := 4) rfl rfl (by decide) rfl (fun ls hl => ?_)
            refine lv_goto (tgt := 214) hx hb dL_law_256 (by decide) ?_
            exact ih x22.2 x20.2.2 j1 j2 (1 : Int32) (j4 + 1) _ _ _ hcf hW hS (lv_sub hl [2, 3, 4, 1, 0] rfl)
set_option maxHeartbeats 4000000 in
set_option maxRecDepth 100000 in
theorem wl_L_law_21 {p : Program} {l : Launch} {e : Env} {s : State} {m : MethodId} {below : List Frame} {meth : Method} {c : Code} {D : va_G} {cy : Nat → ClassId} {z n b L : Nat} {xs : Nat → Int32} {Y : mY} (hx : p.tables.exec = Jvm.exec) (hb : c.code = cL_law) (hr : meth.sig.returnType = ret) (hml : c.maxLocals = 7) (hown : s.vm.findClass RL = some m.cls) (hts : ∀ w ∈ lw_all, w.before #[Value.ref b] s = true) (hlocks : meth.locks = false) (hE : En D cy s) (hX : va_X b L xs s s.heap) (hbl : b < s.heap.size) (hbA : ¬ zA z b) (hzs : s.heap.size ≤ z) (hd0 : s.drawn.sameBut s.drawn lw_cs) : ∀ (k : Nat) (V : mV) (G : mG) (j1 : Nat) (j2 : Nat) (j3 : Int32) (j4 : Int32) (H : Heap) (locs : List Loc) (ls : Array Slot), lp_L_law_21 L xs Y k V G j1 j2 j3 j4 = some 1 → Wd Y cy D z n V G H → va_S (zA z) s.heap H locs → lv_has ls 7 [(0, .ref b), (1, .ref j1), (2, .ref j2), (3, .int j3), (4, .int j4)] → W p l e room_1 s m #[Value.ref b] below meth c H locs 210 126000 (lw_Z below #[Value.ref b] s) (F0 m 21 ls []) := by
  intro k
  induction k with
  | zero =>
    intro V G j1 j2 j3 j4 H locs ls hcf
    have hcf : none = some _ := hcf
    cases hcf
  | succ k ih =>
    intro V G j1 j2 j3 j4 H locs ls hcf hW hS hl
    rw [lp_L_law_21] at hcf
    refine lv_iload hx hb dL_law_21 (lv_at hl 4 rfl) ?_
    refine lv_iconst (v := (5 : Int32)) hx hb dL_law_23 (by decide) ?_
    refine lv_icmp_ge (tgt := 153) hx hb dL_law_24 (by decide) (fun q7 => ?_) (fun q7 => ?_)
    · replace hcf := (if_pos q7).symm.trans hcf
      refine lv_iload_n hx hb dL_law_153 rfl (lv_at hl 3 rfl) ?_
      refine lv_if_eq (tgt := 209) hx hb dL_law_154 (by decide) (fun q8 => ?_) (fun q8 => ?_)
      · replace hcf := (if_pos q8).symm.trans hcf
        refine lv_iconst (v := (0 : Int32)) hx hb dL_law_209 (by decide) ?_
        refine lv_istore_n (lv' := [(3, .int (0 : Int32)), (0, .ref b), (1, .ref j1), (2, .ref j2), (4, .int j4)]) hx hb dL_law_210 rfl hl (by decide) rfl (fun ls hl => ?_)
        refine lv_iconst (v := (5 : Int32)) hx hb dL_law_211 (by decide) ?_
        refine lv_istore (lv' := [(4, .int (5 : Int32)), (3, .int (0 : Int32)), (0, .ref b), (1, .ref j1), (2, .ref j2)]) hx hb dL_law_212 hl (by decide) rfl (fun ls hl => ?_)
        refine W.widen (k := 210) (n := 126000) (by decide) (by decide) ?_
        exact wl_L_law_214 hx hb hr hml hown hts hlocks hE hX hbl hbA hzs hd0 fuB V G j1 j2 (0 : Int32) (5 : Int32) _ _ _ hcf hW hS (lv_sub hl [2, 3, 4, 1, 0] rfl)
      · replace hcf := (if_neg q8).symm.trans hcf
        refine lv_aload_n hx hb dL_law_157 rfl (lv_at hl 1 rfl) ?_
        refine lv_iconst (v := (0 : Int32)) hx hb dL_law_158 (by decide) ?_
        refine lv_bipush (v := (6 : Int32)) hx hb dL_law_159 (by decide) ?_
        obtain ⟨q24, hcf⟩ := og hcf
        obtain ⟨x25, hx25, hcf⟩ := ob hcf
        refine iv_L_56 (As := [.int (0 : Int32), .int (6 : Int32)]) (rest := []) hx hb hml hown hts hE (ct_X3_set l D cy z n Y V G j1 (0 : Int32) (6 : Int32) x25 hx25) hW hS q24 rfl rfl hl.1 (Nat.le_of_ble_eq_true rfl) ⟨Nat.le_of_ble_eq_true rfl, Nat.le_of_ble_eq_true rfl⟩ dL_law_161 ⟨Nat.le_of_ble_eq_true rfl, Nat.le_of_ble_eq_true rfl⟩ (fun H locs hW hS => ?_)
        refine lv_bipush (v := (56 : Int32)) hx hb dL_law_164 (by decide) ?_
        refine lv_icmp_ne (tgt := 209) hx hb dL_law_166 (by decide) (fun q26 => ?_) (fun q26 => ?_)
        · replace hcf := (if_neg q26).symm.trans hcf
          refine lv_iconst (v := (0 : Int32)) hx hb dL_law_209 (by decide) ?_
          refine lv_istore_n (lv' := [(3, .int (0 : Int32)), (0, .ref b), (1, .ref j1), (2, .ref j2), (4, .int j4)]) hx hb dL_law_210 rfl hl (by decide) rfl (fun ls hl => ?_)
          refine lv_iconst (v := (5 : Int32)) hx hb dL_law_211 (by decide) ?_
          refine lv_istore (lv' := [(4, .int (5 : Int32)), (3, .int (0 : Int32)), (0, .ref b), (1, .ref j1), (2, .ref j2)]) hx hb dL_law_212 hl (by decide) rfl (fun ls hl => ?_)
          refine W.widen (k := 210) (n := 126000) (by decide) (by decide) ?_
          exact wl_L_law_214 hx hb hr hml hown hts hlocks hE hX hbl hbA hzs hd0 fuB x25.2.1 x25.2.2 j1 j2 (0 : Int32) (5 : Int32) _ _ _ hcf hW hS (lv_sub hl [2, 3, 4, 1, 0] rfl)
        · replace hcf := (if_pos q26).symm.trans hcf
          refine lv_aload_n hx hb dL_law_169 rfl (lv_at hl 2 rfl) ?_
          refine lv_iconst (v := (0 : Int32)) hx hb dL_law_170 (by decide) ?_
          refine lv_bipush (v := (6 : Int32)) hx hb dL_law_171 (by decide) ?_
          obtain ⟨q27, hcf⟩ := og hcf
          obtain ⟨x28, hx28, hcf⟩ := ob hcf
          refine iv_L_56 (As := [.int (0 : Int32), .int (6 : Int32)]) (rest := []) hx hb hml hown hts hE (ct_X3_set l D cy z n Y x25.2.1 x25.2.2 j2 (0 : Int32) (6 : Int32) x28 hx28) hW hS q27 rfl rfl hl.1 (Nat.le_of_ble_eq_true rfl) ⟨Nat.le_of_ble_eq_true rfl, Nat.le_of_ble_eq_true rfl⟩ dL_law_173 ⟨Nat.le_of_ble_eq_true rfl, Nat.le_of_ble_eq_true rfl⟩ (fun H locs hW hS => ?_)
          refine lv_bipush (v := (56 : Int32)) hx hb dL_law_176 (by decide) ?_
          refine lv_icmp_ne (tgt := 209) hx hb dL_law_178 (by decide) (fun q29 => ?_) (fun q29 => ?_)
          · replace hcf := (if_neg q29).symm.trans hcf
            refine lv_iconst (v := (0 : Int32)) hx hb dL_law_209 (by decide) ?_
            refine lv_istore_n (lv' := [(3, .int (0 : Int32)), (0, .ref b), (1, .ref j1), (2, .ref j2), (4, .int j4)]) hx hb dL_law_210 rfl hl (by decide) rfl (fun ls hl => ?_)
            refine lv_iconst (v := (5 : Int32)) hx hb dL_law_211 (by decide) ?_
            refine lv_istore (lv' := [(4, .int (5 : Int32)), (3, .int (0 : Int32)), (0, .ref b), (1, .ref j1), (2, .ref j2)]) hx hb dL_law_212 hl (by decide) rfl (fun ls hl => ?_)
            refine W.widen (k := 210) (n := 126000) (by decide) (by decide) ?_
            exact wl_L_law_214 hx hb hr hml hown hts hlocks hE hX hbl hbA hzs hd0 fuB x28.2.1 x28.2.2 j1 j2 (0 : Int32) (5 : Int32) _ _ _ hcf hW hS (lv_sub hl [2, 3, 4, 1, 0] rfl)
          · replace hcf := (if_pos q29).symm.trans hcf
            refine lv_aload_n hx hb dL_law_181 rfl (lv_at hl 1 rfl) ?_
            refine lv_iconst (v := (1 : Int32)) hx hb dL_law_182 (by decide) ?_
            refine lv_bipush (v := (9 : Int32)) hx hb dL_law_183 (by decide) ?_
            obtain ⟨x30, hx30, hcf⟩ := ob hcf
            refine iv_L_56 (As := [.int (1 : Int32), .int (9 : Int32)]) (rest := []) hx hb hml hown hts hE (ct_X3_set l D cy z n Y x28.2.1 x28.2.2 j1 (1 : Int32) (9 : Int32) x30 hx30) hW hS q24 rfl rfl hl.1 (Nat.le_of_ble_eq_true rfl) ⟨Nat.le_of_ble_eq_true rfl, Nat.le_of_ble_eq_true rfl⟩ dL_law_185 ⟨Nat.le_of_ble_eq_true rfl, Nat.le_of_ble_eq_true rfl⟩ (fun H locs hW hS => ?_)
            refine lv_bipush (v := (100 : Int32)) hx hb dL_law_188 (by decide) ?_
            refine lv_icmp_ne (tgt := 209) hx hb dL_law_190 (by decide) (fun q31 => ?_) (fun q31 => ?_)
            · replace hcf := (if_neg q31).symm.trans hcf
              refine lv_iconst (v := (0 : Int32)) hx hb dL_law_209 (by decide) ?_
              refine lv_istore_n (lv' := [(3, .int (0 : Int32)), (0, .ref b), (1, .ref j1), (2, .ref j2), (4, .int j4)]) hx hb dL_law_210 rfl hl (by decide) rfl (fun ls hl => ?_)
              refine lv_iconst (v := (5 : Int32)) hx hb dL_law_211 (by decide) ?_
              refine lv_istore (lv' := [(4, .int (5 : Int32)), (3, .int (0 : Int32)), (0, .ref b), (1, .ref j1), (2, .ref j2)]) hx hb dL_law_212 hl (by decide) rfl (fun ls hl => ?_)
              refine W.widen (k := 210) (n := 126000) (by decide) (by decide) ?_
              exact wl_L_law_214 hx hb hr hml hown hts hlocks hE hX hbl hbA hzs hd0 fuB x30.2.1 x30.2.2 j1 j2 (0 : Int32) (5 : Int32) _ _ _ hcf hW hS (lv_sub hl [2, 3, 4, 1, 0] rfl)
            · replace hcf := (if_pos q31).symm.trans hcf
              refine lv_aload_n hx hb dL_law_193 rfl (lv_at hl 2 rfl) ?_
              refine lv_iconst (v := (1 : Int32)) hx hb dL_law_194 (by decide) ?_
              refine lv_bipush (v := (9 : Int32)) hx hb dL_law_195 (by decide) ?_
              obtain ⟨x32, hx32, hcf⟩ := ob hcf
              refine iv_L_56 (As := [.int (1 : Int32), .int (9 : Int32)]) (rest := []) hx hb hml hown hts hE (ct_X3_set l D cy z n Y x30.2.1 x30.2.2 j2 (1 : Int32) (9 : Int32) x32 hx32) hW hS q27 rfl rfl hl.1 (Nat.le_of_ble_eq_true rfl) ⟨Nat.le_of_ble_eq_true rfl, Nat.le_of_ble_eq_true rfl⟩ dL_law_197 ⟨Nat.le_of_ble_eq_true rfl, Nat.le_of_ble_eq_true rfl⟩ (fun H locs hW hS => ?_)
              refine lv_bipush (v := (100 : Int32)) hx hb dL_law_200 (by decide) ?_
              refine lv_icmp_ne (tgt := 209) hx hb dL_law_202 (by decide) (fun q33 => ?_) (fun q33 => ?_)
              · replace hcf := (if_neg q33).symm.trans hcf
                refine lv_iconst (v := (0 : Int32)) hx hb dL_law_209 (by decide) ?_
                refine lv_istore_n (lv' := [(3, .int (0 : Int32)), (0, .ref b), (1, .ref j1), (2, .ref j2), (4, .int j4)]) hx hb dL_law_210 rfl hl (by decide) rfl (fun ls hl => ?_)
                refine lv_iconst (v := (5 : Int32)) hx hb dL_law_211 (by decide) ?_
                refine lv_istore (lv' := [(4, .int (5 : Int32)), (3, .int (0 : Int32)), (0, .ref b), (1, .ref j1), (2, .ref j2)]) hx hb dL_law_212 hl (by decide) rfl (fun ls hl => ?_)
                refine W.widen (k := 210) (n := 126000) (by decide) (by decide) ?_
                exact wl_L_law_214 hx hb hr hml hown hts hlocks hE hX hbl hbA hzs hd0 fuB x32.2.1 x32.2.2 j1 j2 (0 : Int32) (5 : Int32) _ _ _ hcf hW hS (lv_sub hl [2, 3, 4, 1, 0] rfl)
              · replace hcf := (if_pos q33).symm.trans hcf
                refine lv_iconst (v := (1 : Int32)) hx hb dL_law_205 (by decide) ?_
                refine lv_goto (tgt := 210) hx hb dL_law_206 (by decide) ?_
                refine lv_istore_n (lv' := [(3, .int (1 : Int32)), (0, .ref b), (1, .ref j1), (2, .ref j2), (4, .int j4)]) hx hb dL_law_210 rfl hl (by decide) rfl (fun ls hl => ?_)
                refine lv_iconst (v := (5 : Int32)) hx hb dL_law_211 (by decide) ?_
                refine lv_istore (lv' := [(4, .int (5 : Int32)), (3, .int (1 : Int32)), (0, .ref b), (1, .ref j1), (2, .ref j2)]) hx hb dL_law_212 hl (by decide) rfl (fun ls hl => ?_)
                refine W.widen (k := 210) (n := 126000) (by decide) (by decide) ?_
                exact wl_L_law_214 hx hb hr hml hown hts hlocks hE hX hbl hbA hzs hd0 fuB x32.2.1 x32.2.2 j1 j2 (1 : Int32) (5 : Int32) _ _ _ hcf hW hS (lv_sub hl [2, 3, 4, 1, 0] rfl)
    · replace hcf := (if_neg q7).symm.trans hcf
      refine lv_aload_n hx hb dL_law_27 rfl (lv_at hl 0 rfl) ?_
      refine lv_iload hx hb dL_law_28 (lv_at hl 4 rfl) ?_
      obtain ⟨x34, hx34, hcf⟩ := ob hcf
      refine iv_L_92 (As := [.ref b, .int j4]) (rest := []) hx hb hml hown hts hE (ct_L_cell l D cy z n Y V G hbA j4 x34 hx34) hX hbl hbA hW hS rfl rfl hl.1 (Nat.le_of_ble_eq_true rfl) ⟨Nat.le_of_ble_eq_true rfl, Nat.le_of_ble_eq_true rfl⟩ dL_law_30 ⟨Nat.le_of_ble_eq_true rfl, Nat.le_of_ble_eq_true rfl⟩ (fun H locs hW hS => ?_)
      refine lv_istore (lv' := [(5, .int x34), (0, .ref b), (1, .ref j1), (2, .ref j2), (3, .int j3), (4, .int j4)]) hx hb dL_law_33 hl (by decide) rfl (fun ls hl => ?_)
      refine lv_aload_n hx hb dL_law_35 rfl (lv_at hl 1 rfl) ?_
      refine lv_iconst (v := (4 : Int32)) hx hb dL_law_36 (by decide) ?_
      refine lv_iload hx hb dL_law_37 (lv_at hl 5 rfl) ?_
      refine lv_isub hx hb dL_law_39 ?_
      obtain ⟨x35, hx35, hcf⟩ := ob hcf
      refine iv_L_92 (As := [.ref b, .int ((4 : Int32) - j4)]) (rest := []) hx hb hml hown hts hE (ct_L_cell l D cy z n Y V G hbA ((4 : Int32) - j4) x35 hx35) hX hbl hbA hW hS rfl rfl hl.1 (Nat.le_of_ble_eq_true rfl) ⟨Nat.le_of_ble_eq_true rfl, Nat.le_of_ble_eq_true rfl⟩ dL_law_40 ⟨Nat.le_of_ble_eq_true rfl, Nat.le_of_ble_eq_true rfl⟩ (fun H locs hW hS => ?_)
      refine lv_istore (lv' := [(6, .int x35), (5, .int x34), (0, .ref b), (1, .ref j1), (2, .ref j2), (3, .int j3), (4, .int j4)]) hx hb dL_law_43 hl (by decide) rfl (fun ls hl => ?_)
      refine lv_iload_n hx hb dL_law_45 rfl (lv_at hl 5 rfl) ?_
      refine lv_if_eq (tgt := 145) hx hb dL_law_46 (by decide) (fun q36 => ?_) (fun q36 => ?_)
      · replace hcf := (if_pos q36).symm.trans hcf
        refine lv_iconst (v := (0 : Int32)) hx hb dL_law_145 (by decide) ?_
        refine lv_istore_n (lv' := [(3, .int (0 : Int32)), (6, .int x35), (5, .int x34), (0, .ref b), (1, .ref j1), (2, .ref j2), (4, .int j4)]) hx hb dL_law_146 rfl hl (by decide) rfl (fun ls hl => ?_)
        refine lv_iinc (v := (j4 + 1)) (lv' := [(4, .int (j4 + 1)), (3, .int (0 : Int32)), (6, .int x35), (5, .int x34), (0, .ref b), (1, .ref j1), (2, .ref j2)]) hx hb dL_law_147 hl (k := 6) rfl rfl (by decide) rfl (fun ls hl => ?_)
        refine lv_goto (tgt := 21) hx hb dL_law_150 (by decide) ?_
        exact ih V G j1 j2 (0 : Int32) (j4 + 1) _ _ _ hcf hW hS (lv_sub hl [4, 5, 6, 1, 0] rfl)
      · replace hcf := (if_neg q36).symm.trans hcf
        refine lv_aload_n hx hb dL_law_49 rfl (lv_at hl 3 rfl) ?_
        refine lv_iload hx hb dL_law_50 (lv_at hl 1 rfl) ?_
        refine lv_iconst (v := (3 : Int32)) hx hb dL_law_52 (by decide) ?_
        obtain ⟨x37, hx37, hcf⟩ := ob hcf
        refine iv_L_18 (As := [.int x34, .int (3 : Int32)]) (rest := [.ref j1]) hx hb hml hown hts hE (ct_L_up l D cy z n Y V G x34 (3 : Int32) x37 hx37) hW hS rfl rfl hl.1 (Nat.le_of_ble_eq_true rfl) ⟨Nat.le_of_ble_eq_true rfl, Nat.le_of_ble_eq_true rfl⟩ dL_law_53 ⟨Nat.le_of_ble_eq_true rfl, Nat.le_of_ble_eq_true rfl⟩ (fun H locs hW hS => ?_)
        refine lv_iload hx hb dL_law_56 (lv_at hl 1 rfl) ?_
        refine lv_iconst (v := (3 : Int32)) hx hb dL_law_58 (by decide) ?_
        refine lv_ishr hx hb dL_law_59 ?_
        refine lv_iconst (v := (3 : Int32)) hx hb dL_law_60 (by decide) ?_
        obtain ⟨x38, hx38, hcf⟩ := ob hcf
        refine iv_L_18 (As := [.int (x34 >>> ((3 : Int32) &&& 31)), .int (3 : Int32)]) (rest := [.int x37, .ref j1]) hx hb hml hown hts hE (ct_L_up l D cy z n Y V G (x34 >>> ((3 : Int32) &&& 31)) (3 : Int32) x38 hx38) hW hS rfl rfl hl.1 (Nat.le_of_ble_eq_true rfl) ⟨Nat.le_of_ble_eq_true rfl, Nat.le_of_ble_eq_true rfl⟩ dL_law_61 ⟨Nat.le_of_ble_eq_true rfl, Nat.le_of_ble_eq_true rfl⟩ (fun H locs hW hS => ?_)
        refine lv_iconst (v := (1 : Int32)) hx hb dL_law_64 (by decide) ?_
        refine lv_iload hx hb dL_law_65 (lv_at hl 1 rfl) ?_
        refine lv_bipush (v := (6 : Int32)) hx hb dL_law_67 (by decide) ?_
        refine lv_ishr hx hb dL_law_69 ?_
        refine lv_bipush (v := (12 : Int32)) hx hb dL_law_70 (by decide) ?_
        obtain ⟨x39, hx39, hcf⟩ := ob hcf
        refine iv_L_18 (As := [.int (x34 >>> ((6 : Int32) &&& 31)), .int (12 : Int32)]) (rest := [.int (1 : Int32), .int x38, .int x37, .ref j1]) hx hb hml hown hts hE (ct_L_up l D cy z n Y V G (x34 >>> ((6 : Int32) &&& 31)) (12 : Int32) x39 hx39) hW hS rfl rfl hl.1 (Nat.le_of_ble_eq_true rfl) ⟨Nat.le_of_ble_eq_true rfl, Nat.le_of_ble_eq_true rfl⟩ dL_law_72 ⟨Nat.le_of_ble_eq_true rfl, Nat.le_of_ble_eq_true rfl⟩ (fun H locs hW hS => ?_)
        refine lv_iadd hx hb dL_law_75 ?_
        refine lv_iconst (v := (1 : Int32)) hx hb dL_law_76 (by decide) ?_
        refine lv_iload hx hb dL_law_77 (lv_at hl 1 rfl) ?_
        refine lv_bipush (v := (12 : Int32)) hx hb dL_law_79 (by decide) ?_
        refine lv_ishr hx hb dL_law_81 ?_
        refine lv_iconst (v := (3 : Int32)) hx hb dL_law_82 (by decide) ?_
        obtain ⟨x40, hx40, hcf⟩ := ob hcf
        refine iv_L_18 (As := [.int (x34 >>> ((12 : Int32) &&& 31)), .int (3 : Int32)]) (rest := [.int (1 : Int32), .int ((1 : Int32) + x39), .int x38, .int x37, .ref j1]) hx hb hml hown hts hE (ct_L_up l D cy z n Y V G (x34 >>> ((12 : Int32) &&& 31)) (3 : Int32) x40 hx40) hW hS rfl rfl hl.1 (Nat.le_of_ble_eq_true rfl) ⟨Nat.le_of_ble_eq_true rfl, Nat.le_of_ble_eq_true rfl⟩ dL_law_83 ⟨Nat.le_of_ble_eq_true rfl, Nat.le_of_ble_eq_true rfl⟩ (fun H locs hW hS => ?_)
        refine lv_iadd hx hb dL_law_86 ?_
        obtain ⟨q41, hcf⟩ := og hcf
        obtain ⟨x42, hx42, hcf⟩ := ob hcf
        refine iv_L_96 (As := [.int x37, .int x38, .int ((1 : Int32) + x39), .int ((1 : Int32) + x40)]) (rest := []) hx hb hml hown hts hE (ct_X3_condition l D cy z n Y V G j1 x37 x38 ((1 : Int32) + x39) ((1 : Int32) + x40) x42 hx42) hW hS q41 rfl rfl hl.1 (Nat.le_of_ble_eq_true rfl) ⟨Nat.le_of_ble_eq_true rfl, Nat.le_of_ble_eq_true rfl⟩ dL_law_87 ⟨Nat.le_of_ble_eq_true rfl, Nat.le_of_ble_eq_true rfl⟩ (fun H locs hW hS => ?_)
        refine lv_iload hx hb dL_law_90 (lv_at hl 6 rfl) ?_
        refine lv_icmp_ne (tgt := 145) hx hb dL_law_92 (by decide) (fun q43 => ?_) (fun q43 => ?_)
        · replace hcf := (if_neg q43).symm.trans hcf
          refine lv_iconst (v := (0 : Int32)) hx hb dL_law_145 (by decide) ?_
          refine lv_istore_n (lv' := [(3, .int (0 : Int32)), (6, .int x35), (5, .int x34), (0, .ref b), (1, .ref j1), (2, .ref j2), (4, .int j4)]) hx hb dL_law_146 rfl hl (by decide) rfl (fun ls hl => ?_)
          refine lv_iinc (v := (j4 + 1)) (lv' := [(4, .int (j4 + 1)), (3, .int (0 : Int32)), (6, .int x35), (5, .int x34), (0, .ref b), (1, .ref j1), (2, .ref j2)]) hx hb dL_law_147 hl (k := 6) rfl rfl (by decide) rfl (fun ls hl => ?_)
          refine lv_goto (tgt := 21) hx hb dL_law_150 (by decide) ?_
          exact ih x42.2.1 x42.2.2 j1 j2 (0 : Int32) (j4 + 1) _ _ _ hcf hW hS (lv_sub hl [4, 5, 6, 1, 0] rfl)
        · replace hcf := (if_pos q43).symm.trans hcf
          refine lv_aload_n hx hb dL_law_95 rfl (lv_at hl 4 rfl) ?_
          refine lv_iload hx hb dL_law_96 (lv_at hl 0 rfl) ?_
          refine lv_iconst (v := (3 : Int32)) hx hb dL_law_98 (by decide) ?_
          obtain ⟨x44, hx44, hcf⟩ := ob hcf
          refine iv_L_18 (As := [.int x35, .int (3 : Int32)]) (rest := [.ref j2]) hx hb hml hown hts hE (ct_L_up l D cy z n Y x42.2.1 x42.2.2 x35 (3 : Int32) x44 hx44) hW hS rfl rfl hl.1 (Nat.le_of_ble_eq_true rfl) ⟨Nat.le_of_ble_eq_true rfl, Nat.le_of_ble_eq_true rfl⟩ dL_law_99 ⟨Nat.le_of_ble_eq_true rfl, Nat.le_of_ble_eq_true rfl⟩ (fun H locs hW hS => ?_)
          refine lv_iload hx hb dL_law_102 (lv_at hl 0 rfl) ?_
          refine lv_iconst (v := (3 : Int32)) hx hb dL_law_104 (by decide) ?_
          refine lv_ishr hx hb dL_law_105 ?_
          refine lv_iconst (v := (3 : Int32)) hx hb dL_law_106 (by decide) ?_
          obtain ⟨x45, hx45, hcf⟩ := ob hcf
          refine iv_L_18 (As := [.int (x35 >>> ((3 : Int32) &&& 31)), .int (3 : Int32)]) (rest := [.int x44, .ref j2]) hx hb hml hown hts hE (ct_L_up l D cy z n Y x42.2.1 x42.2.2 (x35 >>> ((3 : Int32) &&& 31)) (3 : Int32) x45 hx45) hW hS rfl rfl hl.1 (Nat.le_of_ble_eq_true rfl) ⟨Nat.le_of_ble_eq_true rfl, Nat.le_of_ble_eq_true rfl⟩ dL_law_107 ⟨Nat.le_of_ble_eq_true rfl, Nat.le_of_ble_eq_true rfl⟩ (fun H locs hW hS => ?_)
          refine lv_iconst (v := (1 : Int32)) hx hb dL_law_110 (by decide) ?_
          refine lv_iload hx hb dL_law_111 (lv_at hl 0 rfl) ?_
          refine lv_bipush (v := (6 : Int32)) hx hb dL_law_113 (by decide) ?_
          refine lv_ishr hx hb dL_law_115 ?_
          refine lv_bipush (v := (12 : Int32)) hx hb dL_law_116 (by decide) ?_
          obtain ⟨x46, hx46, hcf⟩ := ob hcf
          refine iv_L_18 (As := [.int (x35 >>> ((6 : Int32) &&& 31)), .int (12 : Int32)]) (rest := [.int (1 : Int32), .int x45, .int x44, .ref j2]) hx hb hml hown hts hE (ct_L_up l D cy z n Y x42.2.1 x42.2.2 (x35 >>> ((6 : Int32) &&& 31)) (12 : Int32) x46 hx46) hW hS rfl rfl hl.1 (Nat.le_of_ble_eq_true rfl) ⟨Nat.le_of_ble_eq_true rfl, Nat.le_of_ble_eq_true rfl⟩ dL_law_118 ⟨Nat.le_of_ble_eq_true rfl, Nat.le_of_ble_eq_true rfl⟩ (fun H locs hW hS => ?_)
          refine lv_iadd hx hb dL_law_121 ?_
          refine lv_iconst (v := (1 : Int32)) hx hb dL_law_122 (by decide) ?_
          refine lv_iload hx hb dL_law_123 (lv_at hl 0 rfl) ?_
          refine lv_bipush (v := (12 : Int32)) hx hb dL_law_125 (by decide) ?_
          refine lv_ishr hx hb dL_law_127 ?_
          refine lv_iconst (v := (3 : Int32)) hx hb dL_law_128 (by decide) ?_
          obtain ⟨x47, hx47, hcf⟩ := ob hcf
          refine iv_L_18 (As := [.int (x35 >>> ((12 : Int32) &&& 31)), .int (3 : Int32)]) (rest := [.int (1 : Int32), .int ((1 : Int32) + x46), .int x45, .int x44, .ref j2]) hx hb hml hown hts hE (ct_L_up l D cy z n Y x42.2.1 x42.2.2 (x35 >>> ((12 : Int32) &&& 31)) (3 : Int32) x47 hx47) hW hS rfl rfl hl.1 (Nat.le_of_ble_eq_true rfl) ⟨Nat.le_of_ble_eq_true rfl, Nat.le_of_ble_eq_true rfl⟩ dL_law_129 ⟨Nat.le_of_ble_eq_true rfl, Nat.le_of_ble_eq_true rfl⟩ (fun H locs hW hS => ?_)
          refine lv_iadd hx hb dL_law_132 ?_
          obtain ⟨q48, hcf⟩ := og hcf
          obtain ⟨x49, hx49, hcf⟩ := ob hcf
          refine iv_L_96 (As := [.int x44, .int x45, .int ((1 : Int32) + x46), .int ((1 : Int32) + x47)]) (rest := []) hx hb hml hown hts hE (ct_X3_condition l D cy z n Y x42.2.1 x42.2.2 j2 x44 x45 ((1 : Int32) + x46) ((1 : Int32) + x47) x49 hx49) hW hS q48 rfl rfl hl.1 (Nat.le_of_ble_eq_true rfl) ⟨Nat.le_of_ble_eq_true rfl, Nat.le_of_ble_eq_true rfl⟩ dL_law_133 ⟨Nat.le_of_ble_eq_true rfl, Nat.le_of_ble_eq_true rfl⟩ (fun H locs hW hS => ?_)
          refine lv_iload hx hb dL_law_136 (lv_at hl 6 rfl) ?_
          refine lv_icmp_ne (tgt := 145) hx hb dL_law_138 (by decide) (fun q50 => ?_) (fun q50 => ?_)
          · replace hcf := (if_neg q50).symm.trans hcf
            refine lv_iconst (v := (0 : Int32)) hx hb dL_law_145 (by decide) ?_
            refine lv_istore_n (lv' := [(3, .int (0 : Int32)), (6, .int x35), (5, .int x34), (0, .ref b), (1, .ref j1), (2, .ref j2), (4, .int j4)]) hx hb dL_law_146 rfl hl (by decide) rfl (fun ls hl => ?_)
            refine lv_iinc (v := (j4 + 1)) (lv' := [(4, .int (j4 + 1)), (3, .int (0 : Int32)), (6, .int x35), (5, .int x34), (0, .ref b), (1, .ref j1), (2, .ref j2)]) hx hb dL_law_147 hl (k := 6) rfl rfl (by decide) rfl (fun ls hl => ?_)
            refine lv_goto (tgt := 21) hx hb dL_law_150 (by decide) ?_
            exact ih x49.2.1 x49.2.2 j1 j2 (0 : Int32) (j4 + 1) _ _ _ hcf hW hS (lv_sub hl [4, 5, 6, 1, 0] rfl)
          · replace hcf := (if_pos q50).symm.trans hcf
            refine lv_iconst (v := (1 : Int32)) hx hb dL_law_141 (by decide) ?_
            refine lv_goto (tgt := 146) hx hb dL_law_142 (by decide) ?_
            refine lv_istore_n (lv' := [(3, .int (1 : Int32)), (6, .int x35), (5, .int x34), (0, .ref b), (1, .ref j1), (2, .ref j2), (4, .int j4)]) hx hb dL_law_146 rfl hl (by decide) rfl (fun ls hl => ?_)
            refine lv_iinc (v := (j4 + 1)) (lv' := [(4, .int (j4 + 1)), (3, .int (1 : Int32)), (6, .int x35), (5, .int x34), (0, .ref b), (1, .ref j1), (2, .ref j2)]) hx hb dL_law_147 hl (k := 6) rfl rfl (by decide) rfl (fun ls hl => ?_)
            refine lv_goto (tgt := 21) hx hb dL_law_150 (by decide) ?_
            exact ih x49.2.1 x49.2.2 j1 j2 (1 : Int32) (j4 + 1) _ _ _ hcf hW hS (lv_sub hl [4, 5, 6, 1, 0] rfl)
set_option maxHeartbeats 4000000 in
set_option maxRecDepth 100000 in
theorem law_walk {p : Program} {l : Launch} {e : Env} {s : State} {m : MethodId} {below : List Frame} {meth : Method} {c : Code} {D : va_G} {cy : Nat → ClassId} {z n b L : Nat} {xs : Nat → Int32} {Y : mY} {V : mV} {G : mG} (hx : p.tables.exec = Jvm.exec) (hb : c.code = cL_law) (hr : meth.sig.returnType = ret) (hml : c.maxLocals = 7) (hown : s.vm.findClass RL = some m.cls) (hts : ∀ w ∈ lw_all, w.before #[Value.ref b] s = true) (hlocks : meth.locks = false) (hE : En D cy s) (hX : va_X b L xs s s.heap) (hbl : b < s.heap.size) (hbA : ¬ zA z b) (hzs : s.heap.size ≤ z) (hz : z ≤ s.heap.size) (hd0 : s.drawn.sameBut s.drawn lw_cs) (hcf : cf_L_law L xs n Y V G = some 1) (hW : Wd Y cy D z n V G s.heap) {ls : Array Slot} (hl : lv_has ls 7 [(0, .ref b)]) : W p l e room_1 s m #[Value.ref b] below meth c s.heap [] 0 0 (lw_Z below #[Value.ref b] s) (F0 m 0 ls []) := by
  have hS : va_S (zA z) s.heap s.heap [] := va_S.rf
  rw [cf_L_law] at hcf
  obtain ⟨q1, hcf⟩ := og hcf
  refine wk_new hx hb hts hown hE hW hz hS (C := RX3) (T := TX3) (N := 6) (ci := 3) rfl inX3 tyX3 tyX3_ok q44 q45 q38 (by decide) hfX3 dL_law_0 (by show 0 + 1 ≤ 600000; omega) (by show 600 * 0 + 6 ≤ 7302250; omega) (fun H hW hS => ?_)
  refine W.widen (k := 0 + 1) (n := 600 * (0 + 1)) (Nat.le_refl _) (by omega) ?_
  refine lv_dup hx hb dL_law_3 rfl ?_
  obtain ⟨q2, hcf⟩ := og hcf
  obtain ⟨x3, hx3, hcf⟩ := ob hcf
  have hzn : z ≤ (n + 1) := by have := hS.1; have := hW.1; omega
  refine iv_L_91 (As := []) (rest := [.ref n]) hx hb hml hown hts hE (ct_X3_init l D cy z (n + 1) (va_up Y.1 n 3, Y.2) (va_up V n (fun _ => 0)) (va_up G n (fun _ => none)) n x3 hx3 hzn) hW hS rfl rfl hl.1 (Nat.le_of_ble_eq_true rfl) ⟨Nat.le_of_ble_eq_true rfl, Nat.le_of_ble_eq_true rfl⟩ dL_law_4 ⟨by show (0 + 1) + 102 ≤ 600000; omega, by show 600 * (0 + 1) + 61200 ≤ 7302250; omega⟩ (fun H locs hW hS => ?_)
  refine W.widen (k := (0 + 1) + 102) (n := 600 * ((0 + 1) + 102)) (Nat.le_refl _) (by show 600 * (0 + 1) + 61200 ≤ _; omega) ?_
  refine lv_astore_n (lv' := [(1, .ref n), (0, .ref b)]) hx hb dL_law_7 rfl hl (by decide) rfl (fun ls hl => ?_)
  obtain ⟨q4, hcf⟩ := og hcf
  refine wk_new hx hb hts hown hE hW hz hS (C := RX3) (T := TX3) (N := 6) (ci := 3) rfl inX3 tyX3 tyX3_ok q44 q45 q38 (by decide) hfX3 dL_law_8 (by show ((0 + 1) + 102) + 1 ≤ 600000; omega) (by show 600 * ((0 + 1) + 102) + 6 ≤ 7302250; omega) (fun H hW hS => ?_)
  refine W.widen (k := ((0 + 1) + 102) + 1) (n := 600 * (((0 + 1) + 102) + 1)) (Nat.le_refl _) (by omega) ?_
  refine lv_dup hx hb dL_law_11 rfl ?_
  obtain ⟨q5, hcf⟩ := og hcf
  obtain ⟨x6, hx6, hcf⟩ := ob hcf
  have hzn : z ≤ (x3.1 + 1) := by have := hS.1; have := hW.1; omega
  refine iv_L_91 (As := []) (rest := [.ref x3.1]) hx hb hml hown hts hE (ct_X3_init l D cy z (x3.1 + 1) (va_up x3.2.1.1 x3.1 3, x3.2.1.2) (va_up x3.2.2.1 x3.1 (fun _ => 0)) (va_up x3.2.2.2 x3.1 (fun _ => none)) x3.1 x6 hx6 hzn) hW hS rfl rfl hl.1 (Nat.le_of_ble_eq_true rfl) ⟨Nat.le_of_ble_eq_true rfl, Nat.le_of_ble_eq_true rfl⟩ dL_law_12 ⟨by show (((0 + 1) + 102) + 1) + 102 ≤ 600000; omega, by show 600 * (((0 + 1) + 102) + 1) + 61200 ≤ 7302250; omega⟩ (fun H locs hW hS => ?_)
  refine W.widen (k := (((0 + 1) + 102) + 1) + 102) (n := 600 * ((((0 + 1) + 102) + 1) + 102)) (Nat.le_refl _) (by show 600 * (((0 + 1) + 102) + 1) + 61200 ≤ _; omega) ?_
  refine lv_astore_n (lv' := [(2, .ref x3.1), (1, .ref n), (0, .ref b)]) hx hb dL_law_15 rfl hl (by decide) rfl (fun ls hl => ?_)
  refine lv_iconst (v := (1 : Int32)) hx hb dL_law_16 (by decide) ?_
  refine lv_istore_n (lv' := [(3, .int (1 : Int32)), (2, .ref x3.1), (1, .ref n), (0, .ref b)]) hx hb dL_law_17 rfl hl (by decide) rfl (fun ls hl => ?_)
  refine lv_iconst (v := (0 : Int32)) hx hb dL_law_18 (by decide) ?_
  refine lv_istore (lv' := [(4, .int (0 : Int32)), (3, .int (1 : Int32)), (2, .ref x3.1), (1, .ref n), (0, .ref b)]) hx hb dL_law_19 hl (by decide) rfl (fun ls hl => ?_)
  refine W.widen (k := 210) (n := 126000) (by decide) (by decide) ?_
  exact wl_L_law_21 hx hb hr hml hown hts hlocks hE hX hbl hbA hzs hd0 fuB x6.2.2.1 x6.2.2.2 n x3.1 (1 : Int32) (0 : Int32) _ _ _ hcf hW hS (lv_sub hl [4, 3, 2, 1, 0] rfl)
