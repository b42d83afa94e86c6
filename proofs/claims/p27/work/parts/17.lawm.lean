def cf_L_cell (L : Nat) (xs : Nat → Int32) (b1 : Int32) : Option (Int32) := if (Int32.ofNat L) ≤ b1 then (some ((461845907 : Int32) * (b1 + (829 : Int32)))) else (if ¬ (b1 < 0 ∨ L ≤ b1.toNatClampNeg) then some (xs b1.toNatClampNeg) else none)
def cf_L_up (b1 : Int32) (b2 : Int32) : Option (Int32) := if ¬ b2 = 0 then some ((b1 &&& (2147483647 : Int32)) - (b1 &&& (2147483647 : Int32)) / b2 * b2) else none
def cf_L_there (Y : mY) (V : mV) (G : mG) (b1 : Nat) (b2 : Int32) : Option (Int32) := if Y.1 b1 = 3 then (cf_X3_count Y V G b1 (0 : Int32)).bind (fun x2 => some ((x2 - (1 : Int32)) - b2)) else none
def lp_L_turned_4  : Nat → Int32 → Int32 → Int32 → Int32 → Option (Int32)
  | 0, _, _, _, _ => none
  | k + 1, j0, j1, j2, j3 => if j1 ≤ j3 then (if 0 ≤ j0 then (some j2) else (some j0)) else (if 0 ≤ j0 then (lp_L_turned_4 k j0 j1 (j2 ||| (((j0 >>> (j3 &&& 31)) &&& (1 : Int32)) <<< (((j1 - (1 : Int32)) - j3) &&& 31))) (j3 + 1)) else (lp_L_turned_4 k j0 j1 (j2 ||| (0 : Int32)) (j3 + 1)))
def cf_L_turned (b1 : Int32) (b2 : Int32) : Option (Int32) := lp_L_turned_4 fuB b1 b2 (0 : Int32) (0 : Int32)
def lp_L_passes_12 (Y : mY) : Nat → mV → mG → Nat → Nat → Int32 → Int32 → Int32 → Int32 → Option (Int32 × mV × mG)
  | 0, _, _, _, _, _, _, _, _ => none
  | k + 1, V, G, j0, j1, j2, j3, j4, j5 => if j2 ≤ j5 then (if j4 = 0 then (some ((0 : Int32), V, G)) else (if Y.1 j0 = 3 then (cf_X3_count Y V G j0 (1 : Int32)).bind (fun x6 => if j3 = x6 then (if Y.1 j1 = 3 then (cf_X3_count Y V G j1 (1 : Int32)).bind (fun x9 => if j3 = x9 then (some ((1 : Int32), V, G)) else (some ((0 : Int32), V, G))) else none) else (some ((0 : Int32), V, G))) else none)) else (if j4 = 0 then (lp_L_passes_12 Y k V G j0 j1 j2 j3 (0 : Int32) (j5 + 1)) else (if Y.1 j1 = 3 then (cf_X3_pass Y V G j1 (1 : Int32)).bind (fun x13 => if x13.1 ≤ 0 then (lp_L_passes_12 Y k x13.2.1 x13.2.2 j0 j1 j2 j3 (0 : Int32) (j5 + 1)) else (lp_L_passes_12 Y k x13.2.1 x13.2.2 j0 j1 j2 j3 (1 : Int32) (j5 + 1))) else none))
def cf_L_passes (Y : mY) (V : mV) (G : mG) (b1 : Nat) (b2 : Nat) (b3 : Int32) : Option (Int32 × mV × mG) := if Y.1 b1 = 3 then (cf_X3_pass Y V G b1 b3).bind (fun x2 => lp_L_passes_12 Y fuB x2.2.1 x2.2.2 b1 b2 b3 x2.1 (1 : Int32) (0 : Int32)) else none
def cf_L_isStep (Y : mY) (V : mV) (G : mG) (b1 : Nat) (b2 : Nat) (b3 : Int32) : Option (Int32 × mV × mG) := if Y.1 b1 = 3 then (cf_X3_count Y V G b1 (0 : Int32)).bind (fun x2 => (cf_L_up (b3 >>> ((4 : Int32) &&& 31)) x2).bind (fun x3 => (cf_L_there Y V G b1 x3).bind (fun x4 => (cf_L_up ((b3 >>> ((4 : Int32) &&& 31)) >>> ((4 : Int32) &&& 31)) (8 : Int32)).bind (fun x5 => (cf_L_up b3 (12 : Int32)).bind (fun x6 => if x6 = (0 : Int32) then ((cf_L_up (b3 >>> ((4 : Int32) &&& 31)) (3 : Int32)).bind (fun x8 => (cf_X3_begin Y V G b1 x8).bind (fun x9 => if Y.1 b2 = 3 then (cf_X3_begin Y x9.2.1 x9.2.2 b2 x8).bind (fun x11 => (cf_L_turned x11.1 x2).bind (fun x12 => if x9.1 = x12 then (some ((1 : Int32), x11.2.1, x11.2.2)) else (some ((0 : Int32), x11.2.1, x11.2.2)))) else none))) else (if x6 = (1 : Int32) then ((cf_L_up (b3 >>> ((4 : Int32) &&& 31)) (3 : Int32)).bind (fun x15 => (cf_X3_finish Y V G b1 x15).bind (fun x16 => if Y.1 b2 = 3 then (cf_X3_finish Y x16.2.1 x16.2.2 b2 x15).bind (fun x18 => if x16.1 = x18.1 then (some ((1 : Int32), x18.2.1, x18.2.2)) else (some ((0 : Int32), x18.2.1, x18.2.2))) else none))) else (if x6 = (2 : Int32) then ((cf_X3_apply Y V G b1 x3 x5).bind (fun x21 => if Y.1 b2 = 3 then (cf_X3_apply Y x21.2.1 x21.2.2 b2 x4 x5).bind (fun x23 => if x21.1 = x23.1 then (some ((1 : Int32), x23.2.1, x23.2.2)) else (some ((0 : Int32), x23.2.1, x23.2.2))) else none)) else (if x6 = (3 : Int32) then ((cf_X3_apply Y V G b1 x3 x5).bind (fun x26 => if Y.1 b2 = 3 then (cf_X3_apply Y x26.2.1 x26.2.2 b2 x4 x5).bind (fun x28 => if x26.1 = x28.1 then (some ((1 : Int32), x28.2.1, x28.2.2)) else (some ((0 : Int32), x28.2.1, x28.2.2))) else none)) else (if x6 = (4 : Int32) then ((cf_X3_decide Y V G b1 x3 x5).bind (fun x31 => if Y.1 b2 = 3 then (cf_X3_decide Y x31.2.1 x31.2.2 b2 x4 x5).bind (fun x33 => if x31.1 = x33.1 then (some ((1 : Int32), x33.2.1, x33.2.2)) else (some ((0 : Int32), x33.2.1, x33.2.2))) else none)) else (if x6 = (5 : Int32) then ((cf_X3_lapse Y V G b1 x3).bind (fun x36 => if Y.1 b2 = 3 then (cf_X3_lapse Y x36.2.1 x36.2.2 b2 x4).bind (fun x38 => if x36.1 = x38.1 then (some ((1 : Int32), x38.2.1, x38.2.2)) else (some ((0 : Int32), x38.2.1, x38.2.2))) else none)) else (if x6 = (6 : Int32) then ((cf_X3_cure Y V G b1 x3).bind (fun x41 => if Y.1 b2 = 3 then (cf_X3_cure Y x41.2.1 x41.2.2 b2 x4).bind (fun x43 => if x41.1 = x43.1 then (some ((1 : Int32), x43.2.1, x43.2.2)) else (some ((0 : Int32), x43.2.1, x43.2.2))) else none)) else (if x6 = (7 : Int32) then ((cf_L_up ((b3 >>> ((4 : Int32) &&& 31)) >>> ((4 : Int32) &&& 31)) (9 : Int32)).bind (fun x46 => (cf_X3_serve Y V G b1 x3 ((1 : Int32) + x46)).bind (fun x47 => (cf_L_up ((b3 >>> ((4 : Int32) &&& 31)) >>> ((4 : Int32) &&& 31)) (9 : Int32)).bind (fun x48 => if Y.1 b2 = 3 then (cf_X3_serve Y x47.2.1 x47.2.2 b2 x4 ((1 : Int32) + x48)).bind (fun x50 => if x47.1 = x50.1 then (some ((1 : Int32), x50.2.1, x50.2.2)) else (some ((0 : Int32), x50.2.1, x50.2.2))) else none)))) else (if x6 = (8 : Int32) then ((cf_L_up ((b3 >>> ((4 : Int32) &&& 31)) >>> ((3 : Int32) &&& 31)) (3 : Int32)).bind (fun x53 => (cf_L_up ((b3 >>> ((4 : Int32) &&& 31)) >>> ((5 : Int32) &&& 31)) (12 : Int32)).bind (fun x54 => (cf_X3_vary Y V G b1 x3 x53 x54).bind (fun x55 => (cf_L_up ((b3 >>> ((4 : Int32) &&& 31)) >>> ((3 : Int32) &&& 31)) (3 : Int32)).bind (fun x56 => (cf_L_up ((b3 >>> ((4 : Int32) &&& 31)) >>> ((5 : Int32) &&& 31)) (12 : Int32)).bind (fun x57 => if Y.1 b2 = 3 then (cf_X3_vary Y x55.2.1 x55.2.2 b2 x4 x56 x57).bind (fun x59 => if x55.1 = x59.1 then (some ((1 : Int32), x59.2.1, x59.2.2)) else (some ((0 : Int32), x59.2.1, x59.2.2))) else none)))))) else (if x6 = (9 : Int32) then ((cf_L_up (b3 >>> ((4 : Int32) &&& 31)) (2 : Int32)).bind (fun x62 => (cf_L_up ((b3 >>> ((4 : Int32) &&& 31)) >>> ((3 : Int32) &&& 31)) (20 : Int32)).bind (fun x63 => (cf_X3_set Y V G b1 x62 ((1 : Int32) + x63)).bind (fun x64 => (cf_L_up ((b3 >>> ((4 : Int32) &&& 31)) >>> ((3 : Int32) &&& 31)) (20 : Int32)).bind (fun x65 => if Y.1 b2 = 3 then (cf_X3_set Y x64.2.1 x64.2.2 b2 x62 ((1 : Int32) + x65)).bind (fun x67 => if x64.1 = x67.1 then (some ((1 : Int32), x67.2.1, x67.2.2)) else (some ((0 : Int32), x67.2.1, x67.2.2))) else none))))) else ((cf_L_up (b3 >>> ((4 : Int32) &&& 31)) (6 : Int32)).bind (fun x69 => (cf_L_passes Y V G b1 b2 ((1 : Int32) + x69)).bind (fun x70 => if x70.1 = 0 ∨ x70.1 = 1 then some (x70.1, x70.2.1, x70.2.2) else none))))))))))))))))) else none
def lp_L_areAlike_166 (Y : mY) (G : mG) : Nat → mV → Nat → Nat → Int32 → Int32 → Int32 → Int32 → Int32 → Option (mV × Int32 × Int32 × Int32 × Int32 × Int32)
  | 0, _, _, _, _, _, _, _, _ => none
  | k + 1, V, j0, j1, j2, j3, j4, j5, j6 => if (12 : Int32) ≤ j6 then (some (V, j2, j3, j4, j5, j6)) else (if j3 = 0 then (lp_L_areAlike_166 Y G k V j0 j1 j2 (0 : Int32) j4 j5 (j6 + 1)) else (if Y.1 j0 = 3 then (cf_X3_conditionOf Y V G j0 j5 j6).bind (fun x15 => (cf_L_there Y V G j0 j5).bind (fun x16 => if Y.1 j1 = 3 then (cf_X3_conditionOf Y V G j1 x16 j6).bind (fun x18 => if x15 = x18 then (lp_L_areAlike_166 Y G k V j0 j1 j2 (1 : Int32) j4 j5 (j6 + 1)) else (lp_L_areAlike_166 Y G k V j0 j1 j2 (0 : Int32) j4 j5 (j6 + 1))) else none)) else none))
def lp_L_areAlike_157 (Y : mY) (G : mG) : Nat → mV → Nat → Nat → Int32 → Int32 → Int32 → Int32 → Option (Int32 × mV)
  | 0, _, _, _, _, _, _, _ => none
  | k + 1, V, j0, j1, j2, j3, j4, j5 => if j2 ≤ j5 then (if j3 = 0 ∨ j3 = 1 then some (j3, V) else none) else ((lp_L_areAlike_166 Y G fuB V j0 j1 j2 j3 j4 j5 (0 : Int32)).bind (fun x20 => if Y.1 j0 = 3 then (cf_X3_conditionOf Y x20.1 G j0 x20.2.2.2.2.1 (4 : Int32)).bind (fun x22 => (cf_X3_conditionOf Y x20.1 G j0 x20.2.2.2.2.1 (5 : Int32)).bind (fun x23 => (cf_X3_conditionOf Y x20.1 G j0 x20.2.2.2.2.1 (3 : Int32)).bind (fun x24 => if x23 = (((1 : Int32) <<< (x24 &&& 31)) - (1 : Int32)) then (if x20.2.2.1 = 0 then (lp_L_areAlike_157 Y G k x20.1 j0 j1 x20.2.1 (0 : Int32) x20.2.2.2.1 (x20.2.2.2.2.1 + 1)) else ((cf_X3_conditionOf Y x20.1 G j0 x20.2.2.2.2.1 (5 : Int32)).bind (fun x95 => (cf_X3_conditionOf Y x20.1 G j0 x20.2.2.2.2.1 (6 : Int32)).bind (fun x96 => if (x95 &&& x96) = 0 then (if x22 = (3 : Int32) then ((cf_X3_conditionOf Y x20.1 G j0 x20.2.2.2.2.1 (9 : Int32)).bind (fun x130 => if x130 < 0 then (lp_L_areAlike_157 Y G k x20.1 j0 j1 x20.2.1 (0 : Int32) x20.2.2.2.1 (x20.2.2.2.2.1 + 1)) else ((cf_X3_when Y x20.1 G j0 x20.2.2.2.2.1 x22).bind (fun x135 => if x135.1 = 0 then ((cf_X3_conditionOf Y x135.2 G j0 x20.2.2.2.2.1 (0 : Int32)).bind (fun x138 => if x138 = (2 : Int32) then ((cf_X3_fine Y x135.2 G j0 x20.2.2.2.2.1 (3 : Int64)).bind (fun x141 => (cf_X3_conditionOf Y x135.2 G j0 x20.2.2.2.2.1 (11 : Int32)).bind (fun x142 => (cf_X3_conditionOf Y x135.2 G j0 x20.2.2.2.2.1 (11 : Int32)).bind (fun x143 => if (lg_cmp x141 (((3 : Int64) * (x142).toInt64) * (x143).toInt64)) = 0 then (lp_L_areAlike_157 Y G k x135.2 j0 j1 x20.2.1 (1 : Int32) x20.2.2.2.1 (x20.2.2.2.2.1 + 1)) else (lp_L_areAlike_157 Y G k x135.2 j0 j1 x20.2.1 (0 : Int32) x20.2.2.2.1 (x20.2.2.2.2.1 + 1)))))) else (if x22 = (4 : Int32) then ((cf_X3_fine Y x135.2 G j0 x20.2.2.2.2.1 (3 : Int64)).bind (fun x147 => (cf_X3_conditionOf Y x135.2 G j0 x20.2.2.2.2.1 (11 : Int32)).bind (fun x148 => (cf_X3_conditionOf Y x135.2 G j0 x20.2.2.2.2.1 (11 : Int32)).bind (fun x149 => if (lg_cmp x147 (((3 : Int64) * (x148).toInt64) * (x149).toInt64)) = 0 then (lp_L_areAlike_157 Y G k x135.2 j0 j1 x20.2.1 (1 : Int32) x20.2.2.2.1 (x20.2.2.2.2.1 + 1)) else (lp_L_areAlike_157 Y G k x135.2 j0 j1 x20.2.1 (0 : Int32) x20.2.2.2.1 (x20.2.2.2.2.1 + 1)))))) else (if x22 = (2 : Int32) then ((cf_X3_fine Y x135.2 G j0 x20.2.2.2.2.1 (3 : Int64)).bind (fun x156 => (cf_X3_conditionOf Y x135.2 G j0 x20.2.2.2.2.1 (11 : Int32)).bind (fun x157 => (cf_X3_conditionOf Y x135.2 G j0 x20.2.2.2.2.1 (11 : Int32)).bind (fun x158 => if (lg_cmp x156 (((3 : Int64) * (x157).toInt64) * (x158).toInt64)) = 0 then (lp_L_areAlike_157 Y G k x135.2 j0 j1 x20.2.1 (1 : Int32) x20.2.2.2.1 (x20.2.2.2.2.1 + 1)) else (lp_L_areAlike_157 Y G k x135.2 j0 j1 x20.2.1 (0 : Int32) x20.2.2.2.1 (x20.2.2.2.2.1 + 1)))))) else (lp_L_areAlike_157 Y G k x135.2 j0 j1 x20.2.1 (0 : Int32) x20.2.2.2.1 (x20.2.2.2.2.1 + 1)))))) else (lp_L_areAlike_157 Y G k x135.2 j0 j1 x20.2.1 (0 : Int32) x20.2.2.2.1 (x20.2.2.2.2.1 + 1)))))) else ((cf_X3_conditionOf Y x20.1 G j0 x20.2.2.2.2.1 (9 : Int32)).bind (fun x100 => if x100 < 0 then ((cf_X3_when Y x20.1 G j0 x20.2.2.2.2.1 x22).bind (fun x103 => if x103.1 = 0 then ((cf_X3_conditionOf Y x103.2 G j0 x20.2.2.2.2.1 (0 : Int32)).bind (fun x106 => if x106 = (2 : Int32) then ((cf_X3_fine Y x103.2 G j0 x20.2.2.2.2.1 (3 : Int64)).bind (fun x109 => (cf_X3_conditionOf Y x103.2 G j0 x20.2.2.2.2.1 (11 : Int32)).bind (fun x110 => (cf_X3_conditionOf Y x103.2 G j0 x20.2.2.2.2.1 (11 : Int32)).bind (fun x111 => if (lg_cmp x109 (((3 : Int64) * (x110).toInt64) * (x111).toInt64)) = 0 then (lp_L_areAlike_157 Y G k x103.2 j0 j1 x20.2.1 (1 : Int32) x20.2.2.2.1 (x20.2.2.2.2.1 + 1)) else (lp_L_areAlike_157 Y G k x103.2 j0 j1 x20.2.1 (0 : Int32) x20.2.2.2.1 (x20.2.2.2.2.1 + 1)))))) else (if x22 = (4 : Int32) then ((cf_X3_fine Y x103.2 G j0 x20.2.2.2.2.1 (3 : Int64)).bind (fun x115 => (cf_X3_conditionOf Y x103.2 G j0 x20.2.2.2.2.1 (11 : Int32)).bind (fun x116 => (cf_X3_conditionOf Y x103.2 G j0 x20.2.2.2.2.1 (11 : Int32)).bind (fun x117 => if (lg_cmp x115 (((3 : Int64) * (x116).toInt64) * (x117).toInt64)) = 0 then (lp_L_areAlike_157 Y G k x103.2 j0 j1 x20.2.1 (1 : Int32) x20.2.2.2.1 (x20.2.2.2.2.1 + 1)) else (lp_L_areAlike_157 Y G k x103.2 j0 j1 x20.2.1 (0 : Int32) x20.2.2.2.1 (x20.2.2.2.2.1 + 1)))))) else (if x22 = (2 : Int32) then ((cf_X3_fine Y x103.2 G j0 x20.2.2.2.2.1 (3 : Int64)).bind (fun x124 => (cf_X3_conditionOf Y x103.2 G j0 x20.2.2.2.2.1 (11 : Int32)).bind (fun x125 => (cf_X3_conditionOf Y x103.2 G j0 x20.2.2.2.2.1 (11 : Int32)).bind (fun x126 => if (lg_cmp x124 (((3 : Int64) * (x125).toInt64) * (x126).toInt64)) = 0 then (lp_L_areAlike_157 Y G k x103.2 j0 j1 x20.2.1 (1 : Int32) x20.2.2.2.1 (x20.2.2.2.2.1 + 1)) else (lp_L_areAlike_157 Y G k x103.2 j0 j1 x20.2.1 (0 : Int32) x20.2.2.2.1 (x20.2.2.2.2.1 + 1)))))) else (lp_L_areAlike_157 Y G k x103.2 j0 j1 x20.2.1 (0 : Int32) x20.2.2.2.1 (x20.2.2.2.2.1 + 1)))))) else (lp_L_areAlike_157 Y G k x103.2 j0 j1 x20.2.1 (0 : Int32) x20.2.2.2.1 (x20.2.2.2.2.1 + 1)))) else (lp_L_areAlike_157 Y G k x20.1 j0 j1 x20.2.1 (0 : Int32) x20.2.2.2.1 (x20.2.2.2.2.1 + 1))))) else (lp_L_areAlike_157 Y G k x20.1 j0 j1 x20.2.1 (0 : Int32) x20.2.2.2.1 (x20.2.2.2.2.1 + 1)))))) else (if x20.2.2.1 = 0 then (lp_L_areAlike_157 Y G k x20.1 j0 j1 x20.2.1 (0 : Int32) x20.2.2.2.1 (x20.2.2.2.2.1 + 1)) else ((cf_X3_conditionOf Y x20.1 G j0 x20.2.2.2.2.1 (5 : Int32)).bind (fun x28 => (cf_X3_conditionOf Y x20.1 G j0 x20.2.2.2.2.1 (6 : Int32)).bind (fun x29 => if (x28 &&& x29) = 0 then (if x22 = (3 : Int32) then ((cf_X3_conditionOf Y x20.1 G j0 x20.2.2.2.2.1 (9 : Int32)).bind (fun x63 => if x63 < 0 then (lp_L_areAlike_157 Y G k x20.1 j0 j1 x20.2.1 (0 : Int32) x20.2.2.2.1 (x20.2.2.2.2.1 + 1)) else ((cf_X3_when Y x20.1 G j0 x20.2.2.2.2.1 x22).bind (fun x68 => if x68.1 = 0 then ((cf_X3_conditionOf Y x68.2 G j0 x20.2.2.2.2.1 (0 : Int32)).bind (fun x71 => if x71 = (2 : Int32) then ((cf_X3_fine Y x68.2 G j0 x20.2.2.2.2.1 (3 : Int64)).bind (fun x74 => (cf_X3_conditionOf Y x68.2 G j0 x20.2.2.2.2.1 (11 : Int32)).bind (fun x75 => (cf_X3_conditionOf Y x68.2 G j0 x20.2.2.2.2.1 (11 : Int32)).bind (fun x76 => if (lg_cmp x74 (((3 : Int64) * (x75).toInt64) * (x76).toInt64)) = 0 then (lp_L_areAlike_157 Y G k x68.2 j0 j1 x20.2.1 (1 : Int32) x20.2.2.2.1 (x20.2.2.2.2.1 + 1)) else (lp_L_areAlike_157 Y G k x68.2 j0 j1 x20.2.1 (0 : Int32) x20.2.2.2.1 (x20.2.2.2.2.1 + 1)))))) else (if x22 = (4 : Int32) then ((cf_X3_fine Y x68.2 G j0 x20.2.2.2.2.1 (3 : Int64)).bind (fun x80 => (cf_X3_conditionOf Y x68.2 G j0 x20.2.2.2.2.1 (11 : Int32)).bind (fun x81 => (cf_X3_conditionOf Y x68.2 G j0 x20.2.2.2.2.1 (11 : Int32)).bind (fun x82 => if (lg_cmp x80 (((3 : Int64) * (x81).toInt64) * (x82).toInt64)) = 0 then (lp_L_areAlike_157 Y G k x68.2 j0 j1 x20.2.1 (1 : Int32) x20.2.2.2.1 (x20.2.2.2.2.1 + 1)) else (lp_L_areAlike_157 Y G k x68.2 j0 j1 x20.2.1 (0 : Int32) x20.2.2.2.1 (x20.2.2.2.2.1 + 1)))))) else (if x22 = (2 : Int32) then (lp_L_areAlike_157 Y G k x68.2 j0 j1 x20.2.1 (0 : Int32) x20.2.2.2.1 (x20.2.2.2.2.1 + 1)) else ((cf_X3_fine Y x68.2 G j0 x20.2.2.2.2.1 (3 : Int64)).bind (fun x87 => (cf_X3_conditionOf Y x68.2 G j0 x20.2.2.2.2.1 (11 : Int32)).bind (fun x88 => (cf_X3_conditionOf Y x68.2 G j0 x20.2.2.2.2.1 (11 : Int32)).bind (fun x89 => if (lg_cmp x87 (((3 : Int64) * (x88).toInt64) * (x89).toInt64)) = 0 then (lp_L_areAlike_157 Y G k x68.2 j0 j1 x20.2.1 (1 : Int32) x20.2.2.2.1 (x20.2.2.2.2.1 + 1)) else (lp_L_areAlike_157 Y G k x68.2 j0 j1 x20.2.1 (0 : Int32) x20.2.2.2.1 (x20.2.2.2.2.1 + 1)))))))))) else (lp_L_areAlike_157 Y G k x68.2 j0 j1 x20.2.1 (0 : Int32) x20.2.2.2.1 (x20.2.2.2.2.1 + 1)))))) else ((cf_X3_conditionOf Y x20.1 G j0 x20.2.2.2.2.1 (9 : Int32)).bind (fun x33 => if x33 < 0 then ((cf_X3_when Y x20.1 G j0 x20.2.2.2.2.1 x22).bind (fun x36 => if x36.1 = 0 then ((cf_X3_conditionOf Y x36.2 G j0 x20.2.2.2.2.1 (0 : Int32)).bind (fun x39 => if x39 = (2 : Int32) then ((cf_X3_fine Y x36.2 G j0 x20.2.2.2.2.1 (3 : Int64)).bind (fun x42 => (cf_X3_conditionOf Y x36.2 G j0 x20.2.2.2.2.1 (11 : Int32)).bind (fun x43 => (cf_X3_conditionOf Y x36.2 G j0 x20.2.2.2.2.1 (11 : Int32)).bind (fun x44 => if (lg_cmp x42 (((3 : Int64) * (x43).toInt64) * (x44).toInt64)) = 0 then (lp_L_areAlike_157 Y G k x36.2 j0 j1 x20.2.1 (1 : Int32) x20.2.2.2.1 (x20.2.2.2.2.1 + 1)) else (lp_L_areAlike_157 Y G k x36.2 j0 j1 x20.2.1 (0 : Int32) x20.2.2.2.1 (x20.2.2.2.2.1 + 1)))))) else (if x22 = (4 : Int32) then ((cf_X3_fine Y x36.2 G j0 x20.2.2.2.2.1 (3 : Int64)).bind (fun x48 => (cf_X3_conditionOf Y x36.2 G j0 x20.2.2.2.2.1 (11 : Int32)).bind (fun x49 => (cf_X3_conditionOf Y x36.2 G j0 x20.2.2.2.2.1 (11 : Int32)).bind (fun x50 => if (lg_cmp x48 (((3 : Int64) * (x49).toInt64) * (x50).toInt64)) = 0 then (lp_L_areAlike_157 Y G k x36.2 j0 j1 x20.2.1 (1 : Int32) x20.2.2.2.1 (x20.2.2.2.2.1 + 1)) else (lp_L_areAlike_157 Y G k x36.2 j0 j1 x20.2.1 (0 : Int32) x20.2.2.2.1 (x20.2.2.2.2.1 + 1)))))) else (if x22 = (2 : Int32) then (lp_L_areAlike_157 Y G k x36.2 j0 j1 x20.2.1 (0 : Int32) x20.2.2.2.1 (x20.2.2.2.2.1 + 1)) else ((cf_X3_fine Y x36.2 G j0 x20.2.2.2.2.1 (3 : Int64)).bind (fun x55 => (cf_X3_conditionOf Y x36.2 G j0 x20.2.2.2.2.1 (11 : Int32)).bind (fun x56 => (cf_X3_conditionOf Y x36.2 G j0 x20.2.2.2.2.1 (11 : Int32)).bind (fun x57 => if (lg_cmp x55 (((3 : Int64) * (x56).toInt64) * (x57).toInt64)) = 0 then (lp_L_areAlike_157 Y G k x36.2 j0 j1 x20.2.1 (1 : Int32) x20.2.2.2.1 (x20.2.2.2.2.1 + 1)) else (lp_L_areAlike_157 Y G k x36.2 j0 j1 x20.2.1 (0 : Int32) x20.2.2.2.1 (x20.2.2.2.2.1 + 1)))))))))) else (lp_L_areAlike_157 Y G k x36.2 j0 j1 x20.2.1 (0 : Int32) x20.2.2.2.1 (x20.2.2.2.2.1 + 1)))) else (lp_L_areAlike_157 Y G k x20.1 j0 j1 x20.2.1 (0 : Int32) x20.2.2.2.1 (x20.2.2.2.2.1 + 1))))) else (lp_L_areAlike_157 Y G k x20.1 j0 j1 x20.2.1 (0 : Int32) x20.2.2.2.1 (x20.2.2.2.2.1 + 1))))))))) else none))
def lp_L_areAlike_70 (Y : mY) (G : mG) : Nat → mV → Nat → Nat → Int32 → Int32 → Int32 → Int32 → Option (Int32 × mV)
  | 0, _, _, _, _, _, _, _ => none
  | k + 1, V, j0, j1, j2, j3, j4, j5 => if (5 : Int32) ≤ j5 then (if j3 = 0 then (lp_L_areAlike_157 Y G fuB V j0 j1 j2 (0 : Int32) j4 (0 : Int32)) else (if j4 = (((1 : Int32) <<< (j2 &&& 31)) - (1 : Int32)) then (lp_L_areAlike_157 Y G fuB V j0 j1 j2 (1 : Int32) j4 (0 : Int32)) else (lp_L_areAlike_157 Y G fuB V j0 j1 j2 (0 : Int32) j4 (0 : Int32)))) else (if j3 = 0 then (if Y.1 j0 = 3 then (cf_X3_which Y V G j0 j5).bind (fun x163 => lp_L_areAlike_70 Y G k V j0 j1 j2 (0 : Int32) (j4 ||| x163) (j5 + 1)) else none) else (if Y.1 j0 = 3 then (cf_X3_which Y V G j0 j5).bind (fun x165 => if Y.1 j1 = 3 then (cf_X3_which Y V G j1 j5).bind (fun x167 => (cf_L_turned x167 j2).bind (fun x168 => if x165 = x168 then ((cf_X3_which Y V G j0 j5).bind (fun x171 => if (j4 &&& x171) = 0 then ((cf_X3_which Y V G j0 j5).bind (fun x174 => lp_L_areAlike_70 Y G k V j0 j1 j2 (1 : Int32) (j4 ||| x174) (j5 + 1))) else ((cf_X3_which Y V G j0 j5).bind (fun x173 => lp_L_areAlike_70 Y G k V j0 j1 j2 (0 : Int32) (j4 ||| x173) (j5 + 1))))) else ((cf_X3_which Y V G j0 j5).bind (fun x170 => lp_L_areAlike_70 Y G k V j0 j1 j2 (0 : Int32) (j4 ||| x170) (j5 + 1))))) else none) else none))
def lp_L_areAlike_26 (Y : mY) (G : mG) : Nat → mV → Nat → Nat → Int32 → Int32 → Int32 → Option (Int32 × mV)
  | 0, _, _, _, _, _, _ => none
  | k + 1, V, j0, j1, j2, j3, j4 => if (6 : Int32) ≤ j4 then (lp_L_areAlike_70 Y G fuB V j0 j1 j2 j3 (0 : Int32) (0 : Int32)) else (if j3 = 0 then (lp_L_areAlike_26 Y G k V j0 j1 j2 (0 : Int32) (j4 + 1)) else (if Y.1 j0 = 3 then (cf_X3_count Y V G j0 j4).bind (fun x177 => if Y.1 j1 = 3 then (cf_X3_count Y V G j1 j4).bind (fun x179 => if x177 = x179 then (lp_L_areAlike_26 Y G k V j0 j1 j2 (1 : Int32) (j4 + 1)) else (lp_L_areAlike_26 Y G k V j0 j1 j2 (0 : Int32) (j4 + 1))) else none) else none))
def cf_L_areAlike (Y : mY) (V : mV) (G : mG) (b1 : Nat) (b2 : Nat) : Option (Int32 × mV) := if Y.1 b1 = 3 then (cf_X3_count Y V G b1 (0 : Int32)).bind (fun x2 => (cf_X3_share Y V G b1).bind (fun x3 => if Y.1 b2 = 3 then (cf_X3_share Y V G b2).bind (fun x5 => if x3 = x5 then (lp_L_areAlike_26 Y G fuB V b1 b2 x2 (1 : Int32) (0 : Int32)) else (lp_L_areAlike_26 Y G fuB V b1 b2 x2 (0 : Int32) (0 : Int32))) else none)) else none
def cf_L_comes (Y : mY) (V : mV) (G : mG) (b1 : Nat) (b2 : Nat) (b3 : Int32) : Option (Int32 × mV × mG) := if Y.1 b1 = 3 then (cf_X3_count Y V G b1 (0 : Int32)).bind (fun x2 => (cf_L_up b3 x2).bind (fun x3 => (cf_L_up (b3 >>> ((3 : Int32) &&& 31)) (4 : Int32)).bind (fun x4 => (cf_L_up (b3 >>> ((5 : Int32) &&& 31)) (3 : Int32)).bind (fun x5 => (cf_X3_when Y V G b1 x3 ((1 : Int32) + x4)).bind (fun x6 => (cf_X3_lawful Y x6.2 G b1 x5).bind (fun x7 => (cf_L_there Y x7.2 G b1 x3).bind (fun x8 => if Y.1 b2 = 3 then (cf_X3_when Y x7.2 G b2 x8 ((1 : Int32) + x4)).bind (fun x10 => if x6.1 = x10.1 then ((cf_X3_lawful Y x10.2 G b2 x5).bind (fun x19 => if x7.1 = x19.1 then (if x6.1 ≤ 0 then (if x7.1 < 0 then (some ((1 : Int32), x19.2, G)) else (if x7.1 = 0 then ((cf_X3_stageOf Y x19.2 G b1 x5 (3 : Int32)).bind (fun x32 => if x32 = 0 then ((cf_X3_begin Y x19.2 G b1 x5).bind (fun x34 => if x34.1 = 0 then ((cf_X3_undo Y x34.2.1 x34.2.2 b1).bind (fun x36 => if x36.1 < 0 then (some ((0 : Int32), x36.2, x34.2.2)) else (some ((1 : Int32), x36.2, x34.2.2)))) else (some ((0 : Int32), x34.2.1, x34.2.2)))) else (some ((0 : Int32), x19.2, G)))) else ((cf_X3_pass Y x19.2 G b1 x7.1).bind (fun x38 => if x38.1 ≤ 0 then (some ((0 : Int32), x38.2.1, x38.2.2)) else ((cf_X3_stageOf Y x38.2.1 x38.2.2 b1 x5 (3 : Int32)).bind (fun x40 => if x40 = 0 then ((cf_X3_begin Y x38.2.1 x38.2.2 b1 x5).bind (fun x42 => if x42.1 = 0 then ((cf_X3_undo Y x42.2.1 x42.2.2 b1).bind (fun x44 => if x44.1 < 0 then (some ((0 : Int32), x44.2, x42.2.2)) else (some ((1 : Int32), x44.2, x42.2.2)))) else (some ((0 : Int32), x42.2.1, x42.2.2)))) else (some ((0 : Int32), x38.2.1, x38.2.2)))))))) else (if x6.1 = (1 : Int32) then ((cf_X3_pass Y x19.2 G b1 x6.1).bind (fun x49 => if x49.1 ≤ 0 then (if x7.1 < 0 then (some ((0 : Int32), x49.2.1, x49.2.2)) else (some ((0 : Int32), x49.2.1, x49.2.2))) else ((cf_X3_conditionOf Y x49.2.1 x49.2.2 b1 x3 (4 : Int32)).bind (fun x53 => if x53 = ((1 : Int32) + x4) then ((cf_X3_undo Y x49.2.1 x49.2.2 b1).bind (fun x57 => if x57.1 < 0 then (if x7.1 < 0 then (some ((0 : Int32), x57.2, x49.2.2)) else (some ((0 : Int32), x57.2, x49.2.2))) else (if x7.1 < 0 then (some ((1 : Int32), x57.2, x49.2.2)) else (if x7.1 = 0 then ((cf_X3_stageOf Y x57.2 x49.2.2 b1 x5 (3 : Int32)).bind (fun x64 => if x64 = 0 then ((cf_X3_begin Y x57.2 x49.2.2 b1 x5).bind (fun x66 => if x66.1 = 0 then ((cf_X3_undo Y x66.2.1 x66.2.2 b1).bind (fun x68 => if x68.1 < 0 then (some ((0 : Int32), x68.2, x66.2.2)) else (some ((1 : Int32), x68.2, x66.2.2)))) else (some ((0 : Int32), x66.2.1, x66.2.2)))) else (some ((0 : Int32), x57.2, x49.2.2)))) else ((cf_X3_pass Y x57.2 x49.2.2 b1 x7.1).bind (fun x70 => if x70.1 ≤ 0 then (some ((0 : Int32), x70.2.1, x70.2.2)) else ((cf_X3_stageOf Y x70.2.1 x70.2.2 b1 x5 (3 : Int32)).bind (fun x72 => if x72 = 0 then ((cf_X3_begin Y x70.2.1 x70.2.2 b1 x5).bind (fun x74 => if x74.1 = 0 then ((cf_X3_undo Y x74.2.1 x74.2.2 b1).bind (fun x76 => if x76.1 < 0 then (some ((0 : Int32), x76.2, x74.2.2)) else (some ((1 : Int32), x76.2, x74.2.2)))) else (some ((0 : Int32), x74.2.1, x74.2.2)))) else (some ((0 : Int32), x70.2.1, x70.2.2)))))))))) else (if x7.1 < 0 then (some ((0 : Int32), x49.2.1, x49.2.2)) else (some ((0 : Int32), x49.2.1, x49.2.2))))))) else ((cf_X3_pass Y x19.2 G b1 (x6.1 - (1 : Int32))).bind (fun x78 => if x78.1 ≤ 0 then (if x7.1 < 0 then (some ((0 : Int32), x78.2.1, x78.2.2)) else (some ((0 : Int32), x78.2.1, x78.2.2))) else ((cf_X3_conditionOf Y x78.2.1 x78.2.2 b1 x3 (4 : Int32)).bind (fun x83 => if x83 = ((1 : Int32) + x4) then (if x7.1 < 0 then (some ((0 : Int32), x78.2.1, x78.2.2)) else (some ((0 : Int32), x78.2.1, x78.2.2))) else ((cf_X3_when Y x78.2.1 x78.2.2 b1 x3 ((1 : Int32) + x4)).bind (fun x88 => if x88.1 = (1 : Int32) then ((cf_X3_undo Y x88.2 x78.2.2 b1).bind (fun x93 => if x93.1 < 0 then (if x7.1 < 0 then (some ((0 : Int32), x93.2, x78.2.2)) else (some ((0 : Int32), x93.2, x78.2.2))) else ((cf_X3_pass Y x93.2 x78.2.2 b1 x6.1).bind (fun x99 => if x99.1 ≤ 0 then (if x7.1 < 0 then (some ((0 : Int32), x99.2.1, x99.2.2)) else (some ((0 : Int32), x99.2.1, x99.2.2))) else ((cf_X3_conditionOf Y x99.2.1 x99.2.2 b1 x3 (4 : Int32)).bind (fun x103 => if x103 = ((1 : Int32) + x4) then ((cf_X3_undo Y x99.2.1 x99.2.2 b1).bind (fun x107 => if x107.1 < 0 then (if x7.1 < 0 then (some ((0 : Int32), x107.2, x99.2.2)) else (some ((0 : Int32), x107.2, x99.2.2))) else (if x7.1 < 0 then (some ((1 : Int32), x107.2, x99.2.2)) else (if x7.1 = 0 then ((cf_X3_stageOf Y x107.2 x99.2.2 b1 x5 (3 : Int32)).bind (fun x114 => if x114 = 0 then ((cf_X3_begin Y x107.2 x99.2.2 b1 x5).bind (fun x116 => if x116.1 = 0 then ((cf_X3_undo Y x116.2.1 x116.2.2 b1).bind (fun x118 => if x118.1 < 0 then (some ((0 : Int32), x118.2, x116.2.2)) else (some ((1 : Int32), x118.2, x116.2.2)))) else (some ((0 : Int32), x116.2.1, x116.2.2)))) else (some ((0 : Int32), x107.2, x99.2.2)))) else ((cf_X3_pass Y x107.2 x99.2.2 b1 x7.1).bind (fun x120 => if x120.1 ≤ 0 then (some ((0 : Int32), x120.2.1, x120.2.2)) else ((cf_X3_stageOf Y x120.2.1 x120.2.2 b1 x5 (3 : Int32)).bind (fun x122 => if x122 = 0 then ((cf_X3_begin Y x120.2.1 x120.2.2 b1 x5).bind (fun x124 => if x124.1 = 0 then ((cf_X3_undo Y x124.2.1 x124.2.2 b1).bind (fun x126 => if x126.1 < 0 then (some ((0 : Int32), x126.2, x124.2.2)) else (some ((1 : Int32), x126.2, x124.2.2)))) else (some ((0 : Int32), x124.2.1, x124.2.2)))) else (some ((0 : Int32), x120.2.1, x120.2.2)))))))))) else (if x7.1 < 0 then (some ((0 : Int32), x99.2.1, x99.2.2)) else (some ((0 : Int32), x99.2.1, x99.2.2))))))))) else (if x7.1 < 0 then (some ((0 : Int32), x88.2, x78.2.2)) else (some ((0 : Int32), x88.2, x78.2.2))))))))))) else (if x6.1 ≤ 0 then (if x7.1 < 0 then (some ((0 : Int32), x19.2, G)) else (some ((0 : Int32), x19.2, G))) else (if x7.1 < 0 then (some ((0 : Int32), x19.2, G)) else (some ((0 : Int32), x19.2, G)))))) else (if x6.1 ≤ 0 then (if x7.1 < 0 then (some ((0 : Int32), x10.2, G)) else (some ((0 : Int32), x10.2, G))) else (if x7.1 < 0 then (some ((0 : Int32), x10.2, G)) else (some ((0 : Int32), x10.2, G))))) else none))))))) else none
set_option maxHeartbeats 4000000 in
set_option maxRecDepth 100000 in
theorem ct_L_cell (l : Launch) (D : va_G) (cy : Nat → ClassId) (z n : Nat) (Y : mY) (V : mV) (G : mG) {b L : Nat} {xs : Nat → Int32} (hbA : ¬ zA z b) (b1 : Int32) (x : Int32) (hcf : cf_L_cell L xs b1 = some x) : CTX l yL_cell cL_cell 2 (some .int) (rmd 0) D cy z [.ref b, .int b1] b L xs Y n V G (some (.int x)) Y n V G := by
  refine ctx_of (by decide) (Nat.le_of_ble_eq_true rfl) ?_
  intro p e s m args below meth c ls hx hb hr hml hown hts hlocks hnm hE hW hX hbl hl
  have hS : va_S (zA z) s.heap s.heap [] := va_S.rf
  have hl : lv_has ls 2 [(0, .ref b), (1, .int b1)] := hl
  have hown : s.vm.findClass RL = some m.cls := hown
  rw [cf_L_cell] at hcf
  refine lv_iload_n hx hb dL_cell_0 rfl (lv_at hl 1 rfl) ?_
  refine lv_aload_n hx hb dL_cell_1 rfl (lv_at hl 0 rfl) ?_
  refine va_slen hx hb hX hbl hbA hS dL_cell_2 ?_
  refine lv_icmp_ge (tgt := 12) hx hb dL_cell_3 (by decide) (fun q1 => ?_) (fun q1 => ?_)
  · replace hcf := (if_pos q1).symm.trans hcf
    refine lv_ldc hx hb hown (hts _ q278) dL_cell_12 ?_
    refine lv_iload_n hx hb dL_cell_14 rfl (lv_at hl 1 rfl) ?_
    refine lv_sipush (v := (829 : Int32)) hx hb dL_cell_15 (by decide) ?_
    refine lv_iadd hx hb dL_cell_18 ?_
    refine lv_imul hx hb dL_cell_19 ?_
    have hcf := Option.some.inj hcf; subst hcf
    exact wk_iret hx hb hr hlocks hW hS dL_cell_20
  · replace hcf := (if_neg q1).symm.trans hcf
    refine lv_aload_n hx hb dL_cell_6 rfl (lv_at hl 0 rfl) ?_
    refine lv_iload_n hx hb dL_cell_7 rfl (lv_at hl 1 rfl) ?_
    obtain ⟨q2, hcf⟩ := og hcf
    refine va_sld hx hb hX hbl hbA hS q2 dL_cell_8 ?_
    refine lv_goto (tgt := 20) hx hb dL_cell_9 (by decide) ?_
    have hcf := Option.some.inj hcf; subst hcf
    exact wk_iret hx hb hr hlocks hW hS dL_cell_20
set_option maxHeartbeats 4000000 in
set_option maxRecDepth 100000 in
theorem ct_L_up (l : Launch) (D : va_G) (cy : Nat → ClassId) (z n : Nat) (Y : mY) (V : mV) (G : mG) (b1 : Int32) (b2 : Int32) (x : Int32) (hcf : cf_L_up b1 b2 = some x) : CT l yL_up cL_up 2 (some .int) (rmd 0) D cy z [.int b1, .int b2] Y n V G (some (.int x)) Y n V G := by
  refine ct_of (by decide) (Nat.le_of_ble_eq_true rfl) ?_
  intro p e s m args below meth c ls hx hb hr hml hown hts hlocks hnm hE hW hl
  have hS : va_S (zA z) s.heap s.heap [] := va_S.rf
  have hl : lv_has ls 2 [(0, .int b1), (1, .int b2)] := hl
  have hown : s.vm.findClass RL = some m.cls := hown
  rw [cf_L_up] at hcf
  refine lv_iload_n hx hb dL_up_0 rfl (lv_at hl 0 rfl) ?_
  refine lv_ldc hx hb hown (hts _ q282) dL_up_1 ?_
  refine lv_iand hx hb dL_up_3 ?_
  refine lv_iload_n hx hb dL_up_4 rfl (lv_at hl 1 rfl) ?_
  obtain ⟨q1, hcf⟩ := og hcf
  refine lv_irem hx hb dL_up_5 q1 ?_
  have hcf := Option.some.inj hcf; subst hcf
  exact wk_iret hx hb hr hlocks hW hS dL_up_6
set_option maxHeartbeats 4000000 in
set_option maxRecDepth 100000 in
theorem ct_L_there (l : Launch) (D : va_G) (cy : Nat → ClassId) (z n : Nat) (Y : mY) (V : mV) (G : mG) (b1 : Nat) (b2 : Int32) (x : Int32) (hcf : cf_L_there Y V G b1 b2 = some x) : CT l yL_there cL_there 2 (some .int) (rmd 3) D cy z [.ref b1, .int b2] Y n V G (some (.int x)) Y n V G := by
  refine ct_of (by decide) (Nat.le_of_ble_eq_true rfl) ?_
  intro p e s m args below meth c ls hx hb hr hml hown hts hlocks hnm hE hW hl
  have hS : va_S (zA z) s.heap s.heap [] := va_S.rf
  have hl : lv_has ls 2 [(0, .ref b1), (1, .int b2)] := hl
  have hown : s.vm.findClass RL = some m.cls := hown
  rw [cf_L_there] at hcf
  refine lv_aload_n hx hb dL_there_0 rfl (lv_at hl 0 rfl) ?_
  refine lv_iconst (v := (0 : Int32)) hx hb dL_there_1 (by decide) ?_
  obtain ⟨q1, hcf⟩ := og hcf
  obtain ⟨x2, hx2, hcf⟩ := ob hcf
  refine iv_L_9 (As := [.int (0 : Int32)]) (rest := []) hx hb hml hown hts hE (ct_X3_count l D cy z n Y V G b1 (0 : Int32) x2 hx2) hW hS q1 rfl rfl hl.1 (Nat.le_of_ble_eq_true rfl) ⟨Nat.le_of_ble_eq_true rfl, Nat.le_of_ble_eq_true rfl⟩ dL_there_2 ⟨Nat.zero_le _, Nat.zero_le _⟩ (fun H locs hW hS => ?_)
  refine lv_iconst (v := (1 : Int32)) hx hb dL_there_5 (by decide) ?_
  refine lv_isub hx hb dL_there_6 ?_
  refine lv_iload_n hx hb dL_there_7 rfl (lv_at hl 1 rfl) ?_
  refine lv_isub hx hb dL_there_8 ?_
  have hcf := Option.some.inj hcf; subst hcf
  exact wk_iret hx hb hr hlocks hW hS dL_there_9
set_option maxHeartbeats 4000000 in
set_option maxRecDepth 100000 in
theorem wl_L_turned_4 {p : Program} {l : Launch} {e : Env} {s : State} {m : MethodId} {args : Array Value} {below : List Frame} {meth : Method} {c : Code} {D : va_G} {cy : Nat → ClassId} {z : Nat} {n : Nat}  {Y : mY} {V : mV} {G : mG} (hx : p.tables.exec = Jvm.exec) (hb : c.code = cL_turned) (hr : meth.sig.returnType = (some .int)) (hml : c.maxLocals = 4) (hown : s.vm.findClass RL = some m.cls) (hts : ∀ w ∈ lw_all, w.before args s = true) (hlocks : meth.locks = false) (hE : En D cy s) (x : Int32) : ∀ (k : Nat) (j0 : Int32) (j1 : Int32) (j2 : Int32) (j3 : Int32) (H : Heap) (locs : List Loc) (ls : Array Slot), lp_L_turned_4 k j0 j1 j2 j3 = some x → Wd Y cy D z n V G H → va_S (zA z) s.heap H locs → lv_has ls 4 [(0, .int j0), (1, .int j1), (2, .int j2), (3, .int j3)] → W p l e (rmd 0) s m args below meth c H locs 0 0 (MQ below (QC D cy z Y n V G (some (.int x))) args s 0 0 (zA z)) (F0 m 4 ls []) := by
  intro k
  induction k with
  | zero =>
    intro j0 j1 j2 j3 H locs ls hcf
    have hcf : none = some _ := hcf
    cases hcf
  | succ k ih =>
    intro j0 j1 j2 j3 H locs ls hcf hW hS hl
    rw [lp_L_turned_4] at hcf
    refine lv_iload_n hx hb dL_turned_4 rfl (lv_at hl 3 rfl) ?_
    refine lv_iload_n hx hb dL_turned_5 rfl (lv_at hl 1 rfl) ?_
    refine lv_icmp_ge (tgt := 37) hx hb dL_turned_6 (by decide) (fun q1 => ?_) (fun q1 => ?_)
    · replace hcf := (if_pos q1).symm.trans hcf
      refine lv_iload_n hx hb dL_turned_37 rfl (lv_at hl 0 rfl) ?_
      refine lv_if_ge (tgt := 45) hx hb dL_turned_38 (by decide) (fun q2 => ?_) (fun q2 => ?_)
      · replace hcf := (if_pos q2).symm.trans hcf
        refine lv_iload_n hx hb dL_turned_45 rfl (lv_at hl 2 rfl) ?_
        have hcf := Option.some.inj hcf; subst hcf
        exact wk_iret hx hb hr hlocks hW hS dL_turned_46
      · replace hcf := (if_neg q2).symm.trans hcf
        refine lv_iload_n hx hb dL_turned_41 rfl (lv_at hl 0 rfl) ?_
        refine lv_goto (tgt := 46) hx hb dL_turned_42 (by decide) ?_
        have hcf := Option.some.inj hcf; subst hcf
        exact wk_iret hx hb hr hlocks hW hS dL_turned_46
    · replace hcf := (if_neg q1).symm.trans hcf
      refine lv_iload_n hx hb dL_turned_9 rfl (lv_at hl 2 rfl) ?_
      refine lv_iload_n hx hb dL_turned_10 rfl (lv_at hl 0 rfl) ?_
      refine lv_if_ge (tgt := 18) hx hb dL_turned_11 (by decide) (fun q3 => ?_) (fun q3 => ?_)
      · replace hcf := (if_pos q3).symm.trans hcf
        refine lv_iload_n hx hb dL_turned_18 rfl (lv_at hl 0 rfl) ?_
        refine lv_iload_n hx hb dL_turned_19 rfl (lv_at hl 3 rfl) ?_
        refine lv_ishr hx hb dL_turned_20 ?_
        refine lv_iconst (v := (1 : Int32)) hx hb dL_turned_21 (by decide) ?_
        refine lv_iand hx hb dL_turned_22 ?_
        refine lv_iload_n hx hb dL_turned_23 rfl (lv_at hl 1 rfl) ?_
        refine lv_iconst (v := (1 : Int32)) hx hb dL_turned_24 (by decide) ?_
        refine lv_isub hx hb dL_turned_25 ?_
        refine lv_iload_n hx hb dL_turned_26 rfl (lv_at hl 3 rfl) ?_
        refine lv_isub hx hb dL_turned_27 ?_
        refine lv_ishl hx hb dL_turned_28 ?_
        refine lv_ior hx hb dL_turned_29 ?_
        refine lv_istore_n (lv' := [(2, .int (j2 ||| (((j0 >>> (j3 &&& 31)) &&& (1 : Int32)) <<< (((j1 - (1 : Int32)) - j3) &&& 31)))), (0, .int j0), (1, .int j1), (3, .int j3)]) hx hb dL_turned_30 rfl hl (by decide) rfl (fun ls hl => ?_)
        refine lv_iinc (v := (j3 + 1)) (lv' := [(3, .int (j3 + 1)), (2, .int (j2 ||| (((j0 >>> (j3 &&& 31)) &&& (1 : Int32)) <<< (((j1 - (1 : Int32)) - j3) &&& 31)))), (0, .int j0), (1, .int j1)]) hx hb dL_turned_31 hl (k := 3) rfl rfl (by decide) rfl (fun ls hl => ?_)
        refine lv_goto (tgt := 4) hx hb dL_turned_34 (by decide) ?_
        exact ih j0 j1 (j2 ||| (((j0 >>> (j3 &&& 31)) &&& (1 : Int32)) <<< (((j1 - (1 : Int32)) - j3) &&& 31))) (j3 + 1) _ _ _ hcf hW hS (lv_sub hl [2, 3, 1, 0] rfl)
      · replace hcf := (if_neg q3).symm.trans hcf
        refine lv_iconst (v := (0 : Int32)) hx hb dL_turned_14 (by decide) ?_
        refine lv_goto (tgt := 29) hx hb dL_turned_15 (by decide) ?_
        refine lv_ior hx hb dL_turned_29 ?_
        refine lv_istore_n (lv' := [(2, .int (j2 ||| (0 : Int32))), (0, .int j0), (1, .int j1), (3, .int j3)]) hx hb dL_turned_30 rfl hl (by decide) rfl (fun ls hl => ?_)
        refine lv_iinc (v := (j3 + 1)) (lv' := [(3, .int (j3 + 1)), (2, .int (j2 ||| (0 : Int32))), (0, .int j0), (1, .int j1)]) hx hb dL_turned_31 hl (k := 3) rfl rfl (by decide) rfl (fun ls hl => ?_)
        refine lv_goto (tgt := 4) hx hb dL_turned_34 (by decide) ?_
        exact ih j0 j1 (j2 ||| (0 : Int32)) (j3 + 1) _ _ _ hcf hW hS (lv_sub hl [2, 3, 1, 0] rfl)
set_option maxHeartbeats 4000000 in
set_option maxRecDepth 100000 in
theorem ct_L_turned (l : Launch) (D : va_G) (cy : Nat → ClassId) (z n : Nat) (Y : mY) (V : mV) (G : mG) (b1 : Int32) (b2 : Int32) (x : Int32) (hcf : cf_L_turned b1 b2 = some x) : CT l yL_turned cL_turned 4 (some .int) (rmd 0) D cy z [.int b1, .int b2] Y n V G (some (.int x)) Y n V G := by
  refine ct_of (by decide) (Nat.le_of_ble_eq_true rfl) ?_
  intro p e s m args below meth c ls hx hb hr hml hown hts hlocks hnm hE hW hl
  have hS : va_S (zA z) s.heap s.heap [] := va_S.rf
  have hl : lv_has ls 4 [(0, .int b1), (1, .int b2)] := hl
  have hown : s.vm.findClass RL = some m.cls := hown
  rw [cf_L_turned] at hcf
  refine lv_iconst (v := (0 : Int32)) hx hb dL_turned_0 (by decide) ?_
  refine lv_istore_n (lv' := [(2, .int (0 : Int32)), (0, .int b1), (1, .int b2)]) hx hb dL_turned_1 rfl hl (by decide) rfl (fun ls hl => ?_)
  refine lv_iconst (v := (0 : Int32)) hx hb dL_turned_2 (by decide) ?_
  refine lv_istore_n (lv' := [(3, .int (0 : Int32)), (2, .int (0 : Int32)), (0, .int b1), (1, .int b2)]) hx hb dL_turned_3 rfl hl (by decide) rfl (fun ls hl => ?_)
  exact wl_L_turned_4 hx hb hr hml hown hts hlocks hE x fuB b1 b2 (0 : Int32) (0 : Int32) _ _ _ hcf hW hS (lv_sub hl [2, 3, 1, 0] rfl)
set_option maxHeartbeats 4000000 in
set_option maxRecDepth 100000 in
theorem wl_L_passes_12 {p : Program} {l : Launch} {e : Env} {s : State} {m : MethodId} {args : Array Value} {below : List Frame} {meth : Method} {c : Code} {D : va_G} {cy : Nat → ClassId} {z : Nat} {n : Nat} {Y : mY} (hx : p.tables.exec = Jvm.exec) (hb : c.code = cL_passes) (hr : meth.sig.returnType = (some .boolean)) (hml : c.maxLocals = 6) (hown : s.vm.findClass RL = some m.cls) (hts : ∀ w ∈ lw_all, w.before args s = true) (hlocks : meth.locks = false) (hE : En D cy s) (x : Int32 × mV × mG) : ∀ (k : Nat) (V : mV) (G : mG) (j0 : Nat) (j1 : Nat) (j2 : Int32) (j3 : Int32) (j4 : Int32) (j5 : Int32) (H : Heap) (locs : List Loc) (ls : Array Slot), lp_L_passes_12 Y k V G j0 j1 j2 j3 j4 j5 = some x → Wd Y cy D z n V G H → va_S (zA z) s.heap H locs → lv_has ls 6 [(0, .ref j0), (1, .ref j1), (2, .int j2), (3, .int j3), (4, .int j4), (5, .int j5)] → W p l e (rmd 6) s m args below meth c H locs 0 0 (MQ below (QC D cy z Y n x.2.1 x.2.2 (some (.int x.1))) args s 0 0 (zA z)) (F0 m 12 ls []) := by
  intro k
  induction k with
  | zero =>
    intro V G j0 j1 j2 j3 j4 j5 H locs ls hcf
    have hcf : none = some _ := hcf
    cases hcf
  | succ k ih =>
    intro V G j0 j1 j2 j3 j4 j5 H locs ls hcf hW hS hl
    rw [lp_L_passes_12] at hcf
    refine lv_iload hx hb dL_passes_12 (lv_at hl 5 rfl) ?_
    refine lv_iload_n hx hb dL_passes_14 rfl (lv_at hl 2 rfl) ?_
    refine lv_icmp_ge (tgt := 44) hx hb dL_passes_15 (by decide) (fun q3 => ?_) (fun q3 => ?_)
    · replace hcf := (if_pos q3).symm.trans hcf
      refine lv_iload hx hb dL_passes_44 (lv_at hl 4 rfl) ?_
      refine lv_if_eq (tgt := 71) hx hb dL_passes_46 (by decide) (fun q4 => ?_) (fun q4 => ?_)
      · replace hcf := (if_pos q4).symm.trans hcf
        refine lv_iconst (v := (0 : Int32)) hx hb dL_passes_71 (by decide) ?_
        have hcf := Option.some.inj hcf; subst hcf
        exact wk_zret hx hb hr hlocks (Or.inl rfl) hW hS dL_passes_72
      · replace hcf := (if_neg q4).symm.trans hcf
        refine lv_iload_n hx hb dL_passes_49 rfl (lv_at hl 3 rfl) ?_
        refine lv_aload_n hx hb dL_passes_50 rfl (lv_at hl 0 rfl) ?_
        refine lv_iconst (v := (1 : Int32)) hx hb dL_passes_51 (by decide) ?_
        obtain ⟨q5, hcf⟩ := og hcf
        obtain ⟨x6, hx6, hcf⟩ := ob hcf
        refine iv_L_9 (As := [.int (1 : Int32)]) (rest := [.int j3]) hx hb hml hown hts hE (ct_X3_count l D cy z n Y V G j0 (1 : Int32) x6 hx6) hW hS q5 rfl rfl hl.1 (Nat.le_of_ble_eq_true rfl) ⟨Nat.le_of_ble_eq_true rfl, Nat.le_of_ble_eq_true rfl⟩ dL_passes_52 ⟨Nat.zero_le _, Nat.zero_le _⟩ (fun H locs hW hS => ?_)
        refine lv_icmp_ne (tgt := 71) hx hb dL_passes_55 (by decide) (fun q7 => ?_) (fun q7 => ?_)
        · replace hcf := (if_neg q7).symm.trans hcf
          refine lv_iconst (v := (0 : Int32)) hx hb dL_passes_71 (by decide) ?_
          have hcf := Option.some.inj hcf; subst hcf
          exact wk_zret hx hb hr hlocks (Or.inl rfl) hW hS dL_passes_72
        · replace hcf := (if_pos q7).symm.trans hcf
          refine lv_iload_n hx hb dL_passes_58 rfl (lv_at hl 3 rfl) ?_
          refine lv_aload_n hx hb dL_passes_59 rfl (lv_at hl 1 rfl) ?_
          refine lv_iconst (v := (1 : Int32)) hx hb dL_passes_60 (by decide) ?_
          obtain ⟨q8, hcf⟩ := og hcf
          obtain ⟨x9, hx9, hcf⟩ := ob hcf
          refine iv_L_9 (As := [.int (1 : Int32)]) (rest := [.int j3]) hx hb hml hown hts hE (ct_X3_count l D cy z n Y V G j1 (1 : Int32) x9 hx9) hW hS q8 rfl rfl hl.1 (Nat.le_of_ble_eq_true rfl) ⟨Nat.le_of_ble_eq_true rfl, Nat.le_of_ble_eq_true rfl⟩ dL_passes_61 ⟨Nat.zero_le _, Nat.zero_le _⟩ (fun H locs hW hS => ?_)
          refine lv_icmp_ne (tgt := 71) hx hb dL_passes_64 (by decide) (fun q10 => ?_) (fun q10 => ?_)
          · replace hcf := (if_neg q10).symm.trans hcf
            refine lv_iconst (v := (0 : Int32)) hx hb dL_passes_71 (by decide) ?_
            have hcf := Option.some.inj hcf; subst hcf
            exact wk_zret hx hb hr hlocks (Or.inl rfl) hW hS dL_passes_72
          · replace hcf := (if_pos q10).symm.trans hcf
            refine lv_iconst (v := (1 : Int32)) hx hb dL_passes_67 (by decide) ?_
            refine lv_goto (tgt := 72) hx hb dL_passes_68 (by decide) ?_
            have hcf := Option.some.inj hcf; subst hcf
            exact wk_zret hx hb hr hlocks (Or.inr rfl) hW hS dL_passes_72
    · replace hcf := (if_neg q3).symm.trans hcf
      refine lv_iload hx hb dL_passes_18 (lv_at hl 4 rfl) ?_
      refine lv_if_eq (tgt := 35) hx hb dL_passes_20 (by decide) (fun q11 => ?_) (fun q11 => ?_)
      · replace hcf := (if_pos q11).symm.trans hcf
        refine lv_iconst (v := (0 : Int32)) hx hb dL_passes_35 (by decide) ?_
        refine lv_istore (lv' := [(4, .int (0 : Int32)), (0, .ref j0), (1, .ref j1), (2, .int j2), (3, .int j3), (5, .int j5)]) hx hb dL_passes_36 hl (by decide) rfl (fun ls hl => ?_)
        refine lv_iinc (v := (j5 + 1)) (lv' := [(5, .int (j5 + 1)), (4, .int (0 : Int32)), (0, .ref j0), (1, .ref j1), (2, .int j2), (3, .int j3)]) hx hb dL_passes_38 hl (k := 5) rfl rfl (by decide) rfl (fun ls hl => ?_)
        refine lv_goto (tgt := 12) hx hb dL_passes_41 (by decide) ?_
        exact ih V G j0 j1 j2 j3 (0 : Int32) (j5 + 1) _ _ _ hcf hW hS (lv_sub hl [2, 3, 4, 5, 1, 0] rfl)
      · replace hcf := (if_neg q11).symm.trans hcf
        refine lv_aload_n hx hb dL_passes_23 rfl (lv_at hl 1 rfl) ?_
        refine lv_iconst (v := (1 : Int32)) hx hb dL_passes_24 (by decide) ?_
        obtain ⟨q12, hcf⟩ := og hcf
        obtain ⟨x13, hx13, hcf⟩ := ob hcf
        refine iv_L_15 (As := [.int (1 : Int32)]) (rest := []) hx hb hml hown hts hE (ct_X3_pass l D cy z n Y V G j1 (1 : Int32) x13 hx13) hW hS q12 rfl rfl hl.1 (Nat.le_of_ble_eq_true rfl) ⟨Nat.le_of_ble_eq_true rfl, Nat.le_of_ble_eq_true rfl⟩ dL_passes_25 ⟨Nat.zero_le _, Nat.zero_le _⟩ (fun H locs hW hS => ?_)
        refine lv_if_le (tgt := 35) hx hb dL_passes_28 (by decide) (fun q14 => ?_) (fun q14 => ?_)
        · replace hcf := (if_pos q14).symm.trans hcf
          refine lv_iconst (v := (0 : Int32)) hx hb dL_passes_35 (by decide) ?_
          refine lv_istore (lv' := [(4, .int (0 : Int32)), (0, .ref j0), (1, .ref j1), (2, .int j2), (3, .int j3), (5, .int j5)]) hx hb dL_passes_36 hl (by decide) rfl (fun ls hl => ?_)
          refine lv_iinc (v := (j5 + 1)) (lv' := [(5, .int (j5 + 1)), (4, .int (0 : Int32)), (0, .ref j0), (1, .ref j1), (2, .int j2), (3, .int j3)]) hx hb dL_passes_38 hl (k := 5) rfl rfl (by decide) rfl (fun ls hl => ?_)
          refine lv_goto (tgt := 12) hx hb dL_passes_41 (by decide) ?_
          exact ih x13.2.1 x13.2.2 j0 j1 j2 j3 (0 : Int32) (j5 + 1) _ _ _ hcf hW hS (lv_sub hl [2, 3, 4, 5, 1, 0] rfl)
        · replace hcf := (if_neg q14).symm.trans hcf
          refine lv_iconst (v := (1 : Int32)) hx hb dL_passes_31 (by decide) ?_
          refine lv_goto (tgt := 36) hx hb dL_passes_32 (by decide) ?_
          refine lv_istore (lv' := [(4, .int (1 : Int32)), (0, .ref j0), (1, .ref j1), (2, .int j2), (3, .int j3), (5, .int j5)]) hx hb dL_passes_36 hl (by decide) rfl (fun ls hl => ?_)
          refine lv_iinc (v := (j5 + 1)) (lv' := [(5, .int (j5 + 1)), (4, .int (1 : Int32)), (0, .ref j0), (1, .ref j1), (2, .int j2), (3, .int j3)]) hx hb dL_passes_38 hl (k := 5) rfl rfl (by decide) rfl (fun ls hl => ?_)
          refine lv_goto (tgt := 12) hx hb dL_passes_41 (by decide) ?_
          exact ih x13.2.1 x13.2.2 j0 j1 j2 j3 (1 : Int32) (j5 + 1) _ _ _ hcf hW hS (lv_sub hl [2, 3, 4, 5, 1, 0] rfl)
set_option maxHeartbeats 4000000 in
set_option maxRecDepth 100000 in
theorem ct_L_passes (l : Launch) (D : va_G) (cy : Nat → ClassId) (z n : Nat) (Y : mY) (V : mV) (G : mG) (b1 : Nat) (b2 : Nat) (b3 : Int32) (x : Int32 × mV × mG) (hcf : cf_L_passes Y V G b1 b2 b3 = some x) : CT l yL_passes cL_passes 6 (some .boolean) (rmd 6) D cy z [.ref b1, .ref b2, .int b3] Y n V G (some (.int x.1)) Y n x.2.1 x.2.2 := by
  refine ct_of (by decide) (Nat.le_of_ble_eq_true rfl) ?_
  intro p e s m args below meth c ls hx hb hr hml hown hts hlocks hnm hE hW hl
  have hS : va_S (zA z) s.heap s.heap [] := va_S.rf
  have hl : lv_has ls 6 [(0, .ref b1), (1, .ref b2), (2, .int b3)] := hl
  have hown : s.vm.findClass RL = some m.cls := hown
  rw [cf_L_passes] at hcf
  refine lv_aload_n hx hb dL_passes_0 rfl (lv_at hl 0 rfl) ?_
  refine lv_iload_n hx hb dL_passes_1 rfl (lv_at hl 2 rfl) ?_
  obtain ⟨q1, hcf⟩ := og hcf
  obtain ⟨x2, hx2, hcf⟩ := ob hcf
  refine iv_L_15 (As := [.int b3]) (rest := []) hx hb hml hown hts hE (ct_X3_pass l D cy z n Y V G b1 b3 x2 hx2) hW hS q1 rfl rfl hl.1 (Nat.le_of_ble_eq_true rfl) ⟨Nat.le_of_ble_eq_true rfl, Nat.le_of_ble_eq_true rfl⟩ dL_passes_2 ⟨Nat.zero_le _, Nat.zero_le _⟩ (fun H locs hW hS => ?_)
  refine lv_istore_n (lv' := [(3, .int x2.1), (0, .ref b1), (1, .ref b2), (2, .int b3)]) hx hb dL_passes_5 rfl hl (by decide) rfl (fun ls hl => ?_)
  refine lv_iconst (v := (1 : Int32)) hx hb dL_passes_6 (by decide) ?_
  refine lv_istore (lv' := [(4, .int (1 : Int32)), (3, .int x2.1), (0, .ref b1), (1, .ref b2), (2, .int b3)]) hx hb dL_passes_7 hl (by decide) rfl (fun ls hl => ?_)
  refine lv_iconst (v := (0 : Int32)) hx hb dL_passes_9 (by decide) ?_
  refine lv_istore (lv' := [(5, .int (0 : Int32)), (4, .int (1 : Int32)), (3, .int x2.1), (0, .ref b1), (1, .ref b2), (2, .int b3)]) hx hb dL_passes_10 hl (by decide) rfl (fun ls hl => ?_)
  exact wl_L_passes_12 hx hb hr hml hown hts hlocks hE x fuB x2.2.1 x2.2.2 b1 b2 b3 x2.1 (1 : Int32) (0 : Int32) _ _ _ hcf hW hS (lv_sub hl [3, 4, 5, 2, 1, 0] rfl)
set_option maxHeartbeats 4000000 in
set_option maxRecDepth 100000 in
theorem ct_L_isStep (l : Launch) (D : va_G) (cy : Nat → ClassId) (z n : Nat) (Y : mY) (V : mV) (G : mG) (b1 : Nat) (b2 : Nat) (b3 : Int32) (x : Int32 × mV × mG) (hcf : cf_L_isStep Y V G b1 b2 b3 = some x) : CT l yL_isStep cL_isStep 9 (some .boolean) (rmd 7) D cy z [.ref b1, .ref b2, .int b3] Y n V G (some (.int x.1)) Y n x.2.1 x.2.2 := by
  refine ct_of (by decide) (Nat.le_of_ble_eq_true rfl) ?_
  intro p e s m args below meth c ls hx hb hr hml hown hts hlocks hnm hE hW hl
  have hS : va_S (zA z) s.heap s.heap [] := va_S.rf
  have hl : lv_has ls 9 [(0, .ref b1), (1, .ref b2), (2, .int b3)] := hl
  have hown : s.vm.findClass RL = some m.cls := hown
  rw [cf_L_isStep] at hcf
  refine lv_iload_n hx hb dL_isStep_0 rfl (lv_at hl 2 rfl) ?_
  refine lv_iconst (v := (4 : Int32)) hx hb dL_isStep_1 (by decide) ?_
  refine lv_ishr hx hb dL_isStep_2 ?_
  refine lv_istore_n (lv' := [(3, .int (b3 >>> ((4 : Int32) &&& 31))), (0, .ref b1), (1, .ref b2), (2, .int b3)]) hx hb dL_isStep_3 rfl hl (by decide) rfl (fun ls hl => ?_)
  refine lv_aload_n hx hb dL_isStep_4 rfl (lv_at hl 1 rfl) ?_
  refine lv_iconst (v := (0 : Int32)) hx hb dL_isStep_5 (by decide) ?_
  obtain ⟨q1, hcf⟩ := og hcf
  obtain ⟨x2, hx2, hcf⟩ := ob hcf
  refine iv_L_9 (As := [.int (0 : Int32)]) (rest := []) hx hb hml hown hts hE (ct_X3_count l D cy z n Y V G b1 (0 : Int32) x2 hx2) hW hS q1 rfl rfl hl.1 (Nat.le_of_ble_eq_true rfl) ⟨Nat.le_of_ble_eq_true rfl, Nat.le_of_ble_eq_true rfl⟩ dL_isStep_6 ⟨Nat.zero_le _, Nat.zero_le _⟩ (fun H locs hW hS => ?_)
  refine lv_istore (lv' := [(4, .int x2), (3, .int (b3 >>> ((4 : Int32) &&& 31))), (0, .ref b1), (1, .ref b2), (2, .int b3)]) hx hb dL_isStep_9 hl (by decide) rfl (fun ls hl => ?_)
  refine lv_iload_n hx hb dL_isStep_11 rfl (lv_at hl 1 rfl) ?_
  refine lv_iload hx hb dL_isStep_12 (lv_at hl 0 rfl) ?_
  obtain ⟨x3, hx3, hcf⟩ := ob hcf
  refine iv_L_18 (As := [.int (b3 >>> ((4 : Int32) &&& 31)), .int x2]) (rest := []) hx hb hml hown hts hE (ct_L_up l D cy z n Y V G (b3 >>> ((4 : Int32) &&& 31)) x2 x3 hx3) hW hS rfl rfl hl.1 (Nat.le_of_ble_eq_true rfl) ⟨Nat.le_of_ble_eq_true rfl, Nat.le_of_ble_eq_true rfl⟩ dL_isStep_14 ⟨Nat.zero_le _, Nat.zero_le _⟩ (fun H locs hW hS => ?_)
  refine lv_istore (lv' := [(5, .int x3), (4, .int x2), (3, .int (b3 >>> ((4 : Int32) &&& 31))), (0, .ref b1), (1, .ref b2), (2, .int b3)]) hx hb dL_isStep_17 hl (by decide) rfl (fun ls hl => ?_)
  refine lv_aload_n hx hb dL_isStep_19 rfl (lv_at hl 3 rfl) ?_
  refine lv_iload hx hb dL_isStep_20 (lv_at hl 0 rfl) ?_
  obtain ⟨x4, hx4, hcf⟩ := ob hcf
  refine iv_L_24 (As := [.ref b1, .int x3]) (rest := []) hx hb hml hown hts hE (ct_L_there l D cy z n Y V G b1 x3 x4 hx4) hW hS rfl rfl hl.1 (Nat.le_of_ble_eq_true rfl) ⟨Nat.le_of_ble_eq_true rfl, Nat.le_of_ble_eq_true rfl⟩ dL_isStep_22 ⟨Nat.zero_le _, Nat.zero_le _⟩ (fun H locs hW hS => ?_)
  refine lv_istore (lv' := [(6, .int x4), (5, .int x3), (4, .int x2), (3, .int (b3 >>> ((4 : Int32) &&& 31))), (0, .ref b1), (1, .ref b2), (2, .int b3)]) hx hb dL_isStep_25 hl (by decide) rfl (fun ls hl => ?_)
  refine lv_iload_n hx hb dL_isStep_27 rfl (lv_at hl 3 rfl) ?_
  refine lv_iconst (v := (4 : Int32)) hx hb dL_isStep_28 (by decide) ?_
  refine lv_ishr hx hb dL_isStep_29 ?_
  refine lv_bipush (v := (8 : Int32)) hx hb dL_isStep_30 (by decide) ?_
  obtain ⟨x5, hx5, hcf⟩ := ob hcf
  refine iv_L_18 (As := [.int ((b3 >>> ((4 : Int32) &&& 31)) >>> ((4 : Int32) &&& 31)), .int (8 : Int32)]) (rest := []) hx hb hml hown hts hE (ct_L_up l D cy z n Y V G ((b3 >>> ((4 : Int32) &&& 31)) >>> ((4 : Int32) &&& 31)) (8 : Int32) x5 hx5) hW hS rfl rfl hl.1 (Nat.le_of_ble_eq_true rfl) ⟨Nat.le_of_ble_eq_true rfl, Nat.le_of_ble_eq_true rfl⟩ dL_isStep_32 ⟨Nat.zero_le _, Nat.zero_le _⟩ (fun H locs hW hS => ?_)
  refine lv_istore (lv' := [(7, .int x5), (6, .int x4), (5, .int x3), (4, .int x2), (3, .int (b3 >>> ((4 : Int32) &&& 31))), (0, .ref b1), (1, .ref b2), (2, .int b3)]) hx hb dL_isStep_35 hl (by decide) rfl (fun ls hl => ?_)
  refine lv_iload_n hx hb dL_isStep_37 rfl (lv_at hl 7 rfl) ?_
  refine lv_bipush (v := (12 : Int32)) hx hb dL_isStep_38 (by decide) ?_
  obtain ⟨x6, hx6, hcf⟩ := ob hcf
  refine iv_L_18 (As := [.int b3, .int (12 : Int32)]) (rest := []) hx hb hml hown hts hE (ct_L_up l D cy z n Y V G b3 (12 : Int32) x6 hx6) hW hS rfl rfl hl.1 (Nat.le_of_ble_eq_true rfl) ⟨Nat.le_of_ble_eq_true rfl, Nat.le_of_ble_eq_true rfl⟩ dL_isStep_40 ⟨Nat.zero_le _, Nat.zero_le _⟩ (fun H locs hW hS => ?_)
  by_cases q7 : x6 = (0 : Int32)
  · replace hcf := (if_pos q7).symm.trans hcf
    refine wk_tsw (off := 53) (tgt := 96) hx hb dL_isStep_43 (by rw [q7]; rfl) (by decide) ?_
    refine lv_iload_n hx hb dL_isStep_96 rfl (lv_at hl 4 rfl) ?_
    refine lv_iconst (v := (3 : Int32)) hx hb dL_isStep_97 (by decide) ?_
    obtain ⟨x8, hx8, hcf⟩ := ob hcf
    refine iv_L_18 (As := [.int (b3 >>> ((4 : Int32) &&& 31)), .int (3 : Int32)]) (rest := []) hx hb hml hown hts hE (ct_L_up l D cy z n Y V G (b3 >>> ((4 : Int32) &&& 31)) (3 : Int32) x8 hx8) hW hS rfl rfl hl.1 (Nat.le_of_ble_eq_true rfl) ⟨Nat.le_of_ble_eq_true rfl, Nat.le_of_ble_eq_true rfl⟩ dL_isStep_98 ⟨Nat.zero_le _, Nat.zero_le _⟩ (fun H locs hW hS => ?_)
    refine lv_istore (lv' := [(8, .int x8), (7, .int x5), (6, .int x4), (5, .int x3), (4, .int x2), (3, .int (b3 >>> ((4 : Int32) &&& 31))), (0, .ref b1), (1, .ref b2), (2, .int b3)]) hx hb dL_isStep_101 hl (by decide) rfl (fun ls hl => ?_)
    refine lv_aload_n hx hb dL_isStep_103 rfl (lv_at hl 6 rfl) ?_
    refine lv_iload hx hb dL_isStep_104 (lv_at hl 0 rfl) ?_
    obtain ⟨x9, hx9, hcf⟩ := ob hcf
    refine iv_L_28 (As := [.int x8]) (rest := []) hx hb hml hown hts hE (ct_X3_begin l D cy z n Y V G b1 x8 x9 hx9) hW hS q1 rfl rfl hl.1 (Nat.le_of_ble_eq_true rfl) ⟨Nat.le_of_ble_eq_true rfl, Nat.le_of_ble_eq_true rfl⟩ dL_isStep_106 ⟨Nat.zero_le _, Nat.zero_le _⟩ (fun H locs hW hS => ?_)
    refine lv_aload_n hx hb dL_isStep_109 rfl (lv_at hl 7 rfl) ?_
    refine lv_iload hx hb dL_isStep_110 (lv_at hl 0 rfl) ?_
    obtain ⟨q10, hcf⟩ := og hcf
    obtain ⟨x11, hx11, hcf⟩ := ob hcf
    refine iv_L_28 (As := [.int x8]) (rest := [.int x9.1]) hx hb hml hown hts hE (ct_X3_begin l D cy z n Y x9.2.1 x9.2.2 b2 x8 x11 hx11) hW hS q10 rfl rfl hl.1 (Nat.le_of_ble_eq_true rfl) ⟨Nat.le_of_ble_eq_true rfl, Nat.le_of_ble_eq_true rfl⟩ dL_isStep_112 ⟨Nat.zero_le _, Nat.zero_le _⟩ (fun H locs hW hS => ?_)
    refine lv_iload hx hb dL_isStep_115 (lv_at hl 4 rfl) ?_
    obtain ⟨x12, hx12, hcf⟩ := ob hcf
    refine iv_L_31 (As := [.int x11.1, .int x2]) (rest := [.int x9.1]) hx hb hml hown hts hE (ct_L_turned l D cy z n Y x11.2.1 x11.2.2 x11.1 x2 x12 hx12) hW hS rfl rfl hl.1 (Nat.le_of_ble_eq_true rfl) ⟨Nat.le_of_ble_eq_true rfl, Nat.le_of_ble_eq_true rfl⟩ dL_isStep_117 ⟨Nat.zero_le _, Nat.zero_le _⟩ (fun H locs hW hS => ?_)
    refine lv_icmp_ne (tgt := 127) hx hb dL_isStep_120 (by decide) (fun q13 => ?_) (fun q13 => ?_)
    · replace hcf := (if_neg q13).symm.trans hcf
      refine lv_iconst (v := (0 : Int32)) hx hb dL_isStep_127 (by decide) ?_
      have hcf := Option.some.inj hcf; subst hcf
      exact wk_zret hx hb hr hlocks (Or.inl rfl) hW hS dL_isStep_128
    · replace hcf := (if_pos q13).symm.trans hcf
      refine lv_iconst (v := (1 : Int32)) hx hb dL_isStep_123 (by decide) ?_
      refine lv_goto (tgt := 128) hx hb dL_isStep_124 (by decide) ?_
      have hcf := Option.some.inj hcf; subst hcf
      exact wk_zret hx hb hr hlocks (Or.inr rfl) hW hS dL_isStep_128
  · replace hcf := (if_neg q7).symm.trans hcf
    by_cases q14 : x6 = (1 : Int32)
    · replace hcf := (if_pos q14).symm.trans hcf
      refine wk_tsw (off := 86) (tgt := 129) hx hb dL_isStep_43 (by rw [q14]; rfl) (by decide) ?_
      refine lv_iload_n hx hb dL_isStep_129 rfl (lv_at hl 4 rfl) ?_
      refine lv_iconst (v := (3 : Int32)) hx hb dL_isStep_130 (by decide) ?_
      obtain ⟨x15, hx15, hcf⟩ := ob hcf
      refine iv_L_18 (As := [.int (b3 >>> ((4 : Int32) &&& 31)), .int (3 : Int32)]) (rest := []) hx hb hml hown hts hE (ct_L_up l D cy z n Y V G (b3 >>> ((4 : Int32) &&& 31)) (3 : Int32) x15 hx15) hW hS rfl rfl hl.1 (Nat.le_of_ble_eq_true rfl) ⟨Nat.le_of_ble_eq_true rfl, Nat.le_of_ble_eq_true rfl⟩ dL_isStep_131 ⟨Nat.zero_le _, Nat.zero_le _⟩ (fun H locs hW hS => ?_)
      refine lv_istore (lv' := [(8, .int x15), (7, .int x5), (6, .int x4), (5, .int x3), (4, .int x2), (3, .int (b3 >>> ((4 : Int32) &&& 31))), (0, .ref b1), (1, .ref b2), (2, .int b3)]) hx hb dL_isStep_134 hl (by decide) rfl (fun ls hl => ?_)
      refine lv_aload_n hx hb dL_isStep_136 rfl (lv_at hl 6 rfl) ?_
      refine lv_iload hx hb dL_isStep_137 (lv_at hl 0 rfl) ?_
      obtain ⟨x16, hx16, hcf⟩ := ob hcf
      refine iv_L_34 (As := [.int x15]) (rest := []) hx hb hml hown hts hE (ct_X3_finish l D cy z n Y V G b1 x15 x16 hx16) hW hS q1 rfl rfl hl.1 (Nat.le_of_ble_eq_true rfl) ⟨Nat.le_of_ble_eq_true rfl, Nat.le_of_ble_eq_true rfl⟩ dL_isStep_139 ⟨Nat.zero_le _, Nat.zero_le _⟩ (fun H locs hW hS => ?_)
      refine lv_aload_n hx hb dL_isStep_142 rfl (lv_at hl 7 rfl) ?_
      refine lv_iload hx hb dL_isStep_143 (lv_at hl 0 rfl) ?_
      obtain ⟨q17, hcf⟩ := og hcf
      obtain ⟨x18, hx18, hcf⟩ := ob hcf
      refine iv_L_34 (As := [.int x15]) (rest := [.int x16.1]) hx hb hml hown hts hE (ct_X3_finish l D cy z n Y x16.2.1 x16.2.2 b2 x15 x18 hx18) hW hS q17 rfl rfl hl.1 (Nat.le_of_ble_eq_true rfl) ⟨Nat.le_of_ble_eq_true rfl, Nat.le_of_ble_eq_true rfl⟩ dL_isStep_145 ⟨Nat.zero_le _, Nat.zero_le _⟩ (fun H locs hW hS => ?_)
      refine lv_icmp_ne (tgt := 155) hx hb dL_isStep_148 (by decide) (fun q19 => ?_) (fun q19 => ?_)
      · replace hcf := (if_neg q19).symm.trans hcf
        refine lv_iconst (v := (0 : Int32)) hx hb dL_isStep_155 (by decide) ?_
        have hcf := Option.some.inj hcf; subst hcf
        exact wk_zret hx hb hr hlocks (Or.inl rfl) hW hS dL_isStep_156
      · replace hcf := (if_pos q19).symm.trans hcf
        refine lv_iconst (v := (1 : Int32)) hx hb dL_isStep_151 (by decide) ?_
        refine lv_goto (tgt := 156) hx hb dL_isStep_152 (by decide) ?_
        have hcf := Option.some.inj hcf; subst hcf
        exact wk_zret hx hb hr hlocks (Or.inr rfl) hW hS dL_isStep_156
    · replace hcf := (if_neg q14).symm.trans hcf
      by_cases q20 : x6 = (2 : Int32)
      · replace hcf := (if_pos q20).symm.trans hcf
        refine wk_tsw (off := 114) (tgt := 157) hx hb dL_isStep_43 (by rw [q20]; rfl) (by decide) ?_
        refine lv_aload_n hx hb dL_isStep_157 rfl (lv_at hl 5 rfl) ?_
        refine lv_iload hx hb dL_isStep_158 (lv_at hl 2 rfl) ?_
        refine lv_iload hx hb dL_isStep_160 (lv_at hl 0 rfl) ?_
        obtain ⟨x21, hx21, hcf⟩ := ob hcf
        refine iv_L_37 (As := [.int x3, .int x5]) (rest := []) hx hb hml hown hts hE (ct_X3_apply l D cy z n Y V G b1 x3 x5 x21 hx21) hW hS q1 rfl rfl hl.1 (Nat.le_of_ble_eq_true rfl) ⟨Nat.le_of_ble_eq_true rfl, Nat.le_of_ble_eq_true rfl⟩ dL_isStep_162 ⟨Nat.zero_le _, Nat.zero_le _⟩ (fun H locs hW hS => ?_)
        refine lv_aload_n hx hb dL_isStep_165 rfl (lv_at hl 6 rfl) ?_
        refine lv_iload hx hb dL_isStep_166 (lv_at hl 1 rfl) ?_
        refine lv_iload hx hb dL_isStep_168 (lv_at hl 0 rfl) ?_
        obtain ⟨q22, hcf⟩ := og hcf
        obtain ⟨x23, hx23, hcf⟩ := ob hcf
        refine iv_L_37 (As := [.int x4, .int x5]) (rest := [.int x21.1]) hx hb hml hown hts hE (ct_X3_apply l D cy z n Y x21.2.1 x21.2.2 b2 x4 x5 x23 hx23) hW hS q22 rfl rfl hl.1 (Nat.le_of_ble_eq_true rfl) ⟨Nat.le_of_ble_eq_true rfl, Nat.le_of_ble_eq_true rfl⟩ dL_isStep_170 ⟨Nat.zero_le _, Nat.zero_le _⟩ (fun H locs hW hS => ?_)
        refine lv_icmp_ne (tgt := 180) hx hb dL_isStep_173 (by decide) (fun q24 => ?_) (fun q24 => ?_)
        · replace hcf := (if_neg q24).symm.trans hcf
          refine lv_iconst (v := (0 : Int32)) hx hb dL_isStep_180 (by decide) ?_
          have hcf := Option.some.inj hcf; subst hcf
          exact wk_zret hx hb hr hlocks (Or.inl rfl) hW hS dL_isStep_181
        · replace hcf := (if_pos q24).symm.trans hcf
          refine lv_iconst (v := (1 : Int32)) hx hb dL_isStep_176 (by decide) ?_
          refine lv_goto (tgt := 181) hx hb dL_isStep_177 (by decide) ?_
          have hcf := Option.some.inj hcf; subst hcf
          exact wk_zret hx hb hr hlocks (Or.inr rfl) hW hS dL_isStep_181
      · replace hcf := (if_neg q20).symm.trans hcf
        by_cases q25 : x6 = (3 : Int32)
        · replace hcf := (if_pos q25).symm.trans hcf
          refine wk_tsw (off := 114) (tgt := 157) hx hb dL_isStep_43 (by rw [q25]; rfl) (by decide) ?_
          refine lv_aload_n hx hb dL_isStep_157 rfl (lv_at hl 5 rfl) ?_
          refine lv_iload hx hb dL_isStep_158 (lv_at hl 2 rfl) ?_
          refine lv_iload hx hb dL_isStep_160 (lv_at hl 0 rfl) ?_
          obtain ⟨x26, hx26, hcf⟩ := ob hcf
          refine iv_L_37 (As := [.int x3, .int x5]) (rest := []) hx hb hml hown hts hE (ct_X3_apply l D cy z n Y V G b1 x3 x5 x26 hx26) hW hS q1 rfl rfl hl.1 (Nat.le_of_ble_eq_true rfl) ⟨Nat.le_of_ble_eq_true rfl, Nat.le_of_ble_eq_true rfl⟩ dL_isStep_162 ⟨Nat.zero_le _, Nat.zero_le _⟩ (fun H locs hW hS => ?_)
          refine lv_aload_n hx hb dL_isStep_165 rfl (lv_at hl 6 rfl) ?_
          refine lv_iload hx hb dL_isStep_166 (lv_at hl 1 rfl) ?_
          refine lv_iload hx hb dL_isStep_168 (lv_at hl 0 rfl) ?_
          obtain ⟨q27, hcf⟩ := og hcf
          obtain ⟨x28, hx28, hcf⟩ := ob hcf
          refine iv_L_37 (As := [.int x4, .int x5]) (rest := [.int x26.1]) hx hb hml hown hts hE (ct_X3_apply l D cy z n Y x26.2.1 x26.2.2 b2 x4 x5 x28 hx28) hW hS q27 rfl rfl hl.1 (Nat.le_of_ble_eq_true rfl) ⟨Nat.le_of_ble_eq_true rfl, Nat.le_of_ble_eq_true rfl⟩ dL_isStep_170 ⟨Nat.zero_le _, Nat.zero_le _⟩ (fun H locs hW hS => ?_)
          refine lv_icmp_ne (tgt := 180) hx hb dL_isStep_173 (by decide) (fun q29 => ?_) (fun q29 => ?_)
          · replace hcf := (if_neg q29).symm.trans hcf
            refine lv_iconst (v := (0 : Int32)) hx hb dL_isStep_180 (by decide) ?_
            have hcf := Option.some.inj hcf; subst hcf
            exact wk_zret hx hb hr hlocks (Or.inl rfl) hW hS dL_isStep_181
          · replace hcf := (if_pos q29).symm.trans hcf
            refine lv_iconst (v := (1 : Int32)) hx hb dL_isStep_176 (by decide) ?_
            refine lv_goto (tgt := 181) hx hb dL_isStep_177 (by decide) ?_
            have hcf := Option.some.inj hcf; subst hcf
            exact wk_zret hx hb hr hlocks (Or.inr rfl) hW hS dL_isStep_181
        · replace hcf := (if_neg q25).symm.trans hcf
          by_cases q30 : x6 = (4 : Int32)
          · replace hcf := (if_pos q30).symm.trans hcf
            refine wk_tsw (off := 139) (tgt := 182) hx hb dL_isStep_43 (by rw [q30]; rfl) (by decide) ?_
            refine lv_aload_n hx hb dL_isStep_182 rfl (lv_at hl 5 rfl) ?_
            refine lv_iload hx hb dL_isStep_183 (lv_at hl 2 rfl) ?_
            refine lv_iload hx hb dL_isStep_185 (lv_at hl 0 rfl) ?_
            obtain ⟨x31, hx31, hcf⟩ := ob hcf
            refine iv_L_40 (As := [.int x3, .int x5]) (rest := []) hx hb hml hown hts hE (ct_X3_decide l D cy z n Y V G b1 x3 x5 x31 hx31) hW hS q1 rfl rfl hl.1 (Nat.le_of_ble_eq_true rfl) ⟨Nat.le_of_ble_eq_true rfl, Nat.le_of_ble_eq_true rfl⟩ dL_isStep_187 ⟨Nat.zero_le _, Nat.zero_le _⟩ (fun H locs hW hS => ?_)
            refine lv_aload_n hx hb dL_isStep_190 rfl (lv_at hl 6 rfl) ?_
            refine lv_iload hx hb dL_isStep_191 (lv_at hl 1 rfl) ?_
            refine lv_iload hx hb dL_isStep_193 (lv_at hl 0 rfl) ?_
            obtain ⟨q32, hcf⟩ := og hcf
            obtain ⟨x33, hx33, hcf⟩ := ob hcf
            refine iv_L_40 (As := [.int x4, .int x5]) (rest := [.int x31.1]) hx hb hml hown hts hE (ct_X3_decide l D cy z n Y x31.2.1 x31.2.2 b2 x4 x5 x33 hx33) hW hS q32 rfl rfl hl.1 (Nat.le_of_ble_eq_true rfl) ⟨Nat.le_of_ble_eq_true rfl, Nat.le_of_ble_eq_true rfl⟩ dL_isStep_195 ⟨Nat.zero_le _, Nat.zero_le _⟩ (fun H locs hW hS => ?_)
            refine lv_icmp_ne (tgt := 205) hx hb dL_isStep_198 (by decide) (fun q34 => ?_) (fun q34 => ?_)
            · replace hcf := (if_neg q34).symm.trans hcf
              refine lv_iconst (v := (0 : Int32)) hx hb dL_isStep_205 (by decide) ?_
              have hcf := Option.some.inj hcf; subst hcf
              exact wk_zret hx hb hr hlocks (Or.inl rfl) hW hS dL_isStep_206
            · replace hcf := (if_pos q34).symm.trans hcf
              refine lv_iconst (v := (1 : Int32)) hx hb dL_isStep_201 (by decide) ?_
              refine lv_goto (tgt := 206) hx hb dL_isStep_202 (by decide) ?_
              have hcf := Option.some.inj hcf; subst hcf
              exact wk_zret hx hb hr hlocks (Or.inr rfl) hW hS dL_isStep_206
          · replace hcf := (if_neg q30).symm.trans hcf
            by_cases q35 : x6 = (5 : Int32)
            · replace hcf := (if_pos q35).symm.trans hcf
              refine wk_tsw (off := 164) (tgt := 207) hx hb dL_isStep_43 (by rw [q35]; rfl) (by decide) ?_
              refine lv_aload_n hx hb dL_isStep_207 rfl (lv_at hl 5 rfl) ?_
              refine lv_iload hx hb dL_isStep_208 (lv_at hl 2 rfl) ?_
              obtain ⟨x36, hx36, hcf⟩ := ob hcf
              refine iv_L_43 (As := [.int x3]) (rest := []) hx hb hml hown hts hE (ct_X3_lapse l D cy z n Y V G b1 x3 x36 hx36) hW hS q1 rfl rfl hl.1 (Nat.le_of_ble_eq_true rfl) ⟨Nat.le_of_ble_eq_true rfl, Nat.le_of_ble_eq_true rfl⟩ dL_isStep_210 ⟨Nat.zero_le _, Nat.zero_le _⟩ (fun H locs hW hS => ?_)
              refine lv_aload_n hx hb dL_isStep_213 rfl (lv_at hl 6 rfl) ?_
              refine lv_iload hx hb dL_isStep_214 (lv_at hl 1 rfl) ?_
              obtain ⟨q37, hcf⟩ := og hcf
              obtain ⟨x38, hx38, hcf⟩ := ob hcf
              refine iv_L_43 (As := [.int x4]) (rest := [.int x36.1]) hx hb hml hown hts hE (ct_X3_lapse l D cy z n Y x36.2.1 x36.2.2 b2 x4 x38 hx38) hW hS q37 rfl rfl hl.1 (Nat.le_of_ble_eq_true rfl) ⟨Nat.le_of_ble_eq_true rfl, Nat.le_of_ble_eq_true rfl⟩ dL_isStep_216 ⟨Nat.zero_le _, Nat.zero_le _⟩ (fun H locs hW hS => ?_)
              refine lv_icmp_ne (tgt := 226) hx hb dL_isStep_219 (by decide) (fun q39 => ?_) (fun q39 => ?_)
              · replace hcf := (if_neg q39).symm.trans hcf
                refine lv_iconst (v := (0 : Int32)) hx hb dL_isStep_226 (by decide) ?_
                have hcf := Option.some.inj hcf; subst hcf
                exact wk_zret hx hb hr hlocks (Or.inl rfl) hW hS dL_isStep_227
              · replace hcf := (if_pos q39).symm.trans hcf
                refine lv_iconst (v := (1 : Int32)) hx hb dL_isStep_222 (by decide) ?_
                refine lv_goto (tgt := 227) hx hb dL_isStep_223 (by decide) ?_
                have hcf := Option.some.inj hcf; subst hcf
                exact wk_zret hx hb hr hlocks (Or.inr rfl) hW hS dL_isStep_227
            · replace hcf := (if_neg q35).symm.trans hcf
              by_cases q40 : x6 = (6 : Int32)
              · replace hcf := (if_pos q40).symm.trans hcf
                refine wk_tsw (off := 185) (tgt := 228) hx hb dL_isStep_43 (by rw [q40]; rfl) (by decide) ?_
                refine lv_aload_n hx hb dL_isStep_228 rfl (lv_at hl 5 rfl) ?_
                refine lv_iload hx hb dL_isStep_229 (lv_at hl 2 rfl) ?_
                obtain ⟨x41, hx41, hcf⟩ := ob hcf
                refine iv_L_46 (As := [.int x3]) (rest := []) hx hb hml hown hts hE (ct_X3_cure l D cy z n Y V G b1 x3 x41 hx41) hW hS q1 rfl rfl hl.1 (Nat.le_of_ble_eq_true rfl) ⟨Nat.le_of_ble_eq_true rfl, Nat.le_of_ble_eq_true rfl⟩ dL_isStep_231 ⟨Nat.zero_le _, Nat.zero_le _⟩ (fun H locs hW hS => ?_)
                refine lv_aload_n hx hb dL_isStep_234 rfl (lv_at hl 6 rfl) ?_
                refine lv_iload hx hb dL_isStep_235 (lv_at hl 1 rfl) ?_
                obtain ⟨q42, hcf⟩ := og hcf
                obtain ⟨x43, hx43, hcf⟩ := ob hcf
                refine iv_L_46 (As := [.int x4]) (rest := [.int x41.1]) hx hb hml hown hts hE (ct_X3_cure l D cy z n Y x41.2.1 x41.2.2 b2 x4 x43 hx43) hW hS q42 rfl rfl hl.1 (Nat.le_of_ble_eq_true rfl) ⟨Nat.le_of_ble_eq_true rfl, Nat.le_of_ble_eq_true rfl⟩ dL_isStep_237 ⟨Nat.zero_le _, Nat.zero_le _⟩ (fun H locs hW hS => ?_)
                refine lv_icmp_ne (tgt := 247) hx hb dL_isStep_240 (by decide) (fun q44 => ?_) (fun q44 => ?_)
                · replace hcf := (if_neg q44).symm.trans hcf
                  refine lv_iconst (v := (0 : Int32)) hx hb dL_isStep_247 (by decide) ?_
                  have hcf := Option.some.inj hcf; subst hcf
                  exact wk_zret hx hb hr hlocks (Or.inl rfl) hW hS dL_isStep_248
                · replace hcf := (if_pos q44).symm.trans hcf
                  refine lv_iconst (v := (1 : Int32)) hx hb dL_isStep_243 (by decide) ?_
                  refine lv_goto (tgt := 248) hx hb dL_isStep_244 (by decide) ?_
                  have hcf := Option.some.inj hcf; subst hcf
                  exact wk_zret hx hb hr hlocks (Or.inr rfl) hW hS dL_isStep_248
              · replace hcf := (if_neg q40).symm.trans hcf
                by_cases q45 : x6 = (7 : Int32)
                · replace hcf := (if_pos q45).symm.trans hcf
                  refine wk_tsw (off := 206) (tgt := 249) hx hb dL_isStep_43 (by rw [q45]; rfl) (by decide) ?_
                  refine lv_aload_n hx hb dL_isStep_249 rfl (lv_at hl 5 rfl) ?_
                  refine lv_iload hx hb dL_isStep_250 (lv_at hl 2 rfl) ?_
                  refine lv_iconst (v := (1 : Int32)) hx hb dL_isStep_252 (by decide) ?_
                  refine lv_iload_n hx hb dL_isStep_253 rfl (lv_at hl 4 rfl) ?_
                  refine lv_iconst (v := (4 : Int32)) hx hb dL_isStep_254 (by decide) ?_
                  refine lv_ishr hx hb dL_isStep_255 ?_
                  refine lv_bipush (v := (9 : Int32)) hx hb dL_isStep_256 (by decide) ?_
                  obtain ⟨x46, hx46, hcf⟩ := ob hcf
                  refine iv_L_18 (As := [.int ((b3 >>> ((4 : Int32) &&& 31)) >>> ((4 : Int32) &&& 31)), .int (9 : Int32)]) (rest := [.int (1 : Int32), .int x3, .ref b1]) hx hb hml hown hts hE (ct_L_up l D cy z n Y V G ((b3 >>> ((4 : Int32) &&& 31)) >>> ((4 : Int32) &&& 31)) (9 : Int32) x46 hx46) hW hS rfl rfl hl.1 (Nat.le_of_ble_eq_true rfl) ⟨Nat.le_of_ble_eq_true rfl, Nat.le_of_ble_eq_true rfl⟩ dL_isStep_258 ⟨Nat.zero_le _, Nat.zero_le _⟩ (fun H locs hW hS => ?_)
                  refine lv_iadd hx hb dL_isStep_261 ?_
                  obtain ⟨x47, hx47, hcf⟩ := ob hcf
                  refine iv_L_49 (As := [.int x3, .int ((1 : Int32) + x46)]) (rest := []) hx hb hml hown hts hE (ct_X3_serve l D cy z n Y V G b1 x3 ((1 : Int32) + x46) x47 hx47) hW hS q1 rfl rfl hl.1 (Nat.le_of_ble_eq_true rfl) ⟨Nat.le_of_ble_eq_true rfl, Nat.le_of_ble_eq_true rfl⟩ dL_isStep_262 ⟨Nat.zero_le _, Nat.zero_le _⟩ (fun H locs hW hS => ?_)
                  refine lv_aload_n hx hb dL_isStep_265 rfl (lv_at hl 6 rfl) ?_
                  refine lv_iload hx hb dL_isStep_266 (lv_at hl 1 rfl) ?_
                  refine lv_iconst (v := (1 : Int32)) hx hb dL_isStep_268 (by decide) ?_
                  refine lv_iload_n hx hb dL_isStep_269 rfl (lv_at hl 4 rfl) ?_
                  refine lv_iconst (v := (4 : Int32)) hx hb dL_isStep_270 (by decide) ?_
                  refine lv_ishr hx hb dL_isStep_271 ?_
                  refine lv_bipush (v := (9 : Int32)) hx hb dL_isStep_272 (by decide) ?_
                  obtain ⟨x48, hx48, hcf⟩ := ob hcf
                  refine iv_L_18 (As := [.int ((b3 >>> ((4 : Int32) &&& 31)) >>> ((4 : Int32) &&& 31)), .int (9 : Int32)]) (rest := [.int (1 : Int32), .int x4, .ref b2, .int x47.1]) hx hb hml hown hts hE (ct_L_up l D cy z n Y x47.2.1 x47.2.2 ((b3 >>> ((4 : Int32) &&& 31)) >>> ((4 : Int32) &&& 31)) (9 : Int32) x48 hx48) hW hS rfl rfl hl.1 (Nat.le_of_ble_eq_true rfl) ⟨Nat.le_of_ble_eq_true rfl, Nat.le_of_ble_eq_true rfl⟩ dL_isStep_274 ⟨Nat.zero_le _, Nat.zero_le _⟩ (fun H locs hW hS => ?_)
                  refine lv_iadd hx hb dL_isStep_277 ?_
                  obtain ⟨q49, hcf⟩ := og hcf
                  obtain ⟨x50, hx50, hcf⟩ := ob hcf
                  refine iv_L_49 (As := [.int x4, .int ((1 : Int32) + x48)]) (rest := [.int x47.1]) hx hb hml hown hts hE (ct_X3_serve l D cy z n Y x47.2.1 x47.2.2 b2 x4 ((1 : Int32) + x48) x50 hx50) hW hS q49 rfl rfl hl.1 (Nat.le_of_ble_eq_true rfl) ⟨Nat.le_of_ble_eq_true rfl, Nat.le_of_ble_eq_true rfl⟩ dL_isStep_278 ⟨Nat.zero_le _, Nat.zero_le _⟩ (fun H locs hW hS => ?_)
                  refine lv_icmp_ne (tgt := 288) hx hb dL_isStep_281 (by decide) (fun q51 => ?_) (fun q51 => ?_)
                  · replace hcf := (if_neg q51).symm.trans hcf
                    refine lv_iconst (v := (0 : Int32)) hx hb dL_isStep_288 (by decide) ?_
                    have hcf := Option.some.inj hcf; subst hcf
                    exact wk_zret hx hb hr hlocks (Or.inl rfl) hW hS dL_isStep_289
                  · replace hcf := (if_pos q51).symm.trans hcf
                    refine lv_iconst (v := (1 : Int32)) hx hb dL_isStep_284 (by decide) ?_
                    refine lv_goto (tgt := 289) hx hb dL_isStep_285 (by decide) ?_
                    have hcf := Option.some.inj hcf; subst hcf
                    exact wk_zret hx hb hr hlocks (Or.inr rfl) hW hS dL_isStep_289
                · replace hcf := (if_neg q45).symm.trans hcf
                  by_cases q52 : x6 = (8 : Int32)
                  · replace hcf := (if_pos q52).symm.trans hcf
                    refine wk_tsw (off := 247) (tgt := 290) hx hb dL_isStep_43 (by rw [q52]; rfl) (by decide) ?_
                    refine lv_aload_n hx hb dL_isStep_290 rfl (lv_at hl 5 rfl) ?_
                    refine lv_iload hx hb dL_isStep_291 (lv_at hl 2 rfl) ?_
                    refine lv_iload_n hx hb dL_isStep_293 rfl (lv_at hl 4 rfl) ?_
                    refine lv_iconst (v := (3 : Int32)) hx hb dL_isStep_294 (by decide) ?_
                    refine lv_ishr hx hb dL_isStep_295 ?_
                    refine lv_iconst (v := (3 : Int32)) hx hb dL_isStep_296 (by decide) ?_
                    obtain ⟨x53, hx53, hcf⟩ := ob hcf
                    refine iv_L_18 (As := [.int ((b3 >>> ((4 : Int32) &&& 31)) >>> ((3 : Int32) &&& 31)), .int (3 : Int32)]) (rest := [.int x3, .ref b1]) hx hb hml hown hts hE (ct_L_up l D cy z n Y V G ((b3 >>> ((4 : Int32) &&& 31)) >>> ((3 : Int32) &&& 31)) (3 : Int32) x53 hx53) hW hS rfl rfl hl.1 (Nat.le_of_ble_eq_true rfl) ⟨Nat.le_of_ble_eq_true rfl, Nat.le_of_ble_eq_true rfl⟩ dL_isStep_297 ⟨Nat.zero_le _, Nat.zero_le _⟩ (fun H locs hW hS => ?_)
                    refine lv_iload_n hx hb dL_isStep_300 rfl (lv_at hl 4 rfl) ?_
                    refine lv_iconst (v := (5 : Int32)) hx hb dL_isStep_301 (by decide) ?_
                    refine lv_ishr hx hb dL_isStep_302 ?_
                    refine lv_bipush (v := (12 : Int32)) hx hb dL_isStep_303 (by decide) ?_
                    obtain ⟨x54, hx54, hcf⟩ := ob hcf
                    refine iv_L_18 (As := [.int ((b3 >>> ((4 : Int32) &&& 31)) >>> ((5 : Int32) &&& 31)), .int (12 : Int32)]) (rest := [.int x53, .int x3, .ref b1]) hx hb hml hown hts hE (ct_L_up l D cy z n Y V G ((b3 >>> ((4 : Int32) &&& 31)) >>> ((5 : Int32) &&& 31)) (12 : Int32) x54 hx54) hW hS rfl rfl hl.1 (Nat.le_of_ble_eq_true rfl) ⟨Nat.le_of_ble_eq_true rfl, Nat.le_of_ble_eq_true rfl⟩ dL_isStep_305 ⟨Nat.zero_le _, Nat.zero_le _⟩ (fun H locs hW hS => ?_)
                    obtain ⟨x55, hx55, hcf⟩ := ob hcf
                    refine iv_L_52 (As := [.int x3, .int x53, .int x54]) (rest := []) hx hb hml hown hts hE (ct_X3_vary l D cy z n Y V G b1 x3 x53 x54 x55 hx55) hW hS q1 rfl rfl hl.1 (Nat.le_of_ble_eq_true rfl) ⟨Nat.le_of_ble_eq_true rfl, Nat.le_of_ble_eq_true rfl⟩ dL_isStep_308 ⟨Nat.zero_le _, Nat.zero_le _⟩ (fun H locs hW hS => ?_)
                    refine lv_aload_n hx hb dL_isStep_311 rfl (lv_at hl 6 rfl) ?_
                    refine lv_iload hx hb dL_isStep_312 (lv_at hl 1 rfl) ?_
                    refine lv_iload_n hx hb dL_isStep_314 rfl (lv_at hl 4 rfl) ?_
                    refine lv_iconst (v := (3 : Int32)) hx hb dL_isStep_315 (by decide) ?_
                    refine lv_ishr hx hb dL_isStep_316 ?_
                    refine lv_iconst (v := (3 : Int32)) hx hb dL_isStep_317 (by decide) ?_
                    obtain ⟨x56, hx56, hcf⟩ := ob hcf
                    refine iv_L_18 (As := [.int ((b3 >>> ((4 : Int32) &&& 31)) >>> ((3 : Int32) &&& 31)), .int (3 : Int32)]) (rest := [.int x4, .ref b2, .int x55.1]) hx hb hml hown hts hE (ct_L_up l D cy z n Y x55.2.1 x55.2.2 ((b3 >>> ((4 : Int32) &&& 31)) >>> ((3 : Int32) &&& 31)) (3 : Int32) x56 hx56) hW hS rfl rfl hl.1 (Nat.le_of_ble_eq_true rfl) ⟨Nat.le_of_ble_eq_true rfl, Nat.le_of_ble_eq_true rfl⟩ dL_isStep_318 ⟨Nat.zero_le _, Nat.zero_le _⟩ (fun H locs hW hS => ?_)
                    refine lv_iload_n hx hb dL_isStep_321 rfl (lv_at hl 4 rfl) ?_
                    refine lv_iconst (v := (5 : Int32)) hx hb dL_isStep_322 (by decide) ?_
                    refine lv_ishr hx hb dL_isStep_323 ?_
                    refine lv_bipush (v := (12 : Int32)) hx hb dL_isStep_324 (by decide) ?_
                    obtain ⟨x57, hx57, hcf⟩ := ob hcf
                    refine iv_L_18 (As := [.int ((b3 >>> ((4 : Int32) &&& 31)) >>> ((5 : Int32) &&& 31)), .int (12 : Int32)]) (rest := [.int x56, .int x4, .ref b2, .int x55.1]) hx hb hml hown hts hE (ct_L_up l D cy z n Y x55.2.1 x55.2.2 ((b3 >>> ((4 : Int32) &&& 31)) >>> ((5 : Int32) &&& 31)) (12 : Int32) x57 hx57) hW hS rfl rfl hl.1 (Nat.le_of_ble_eq_true rfl) ⟨Nat.le_of_ble_eq_true rfl, Nat.le_of_ble_eq_true rfl⟩ dL_isStep_326 ⟨Nat.zero_le _, Nat.zero_le _⟩ (fun H locs hW hS => ?_)
                    obtain ⟨q58, hcf⟩ := og hcf
                    obtain ⟨x59, hx59, hcf⟩ := ob hcf
                    refine iv_L_52 (As := [.int x4, .int x56, .int x57]) (rest := [.int x55.1]) hx hb hml hown hts hE (ct_X3_vary l D cy z n Y x55.2.1 x55.2.2 b2 x4 x56 x57 x59 hx59) hW hS q58 rfl rfl hl.1 (Nat.le_of_ble_eq_true rfl) ⟨Nat.le_of_ble_eq_true rfl, Nat.le_of_ble_eq_true rfl⟩ dL_isStep_329 ⟨Nat.zero_le _, Nat.zero_le _⟩ (fun H locs hW hS => ?_)
                    refine lv_icmp_ne (tgt := 339) hx hb dL_isStep_332 (by decide) (fun q60 => ?_) (fun q60 => ?_)
                    · replace hcf := (if_neg q60).symm.trans hcf
                      refine lv_iconst (v := (0 : Int32)) hx hb dL_isStep_339 (by decide) ?_
                      have hcf := Option.some.inj hcf; subst hcf
                      exact wk_zret hx hb hr hlocks (Or.inl rfl) hW hS dL_isStep_340
                    · replace hcf := (if_pos q60).symm.trans hcf
                      refine lv_iconst (v := (1 : Int32)) hx hb dL_isStep_335 (by decide) ?_
                      refine lv_goto (tgt := 340) hx hb dL_isStep_336 (by decide) ?_
                      have hcf := Option.some.inj hcf; subst hcf
                      exact wk_zret hx hb hr hlocks (Or.inr rfl) hW hS dL_isStep_340
                  · replace hcf := (if_neg q52).symm.trans hcf
                    by_cases q61 : x6 = (9 : Int32)
                    · replace hcf := (if_pos q61).symm.trans hcf
                      refine wk_tsw (off := 298) (tgt := 341) hx hb dL_isStep_43 (by rw [q61]; rfl) (by decide) ?_
                      refine lv_iload_n hx hb dL_isStep_341 rfl (lv_at hl 4 rfl) ?_
                      refine lv_iconst (v := (2 : Int32)) hx hb dL_isStep_342 (by decide) ?_
                      obtain ⟨x62, hx62, hcf⟩ := ob hcf
                      refine iv_L_18 (As := [.int (b3 >>> ((4 : Int32) &&& 31)), .int (2 : Int32)]) (rest := []) hx hb hml hown hts hE (ct_L_up l D cy z n Y V G (b3 >>> ((4 : Int32) &&& 31)) (2 : Int32) x62 hx62) hW hS rfl rfl hl.1 (Nat.le_of_ble_eq_true rfl) ⟨Nat.le_of_ble_eq_true rfl, Nat.le_of_ble_eq_true rfl⟩ dL_isStep_343 ⟨Nat.zero_le _, Nat.zero_le _⟩ (fun H locs hW hS => ?_)
                      refine lv_istore (lv' := [(8, .int x62), (7, .int x5), (6, .int x4), (5, .int x3), (4, .int x2), (3, .int (b3 >>> ((4 : Int32) &&& 31))), (0, .ref b1), (1, .ref b2), (2, .int b3)]) hx hb dL_isStep_346 hl (by decide) rfl (fun ls hl => ?_)
                      refine lv_aload_n hx hb dL_isStep_348 rfl (lv_at hl 6 rfl) ?_
                      refine lv_iload hx hb dL_isStep_349 (lv_at hl 0 rfl) ?_
                      refine lv_iconst (v := (1 : Int32)) hx hb dL_isStep_351 (by decide) ?_
                      refine lv_iload_n hx hb dL_isStep_352 rfl (lv_at hl 5 rfl) ?_
                      refine lv_iconst (v := (3 : Int32)) hx hb dL_isStep_353 (by decide) ?_
                      refine lv_ishr hx hb dL_isStep_354 ?_
                      refine lv_bipush (v := (20 : Int32)) hx hb dL_isStep_355 (by decide) ?_
                      obtain ⟨x63, hx63, hcf⟩ := ob hcf
                      refine iv_L_18 (As := [.int ((b3 >>> ((4 : Int32) &&& 31)) >>> ((3 : Int32) &&& 31)), .int (20 : Int32)]) (rest := [.int (1 : Int32), .int x62, .ref b1]) hx hb hml hown hts hE (ct_L_up l D cy z n Y V G ((b3 >>> ((4 : Int32) &&& 31)) >>> ((3 : Int32) &&& 31)) (20 : Int32) x63 hx63) hW hS rfl rfl hl.1 (Nat.le_of_ble_eq_true rfl) ⟨Nat.le_of_ble_eq_true rfl, Nat.le_of_ble_eq_true rfl⟩ dL_isStep_357 ⟨Nat.zero_le _, Nat.zero_le _⟩ (fun H locs hW hS => ?_)
                      refine lv_iadd hx hb dL_isStep_360 ?_
                      obtain ⟨x64, hx64, hcf⟩ := ob hcf
                      refine iv_L_56 (As := [.int x62, .int ((1 : Int32) + x63)]) (rest := []) hx hb hml hown hts hE (ct_X3_set l D cy z n Y V G b1 x62 ((1 : Int32) + x63) x64 hx64) hW hS q1 rfl rfl hl.1 (Nat.le_of_ble_eq_true rfl) ⟨Nat.le_of_ble_eq_true rfl, Nat.le_of_ble_eq_true rfl⟩ dL_isStep_361 ⟨Nat.zero_le _, Nat.zero_le _⟩ (fun H locs hW hS => ?_)
                      refine lv_aload_n hx hb dL_isStep_364 rfl (lv_at hl 7 rfl) ?_
                      refine lv_iload hx hb dL_isStep_365 (lv_at hl 0 rfl) ?_
                      refine lv_iconst (v := (1 : Int32)) hx hb dL_isStep_367 (by decide) ?_
                      refine lv_iload_n hx hb dL_isStep_368 rfl (lv_at hl 5 rfl) ?_
                      refine lv_iconst (v := (3 : Int32)) hx hb dL_isStep_369 (by decide) ?_
                      refine lv_ishr hx hb dL_isStep_370 ?_
                      refine lv_bipush (v := (20 : Int32)) hx hb dL_isStep_371 (by decide) ?_
                      obtain ⟨x65, hx65, hcf⟩ := ob hcf
                      refine iv_L_18 (As := [.int ((b3 >>> ((4 : Int32) &&& 31)) >>> ((3 : Int32) &&& 31)), .int (20 : Int32)]) (rest := [.int (1 : Int32), .int x62, .ref b2, .int x64.1]) hx hb hml hown hts hE (ct_L_up l D cy z n Y x64.2.1 x64.2.2 ((b3 >>> ((4 : Int32) &&& 31)) >>> ((3 : Int32) &&& 31)) (20 : Int32) x65 hx65) hW hS rfl rfl hl.1 (Nat.le_of_ble_eq_true rfl) ⟨Nat.le_of_ble_eq_true rfl, Nat.le_of_ble_eq_true rfl⟩ dL_isStep_373 ⟨Nat.zero_le _, Nat.zero_le _⟩ (fun H locs hW hS => ?_)
                      refine lv_iadd hx hb dL_isStep_376 ?_
                      obtain ⟨q66, hcf⟩ := og hcf
                      obtain ⟨x67, hx67, hcf⟩ := ob hcf
                      refine iv_L_56 (As := [.int x62, .int ((1 : Int32) + x65)]) (rest := [.int x64.1]) hx hb hml hown hts hE (ct_X3_set l D cy z n Y x64.2.1 x64.2.2 b2 x62 ((1 : Int32) + x65) x67 hx67) hW hS q66 rfl rfl hl.1 (Nat.le_of_ble_eq_true rfl) ⟨Nat.le_of_ble_eq_true rfl, Nat.le_of_ble_eq_true rfl⟩ dL_isStep_377 ⟨Nat.zero_le _, Nat.zero_le _⟩ (fun H locs hW hS => ?_)
                      refine lv_icmp_ne (tgt := 387) hx hb dL_isStep_380 (by decide) (fun q68 => ?_) (fun q68 => ?_)
                      · replace hcf := (if_neg q68).symm.trans hcf
                        refine lv_iconst (v := (0 : Int32)) hx hb dL_isStep_387 (by decide) ?_
                        have hcf := Option.some.inj hcf; subst hcf
                        exact wk_zret hx hb hr hlocks (Or.inl rfl) hW hS dL_isStep_388
                      · replace hcf := (if_pos q68).symm.trans hcf
                        refine lv_iconst (v := (1 : Int32)) hx hb dL_isStep_383 (by decide) ?_
                        refine lv_goto (tgt := 388) hx hb dL_isStep_384 (by decide) ?_
                        have hcf := Option.some.inj hcf; subst hcf
                        exact wk_zret hx hb hr hlocks (Or.inr rfl) hW hS dL_isStep_388
                    · replace hcf := (if_neg q61).symm.trans hcf
                      refine wk_tsw (off := 346) (tgt := 389) hx hb dL_isStep_43 (by have eq7 := lv_neT q7 (a := 0) rfl; have eq14 := lv_neT q14 (a := 1) rfl; have eq20 := lv_neT q20 (a := 2) rfl; have eq25 := lv_neT q25 (a := 3) rfl; have eq30 := lv_neT q30 (a := 4) rfl; have eq35 := lv_neT q35 (a := 5) rfl; have eq40 := lv_neT q40 (a := 6) rfl; have eq45 := lv_neT q45 (a := 7) rfl; have eq52 := lv_neT q52 (a := 8) rfl; have eq61 := lv_neT q61 (a := 9) rfl; by_cases hh : (x6).toInt < 0 ∨ 9 < (x6).toInt; exact if_pos hh; exfalso; omega) (by decide) ?_
                      refine lv_aload_n hx hb dL_isStep_389 rfl (lv_at hl 5 rfl) ?_
                      refine lv_aload_n hx hb dL_isStep_390 rfl (lv_at hl 6 rfl) ?_
                      refine lv_iconst (v := (1 : Int32)) hx hb dL_isStep_391 (by decide) ?_
                      refine lv_iload_n hx hb dL_isStep_392 rfl (lv_at hl 4 rfl) ?_
                      refine lv_bipush (v := (6 : Int32)) hx hb dL_isStep_393 (by decide) ?_
                      obtain ⟨x69, hx69, hcf⟩ := ob hcf
                      refine iv_L_18 (As := [.int (b3 >>> ((4 : Int32) &&& 31)), .int (6 : Int32)]) (rest := [.int (1 : Int32), .ref b2, .ref b1]) hx hb hml hown hts hE (ct_L_up l D cy z n Y V G (b3 >>> ((4 : Int32) &&& 31)) (6 : Int32) x69 hx69) hW hS rfl rfl hl.1 (Nat.le_of_ble_eq_true rfl) ⟨Nat.le_of_ble_eq_true rfl, Nat.le_of_ble_eq_true rfl⟩ dL_isStep_395 ⟨Nat.zero_le _, Nat.zero_le _⟩ (fun H locs hW hS => ?_)
                      refine lv_iadd hx hb dL_isStep_398 ?_
                      obtain ⟨x70, hx70, hcf⟩ := ob hcf
                      refine iv_L_59 (As := [.ref b1, .ref b2, .int ((1 : Int32) + x69)]) (rest := []) hx hb hml hown hts hE (ct_L_passes l D cy z n Y V G b1 b2 ((1 : Int32) + x69) x70 hx70) hW hS rfl rfl hl.1 (Nat.le_of_ble_eq_true rfl) ⟨Nat.le_of_ble_eq_true rfl, Nat.le_of_ble_eq_true rfl⟩ dL_isStep_399 ⟨Nat.zero_le _, Nat.zero_le _⟩ (fun H locs hW hS => ?_)
                      obtain ⟨q71, hcf⟩ := og hcf
                      have hcf := Option.some.inj hcf; subst hcf
                      exact wk_zret hx hb hr hlocks q71 hW hS dL_isStep_402
set_option maxHeartbeats 4000000 in
set_option maxRecDepth 100000 in
theorem wl_L_areAlike_166 {p : Program} {l : Launch} {e : Env} {s : State} {m : MethodId} {args : Array Value} {below : List Frame} {meth : Method} {c : Code} {D : va_G} {cy : Nat → ClassId} {z : Nat} {Q : State → Prop} {n : Nat} {Y : mY} {G : mG} (hx : p.tables.exec = Jvm.exec) (hb : c.code = cL_areAlike) (hr : meth.sig.returnType = (some .boolean)) (hml : c.maxLocals = 8) (hown : s.vm.findClass RL = some m.cls) (hts : ∀ w ∈ lw_all, w.before args s = true) (hlocks : meth.locks = false) (hE : En D cy s) (y : mV × Int32 × Int32 × Int32 × Int32 × Int32) : ∀ (k : Nat) (V : mV) (j0 : Nat) (j1 : Nat) (j2 : Int32) (j3 : Int32) (j4 : Int32) (j5 : Int32) (j6 : Int32) (H : Heap) (locs : List Loc) (ls : Array Slot), lp_L_areAlike_166 Y G k V j0 j1 j2 j3 j4 j5 j6 = some y → Wd Y cy D z n V G H → va_S (zA z) s.heap H locs → lv_has ls 8 [(0, .ref j0), (1, .ref j1), (2, .int j2), (3, .int j3), (4, .int j4), (5, .int j5), (6, .int j6)] → (∀ (H : Heap) (locs : List Loc) (ls : Array Slot), Wd Y cy D z n y.1 G H → va_S (zA z) s.heap H locs → lv_has ls 8 [(0, .ref j0), (1, .ref j1), (2, .int y.2.1), (3, .int y.2.2.1), (4, .int y.2.2.2.1), (5, .int y.2.2.2.2.1), (6, .int y.2.2.2.2.2)] → W p l e (rmd 6) s m args below meth c H locs 0 0 Q (F0 m 212 ls [])) → W p l e (rmd 6) s m args below meth c H locs 0 0 Q (F0 m 166 ls []) := by
  intro k
  induction k with
  | zero =>
    intro V j0 j1 j2 j3 j4 j5 j6 H locs ls hcf
    have hcf : none = some _ := hcf
    cases hcf
  | succ k ih =>
    intro V j0 j1 j2 j3 j4 j5 j6 H locs ls hcf hW hS hl kk
    rw [lp_L_areAlike_166] at hcf
    refine lv_iload hx hb dL_areAlike_166 (lv_at hl 6 rfl) ?_
    refine lv_bipush (v := (12 : Int32)) hx hb dL_areAlike_168 (by decide) ?_
    refine lv_icmp_ge (tgt := 212) hx hb dL_areAlike_170 (by decide) (fun q12 => ?_) (fun q12 => ?_)
    · replace hcf := (if_pos q12).symm.trans hcf
      have hcf := Option.some.inj hcf; subst hcf; exact kk _ _ _ hW hS (lv_sub hl [0, 1, 2, 3, 4, 5, 6] rfl)
    · replace hcf := (if_neg q12).symm.trans hcf
      refine lv_iload_n hx hb dL_areAlike_173 rfl (lv_at hl 3 rfl) ?_
      refine lv_if_eq (tgt := 204) hx hb dL_areAlike_174 (by decide) (fun q13 => ?_) (fun q13 => ?_)
      · replace hcf := (if_pos q13).symm.trans hcf
        refine lv_iconst (v := (0 : Int32)) hx hb dL_areAlike_204 (by decide) ?_
        refine lv_istore_n (lv' := [(3, .int (0 : Int32)), (0, .ref j0), (1, .ref j1), (2, .int j2), (4, .int j4), (5, .int j5), (6, .int j6)]) hx hb dL_areAlike_205 rfl hl (by decide) rfl (fun ls hl => ?_)
        refine lv_iinc (v := (j6 + 1)) (lv' := [(6, .int (j6 + 1)), (3, .int (0 : Int32)), (0, .ref j0), (1, .ref j1), (2, .int j2), (4, .int j4), (5, .int j5)]) hx hb dL_areAlike_206 hl (k := 6) rfl rfl (by decide) rfl (fun ls hl => ?_)
        refine lv_goto (tgt := 166) hx hb dL_areAlike_209 (by decide) ?_
        exact ih V j0 j1 j2 (0 : Int32) j4 j5 (j6 + 1) _ _ _ hcf hW hS (lv_sub hl [2, 3, 4, 1, 5, 6, 0] rfl) kk
      · replace hcf := (if_neg q13).symm.trans hcf
        refine lv_aload_n hx hb dL_areAlike_177 rfl (lv_at hl 0 rfl) ?_
        refine lv_iload hx hb dL_areAlike_178 (lv_at hl 5 rfl) ?_
        refine lv_iload hx hb dL_areAlike_180 (lv_at hl 6 rfl) ?_
        obtain ⟨q14, hcf⟩ := og hcf
        obtain ⟨x15, hx15, hcf⟩ := ob hcf
        refine iv_L_70 (As := [.int j5, .int j6]) (rest := []) hx hb hml hown hts hE (ct_X3_conditionOf l D cy z n Y V G j0 j5 j6 x15 hx15) hW hS q14 rfl rfl hl.1 (Nat.le_of_ble_eq_true rfl) ⟨Nat.le_of_ble_eq_true rfl, Nat.le_of_ble_eq_true rfl⟩ dL_areAlike_182 ⟨Nat.zero_le _, Nat.zero_le _⟩ (fun H locs hW hS => ?_)
        refine lv_aload_n hx hb dL_areAlike_185 rfl (lv_at hl 1 rfl) ?_
        refine lv_aload_n hx hb dL_areAlike_186 rfl (lv_at hl 0 rfl) ?_
        refine lv_iload hx hb dL_areAlike_187 (lv_at hl 5 rfl) ?_
        obtain ⟨x16, hx16, hcf⟩ := ob hcf
        refine iv_L_24 (As := [.ref j0, .int j5]) (rest := [.ref j1, .int x15]) hx hb hml hown hts hE (ct_L_there l D cy z n Y V G j0 j5 x16 hx16) hW hS rfl rfl hl.1 (Nat.le_of_ble_eq_true rfl) ⟨Nat.le_of_ble_eq_true rfl, Nat.le_of_ble_eq_true rfl⟩ dL_areAlike_189 ⟨Nat.zero_le _, Nat.zero_le _⟩ (fun H locs hW hS => ?_)
        refine lv_iload hx hb dL_areAlike_192 (lv_at hl 6 rfl) ?_
        obtain ⟨q17, hcf⟩ := og hcf
        obtain ⟨x18, hx18, hcf⟩ := ob hcf
        refine iv_L_70 (As := [.int x16, .int j6]) (rest := [.int x15]) hx hb hml hown hts hE (ct_X3_conditionOf l D cy z n Y V G j1 x16 j6 x18 hx18) hW hS q17 rfl rfl hl.1 (Nat.le_of_ble_eq_true rfl) ⟨Nat.le_of_ble_eq_true rfl, Nat.le_of_ble_eq_true rfl⟩ dL_areAlike_194 ⟨Nat.zero_le _, Nat.zero_le _⟩ (fun H locs hW hS => ?_)
        refine lv_icmp_ne (tgt := 204) hx hb dL_areAlike_197 (by decide) (fun q19 => ?_) (fun q19 => ?_)
        · replace hcf := (if_neg q19).symm.trans hcf
          refine lv_iconst (v := (0 : Int32)) hx hb dL_areAlike_204 (by decide) ?_
          refine lv_istore_n (lv' := [(3, .int (0 : Int32)), (0, .ref j0), (1, .ref j1), (2, .int j2), (4, .int j4), (5, .int j5), (6, .int j6)]) hx hb dL_areAlike_205 rfl hl (by decide) rfl (fun ls hl => ?_)
          refine lv_iinc (v := (j6 + 1)) (lv' := [(6, .int (j6 + 1)), (3, .int (0 : Int32)), (0, .ref j0), (1, .ref j1), (2, .int j2), (4, .int j4), (5, .int j5)]) hx hb dL_areAlike_206 hl (k := 6) rfl rfl (by decide) rfl (fun ls hl => ?_)
          refine lv_goto (tgt := 166) hx hb dL_areAlike_209 (by decide) ?_
          exact ih V j0 j1 j2 (0 : Int32) j4 j5 (j6 + 1) _ _ _ hcf hW hS (lv_sub hl [2, 3, 4, 1, 5, 6, 0] rfl) kk
        · replace hcf := (if_pos q19).symm.trans hcf
          refine lv_iconst (v := (1 : Int32)) hx hb dL_areAlike_200 (by decide) ?_
          refine lv_goto (tgt := 205) hx hb dL_areAlike_201 (by decide) ?_
          refine lv_istore_n (lv' := [(3, .int (1 : Int32)), (0, .ref j0), (1, .ref j1), (2, .int j2), (4, .int j4), (5, .int j5), (6, .int j6)]) hx hb dL_areAlike_205 rfl hl (by decide) rfl (fun ls hl => ?_)
          refine lv_iinc (v := (j6 + 1)) (lv' := [(6, .int (j6 + 1)), (3, .int (1 : Int32)), (0, .ref j0), (1, .ref j1), (2, .int j2), (4, .int j4), (5, .int j5)]) hx hb dL_areAlike_206 hl (k := 6) rfl rfl (by decide) rfl (fun ls hl => ?_)
          refine lv_goto (tgt := 166) hx hb dL_areAlike_209 (by decide) ?_
          exact ih V j0 j1 j2 (1 : Int32) j4 j5 (j6 + 1) _ _ _ hcf hW hS (lv_sub hl [2, 3, 4, 1, 5, 6, 0] rfl) kk
set_option maxHeartbeats 4000000 in
set_option maxRecDepth 100000 in
theorem wl_L_areAlike_157 {p : Program} {l : Launch} {e : Env} {s : State} {m : MethodId} {args : Array Value} {below : List Frame} {meth : Method} {c : Code} {D : va_G} {cy : Nat → ClassId} {z : Nat} {n : Nat} {Y : mY} {G : mG} (hx : p.tables.exec = Jvm.exec) (hb : c.code = cL_areAlike) (hr : meth.sig.returnType = (some .boolean)) (hml : c.maxLocals = 8) (hown : s.vm.findClass RL = some m.cls) (hts : ∀ w ∈ lw_all, w.before args s = true) (hlocks : meth.locks = false) (hE : En D cy s) (x : Int32 × mV) : ∀ (k : Nat) (V : mV) (j0 : Nat) (j1 : Nat) (j2 : Int32) (j3 : Int32) (j4 : Int32) (j5 : Int32) (H : Heap) (locs : List Loc) (ls : Array Slot), lp_L_areAlike_157 Y G k V j0 j1 j2 j3 j4 j5 = some x → Wd Y cy D z n V G H → va_S (zA z) s.heap H locs → lv_has ls 8 [(0, .ref j0), (1, .ref j1), (2, .int j2), (3, .int j3), (4, .int j4), (5, .int j5)] → W p l e (rmd 6) s m args below meth c H locs 0 0 (MQ below (QC D cy z Y n x.2 G (some (.int x.1))) args s 0 0 (zA z)) (F0 m 157 ls []) := by
  intro k
  induction k with
  | zero =>
    intro V j0 j1 j2 j3 j4 j5 H locs ls hcf
    have hcf : none = some _ := hcf
    cases hcf
  | succ k ih =>
    intro V j0 j1 j2 j3 j4 j5 H locs ls hcf hW hS hl
    rw [lp_L_areAlike_157] at hcf
    refine lv_iload hx hb dL_areAlike_157 (lv_at hl 5 rfl) ?_
    refine lv_iload_n hx hb dL_areAlike_159 rfl (lv_at hl 2 rfl) ?_
    refine lv_icmp_ge (tgt := 404) hx hb dL_areAlike_160 (by decide) (fun q10 => ?_) (fun q10 => ?_)
    · replace hcf := (if_pos q10).symm.trans hcf
      refine lv_iload_n hx hb dL_areAlike_404 rfl (lv_at hl 3 rfl) ?_
      obtain ⟨q11, hcf⟩ := og hcf
      have hcf := Option.some.inj hcf; subst hcf
      exact wk_zret hx hb hr hlocks q11 hW hS dL_areAlike_405
    · replace hcf := (if_neg q10).symm.trans hcf
      refine lv_iconst (v := (0 : Int32)) hx hb dL_areAlike_163 (by decide) ?_
      refine lv_istore (lv' := [(6, .int (0 : Int32)), (0, .ref j0), (1, .ref j1), (2, .int j2), (3, .int j3), (4, .int j4), (5, .int j5)]) hx hb dL_areAlike_164 hl (by decide) rfl (fun ls hl => ?_)
      obtain ⟨x20, hx20, hcf⟩ := ob hcf
      refine wl_L_areAlike_166 hx hb hr hml hown hts hlocks hE x20 fuB V j0 j1 j2 j3 j4 j5 (0 : Int32) _ _ _ hx20 hW hS (lv_sub hl [1, 2, 3, 4, 5, 6, 0] rfl) (fun H locs ls hW hS hl => ?_)
      refine lv_aload_n hx hb dL_areAlike_212 rfl (lv_at hl 0 rfl) ?_
      refine lv_iload hx hb dL_areAlike_213 (lv_at hl 5 rfl) ?_
      refine lv_iconst (v := (4 : Int32)) hx hb dL_areAlike_215 (by decide) ?_
      obtain ⟨q21, hcf⟩ := og hcf
      obtain ⟨x22, hx22, hcf⟩ := ob hcf
      refine iv_L_70 (As := [.int x20.2.2.2.2.1, .int (4 : Int32)]) (rest := []) hx hb hml hown hts hE (ct_X3_conditionOf l D cy z n Y x20.1 G j0 x20.2.2.2.2.1 (4 : Int32) x22 hx22) hW hS q21 rfl rfl hl.1 (Nat.le_of_ble_eq_true rfl) ⟨Nat.le_of_ble_eq_true rfl, Nat.le_of_ble_eq_true rfl⟩ dL_areAlike_216 ⟨Nat.zero_le _, Nat.zero_le _⟩ (fun H locs hW hS => ?_)
      refine lv_istore (lv' := [(6, .int x22), (0, .ref j0), (1, .ref j1), (2, .int x20.2.1), (3, .int x20.2.2.1), (4, .int x20.2.2.2.1), (5, .int x20.2.2.2.2.1)]) hx hb dL_areAlike_219 hl (by decide) rfl (fun ls hl => ?_)
      refine lv_aload_n hx hb dL_areAlike_221 rfl (lv_at hl 1 rfl) ?_
      refine lv_iload hx hb dL_areAlike_222 (lv_at hl 6 rfl) ?_
      refine lv_iconst (v := (5 : Int32)) hx hb dL_areAlike_224 (by decide) ?_
      obtain ⟨x23, hx23, hcf⟩ := ob hcf
      refine iv_L_70 (As := [.int x20.2.2.2.2.1, .int (5 : Int32)]) (rest := []) hx hb hml hown hts hE (ct_X3_conditionOf l D cy z n Y x20.1 G j0 x20.2.2.2.2.1 (5 : Int32) x23 hx23) hW hS q21 rfl rfl hl.1 (Nat.le_of_ble_eq_true rfl) ⟨Nat.le_of_ble_eq_true rfl, Nat.le_of_ble_eq_true rfl⟩ dL_areAlike_225 ⟨Nat.zero_le _, Nat.zero_le _⟩ (fun H locs hW hS => ?_)
      refine lv_iconst (v := (1 : Int32)) hx hb dL_areAlike_228 (by decide) ?_
      refine lv_aload_n hx hb dL_areAlike_229 rfl (lv_at hl 1 rfl) ?_
      refine lv_iload hx hb dL_areAlike_230 (lv_at hl 6 rfl) ?_
      refine lv_iconst (v := (3 : Int32)) hx hb dL_areAlike_232 (by decide) ?_
      obtain ⟨x24, hx24, hcf⟩ := ob hcf
      refine iv_L_70 (As := [.int x20.2.2.2.2.1, .int (3 : Int32)]) (rest := [.int (1 : Int32), .int x23]) hx hb hml hown hts hE (ct_X3_conditionOf l D cy z n Y x20.1 G j0 x20.2.2.2.2.1 (3 : Int32) x24 hx24) hW hS q21 rfl rfl hl.1 (Nat.le_of_ble_eq_true rfl) ⟨Nat.le_of_ble_eq_true rfl, Nat.le_of_ble_eq_true rfl⟩ dL_areAlike_233 ⟨Nat.zero_le _, Nat.zero_le _⟩ (fun H locs hW hS => ?_)
      refine lv_ishl hx hb dL_areAlike_236 ?_
      refine lv_iconst (v := (1 : Int32)) hx hb dL_areAlike_237 (by decide) ?_
      refine lv_isub hx hb dL_areAlike_238 ?_
      refine lv_icmp_ne (tgt := 246) hx hb dL_areAlike_239 (by decide) (fun q25 => ?_) (fun q25 => ?_)
      · replace hcf := (if_neg q25).symm.trans hcf
        refine lv_iconst (v := (0 : Int32)) hx hb dL_areAlike_246 (by decide) ?_
        refine lv_istore (lv' := [(7, .int (0 : Int32)), (6, .int x22), (0, .ref j0), (1, .ref j1), (2, .int x20.2.1), (3, .int x20.2.2.1), (4, .int x20.2.2.2.1), (5, .int x20.2.2.2.2.1)]) hx hb dL_areAlike_247 hl (by decide) rfl (fun ls hl => ?_)
        refine lv_iload_n hx hb dL_areAlike_249 rfl (lv_at hl 5 rfl) ?_
        refine lv_if_eq (tgt := 350) hx hb dL_areAlike_250 (by decide) (fun q26 => ?_) (fun q26 => ?_)
        · replace hcf := (if_pos q26).symm.trans hcf
          refine lv_iconst (v := (0 : Int32)) hx hb dL_areAlike_350 (by decide) ?_
          refine lv_istore_n (lv' := [(3, .int (0 : Int32)), (7, .int (0 : Int32)), (6, .int x22), (0, .ref j0), (1, .ref j1), (2, .int x20.2.1), (4, .int x20.2.2.2.1), (5, .int x20.2.2.2.2.1)]) hx hb dL_areAlike_351 rfl hl (by decide) rfl (fun ls hl => ?_)
          refine lv_iload_n hx hb dL_areAlike_352 rfl (lv_at hl 0 rfl) ?_
          refine lv_if_eq (tgt := 396) hx hb dL_areAlike_353 (by decide) (fun q27 => ?_) (fun q27 => ?_)
          · clear q27
            refine lv_iconst (v := (0 : Int32)) hx hb dL_areAlike_396 (by decide) ?_
            refine lv_istore_n (lv' := [(3, .int (0 : Int32)), (7, .int (0 : Int32)), (6, .int x22), (0, .ref j0), (1, .ref j1), (2, .int x20.2.1), (4, .int x20.2.2.2.1), (5, .int x20.2.2.2.2.1)]) hx hb dL_areAlike_397 rfl hl (by decide) rfl (fun ls hl => ?_)
            refine lv_iinc (v := (x20.2.2.2.2.1 + 1)) (lv' := [(5, .int (x20.2.2.2.2.1 + 1)), (3, .int (0 : Int32)), (7, .int (0 : Int32)), (6, .int x22), (0, .ref j0), (1, .ref j1), (2, .int x20.2.1), (4, .int x20.2.2.2.1)]) hx hb dL_areAlike_398 hl (k := 7) rfl rfl (by decide) rfl (fun ls hl => ?_)
            refine lv_goto (tgt := 157) hx hb dL_areAlike_401 (by decide) ?_
            exact ih x20.1 j0 j1 x20.2.1 (0 : Int32) x20.2.2.2.1 (x20.2.2.2.2.1 + 1) _ _ _ hcf hW hS (lv_sub hl [4, 5, 6, 1, 7, 0] rfl)
          · exact absurd (by decide) q27
        · replace hcf := (if_neg q26).symm.trans hcf
          refine lv_aload_n hx hb dL_areAlike_253 rfl (lv_at hl 2 rfl) ?_
          refine lv_iload hx hb dL_areAlike_254 (lv_at hl 7 rfl) ?_
          refine lv_iconst (v := (5 : Int32)) hx hb dL_areAlike_256 (by decide) ?_
          obtain ⟨x28, hx28, hcf⟩ := ob hcf
          refine iv_L_70 (As := [.int x20.2.2.2.2.1, .int (5 : Int32)]) (rest := []) hx hb hml hown hts hE (ct_X3_conditionOf l D cy z n Y x20.1 G j0 x20.2.2.2.2.1 (5 : Int32) x28 hx28) hW hS q21 rfl rfl hl.1 (Nat.le_of_ble_eq_true rfl) ⟨Nat.le_of_ble_eq_true rfl, Nat.le_of_ble_eq_true rfl⟩ dL_areAlike_257 ⟨Nat.zero_le _, Nat.zero_le _⟩ (fun H locs hW hS => ?_)
          refine lv_aload_n hx hb dL_areAlike_260 rfl (lv_at hl 2 rfl) ?_
          refine lv_iload hx hb dL_areAlike_261 (lv_at hl 7 rfl) ?_
          refine lv_bipush (v := (6 : Int32)) hx hb dL_areAlike_263 (by decide) ?_
          obtain ⟨x29, hx29, hcf⟩ := ob hcf
          refine iv_L_70 (As := [.int x20.2.2.2.2.1, .int (6 : Int32)]) (rest := [.int x28]) hx hb hml hown hts hE (ct_X3_conditionOf l D cy z n Y x20.1 G j0 x20.2.2.2.2.1 (6 : Int32) x29 hx29) hW hS q21 rfl rfl hl.1 (Nat.le_of_ble_eq_true rfl) ⟨Nat.le_of_ble_eq_true rfl, Nat.le_of_ble_eq_true rfl⟩ dL_areAlike_265 ⟨Nat.zero_le _, Nat.zero_le _⟩ (fun H locs hW hS => ?_)
          refine lv_iand hx hb dL_areAlike_268 ?_
          refine lv_if_ne (tgt := 350) hx hb dL_areAlike_269 (by decide) (fun q30 => ?_) (fun q30 => ?_)
          · replace hcf := (if_neg q30).symm.trans hcf
            refine lv_iconst (v := (0 : Int32)) hx hb dL_areAlike_350 (by decide) ?_
            refine lv_istore_n (lv' := [(3, .int (0 : Int32)), (7, .int (0 : Int32)), (6, .int x22), (0, .ref j0), (1, .ref j1), (2, .int x20.2.1), (4, .int x20.2.2.2.1), (5, .int x20.2.2.2.2.1)]) hx hb dL_areAlike_351 rfl hl (by decide) rfl (fun ls hl => ?_)
            refine lv_iload_n hx hb dL_areAlike_352 rfl (lv_at hl 0 rfl) ?_
            refine lv_if_eq (tgt := 396) hx hb dL_areAlike_353 (by decide) (fun q31 => ?_) (fun q31 => ?_)
            · clear q31
              refine lv_iconst (v := (0 : Int32)) hx hb dL_areAlike_396 (by decide) ?_
              refine lv_istore_n (lv' := [(3, .int (0 : Int32)), (7, .int (0 : Int32)), (6, .int x22), (0, .ref j0), (1, .ref j1), (2, .int x20.2.1), (4, .int x20.2.2.2.1), (5, .int x20.2.2.2.2.1)]) hx hb dL_areAlike_397 rfl hl (by decide) rfl (fun ls hl => ?_)
              refine lv_iinc (v := (x20.2.2.2.2.1 + 1)) (lv' := [(5, .int (x20.2.2.2.2.1 + 1)), (3, .int (0 : Int32)), (7, .int (0 : Int32)), (6, .int x22), (0, .ref j0), (1, .ref j1), (2, .int x20.2.1), (4, .int x20.2.2.2.1)]) hx hb dL_areAlike_398 hl (k := 7) rfl rfl (by decide) rfl (fun ls hl => ?_)
              refine lv_goto (tgt := 157) hx hb dL_areAlike_401 (by decide) ?_
              exact ih x20.1 j0 j1 x20.2.1 (0 : Int32) x20.2.2.2.1 (x20.2.2.2.2.1 + 1) _ _ _ hcf hW hS (lv_sub hl [4, 5, 6, 1, 7, 0] rfl)
            · exact absurd (by decide) q31
          · replace hcf := (if_pos q30).symm.trans hcf
            refine lv_iload hx hb dL_areAlike_272 (lv_at hl 1 rfl) ?_
            refine lv_iconst (v := (3 : Int32)) hx hb dL_areAlike_274 (by decide) ?_
            refine lv_icmp_ne (tgt := 282) hx hb dL_areAlike_275 (by decide) (fun q32 => ?_) (fun q32 => ?_)
            · replace hcf := (if_neg q32).symm.trans hcf
              refine lv_iconst (v := (0 : Int32)) hx hb dL_areAlike_282 (by decide) ?_
              refine lv_aload_n hx hb dL_areAlike_283 rfl (lv_at hl 2 rfl) ?_
              refine lv_iload hx hb dL_areAlike_284 (lv_at hl 7 rfl) ?_
              refine lv_bipush (v := (9 : Int32)) hx hb dL_areAlike_286 (by decide) ?_
              obtain ⟨x33, hx33, hcf⟩ := ob hcf
              refine iv_L_70 (As := [.int x20.2.2.2.2.1, .int (9 : Int32)]) (rest := [.int (0 : Int32)]) hx hb hml hown hts hE (ct_X3_conditionOf l D cy z n Y x20.1 G j0 x20.2.2.2.2.1 (9 : Int32) x33 hx33) hW hS q21 rfl rfl hl.1 (Nat.le_of_ble_eq_true rfl) ⟨Nat.le_of_ble_eq_true rfl, Nat.le_of_ble_eq_true rfl⟩ dL_areAlike_288 ⟨Nat.zero_le _, Nat.zero_le _⟩ (fun H locs hW hS => ?_)
              refine lv_if_lt (tgt := 298) hx hb dL_areAlike_291 (by decide) (fun q34 => ?_) (fun q34 => ?_)
              · replace hcf := (if_pos q34).symm.trans hcf
                refine lv_iconst (v := (0 : Int32)) hx hb dL_areAlike_298 (by decide) ?_
                refine lv_icmp_ne (tgt := 350) hx hb dL_areAlike_299 (by decide) (fun q35 => ?_) (fun q35 => ?_)
                · exact absurd (by decide) q35
                · clear q35
                  refine lv_aload_n hx hb dL_areAlike_302 rfl (lv_at hl 2 rfl) ?_
                  refine lv_iload hx hb dL_areAlike_303 (lv_at hl 7 rfl) ?_
                  refine lv_iload hx hb dL_areAlike_305 (lv_at hl 1 rfl) ?_
                  obtain ⟨x36, hx36, hcf⟩ := ob hcf
                  refine iv_L_73 (As := [.int x20.2.2.2.2.1, .int x22]) (rest := []) hx hb hml hown hts hE (ct_X3_when l D cy z n Y x20.1 G j0 x20.2.2.2.2.1 x22 x36 hx36) hW hS q21 rfl rfl hl.1 (Nat.le_of_ble_eq_true rfl) ⟨Nat.le_of_ble_eq_true rfl, Nat.le_of_ble_eq_true rfl⟩ dL_areAlike_307 ⟨Nat.zero_le _, Nat.zero_le _⟩ (fun H locs hW hS => ?_)
                  refine lv_if_ne (tgt := 350) hx hb dL_areAlike_310 (by decide) (fun q37 => ?_) (fun q37 => ?_)
                  · replace hcf := (if_neg q37).symm.trans hcf
                    refine lv_iconst (v := (0 : Int32)) hx hb dL_areAlike_350 (by decide) ?_
                    refine lv_istore_n (lv' := [(3, .int (0 : Int32)), (7, .int (0 : Int32)), (6, .int x22), (0, .ref j0), (1, .ref j1), (2, .int x20.2.1), (4, .int x20.2.2.2.1), (5, .int x20.2.2.2.2.1)]) hx hb dL_areAlike_351 rfl hl (by decide) rfl (fun ls hl => ?_)
                    refine lv_iload_n hx hb dL_areAlike_352 rfl (lv_at hl 0 rfl) ?_
                    refine lv_if_eq (tgt := 396) hx hb dL_areAlike_353 (by decide) (fun q38 => ?_) (fun q38 => ?_)
                    · clear q38
                      refine lv_iconst (v := (0 : Int32)) hx hb dL_areAlike_396 (by decide) ?_
                      refine lv_istore_n (lv' := [(3, .int (0 : Int32)), (7, .int (0 : Int32)), (6, .int x22), (0, .ref j0), (1, .ref j1), (2, .int x20.2.1), (4, .int x20.2.2.2.1), (5, .int x20.2.2.2.2.1)]) hx hb dL_areAlike_397 rfl hl (by decide) rfl (fun ls hl => ?_)
                      refine lv_iinc (v := (x20.2.2.2.2.1 + 1)) (lv' := [(5, .int (x20.2.2.2.2.1 + 1)), (3, .int (0 : Int32)), (7, .int (0 : Int32)), (6, .int x22), (0, .ref j0), (1, .ref j1), (2, .int x20.2.1), (4, .int x20.2.2.2.1)]) hx hb dL_areAlike_398 hl (k := 7) rfl rfl (by decide) rfl (fun ls hl => ?_)
                      refine lv_goto (tgt := 157) hx hb dL_areAlike_401 (by decide) ?_
                      exact ih x36.2 j0 j1 x20.2.1 (0 : Int32) x20.2.2.2.1 (x20.2.2.2.2.1 + 1) _ _ _ hcf hW hS (lv_sub hl [4, 5, 6, 1, 7, 0] rfl)
                    · exact absurd (by decide) q38
                  · replace hcf := (if_pos q37).symm.trans hcf
                    refine lv_aload_n hx hb dL_areAlike_313 rfl (lv_at hl 2 rfl) ?_
                    refine lv_iload hx hb dL_areAlike_314 (lv_at hl 7 rfl) ?_
                    refine lv_iconst (v := (0 : Int32)) hx hb dL_areAlike_316 (by decide) ?_
                    obtain ⟨x39, hx39, hcf⟩ := ob hcf
                    refine iv_L_70 (As := [.int x20.2.2.2.2.1, .int (0 : Int32)]) (rest := []) hx hb hml hown hts hE (ct_X3_conditionOf l D cy z n Y x36.2 G j0 x20.2.2.2.2.1 (0 : Int32) x39 hx39) hW hS q21 rfl rfl hl.1 (Nat.le_of_ble_eq_true rfl) ⟨Nat.le_of_ble_eq_true rfl, Nat.le_of_ble_eq_true rfl⟩ dL_areAlike_317 ⟨Nat.zero_le _, Nat.zero_le _⟩ (fun H locs hW hS => ?_)
                    refine lv_iconst (v := (2 : Int32)) hx hb dL_areAlike_320 (by decide) ?_
                    refine lv_icmp_eq (tgt := 346) hx hb dL_areAlike_321 (by decide) (fun q40 => ?_) (fun q40 => ?_)
                    · replace hcf := (if_pos q40).symm.trans hcf
                      refine lv_iconst (v := (1 : Int32)) hx hb dL_areAlike_346 (by decide) ?_
                      refine lv_goto (tgt := 351) hx hb dL_areAlike_347 (by decide) ?_
                      refine lv_istore_n (lv' := [(3, .int (1 : Int32)), (7, .int (0 : Int32)), (6, .int x22), (0, .ref j0), (1, .ref j1), (2, .int x20.2.1), (4, .int x20.2.2.2.1), (5, .int x20.2.2.2.2.1)]) hx hb dL_areAlike_351 rfl hl (by decide) rfl (fun ls hl => ?_)
                      refine lv_iload_n hx hb dL_areAlike_352 rfl (lv_at hl 0 rfl) ?_
                      refine lv_if_eq (tgt := 396) hx hb dL_areAlike_353 (by decide) (fun q41 => ?_) (fun q41 => ?_)
                      · exact absurd q41 (by decide)
                      · clear q41
                        refine lv_aload_n hx hb dL_areAlike_356 rfl (lv_at hl 3 rfl) ?_
                        refine lv_iload hx hb dL_areAlike_357 (lv_at hl 7 rfl) ?_
                        refine lv_ldc2 hx hb hown (hts _ q480) dL_areAlike_359 ?_
                        obtain ⟨x42, hx42, hcf⟩ := ob hcf
                        refine iv_L_78 (As := [.int x20.2.2.2.2.1, .long (3 : Int64)]) (rest := []) hx hb hml hown hts hE (ct_X3_fine l D cy z n Y x36.2 G j0 x20.2.2.2.2.1 (3 : Int64) x42 hx42) hW hS q21 rfl rfl hl.1 (Nat.le_of_ble_eq_true rfl) ⟨Nat.le_of_ble_eq_true rfl, Nat.le_of_ble_eq_true rfl⟩ dL_areAlike_362 ⟨Nat.zero_le _, Nat.zero_le _⟩ (fun H locs hW hS => ?_)
                        refine lv_ldc2 hx hb hown (hts _ q480) dL_areAlike_365 ?_
                        refine lv_aload_n hx hb dL_areAlike_368 rfl (lv_at hl 3 rfl) ?_
                        refine lv_iload hx hb dL_areAlike_369 (lv_at hl 7 rfl) ?_
                        refine lv_bipush (v := (11 : Int32)) hx hb dL_areAlike_371 (by decide) ?_
                        obtain ⟨x43, hx43, hcf⟩ := ob hcf
                        refine iv_L_70 (As := [.int x20.2.2.2.2.1, .int (11 : Int32)]) (rest := [.long (3 : Int64), .long x42]) hx hb hml hown hts hE (ct_X3_conditionOf l D cy z n Y x36.2 G j0 x20.2.2.2.2.1 (11 : Int32) x43 hx43) hW hS q21 rfl rfl hl.1 (Nat.le_of_ble_eq_true rfl) ⟨Nat.le_of_ble_eq_true rfl, Nat.le_of_ble_eq_true rfl⟩ dL_areAlike_373 ⟨Nat.zero_le _, Nat.zero_le _⟩ (fun H locs hW hS => ?_)
                        refine lv_i2l hx hb dL_areAlike_376 rfl ?_
                        refine lv_lmul hx hb dL_areAlike_377 ?_
                        refine lv_aload_n hx hb dL_areAlike_378 rfl (lv_at hl 3 rfl) ?_
                        refine lv_iload hx hb dL_areAlike_379 (lv_at hl 7 rfl) ?_
                        refine lv_bipush (v := (11 : Int32)) hx hb dL_areAlike_381 (by decide) ?_
                        obtain ⟨x44, hx44, hcf⟩ := ob hcf
                        refine iv_L_70 (As := [.int x20.2.2.2.2.1, .int (11 : Int32)]) (rest := [.long ((3 : Int64) * (x43).toInt64), .long x42]) hx hb hml hown hts hE (ct_X3_conditionOf l D cy z n Y x36.2 G j0 x20.2.2.2.2.1 (11 : Int32) x44 hx44) hW hS q21 rfl rfl hl.1 (Nat.le_of_ble_eq_true rfl) ⟨Nat.le_of_ble_eq_true rfl, Nat.le_of_ble_eq_true rfl⟩ dL_areAlike_383 ⟨Nat.zero_le _, Nat.zero_le _⟩ (fun H locs hW hS => ?_)
                        refine lv_i2l hx hb dL_areAlike_386 rfl ?_
                        refine lv_lmul hx hb dL_areAlike_387 ?_
                        refine W.lcmp hx hb dL_areAlike_388 ?_
                        refine lv_if_ne (tgt := 396) hx hb dL_areAlike_389 (by decide) (fun q45 => ?_) (fun q45 => ?_)
                        · replace hcf := (if_neg q45).symm.trans hcf
                          refine lv_iconst (v := (0 : Int32)) hx hb dL_areAlike_396 (by decide) ?_
                          refine lv_istore_n (lv' := [(3, .int (0 : Int32)), (7, .int (0 : Int32)), (6, .int x22), (0, .ref j0), (1, .ref j1), (2, .int x20.2.1), (4, .int x20.2.2.2.1), (5, .int x20.2.2.2.2.1)]) hx hb dL_areAlike_397 rfl hl (by decide) rfl (fun ls hl => ?_)
                          refine lv_iinc (v := (x20.2.2.2.2.1 + 1)) (lv' := [(5, .int (x20.2.2.2.2.1 + 1)), (3, .int (0 : Int32)), (7, .int (0 : Int32)), (6, .int x22), (0, .ref j0), (1, .ref j1), (2, .int x20.2.1), (4, .int x20.2.2.2.1)]) hx hb dL_areAlike_398 hl (k := 7) rfl rfl (by decide) rfl (fun ls hl => ?_)
                          refine lv_goto (tgt := 157) hx hb dL_areAlike_401 (by decide) ?_
                          exact ih x36.2 j0 j1 x20.2.1 (0 : Int32) x20.2.2.2.1 (x20.2.2.2.2.1 + 1) _ _ _ hcf hW hS (lv_sub hl [4, 5, 6, 1, 7, 0] rfl)
                        · replace hcf := (if_pos q45).symm.trans hcf
                          refine lv_iconst (v := (1 : Int32)) hx hb dL_areAlike_392 (by decide) ?_
                          refine lv_goto (tgt := 397) hx hb dL_areAlike_393 (by decide) ?_
                          refine lv_istore_n (lv' := [(3, .int (1 : Int32)), (7, .int (0 : Int32)), (6, .int x22), (0, .ref j0), (1, .ref j1), (2, .int x20.2.1), (4, .int x20.2.2.2.1), (5, .int x20.2.2.2.2.1)]) hx hb dL_areAlike_397 rfl hl (by decide) rfl (fun ls hl => ?_)
                          refine lv_iinc (v := (x20.2.2.2.2.1 + 1)) (lv' := [(5, .int (x20.2.2.2.2.1 + 1)), (3, .int (1 : Int32)), (7, .int (0 : Int32)), (6, .int x22), (0, .ref j0), (1, .ref j1), (2, .int x20.2.1), (4, .int x20.2.2.2.1)]) hx hb dL_areAlike_398 hl (k := 7) rfl rfl (by decide) rfl (fun ls hl => ?_)
                          refine lv_goto (tgt := 157) hx hb dL_areAlike_401 (by decide) ?_
                          exact ih x36.2 j0 j1 x20.2.1 (1 : Int32) x20.2.2.2.1 (x20.2.2.2.2.1 + 1) _ _ _ hcf hW hS (lv_sub hl [4, 5, 6, 1, 7, 0] rfl)
                    · replace hcf := (if_neg q40).symm.trans hcf
                      refine lv_iload hx hb dL_areAlike_324 (lv_at hl 1 rfl) ?_
                      refine lv_iconst (v := (4 : Int32)) hx hb dL_areAlike_326 (by decide) ?_
                      refine lv_icmp_eq (tgt := 346) hx hb dL_areAlike_327 (by decide) (fun q46 => ?_) (fun q46 => ?_)
                      · replace hcf := (if_pos q46).symm.trans hcf
                        refine lv_iconst (v := (1 : Int32)) hx hb dL_areAlike_346 (by decide) ?_
                        refine lv_goto (tgt := 351) hx hb dL_areAlike_347 (by decide) ?_
                        refine lv_istore_n (lv' := [(3, .int (1 : Int32)), (7, .int (0 : Int32)), (6, .int x22), (0, .ref j0), (1, .ref j1), (2, .int x20.2.1), (4, .int x20.2.2.2.1), (5, .int x20.2.2.2.2.1)]) hx hb dL_areAlike_351 rfl hl (by decide) rfl (fun ls hl => ?_)
                        refine lv_iload_n hx hb dL_areAlike_352 rfl (lv_at hl 0 rfl) ?_
                        refine lv_if_eq (tgt := 396) hx hb dL_areAlike_353 (by decide) (fun q47 => ?_) (fun q47 => ?_)
                        · exact absurd q47 (by decide)
                        · clear q47
                          refine lv_aload_n hx hb dL_areAlike_356 rfl (lv_at hl 3 rfl) ?_
                          refine lv_iload hx hb dL_areAlike_357 (lv_at hl 7 rfl) ?_
                          refine lv_ldc2 hx hb hown (hts _ q480) dL_areAlike_359 ?_
                          obtain ⟨x48, hx48, hcf⟩ := ob hcf
                          refine iv_L_78 (As := [.int x20.2.2.2.2.1, .long (3 : Int64)]) (rest := []) hx hb hml hown hts hE (ct_X3_fine l D cy z n Y x36.2 G j0 x20.2.2.2.2.1 (3 : Int64) x48 hx48) hW hS q21 rfl rfl hl.1 (Nat.le_of_ble_eq_true rfl) ⟨Nat.le_of_ble_eq_true rfl, Nat.le_of_ble_eq_true rfl⟩ dL_areAlike_362 ⟨Nat.zero_le _, Nat.zero_le _⟩ (fun H locs hW hS => ?_)
                          refine lv_ldc2 hx hb hown (hts _ q480) dL_areAlike_365 ?_
                          refine lv_aload_n hx hb dL_areAlike_368 rfl (lv_at hl 3 rfl) ?_
                          refine lv_iload hx hb dL_areAlike_369 (lv_at hl 7 rfl) ?_
                          refine lv_bipush (v := (11 : Int32)) hx hb dL_areAlike_371 (by decide) ?_
                          obtain ⟨x49, hx49, hcf⟩ := ob hcf
                          refine iv_L_70 (As := [.int x20.2.2.2.2.1, .int (11 : Int32)]) (rest := [.long (3 : Int64), .long x48]) hx hb hml hown hts hE (ct_X3_conditionOf l D cy z n Y x36.2 G j0 x20.2.2.2.2.1 (11 : Int32) x49 hx49) hW hS q21 rfl rfl hl.1 (Nat.le_of_ble_eq_true rfl) ⟨Nat.le_of_ble_eq_true rfl, Nat.le_of_ble_eq_true rfl⟩ dL_areAlike_373 ⟨Nat.zero_le _, Nat.zero_le _⟩ (fun H locs hW hS => ?_)
                          refine lv_i2l hx hb dL_areAlike_376 rfl ?_
                          refine lv_lmul hx hb dL_areAlike_377 ?_
                          refine lv_aload_n hx hb dL_areAlike_378 rfl (lv_at hl 3 rfl) ?_
                          refine lv_iload hx hb dL_areAlike_379 (lv_at hl 7 rfl) ?_
                          refine lv_bipush (v := (11 : Int32)) hx hb dL_areAlike_381 (by decide) ?_
                          obtain ⟨x50, hx50, hcf⟩ := ob hcf
                          refine iv_L_70 (As := [.int x20.2.2.2.2.1, .int (11 : Int32)]) (rest := [.long ((3 : Int64) * (x49).toInt64), .long x48]) hx hb hml hown hts hE (ct_X3_conditionOf l D cy z n Y x36.2 G j0 x20.2.2.2.2.1 (11 : Int32) x50 hx50) hW hS q21 rfl rfl hl.1 (Nat.le_of_ble_eq_true rfl) ⟨Nat.le_of_ble_eq_true rfl, Nat.le_of_ble_eq_true rfl⟩ dL_areAlike_383 ⟨Nat.zero_le _, Nat.zero_le _⟩ (fun H locs hW hS => ?_)
                          refine lv_i2l hx hb dL_areAlike_386 rfl ?_
                          refine lv_lmul hx hb dL_areAlike_387 ?_
                          refine W.lcmp hx hb dL_areAlike_388 ?_
                          refine lv_if_ne (tgt := 396) hx hb dL_areAlike_389 (by decide) (fun q51 => ?_) (fun q51 => ?_)
                          · replace hcf := (if_neg q51).symm.trans hcf
                            refine lv_iconst (v := (0 : Int32)) hx hb dL_areAlike_396 (by decide) ?_
                            refine lv_istore_n (lv' := [(3, .int (0 : Int32)), (7, .int (0 : Int32)), (6, .int x22), (0, .ref j0), (1, .ref j1), (2, .int x20.2.1), (4, .int x20.2.2.2.1), (5, .int x20.2.2.2.2.1)]) hx hb dL_areAlike_397 rfl hl (by decide) rfl (fun ls hl => ?_)
                            refine lv_iinc (v := (x20.2.2.2.2.1 + 1)) (lv' := [(5, .int (x20.2.2.2.2.1 + 1)), (3, .int (0 : Int32)), (7, .int (0 : Int32)), (6, .int x22), (0, .ref j0), (1, .ref j1), (2, .int x20.2.1), (4, .int x20.2.2.2.1)]) hx hb dL_areAlike_398 hl (k := 7) rfl rfl (by decide) rfl (fun ls hl => ?_)
                            refine lv_goto (tgt := 157) hx hb dL_areAlike_401 (by decide) ?_
                            exact ih x36.2 j0 j1 x20.2.1 (0 : Int32) x20.2.2.2.1 (x20.2.2.2.2.1 + 1) _ _ _ hcf hW hS (lv_sub hl [4, 5, 6, 1, 7, 0] rfl)
                          · replace hcf := (if_pos q51).symm.trans hcf
                            refine lv_iconst (v := (1 : Int32)) hx hb dL_areAlike_392 (by decide) ?_
                            refine lv_goto (tgt := 397) hx hb dL_areAlike_393 (by decide) ?_
                            refine lv_istore_n (lv' := [(3, .int (1 : Int32)), (7, .int (0 : Int32)), (6, .int x22), (0, .ref j0), (1, .ref j1), (2, .int x20.2.1), (4, .int x20.2.2.2.1), (5, .int x20.2.2.2.2.1)]) hx hb dL_areAlike_397 rfl hl (by decide) rfl (fun ls hl => ?_)
                            refine lv_iinc (v := (x20.2.2.2.2.1 + 1)) (lv' := [(5, .int (x20.2.2.2.2.1 + 1)), (3, .int (1 : Int32)), (7, .int (0 : Int32)), (6, .int x22), (0, .ref j0), (1, .ref j1), (2, .int x20.2.1), (4, .int x20.2.2.2.1)]) hx hb dL_areAlike_398 hl (k := 7) rfl rfl (by decide) rfl (fun ls hl => ?_)
                            refine lv_goto (tgt := 157) hx hb dL_areAlike_401 (by decide) ?_
                            exact ih x36.2 j0 j1 x20.2.1 (1 : Int32) x20.2.2.2.1 (x20.2.2.2.2.1 + 1) _ _ _ hcf hW hS (lv_sub hl [4, 5, 6, 1, 7, 0] rfl)
                      · replace hcf := (if_neg q46).symm.trans hcf
                        refine lv_iload hx hb dL_areAlike_330 (lv_at hl 0 rfl) ?_
                        refine lv_iload hx hb dL_areAlike_332 (lv_at hl 1 rfl) ?_
                        refine lv_iconst (v := (2 : Int32)) hx hb dL_areAlike_334 (by decide) ?_
                        refine lv_icmp_ne (tgt := 342) hx hb dL_areAlike_335 (by decide) (fun q52 => ?_) (fun q52 => ?_)
                        · replace hcf := (if_neg q52).symm.trans hcf
                          refine lv_iconst (v := (0 : Int32)) hx hb dL_areAlike_342 (by decide) ?_
                          refine lv_icmp_ne (tgt := 350) hx hb dL_areAlike_343 (by decide) (fun q53 => ?_) (fun q53 => ?_)
                          · exact absurd (by decide) q53
                          · clear q53
                            refine lv_iconst (v := (1 : Int32)) hx hb dL_areAlike_346 (by decide) ?_
                            refine lv_goto (tgt := 351) hx hb dL_areAlike_347 (by decide) ?_
                            refine lv_istore_n (lv' := [(3, .int (1 : Int32)), (7, .int (0 : Int32)), (6, .int x22), (0, .ref j0), (1, .ref j1), (2, .int x20.2.1), (4, .int x20.2.2.2.1), (5, .int x20.2.2.2.2.1)]) hx hb dL_areAlike_351 rfl hl (by decide) rfl (fun ls hl => ?_)
                            refine lv_iload_n hx hb dL_areAlike_352 rfl (lv_at hl 0 rfl) ?_
                            refine lv_if_eq (tgt := 396) hx hb dL_areAlike_353 (by decide) (fun q54 => ?_) (fun q54 => ?_)
                            · exact absurd q54 (by decide)
                            · clear q54
                              refine lv_aload_n hx hb dL_areAlike_356 rfl (lv_at hl 3 rfl) ?_
                              refine lv_iload hx hb dL_areAlike_357 (lv_at hl 7 rfl) ?_
                              refine lv_ldc2 hx hb hown (hts _ q480) dL_areAlike_359 ?_
                              obtain ⟨x55, hx55, hcf⟩ := ob hcf
                              refine iv_L_78 (As := [.int x20.2.2.2.2.1, .long (3 : Int64)]) (rest := []) hx hb hml hown hts hE (ct_X3_fine l D cy z n Y x36.2 G j0 x20.2.2.2.2.1 (3 : Int64) x55 hx55) hW hS q21 rfl rfl hl.1 (Nat.le_of_ble_eq_true rfl) ⟨Nat.le_of_ble_eq_true rfl, Nat.le_of_ble_eq_true rfl⟩ dL_areAlike_362 ⟨Nat.zero_le _, Nat.zero_le _⟩ (fun H locs hW hS => ?_)
                              refine lv_ldc2 hx hb hown (hts _ q480) dL_areAlike_365 ?_
                              refine lv_aload_n hx hb dL_areAlike_368 rfl (lv_at hl 3 rfl) ?_
                              refine lv_iload hx hb dL_areAlike_369 (lv_at hl 7 rfl) ?_
                              refine lv_bipush (v := (11 : Int32)) hx hb dL_areAlike_371 (by decide) ?_
                              obtain ⟨x56, hx56, hcf⟩ := ob hcf
                              refine iv_L_70 (As := [.int x20.2.2.2.2.1, .int (11 : Int32)]) (rest := [.long (3 : Int64), .long x55]) hx hb hml hown hts hE (ct_X3_conditionOf l D cy z n Y x36.2 G j0 x20.2.2.2.2.1 (11 : Int32) x56 hx56) hW hS q21 rfl rfl hl.1 (Nat.le_of_ble_eq_true rfl) ⟨Nat.le_of_ble_eq_true rfl, Nat.le_of_ble_eq_true rfl⟩ dL_areAlike_373 ⟨Nat.zero_le _, Nat.zero_le _⟩ (fun H locs hW hS => ?_)
                              refine lv_i2l hx hb dL_areAlike_376 rfl ?_
                              refine lv_lmul hx hb dL_areAlike_377 ?_
                              refine lv_aload_n hx hb dL_areAlike_378 rfl (lv_at hl 3 rfl) ?_
                              refine lv_iload hx hb dL_areAlike_379 (lv_at hl 7 rfl) ?_
                              refine lv_bipush (v := (11 : Int32)) hx hb dL_areAlike_381 (by decide) ?_
                              obtain ⟨x57, hx57, hcf⟩ := ob hcf
                              refine iv_L_70 (As := [.int x20.2.2.2.2.1, .int (11 : Int32)]) (rest := [.long ((3 : Int64) * (x56).toInt64), .long x55]) hx hb hml hown hts hE (ct_X3_conditionOf l D cy z n Y x36.2 G j0 x20.2.2.2.2.1 (11 : Int32) x57 hx57) hW hS q21 rfl rfl hl.1 (Nat.le_of_ble_eq_true rfl) ⟨Nat.le_of_ble_eq_true rfl, Nat.le_of_ble_eq_true rfl⟩ dL_areAlike_383 ⟨Nat.zero_le _, Nat.zero_le _⟩ (fun H locs hW hS => ?_)
                              refine lv_i2l hx hb dL_areAlike_386 rfl ?_
                              refine lv_lmul hx hb dL_areAlike_387 ?_
                              refine W.lcmp hx hb dL_areAlike_388 ?_
                              refine lv_if_ne (tgt := 396) hx hb dL_areAlike_389 (by decide) (fun q58 => ?_) (fun q58 => ?_)
                              · replace hcf := (if_neg q58).symm.trans hcf
                                refine lv_iconst (v := (0 : Int32)) hx hb dL_areAlike_396 (by decide) ?_
                                refine lv_istore_n (lv' := [(3, .int (0 : Int32)), (7, .int (0 : Int32)), (6, .int x22), (0, .ref j0), (1, .ref j1), (2, .int x20.2.1), (4, .int x20.2.2.2.1), (5, .int x20.2.2.2.2.1)]) hx hb dL_areAlike_397 rfl hl (by decide) rfl (fun ls hl => ?_)
                                refine lv_iinc (v := (x20.2.2.2.2.1 + 1)) (lv' := [(5, .int (x20.2.2.2.2.1 + 1)), (3, .int (0 : Int32)), (7, .int (0 : Int32)), (6, .int x22), (0, .ref j0), (1, .ref j1), (2, .int x20.2.1), (4, .int x20.2.2.2.1)]) hx hb dL_areAlike_398 hl (k := 7) rfl rfl (by decide) rfl (fun ls hl => ?_)
                                refine lv_goto (tgt := 157) hx hb dL_areAlike_401 (by decide) ?_
                                exact ih x36.2 j0 j1 x20.2.1 (0 : Int32) x20.2.2.2.1 (x20.2.2.2.2.1 + 1) _ _ _ hcf hW hS (lv_sub hl [4, 5, 6, 1, 7, 0] rfl)
                              · replace hcf := (if_pos q58).symm.trans hcf
                                refine lv_iconst (v := (1 : Int32)) hx hb dL_areAlike_392 (by decide) ?_
                                refine lv_goto (tgt := 397) hx hb dL_areAlike_393 (by decide) ?_
                                refine lv_istore_n (lv' := [(3, .int (1 : Int32)), (7, .int (0 : Int32)), (6, .int x22), (0, .ref j0), (1, .ref j1), (2, .int x20.2.1), (4, .int x20.2.2.2.1), (5, .int x20.2.2.2.2.1)]) hx hb dL_areAlike_397 rfl hl (by decide) rfl (fun ls hl => ?_)
                                refine lv_iinc (v := (x20.2.2.2.2.1 + 1)) (lv' := [(5, .int (x20.2.2.2.2.1 + 1)), (3, .int (1 : Int32)), (7, .int (0 : Int32)), (6, .int x22), (0, .ref j0), (1, .ref j1), (2, .int x20.2.1), (4, .int x20.2.2.2.1)]) hx hb dL_areAlike_398 hl (k := 7) rfl rfl (by decide) rfl (fun ls hl => ?_)
                                refine lv_goto (tgt := 157) hx hb dL_areAlike_401 (by decide) ?_
                                exact ih x36.2 j0 j1 x20.2.1 (1 : Int32) x20.2.2.2.1 (x20.2.2.2.2.1 + 1) _ _ _ hcf hW hS (lv_sub hl [4, 5, 6, 1, 7, 0] rfl)
                        · replace hcf := (if_pos q52).symm.trans hcf
                          refine lv_iconst (v := (1 : Int32)) hx hb dL_areAlike_338 (by decide) ?_
                          refine lv_goto (tgt := 343) hx hb dL_areAlike_339 (by decide) ?_
                          refine lv_icmp_ne (tgt := 350) hx hb dL_areAlike_343 (by decide) (fun q59 => ?_) (fun q59 => ?_)
                          · clear q59
                            refine lv_iconst (v := (0 : Int32)) hx hb dL_areAlike_350 (by decide) ?_
                            refine lv_istore_n (lv' := [(3, .int (0 : Int32)), (7, .int (0 : Int32)), (6, .int x22), (0, .ref j0), (1, .ref j1), (2, .int x20.2.1), (4, .int x20.2.2.2.1), (5, .int x20.2.2.2.2.1)]) hx hb dL_areAlike_351 rfl hl (by decide) rfl (fun ls hl => ?_)
                            refine lv_iload_n hx hb dL_areAlike_352 rfl (lv_at hl 0 rfl) ?_
                            refine lv_if_eq (tgt := 396) hx hb dL_areAlike_353 (by decide) (fun q60 => ?_) (fun q60 => ?_)
                            · clear q60
                              refine lv_iconst (v := (0 : Int32)) hx hb dL_areAlike_396 (by decide) ?_
                              refine lv_istore_n (lv' := [(3, .int (0 : Int32)), (7, .int (0 : Int32)), (6, .int x22), (0, .ref j0), (1, .ref j1), (2, .int x20.2.1), (4, .int x20.2.2.2.1), (5, .int x20.2.2.2.2.1)]) hx hb dL_areAlike_397 rfl hl (by decide) rfl (fun ls hl => ?_)
                              refine lv_iinc (v := (x20.2.2.2.2.1 + 1)) (lv' := [(5, .int (x20.2.2.2.2.1 + 1)), (3, .int (0 : Int32)), (7, .int (0 : Int32)), (6, .int x22), (0, .ref j0), (1, .ref j1), (2, .int x20.2.1), (4, .int x20.2.2.2.1)]) hx hb dL_areAlike_398 hl (k := 7) rfl rfl (by decide) rfl (fun ls hl => ?_)
                              refine lv_goto (tgt := 157) hx hb dL_areAlike_401 (by decide) ?_
                              exact ih x36.2 j0 j1 x20.2.1 (0 : Int32) x20.2.2.2.1 (x20.2.2.2.2.1 + 1) _ _ _ hcf hW hS (lv_sub hl [4, 5, 6, 1, 7, 0] rfl)
                            · exact absurd (by decide) q60
                          · exact absurd q59 (by decide)
              · replace hcf := (if_neg q34).symm.trans hcf
                refine lv_iconst (v := (1 : Int32)) hx hb dL_areAlike_294 (by decide) ?_
                refine lv_goto (tgt := 299) hx hb dL_areAlike_295 (by decide) ?_
                refine lv_icmp_ne (tgt := 350) hx hb dL_areAlike_299 (by decide) (fun q61 => ?_) (fun q61 => ?_)
                · clear q61
                  refine lv_iconst (v := (0 : Int32)) hx hb dL_areAlike_350 (by decide) ?_
                  refine lv_istore_n (lv' := [(3, .int (0 : Int32)), (7, .int (0 : Int32)), (6, .int x22), (0, .ref j0), (1, .ref j1), (2, .int x20.2.1), (4, .int x20.2.2.2.1), (5, .int x20.2.2.2.2.1)]) hx hb dL_areAlike_351 rfl hl (by decide) rfl (fun ls hl => ?_)
                  refine lv_iload_n hx hb dL_areAlike_352 rfl (lv_at hl 0 rfl) ?_
                  refine lv_if_eq (tgt := 396) hx hb dL_areAlike_353 (by decide) (fun q62 => ?_) (fun q62 => ?_)
                  · clear q62
                    refine lv_iconst (v := (0 : Int32)) hx hb dL_areAlike_396 (by decide) ?_
                    refine lv_istore_n (lv' := [(3, .int (0 : Int32)), (7, .int (0 : Int32)), (6, .int x22), (0, .ref j0), (1, .ref j1), (2, .int x20.2.1), (4, .int x20.2.2.2.1), (5, .int x20.2.2.2.2.1)]) hx hb dL_areAlike_397 rfl hl (by decide) rfl (fun ls hl => ?_)
                    refine lv_iinc (v := (x20.2.2.2.2.1 + 1)) (lv' := [(5, .int (x20.2.2.2.2.1 + 1)), (3, .int (0 : Int32)), (7, .int (0 : Int32)), (6, .int x22), (0, .ref j0), (1, .ref j1), (2, .int x20.2.1), (4, .int x20.2.2.2.1)]) hx hb dL_areAlike_398 hl (k := 7) rfl rfl (by decide) rfl (fun ls hl => ?_)
                    refine lv_goto (tgt := 157) hx hb dL_areAlike_401 (by decide) ?_
                    exact ih x20.1 j0 j1 x20.2.1 (0 : Int32) x20.2.2.2.1 (x20.2.2.2.2.1 + 1) _ _ _ hcf hW hS (lv_sub hl [4, 5, 6, 1, 7, 0] rfl)
                  · exact absurd (by decide) q62
                · exact absurd q61 (by decide)
            · replace hcf := (if_pos q32).symm.trans hcf
              refine lv_iconst (v := (1 : Int32)) hx hb dL_areAlike_278 (by decide) ?_
              refine lv_goto (tgt := 283) hx hb dL_areAlike_279 (by decide) ?_
              refine lv_aload_n hx hb dL_areAlike_283 rfl (lv_at hl 2 rfl) ?_
              refine lv_iload hx hb dL_areAlike_284 (lv_at hl 7 rfl) ?_
              refine lv_bipush (v := (9 : Int32)) hx hb dL_areAlike_286 (by decide) ?_
              obtain ⟨x63, hx63, hcf⟩ := ob hcf
              refine iv_L_70 (As := [.int x20.2.2.2.2.1, .int (9 : Int32)]) (rest := [.int (1 : Int32)]) hx hb hml hown hts hE (ct_X3_conditionOf l D cy z n Y x20.1 G j0 x20.2.2.2.2.1 (9 : Int32) x63 hx63) hW hS q21 rfl rfl hl.1 (Nat.le_of_ble_eq_true rfl) ⟨Nat.le_of_ble_eq_true rfl, Nat.le_of_ble_eq_true rfl⟩ dL_areAlike_288 ⟨Nat.zero_le _, Nat.zero_le _⟩ (fun H locs hW hS => ?_)
              refine lv_if_lt (tgt := 298) hx hb dL_areAlike_291 (by decide) (fun q64 => ?_) (fun q64 => ?_)
              · replace hcf := (if_pos q64).symm.trans hcf
                refine lv_iconst (v := (0 : Int32)) hx hb dL_areAlike_298 (by decide) ?_
                refine lv_icmp_ne (tgt := 350) hx hb dL_areAlike_299 (by decide) (fun q65 => ?_) (fun q65 => ?_)
                · clear q65
                  refine lv_iconst (v := (0 : Int32)) hx hb dL_areAlike_350 (by decide) ?_
                  refine lv_istore_n (lv' := [(3, .int (0 : Int32)), (7, .int (0 : Int32)), (6, .int x22), (0, .ref j0), (1, .ref j1), (2, .int x20.2.1), (4, .int x20.2.2.2.1), (5, .int x20.2.2.2.2.1)]) hx hb dL_areAlike_351 rfl hl (by decide) rfl (fun ls hl => ?_)
                  refine lv_iload_n hx hb dL_areAlike_352 rfl (lv_at hl 0 rfl) ?_
                  refine lv_if_eq (tgt := 396) hx hb dL_areAlike_353 (by decide) (fun q66 => ?_) (fun q66 => ?_)
                  · clear q66
                    refine lv_iconst (v := (0 : Int32)) hx hb dL_areAlike_396 (by decide) ?_
                    refine lv_istore_n (lv' := [(3, .int (0 : Int32)), (7, .int (0 : Int32)), (6, .int x22), (0, .ref j0), (1, .ref j1), (2, .int x20.2.1), (4, .int x20.2.2.2.1), (5, .int x20.2.2.2.2.1)]) hx hb dL_areAlike_397 rfl hl (by decide) rfl (fun ls hl => ?_)
                    refine lv_iinc (v := (x20.2.2.2.2.1 + 1)) (lv' := [(5, .int (x20.2.2.2.2.1 + 1)), (3, .int (0 : Int32)), (7, .int (0 : Int32)), (6, .int x22), (0, .ref j0), (1, .ref j1), (2, .int x20.2.1), (4, .int x20.2.2.2.1)]) hx hb dL_areAlike_398 hl (k := 7) rfl rfl (by decide) rfl (fun ls hl => ?_)
                    refine lv_goto (tgt := 157) hx hb dL_areAlike_401 (by decide) ?_
                    exact ih x20.1 j0 j1 x20.2.1 (0 : Int32) x20.2.2.2.1 (x20.2.2.2.2.1 + 1) _ _ _ hcf hW hS (lv_sub hl [4, 5, 6, 1, 7, 0] rfl)
                  · exact absurd (by decide) q66
                · exact absurd q65 (by decide)
              · replace hcf := (if_neg q64).symm.trans hcf
                refine lv_iconst (v := (1 : Int32)) hx hb dL_areAlike_294 (by decide) ?_
                refine lv_goto (tgt := 299) hx hb dL_areAlike_295 (by decide) ?_
                refine lv_icmp_ne (tgt := 350) hx hb dL_areAlike_299 (by decide) (fun q67 => ?_) (fun q67 => ?_)
                · exact absurd (by decide) q67
                · clear q67
                  refine lv_aload_n hx hb dL_areAlike_302 rfl (lv_at hl 2 rfl) ?_
                  refine lv_iload hx hb dL_areAlike_303 (lv_at hl 7 rfl) ?_
                  refine lv_iload hx hb dL_areAlike_305 (lv_at hl 1 rfl) ?_
                  obtain ⟨x68, hx68, hcf⟩ := ob hcf
                  refine iv_L_73 (As := [.int x20.2.2.2.2.1, .int x22]) (rest := []) hx hb hml hown hts hE (ct_X3_when l D cy z n Y x20.1 G j0 x20.2.2.2.2.1 x22 x68 hx68) hW hS q21 rfl rfl hl.1 (Nat.le_of_ble_eq_true rfl) ⟨Nat.le_of_ble_eq_true rfl, Nat.le_of_ble_eq_true rfl⟩ dL_areAlike_307 ⟨Nat.zero_le _, Nat.zero_le _⟩ (fun H locs hW hS => ?_)
                  refine lv_if_ne (tgt := 350) hx hb dL_areAlike_310 (by decide) (fun q69 => ?_) (fun q69 => ?_)
                  · replace hcf := (if_neg q69).symm.trans hcf
                    refine lv_iconst (v := (0 : Int32)) hx hb dL_areAlike_350 (by decide) ?_
                    refine lv_istore_n (lv' := [(3, .int (0 : Int32)), (7, .int (0 : Int32)), (6, .int x22), (0, .ref j0), (1, .ref j1), (2, .int x20.2.1), (4, .int x20.2.2.2.1), (5, .int x20.2.2.2.2.1)]) hx hb dL_areAlike_351 rfl hl (by decide) rfl (fun ls hl => ?_)
                    refine lv_iload_n hx hb dL_areAlike_352 rfl (lv_at hl 0 rfl) ?_
                    refine lv_if_eq (tgt := 396) hx hb dL_areAlike_353 (by decide) (fun q70 => ?_) (fun q70 => ?_)
                    · clear q70
                      refine lv_iconst (v := (0 : Int32)) hx hb dL_areAlike_396 (by decide) ?_
                      refine lv_istore_n (lv' := [(3, .int (0 : Int32)), (7, .int (0 : Int32)), (6, .int x22), (0, .ref j0), (1, .ref j1), (2, .int x20.2.1), (4, .int x20.2.2.2.1), (5, .int x20.2.2.2.2.1)]) hx hb dL_areAlike_397 rfl hl (by decide) rfl (fun ls hl => ?_)
                      refine lv_iinc (v := (x20.2.2.2.2.1 + 1)) (lv' := [(5, .int (x20.2.2.2.2.1 + 1)), (3, .int (0 : Int32)), (7, .int (0 : Int32)), (6, .int x22), (0, .ref j0), (1, .ref j1), (2, .int x20.2.1), (4, .int x20.2.2.2.1)]) hx hb dL_areAlike_398 hl (k := 7) rfl rfl (by decide) rfl (fun ls hl => ?_)
                      refine lv_goto (tgt := 157) hx hb dL_areAlike_401 (by decide) ?_
                      exact ih x68.2 j0 j1 x20.2.1 (0 : Int32) x20.2.2.2.1 (x20.2.2.2.2.1 + 1) _ _ _ hcf hW hS (lv_sub hl [4, 5, 6, 1, 7, 0] rfl)
                    · exact absurd (by decide) q70
                  · replace hcf := (if_pos q69).symm.trans hcf
                    refine lv_aload_n hx hb dL_areAlike_313 rfl (lv_at hl 2 rfl) ?_
                    refine lv_iload hx hb dL_areAlike_314 (lv_at hl 7 rfl) ?_
                    refine lv_iconst (v := (0 : Int32)) hx hb dL_areAlike_316 (by decide) ?_
                    obtain ⟨x71, hx71, hcf⟩ := ob hcf
                    refine iv_L_70 (As := [.int x20.2.2.2.2.1, .int (0 : Int32)]) (rest := []) hx hb hml hown hts hE (ct_X3_conditionOf l D cy z n Y x68.2 G j0 x20.2.2.2.2.1 (0 : Int32) x71 hx71) hW hS q21 rfl rfl hl.1 (Nat.le_of_ble_eq_true rfl) ⟨Nat.le_of_ble_eq_true rfl, Nat.le_of_ble_eq_true rfl⟩ dL_areAlike_317 ⟨Nat.zero_le _, Nat.zero_le _⟩ (fun H locs hW hS => ?_)
                    refine lv_iconst (v := (2 : Int32)) hx hb dL_areAlike_320 (by decide) ?_
                    refine lv_icmp_eq (tgt := 346) hx hb dL_areAlike_321 (by decide) (fun q72 => ?_) (fun q72 => ?_)
                    · replace hcf := (if_pos q72).symm.trans hcf
                      refine lv_iconst (v := (1 : Int32)) hx hb dL_areAlike_346 (by decide) ?_
                      refine lv_goto (tgt := 351) hx hb dL_areAlike_347 (by decide) ?_
                      refine lv_istore_n (lv' := [(3, .int (1 : Int32)), (7, .int (0 : Int32)), (6, .int x22), (0, .ref j0), (1, .ref j1), (2, .int x20.2.1), (4, .int x20.2.2.2.1), (5, .int x20.2.2.2.2.1)]) hx hb dL_areAlike_351 rfl hl (by decide) rfl (fun ls hl => ?_)
                      refine lv_iload_n hx hb dL_areAlike_352 rfl (lv_at hl 0 rfl) ?_
                      refine lv_if_eq (tgt := 396) hx hb dL_areAlike_353 (by decide) (fun q73 => ?_) (fun q73 => ?_)
                      · exact absurd q73 (by decide)
                      · clear q73
                        refine lv_aload_n hx hb dL_areAlike_356 rfl (lv_at hl 3 rfl) ?_
                        refine lv_iload hx hb dL_areAlike_357 (lv_at hl 7 rfl) ?_
                        refine lv_ldc2 hx hb hown (hts _ q480) dL_areAlike_359 ?_
                        obtain ⟨x74, hx74, hcf⟩ := ob hcf
                        refine iv_L_78 (As := [.int x20.2.2.2.2.1, .long (3 : Int64)]) (rest := []) hx hb hml hown hts hE (ct_X3_fine l D cy z n Y x68.2 G j0 x20.2.2.2.2.1 (3 : Int64) x74 hx74) hW hS q21 rfl rfl hl.1 (Nat.le_of_ble_eq_true rfl) ⟨Nat.le_of_ble_eq_true rfl, Nat.le_of_ble_eq_true rfl⟩ dL_areAlike_362 ⟨Nat.zero_le _, Nat.zero_le _⟩ (fun H locs hW hS => ?_)
                        refine lv_ldc2 hx hb hown (hts _ q480) dL_areAlike_365 ?_
                        refine lv_aload_n hx hb dL_areAlike_368 rfl (lv_at hl 3 rfl) ?_
                        refine lv_iload hx hb dL_areAlike_369 (lv_at hl 7 rfl) ?_
                        refine lv_bipush (v := (11 : Int32)) hx hb dL_areAlike_371 (by decide) ?_
                        obtain ⟨x75, hx75, hcf⟩ := ob hcf
                        refine iv_L_70 (As := [.int x20.2.2.2.2.1, .int (11 : Int32)]) (rest := [.long (3 : Int64), .long x74]) hx hb hml hown hts hE (ct_X3_conditionOf l D cy z n Y x68.2 G j0 x20.2.2.2.2.1 (11 : Int32) x75 hx75) hW hS q21 rfl rfl hl.1 (Nat.le_of_ble_eq_true rfl) ⟨Nat.le_of_ble_eq_true rfl, Nat.le_of_ble_eq_true rfl⟩ dL_areAlike_373 ⟨Nat.zero_le _, Nat.zero_le _⟩ (fun H locs hW hS => ?_)
                        refine lv_i2l hx hb dL_areAlike_376 rfl ?_
                        refine lv_lmul hx hb dL_areAlike_377 ?_
                        refine lv_aload_n hx hb dL_areAlike_378 rfl (lv_at hl 3 rfl) ?_
                        refine lv_iload hx hb dL_areAlike_379 (lv_at hl 7 rfl) ?_
                        refine lv_bipush (v := (11 : Int32)) hx hb dL_areAlike_381 (by decide) ?_
                        obtain ⟨x76, hx76, hcf⟩ := ob hcf
                        refine iv_L_70 (As := [.int x20.2.2.2.2.1, .int (11 : Int32)]) (rest := [.long ((3 : Int64) * (x75).toInt64), .long x74]) hx hb hml hown hts hE (ct_X3_conditionOf l D cy z n Y x68.2 G j0 x20.2.2.2.2.1 (11 : Int32) x76 hx76) hW hS q21 rfl rfl hl.1 (Nat.le_of_ble_eq_true rfl) ⟨Nat.le_of_ble_eq_true rfl, Nat.le_of_ble_eq_true rfl⟩ dL_areAlike_383 ⟨Nat.zero_le _, Nat.zero_le _⟩ (fun H locs hW hS => ?_)
                        refine lv_i2l hx hb dL_areAlike_386 rfl ?_
                        refine lv_lmul hx hb dL_areAlike_387 ?_
                        refine W.lcmp hx hb dL_areAlike_388 ?_
                        refine lv_if_ne (tgt := 396) hx hb dL_areAlike_389 (by decide) (fun q77 => ?_) (fun q77 => ?_)
                        · replace hcf := (if_neg q77).symm.trans hcf
                          refine lv_iconst (v := (0 : Int32)) hx hb dL_areAlike_396 (by decide) ?_
                          refine lv_istore_n (lv' := [(3, .int (0 : Int32)), (7, .int (0 : Int32)), (6, .int x22), (0, .ref j0), (1, .ref j1), (2, .int x20.2.1), (4, .int x20.2.2.2.1), (5, .int x20.2.2.2.2.1)]) hx hb dL_areAlike_397 rfl hl (by decide) rfl (fun ls hl => ?_)
                          refine lv_iinc (v := (x20.2.2.2.2.1 + 1)) (lv' := [(5, .int (x20.2.2.2.2.1 + 1)), (3, .int (0 : Int32)), (7, .int (0 : Int32)), (6, .int x22), (0, .ref j0), (1, .ref j1), (2, .int x20.2.1), (4, .int x20.2.2.2.1)]) hx hb dL_areAlike_398 hl (k := 7) rfl rfl (by decide) rfl (fun ls hl => ?_)
                          refine lv_goto (tgt := 157) hx hb dL_areAlike_401 (by decide) ?_
                          exact ih x68.2 j0 j1 x20.2.1 (0 : Int32) x20.2.2.2.1 (x20.2.2.2.2.1 + 1) _ _ _ hcf hW hS (lv_sub hl [4, 5, 6, 1, 7, 0] rfl)
                        · replace hcf := (if_pos q77).symm.trans hcf
                          refine lv_iconst (v := (1 : Int32)) hx hb dL_areAlike_392 (by decide) ?_
                          refine lv_goto (tgt := 397) hx hb dL_areAlike_393 (by decide) ?_
                          refine lv_istore_n (lv' := [(3, .int (1 : Int32)), (7, .int (0 : Int32)), (6, .int x22), (0, .ref j0), (1, .ref j1), (2, .int x20.2.1), (4, .int x20.2.2.2.1), (5, .int x20.2.2.2.2.1)]) hx hb dL_areAlike_397 rfl hl (by decide) rfl (fun ls hl => ?_)
                          refine lv_iinc (v := (x20.2.2.2.2.1 + 1)) (lv' := [(5, .int (x20.2.2.2.2.1 + 1)), (3, .int (1 : Int32)), (7, .int (0 : Int32)), (6, .int x22), (0, .ref j0), (1, .ref j1), (2, .int x20.2.1), (4, .int x20.2.2.2.1)]) hx hb dL_areAlike_398 hl (k := 7) rfl rfl (by decide) rfl (fun ls hl => ?_)
                          refine lv_goto (tgt := 157) hx hb dL_areAlike_401 (by decide) ?_
                          exact ih x68.2 j0 j1 x20.2.1 (1 : Int32) x20.2.2.2.1 (x20.2.2.2.2.1 + 1) _ _ _ hcf hW hS (lv_sub hl [4, 5, 6, 1, 7, 0] rfl)
                    · replace hcf := (if_neg q72).symm.trans hcf
                      refine lv_iload hx hb dL_areAlike_324 (lv_at hl 1 rfl) ?_
                      refine lv_iconst (v := (4 : Int32)) hx hb dL_areAlike_326 (by decide) ?_
                      refine lv_icmp_eq (tgt := 346) hx hb dL_areAlike_327 (by decide) (fun q78 => ?_) (fun q78 => ?_)
                      · replace hcf := (if_pos q78).symm.trans hcf
                        refine lv_iconst (v := (1 : Int32)) hx hb dL_areAlike_346 (by decide) ?_
                        refine lv_goto (tgt := 351) hx hb dL_areAlike_347 (by decide) ?_
                        refine lv_istore_n (lv' := [(3, .int (1 : Int32)), (7, .int (0 : Int32)), (6, .int x22), (0, .ref j0), (1, .ref j1), (2, .int x20.2.1), (4, .int x20.2.2.2.1), (5, .int x20.2.2.2.2.1)]) hx hb dL_areAlike_351 rfl hl (by decide) rfl (fun ls hl => ?_)
                        refine lv_iload_n hx hb dL_areAlike_352 rfl (lv_at hl 0 rfl) ?_
                        refine lv_if_eq (tgt := 396) hx hb dL_areAlike_353 (by decide) (fun q79 => ?_) (fun q79 => ?_)
                        · exact absurd q79 (by decide)
                        · clear q79
                          refine lv_aload_n hx hb dL_areAlike_356 rfl (lv_at hl 3 rfl) ?_
                          refine lv_iload hx hb dL_areAlike_357 (lv_at hl 7 rfl) ?_
                          refine lv_ldc2 hx hb hown (hts _ q480) dL_areAlike_359 ?_
                          obtain ⟨x80, hx80, hcf⟩ := ob hcf
                          refine iv_L_78 (As := [.int x20.2.2.2.2.1, .long (3 : Int64)]) (rest := []) hx hb hml hown hts hE (ct_X3_fine l D cy z n Y x68.2 G j0 x20.2.2.2.2.1 (3 : Int64) x80 hx80) hW hS q21 rfl rfl hl.1 (Nat.le_of_ble_eq_true rfl) ⟨Nat.le_of_ble_eq_true rfl, Nat.le_of_ble_eq_true rfl⟩ dL_areAlike_362 ⟨Nat.zero_le _, Nat.zero_le _⟩ (fun H locs hW hS => ?_)
                          refine lv_ldc2 hx hb hown (hts _ q480) dL_areAlike_365 ?_
                          refine lv_aload_n hx hb dL_areAlike_368 rfl (lv_at hl 3 rfl) ?_
                          refine lv_iload hx hb dL_areAlike_369 (lv_at hl 7 rfl) ?_
                          refine lv_bipush (v := (11 : Int32)) hx hb dL_areAlike_371 (by decide) ?_
                          obtain ⟨x81, hx81, hcf⟩ := ob hcf
                          refine iv_L_70 (As := [.int x20.2.2.2.2.1, .int (11 : Int32)]) (rest := [.long (3 : Int64), .long x80]) hx hb hml hown hts hE (ct_X3_conditionOf l D cy z n Y x68.2 G j0 x20.2.2.2.2.1 (11 : Int32) x81 hx81) hW hS q21 rfl rfl hl.1 (Nat.le_of_ble_eq_true rfl) ⟨Nat.le_of_ble_eq_true rfl, Nat.le_of_ble_eq_true rfl⟩ dL_areAlike_373 ⟨Nat.zero_le _, Nat.zero_le _⟩ (fun H locs hW hS => ?_)
                          refine lv_i2l hx hb dL_areAlike_376 rfl ?_
                          refine lv_lmul hx hb dL_areAlike_377 ?_
                          refine lv_aload_n hx hb dL_areAlike_378 rfl (lv_at hl 3 rfl) ?_
                          refine lv_iload hx hb dL_areAlike_379 (lv_at hl 7 rfl) ?_
                          refine lv_bipush (v := (11 : Int32)) hx hb dL_areAlike_381 (by decide) ?_
                          obtain ⟨x82, hx82, hcf⟩ := ob hcf
                          refine iv_L_70 (As := [.int x20.2.2.2.2.1, .int (11 : Int32)]) (rest := [.long ((3 : Int64) * (x81).toInt64), .long x80]) hx hb hml hown hts hE (ct_X3_conditionOf l D cy z n Y x68.2 G j0 x20.2.2.2.2.1 (11 : Int32) x82 hx82) hW hS q21 rfl rfl hl.1 (Nat.le_of_ble_eq_true rfl) ⟨Nat.le_of_ble_eq_true rfl, Nat.le_of_ble_eq_true rfl⟩ dL_areAlike_383 ⟨Nat.zero_le _, Nat.zero_le _⟩ (fun H locs hW hS => ?_)
                          refine lv_i2l hx hb dL_areAlike_386 rfl ?_
                          refine lv_lmul hx hb dL_areAlike_387 ?_
                          refine W.lcmp hx hb dL_areAlike_388 ?_
                          refine lv_if_ne (tgt := 396) hx hb dL_areAlike_389 (by decide) (fun q83 => ?_) (fun q83 => ?_)
                          · replace hcf := (if_neg q83).symm.trans hcf
                            refine lv_iconst (v := (0 : Int32)) hx hb dL_areAlike_396 (by decide) ?_
                            refine lv_istore_n (lv' := [(3, .int (0 : Int32)), (7, .int (0 : Int32)), (6, .int x22), (0, .ref j0), (1, .ref j1), (2, .int x20.2.1), (4, .int x20.2.2.2.1), (5, .int x20.2.2.2.2.1)]) hx hb dL_areAlike_397 rfl hl (by decide) rfl (fun ls hl => ?_)
                            refine lv_iinc (v := (x20.2.2.2.2.1 + 1)) (lv' := [(5, .int (x20.2.2.2.2.1 + 1)), (3, .int (0 : Int32)), (7, .int (0 : Int32)), (6, .int x22), (0, .ref j0), (1, .ref j1), (2, .int x20.2.1), (4, .int x20.2.2.2.1)]) hx hb dL_areAlike_398 hl (k := 7) rfl rfl (by decide) rfl (fun ls hl => ?_)
                            refine lv_goto (tgt := 157) hx hb dL_areAlike_401 (by decide) ?_
                            exact ih x68.2 j0 j1 x20.2.1 (0 : Int32) x20.2.2.2.1 (x20.2.2.2.2.1 + 1) _ _ _ hcf hW hS (lv_sub hl [4, 5, 6, 1, 7, 0] rfl)
                          · replace hcf := (if_pos q83).symm.trans hcf
                            refine lv_iconst (v := (1 : Int32)) hx hb dL_areAlike_392 (by decide) ?_
                            refine lv_goto (tgt := 397) hx hb dL_areAlike_393 (by decide) ?_
                            refine lv_istore_n (lv' := [(3, .int (1 : Int32)), (7, .int (0 : Int32)), (6, .int x22), (0, .ref j0), (1, .ref j1), (2, .int x20.2.1), (4, .int x20.2.2.2.1), (5, .int x20.2.2.2.2.1)]) hx hb dL_areAlike_397 rfl hl (by decide) rfl (fun ls hl => ?_)
                            refine lv_iinc (v := (x20.2.2.2.2.1 + 1)) (lv' := [(5, .int (x20.2.2.2.2.1 + 1)), (3, .int (1 : Int32)), (7, .int (0 : Int32)), (6, .int x22), (0, .ref j0), (1, .ref j1), (2, .int x20.2.1), (4, .int x20.2.2.2.1)]) hx hb dL_areAlike_398 hl (k := 7) rfl rfl (by decide) rfl (fun ls hl => ?_)
                            refine lv_goto (tgt := 157) hx hb dL_areAlike_401 (by decide) ?_
                            exact ih x68.2 j0 j1 x20.2.1 (1 : Int32) x20.2.2.2.1 (x20.2.2.2.2.1 + 1) _ _ _ hcf hW hS (lv_sub hl [4, 5, 6, 1, 7, 0] rfl)
                      · replace hcf := (if_neg q78).symm.trans hcf
                        refine lv_iload hx hb dL_areAlike_330 (lv_at hl 0 rfl) ?_
                        refine lv_iload hx hb dL_areAlike_332 (lv_at hl 1 rfl) ?_
                        refine lv_iconst (v := (2 : Int32)) hx hb dL_areAlike_334 (by decide) ?_
                        refine lv_icmp_ne (tgt := 342) hx hb dL_areAlike_335 (by decide) (fun q84 => ?_) (fun q84 => ?_)
                        · replace hcf := (if_neg q84).symm.trans hcf
                          refine lv_iconst (v := (0 : Int32)) hx hb dL_areAlike_342 (by decide) ?_
                          refine lv_icmp_ne (tgt := 350) hx hb dL_areAlike_343 (by decide) (fun q85 => ?_) (fun q85 => ?_)
                          · exact absurd (by decide) q85
                          · clear q85
                            refine lv_iconst (v := (1 : Int32)) hx hb dL_areAlike_346 (by decide) ?_
                            refine lv_goto (tgt := 351) hx hb dL_areAlike_347 (by decide) ?_
                            refine lv_istore_n (lv' := [(3, .int (1 : Int32)), (7, .int (0 : Int32)), (6, .int x22), (0, .ref j0), (1, .ref j1), (2, .int x20.2.1), (4, .int x20.2.2.2.1), (5, .int x20.2.2.2.2.1)]) hx hb dL_areAlike_351 rfl hl (by decide) rfl (fun ls hl => ?_)
                            refine lv_iload_n hx hb dL_areAlike_352 rfl (lv_at hl 0 rfl) ?_
                            refine lv_if_eq (tgt := 396) hx hb dL_areAlike_353 (by decide) (fun q86 => ?_) (fun q86 => ?_)
                            · exact absurd q86 (by decide)
                            · clear q86
                              refine lv_aload_n hx hb dL_areAlike_356 rfl (lv_at hl 3 rfl) ?_
                              refine lv_iload hx hb dL_areAlike_357 (lv_at hl 7 rfl) ?_
                              refine lv_ldc2 hx hb hown (hts _ q480) dL_areAlike_359 ?_
                              obtain ⟨x87, hx87, hcf⟩ := ob hcf
                              refine iv_L_78 (As := [.int x20.2.2.2.2.1, .long (3 : Int64)]) (rest := []) hx hb hml hown hts hE (ct_X3_fine l D cy z n Y x68.2 G j0 x20.2.2.2.2.1 (3 : Int64) x87 hx87) hW hS q21 rfl rfl hl.1 (Nat.le_of_ble_eq_true rfl) ⟨Nat.le_of_ble_eq_true rfl, Nat.le_of_ble_eq_true rfl⟩ dL_areAlike_362 ⟨Nat.zero_le _, Nat.zero_le _⟩ (fun H locs hW hS => ?_)
                              refine lv_ldc2 hx hb hown (hts _ q480) dL_areAlike_365 ?_
                              refine lv_aload_n hx hb dL_areAlike_368 rfl (lv_at hl 3 rfl) ?_
                              refine lv_iload hx hb dL_areAlike_369 (lv_at hl 7 rfl) ?_
                              refine lv_bipush (v := (11 : Int32)) hx hb dL_areAlike_371 (by decide) ?_
                              obtain ⟨x88, hx88, hcf⟩ := ob hcf
                              refine iv_L_70 (As := [.int x20.2.2.2.2.1, .int (11 : Int32)]) (rest := [.long (3 : Int64), .long x87]) hx hb hml hown hts hE (ct_X3_conditionOf l D cy z n Y x68.2 G j0 x20.2.2.2.2.1 (11 : Int32) x88 hx88) hW hS q21 rfl rfl hl.1 (Nat.le_of_ble_eq_true rfl) ⟨Nat.le_of_ble_eq_true rfl, Nat.le_of_ble_eq_true rfl⟩ dL_areAlike_373 ⟨Nat.zero_le _, Nat.zero_le _⟩ (fun H locs hW hS => ?_)
                              refine lv_i2l hx hb dL_areAlike_376 rfl ?_
                              refine lv_lmul hx hb dL_areAlike_377 ?_
                              refine lv_aload_n hx hb dL_areAlike_378 rfl (lv_at hl 3 rfl) ?_
                              refine lv_iload hx hb dL_areAlike_379 (lv_at hl 7 rfl) ?_
                              refine lv_bipush (v := (11 : Int32)) hx hb dL_areAlike_381 (by decide) ?_
                              obtain ⟨x89, hx89, hcf⟩ := ob hcf
                              refine iv_L_70 (As := [.int x20.2.2.2.2.1, .int (11 : Int32)]) (rest := [.long ((3 : Int64) * (x88).toInt64), .long x87]) hx hb hml hown hts hE (ct_X3_conditionOf l D cy z n Y x68.2 G j0 x20.2.2.2.2.1 (11 : Int32) x89 hx89) hW hS q21 rfl rfl hl.1 (Nat.le_of_ble_eq_true rfl) ⟨Nat.le_of_ble_eq_true rfl, Nat.le_of_ble_eq_true rfl⟩ dL_areAlike_383 ⟨Nat.zero_le _, Nat.zero_le _⟩ (fun H locs hW hS => ?_)
                              refine lv_i2l hx hb dL_areAlike_386 rfl ?_
                              refine lv_lmul hx hb dL_areAlike_387 ?_
                              refine W.lcmp hx hb dL_areAlike_388 ?_
                              refine lv_if_ne (tgt := 396) hx hb dL_areAlike_389 (by decide) (fun q90 => ?_) (fun q90 => ?_)
                              · replace hcf := (if_neg q90).symm.trans hcf
                                refine lv_iconst (v := (0 : Int32)) hx hb dL_areAlike_396 (by decide) ?_
                                refine lv_istore_n (lv' := [(3, .int (0 : Int32)), (7, .int (0 : Int32)), (6, .int x22), (0, .ref j0), (1, .ref j1), (2, .int x20.2.1), (4, .int x20.2.2.2.1), (5, .int x20.2.2.2.2.1)]) hx hb dL_areAlike_397 rfl hl (by decide) rfl (fun ls hl => ?_)
                                refine lv_iinc (v := (x20.2.2.2.2.1 + 1)) (lv' := [(5, .int (x20.2.2.2.2.1 + 1)), (3, .int (0 : Int32)), (7, .int (0 : Int32)), (6, .int x22), (0, .ref j0), (1, .ref j1), (2, .int x20.2.1), (4, .int x20.2.2.2.1)]) hx hb dL_areAlike_398 hl (k := 7) rfl rfl (by decide) rfl (fun ls hl => ?_)
                                refine lv_goto (tgt := 157) hx hb dL_areAlike_401 (by decide) ?_
                                exact ih x68.2 j0 j1 x20.2.1 (0 : Int32) x20.2.2.2.1 (x20.2.2.2.2.1 + 1) _ _ _ hcf hW hS (lv_sub hl [4, 5, 6, 1, 7, 0] rfl)
                              · replace hcf := (if_pos q90).symm.trans hcf
                                refine lv_iconst (v := (1 : Int32)) hx hb dL_areAlike_392 (by decide) ?_
                                refine lv_goto (tgt := 397) hx hb dL_areAlike_393 (by decide) ?_
                                refine lv_istore_n (lv' := [(3, .int (1 : Int32)), (7, .int (0 : Int32)), (6, .int x22), (0, .ref j0), (1, .ref j1), (2, .int x20.2.1), (4, .int x20.2.2.2.1), (5, .int x20.2.2.2.2.1)]) hx hb dL_areAlike_397 rfl hl (by decide) rfl (fun ls hl => ?_)
                                refine lv_iinc (v := (x20.2.2.2.2.1 + 1)) (lv' := [(5, .int (x20.2.2.2.2.1 + 1)), (3, .int (1 : Int32)), (7, .int (0 : Int32)), (6, .int x22), (0, .ref j0), (1, .ref j1), (2, .int x20.2.1), (4, .int x20.2.2.2.1)]) hx hb dL_areAlike_398 hl (k := 7) rfl rfl (by decide) rfl (fun ls hl => ?_)
                                refine lv_goto (tgt := 157) hx hb dL_areAlike_401 (by decide) ?_
                                exact ih x68.2 j0 j1 x20.2.1 (1 : Int32) x20.2.2.2.1 (x20.2.2.2.2.1 + 1) _ _ _ hcf hW hS (lv_sub hl [4, 5, 6, 1, 7, 0] rfl)
                        · replace hcf := (if_pos q84).symm.trans hcf
                          refine lv_iconst (v := (1 : Int32)) hx hb dL_areAlike_338 (by decide) ?_
                          refine lv_goto (tgt := 343) hx hb dL_areAlike_339 (by decide) ?_
                          refine lv_icmp_ne (tgt := 350) hx hb dL_areAlike_343 (by decide) (fun q91 => ?_) (fun q91 => ?_)
                          · clear q91
                            refine lv_iconst (v := (0 : Int32)) hx hb dL_areAlike_350 (by decide) ?_
                            refine lv_istore_n (lv' := [(3, .int (0 : Int32)), (7, .int (0 : Int32)), (6, .int x22), (0, .ref j0), (1, .ref j1), (2, .int x20.2.1), (4, .int x20.2.2.2.1), (5, .int x20.2.2.2.2.1)]) hx hb dL_areAlike_351 rfl hl (by decide) rfl (fun ls hl => ?_)
                            refine lv_iload_n hx hb dL_areAlike_352 rfl (lv_at hl 0 rfl) ?_
                            refine lv_if_eq (tgt := 396) hx hb dL_areAlike_353 (by decide) (fun q92 => ?_) (fun q92 => ?_)
                            · clear q92
                              refine lv_iconst (v := (0 : Int32)) hx hb dL_areAlike_396 (by decide) ?_
                              refine lv_istore_n (lv' := [(3, .int (0 : Int32)), (7, .int (0 : Int32)), (6, .int x22), (0, .ref j0), (1, .ref j1), (2, .int x20.2.1), (4, .int x20.2.2.2.1), (5, .int x20.2.2.2.2.1)]) hx hb dL_areAlike_397 rfl hl (by decide) rfl (fun ls hl => ?_)
                              refine lv_iinc (v := (x20.2.2.2.2.1 + 1)) (lv' := [(5, .int (x20.2.2.2.2.1 + 1)), (3, .int (0 : Int32)), (7, .int (0 : Int32)), (6, .int x22), (0, .ref j0), (1, .ref j1), (2, .int x20.2.1), (4, .int x20.2.2.2.1)]) hx hb dL_areAlike_398 hl (k := 7) rfl rfl (by decide) rfl (fun ls hl => ?_)
                              refine lv_goto (tgt := 157) hx hb dL_areAlike_401 (by decide) ?_
                              exact ih x68.2 j0 j1 x20.2.1 (0 : Int32) x20.2.2.2.1 (x20.2.2.2.2.1 + 1) _ _ _ hcf hW hS (lv_sub hl [4, 5, 6, 1, 7, 0] rfl)
                            · exact absurd (by decide) q92
                          · exact absurd q91 (by decide)
      · replace hcf := (if_pos q25).symm.trans hcf
        refine lv_iconst (v := (1 : Int32)) hx hb dL_areAlike_242 (by decide) ?_
        refine lv_goto (tgt := 247) hx hb dL_areAlike_243 (by decide) ?_
        refine lv_istore (lv' := [(7, .int (1 : Int32)), (6, .int x22), (0, .ref j0), (1, .ref j1), (2, .int x20.2.1), (3, .int x20.2.2.1), (4, .int x20.2.2.2.1), (5, .int x20.2.2.2.2.1)]) hx hb dL_areAlike_247 hl (by decide) rfl (fun ls hl => ?_)
        refine lv_iload_n hx hb dL_areAlike_249 rfl (lv_at hl 5 rfl) ?_
        refine lv_if_eq (tgt := 350) hx hb dL_areAlike_250 (by decide) (fun q93 => ?_) (fun q93 => ?_)
        · replace hcf := (if_pos q93).symm.trans hcf
          refine lv_iconst (v := (0 : Int32)) hx hb dL_areAlike_350 (by decide) ?_
          refine lv_istore_n (lv' := [(3, .int (0 : Int32)), (7, .int (1 : Int32)), (6, .int x22), (0, .ref j0), (1, .ref j1), (2, .int x20.2.1), (4, .int x20.2.2.2.1), (5, .int x20.2.2.2.2.1)]) hx hb dL_areAlike_351 rfl hl (by decide) rfl (fun ls hl => ?_)
          refine lv_iload_n hx hb dL_areAlike_352 rfl (lv_at hl 0 rfl) ?_
          refine lv_if_eq (tgt := 396) hx hb dL_areAlike_353 (by decide) (fun q94 => ?_) (fun q94 => ?_)
          · clear q94
            refine lv_iconst (v := (0 : Int32)) hx hb dL_areAlike_396 (by decide) ?_
            refine lv_istore_n (lv' := [(3, .int (0 : Int32)), (7, .int (1 : Int32)), (6, .int x22), (0, .ref j0), (1, .ref j1), (2, .int x20.2.1), (4, .int x20.2.2.2.1), (5, .int x20.2.2.2.2.1)]) hx hb dL_areAlike_397 rfl hl (by decide) rfl (fun ls hl => ?_)
            refine lv_iinc (v := (x20.2.2.2.2.1 + 1)) (lv' := [(5, .int (x20.2.2.2.2.1 + 1)), (3, .int (0 : Int32)), (7, .int (1 : Int32)), (6, .int x22), (0, .ref j0), (1, .ref j1), (2, .int x20.2.1), (4, .int x20.2.2.2.1)]) hx hb dL_areAlike_398 hl (k := 7) rfl rfl (by decide) rfl (fun ls hl => ?_)
            refine lv_goto (tgt := 157) hx hb dL_areAlike_401 (by decide) ?_
            exact ih x20.1 j0 j1 x20.2.1 (0 : Int32) x20.2.2.2.1 (x20.2.2.2.2.1 + 1) _ _ _ hcf hW hS (lv_sub hl [4, 5, 6, 1, 7, 0] rfl)
          · exact absurd (by decide) q94
        · replace hcf := (if_neg q93).symm.trans hcf
          refine lv_aload_n hx hb dL_areAlike_253 rfl (lv_at hl 2 rfl) ?_
          refine lv_iload hx hb dL_areAlike_254 (lv_at hl 7 rfl) ?_
          refine lv_iconst (v := (5 : Int32)) hx hb dL_areAlike_256 (by decide) ?_
          obtain ⟨x95, hx95, hcf⟩ := ob hcf
          refine iv_L_70 (As := [.int x20.2.2.2.2.1, .int (5 : Int32)]) (rest := []) hx hb hml hown hts hE (ct_X3_conditionOf l D cy z n Y x20.1 G j0 x20.2.2.2.2.1 (5 : Int32) x95 hx95) hW hS q21 rfl rfl hl.1 (Nat.le_of_ble_eq_true rfl) ⟨Nat.le_of_ble_eq_true rfl, Nat.le_of_ble_eq_true rfl⟩ dL_areAlike_257 ⟨Nat.zero_le _, Nat.zero_le _⟩ (fun H locs hW hS => ?_)
          refine lv_aload_n hx hb dL_areAlike_260 rfl (lv_at hl 2 rfl) ?_
          refine lv_iload hx hb dL_areAlike_261 (lv_at hl 7 rfl) ?_
          refine lv_bipush (v := (6 : Int32)) hx hb dL_areAlike_263 (by decide) ?_
          obtain ⟨x96, hx96, hcf⟩ := ob hcf
          refine iv_L_70 (As := [.int x20.2.2.2.2.1, .int (6 : Int32)]) (rest := [.int x95]) hx hb hml hown hts hE (ct_X3_conditionOf l D cy z n Y x20.1 G j0 x20.2.2.2.2.1 (6 : Int32) x96 hx96) hW hS q21 rfl rfl hl.1 (Nat.le_of_ble_eq_true rfl) ⟨Nat.le_of_ble_eq_true rfl, Nat.le_of_ble_eq_true rfl⟩ dL_areAlike_265 ⟨Nat.zero_le _, Nat.zero_le _⟩ (fun H locs hW hS => ?_)
          refine lv_iand hx hb dL_areAlike_268 ?_
          refine lv_if_ne (tgt := 350) hx hb dL_areAlike_269 (by decide) (fun q97 => ?_) (fun q97 => ?_)
          · replace hcf := (if_neg q97).symm.trans hcf
            refine lv_iconst (v := (0 : Int32)) hx hb dL_areAlike_350 (by decide) ?_
            refine lv_istore_n (lv' := [(3, .int (0 : Int32)), (7, .int (1 : Int32)), (6, .int x22), (0, .ref j0), (1, .ref j1), (2, .int x20.2.1), (4, .int x20.2.2.2.1), (5, .int x20.2.2.2.2.1)]) hx hb dL_areAlike_351 rfl hl (by decide) rfl (fun ls hl => ?_)
            refine lv_iload_n hx hb dL_areAlike_352 rfl (lv_at hl 0 rfl) ?_
            refine lv_if_eq (tgt := 396) hx hb dL_areAlike_353 (by decide) (fun q98 => ?_) (fun q98 => ?_)
            · clear q98
              refine lv_iconst (v := (0 : Int32)) hx hb dL_areAlike_396 (by decide) ?_
              refine lv_istore_n (lv' := [(3, .int (0 : Int32)), (7, .int (1 : Int32)), (6, .int x22), (0, .ref j0), (1, .ref j1), (2, .int x20.2.1), (4, .int x20.2.2.2.1), (5, .int x20.2.2.2.2.1)]) hx hb dL_areAlike_397 rfl hl (by decide) rfl (fun ls hl => ?_)
              refine lv_iinc (v := (x20.2.2.2.2.1 + 1)) (lv' := [(5, .int (x20.2.2.2.2.1 + 1)), (3, .int (0 : Int32)), (7, .int (1 : Int32)), (6, .int x22), (0, .ref j0), (1, .ref j1), (2, .int x20.2.1), (4, .int x20.2.2.2.1)]) hx hb dL_areAlike_398 hl (k := 7) rfl rfl (by decide) rfl (fun ls hl => ?_)
              refine lv_goto (tgt := 157) hx hb dL_areAlike_401 (by decide) ?_
              exact ih x20.1 j0 j1 x20.2.1 (0 : Int32) x20.2.2.2.1 (x20.2.2.2.2.1 + 1) _ _ _ hcf hW hS (lv_sub hl [4, 5, 6, 1, 7, 0] rfl)
            · exact absurd (by decide) q98
          · replace hcf := (if_pos q97).symm.trans hcf
            refine lv_iload hx hb dL_areAlike_272 (lv_at hl 1 rfl) ?_
            refine lv_iconst (v := (3 : Int32)) hx hb dL_areAlike_274 (by decide) ?_
            refine lv_icmp_ne (tgt := 282) hx hb dL_areAlike_275 (by decide) (fun q99 => ?_) (fun q99 => ?_)
            · replace hcf := (if_neg q99).symm.trans hcf
              refine lv_iconst (v := (0 : Int32)) hx hb dL_areAlike_282 (by decide) ?_
              refine lv_aload_n hx hb dL_areAlike_283 rfl (lv_at hl 2 rfl) ?_
              refine lv_iload hx hb dL_areAlike_284 (lv_at hl 7 rfl) ?_
              refine lv_bipush (v := (9 : Int32)) hx hb dL_areAlike_286 (by decide) ?_
              obtain ⟨x100, hx100, hcf⟩ := ob hcf
              refine iv_L_70 (As := [.int x20.2.2.2.2.1, .int (9 : Int32)]) (rest := [.int (0 : Int32)]) hx hb hml hown hts hE (ct_X3_conditionOf l D cy z n Y x20.1 G j0 x20.2.2.2.2.1 (9 : Int32) x100 hx100) hW hS q21 rfl rfl hl.1 (Nat.le_of_ble_eq_true rfl) ⟨Nat.le_of_ble_eq_true rfl, Nat.le_of_ble_eq_true rfl⟩ dL_areAlike_288 ⟨Nat.zero_le _, Nat.zero_le _⟩ (fun H locs hW hS => ?_)
              refine lv_if_lt (tgt := 298) hx hb dL_areAlike_291 (by decide) (fun q101 => ?_) (fun q101 => ?_)
              · replace hcf := (if_pos q101).symm.trans hcf
                refine lv_iconst (v := (0 : Int32)) hx hb dL_areAlike_298 (by decide) ?_
                refine lv_icmp_ne (tgt := 350) hx hb dL_areAlike_299 (by decide) (fun q102 => ?_) (fun q102 => ?_)
                · exact absurd (by decide) q102
                · clear q102
                  refine lv_aload_n hx hb dL_areAlike_302 rfl (lv_at hl 2 rfl) ?_
                  refine lv_iload hx hb dL_areAlike_303 (lv_at hl 7 rfl) ?_
                  refine lv_iload hx hb dL_areAlike_305 (lv_at hl 1 rfl) ?_
                  obtain ⟨x103, hx103, hcf⟩ := ob hcf
                  refine iv_L_73 (As := [.int x20.2.2.2.2.1, .int x22]) (rest := []) hx hb hml hown hts hE (ct_X3_when l D cy z n Y x20.1 G j0 x20.2.2.2.2.1 x22 x103 hx103) hW hS q21 rfl rfl hl.1 (Nat.le_of_ble_eq_true rfl) ⟨Nat.le_of_ble_eq_true rfl, Nat.le_of_ble_eq_true rfl⟩ dL_areAlike_307 ⟨Nat.zero_le _, Nat.zero_le _⟩ (fun H locs hW hS => ?_)
                  refine lv_if_ne (tgt := 350) hx hb dL_areAlike_310 (by decide) (fun q104 => ?_) (fun q104 => ?_)
                  · replace hcf := (if_neg q104).symm.trans hcf
                    refine lv_iconst (v := (0 : Int32)) hx hb dL_areAlike_350 (by decide) ?_
                    refine lv_istore_n (lv' := [(3, .int (0 : Int32)), (7, .int (1 : Int32)), (6, .int x22), (0, .ref j0), (1, .ref j1), (2, .int x20.2.1), (4, .int x20.2.2.2.1), (5, .int x20.2.2.2.2.1)]) hx hb dL_areAlike_351 rfl hl (by decide) rfl (fun ls hl => ?_)
                    refine lv_iload_n hx hb dL_areAlike_352 rfl (lv_at hl 0 rfl) ?_
                    refine lv_if_eq (tgt := 396) hx hb dL_areAlike_353 (by decide) (fun q105 => ?_) (fun q105 => ?_)
                    · clear q105
                      refine lv_iconst (v := (0 : Int32)) hx hb dL_areAlike_396 (by decide) ?_
                      refine lv_istore_n (lv' := [(3, .int (0 : Int32)), (7, .int (1 : Int32)), (6, .int x22), (0, .ref j0), (1, .ref j1), (2, .int x20.2.1), (4, .int x20.2.2.2.1), (5, .int x20.2.2.2.2.1)]) hx hb dL_areAlike_397 rfl hl (by decide) rfl (fun ls hl => ?_)
                      refine lv_iinc (v := (x20.2.2.2.2.1 + 1)) (lv' := [(5, .int (x20.2.2.2.2.1 + 1)), (3, .int (0 : Int32)), (7, .int (1 : Int32)), (6, .int x22), (0, .ref j0), (1, .ref j1), (2, .int x20.2.1), (4, .int x20.2.2.2.1)]) hx hb dL_areAlike_398 hl (k := 7) rfl rfl (by decide) rfl (fun ls hl => ?_)
                      refine lv_goto (tgt := 157) hx hb dL_areAlike_401 (by decide) ?_
                      exact ih x103.2 j0 j1 x20.2.1 (0 : Int32) x20.2.2.2.1 (x20.2.2.2.2.1 + 1) _ _ _ hcf hW hS (lv_sub hl [4, 5, 6, 1, 7, 0] rfl)
                    · exact absurd (by decide) q105
                  · replace hcf := (if_pos q104).symm.trans hcf
                    refine lv_aload_n hx hb dL_areAlike_313 rfl (lv_at hl 2 rfl) ?_
                    refine lv_iload hx hb dL_areAlike_314 (lv_at hl 7 rfl) ?_
                    refine lv_iconst (v := (0 : Int32)) hx hb dL_areAlike_316 (by decide) ?_
                    obtain ⟨x106, hx106, hcf⟩ := ob hcf
                    refine iv_L_70 (As := [.int x20.2.2.2.2.1, .int (0 : Int32)]) (rest := []) hx hb hml hown hts hE (ct_X3_conditionOf l D cy z n Y x103.2 G j0 x20.2.2.2.2.1 (0 : Int32) x106 hx106) hW hS q21 rfl rfl hl.1 (Nat.le_of_ble_eq_true rfl) ⟨Nat.le_of_ble_eq_true rfl, Nat.le_of_ble_eq_true rfl⟩ dL_areAlike_317 ⟨Nat.zero_le _, Nat.zero_le _⟩ (fun H locs hW hS => ?_)
                    refine lv_iconst (v := (2 : Int32)) hx hb dL_areAlike_320 (by decide) ?_
                    refine lv_icmp_eq (tgt := 346) hx hb dL_areAlike_321 (by decide) (fun q107 => ?_) (fun q107 => ?_)
                    · replace hcf := (if_pos q107).symm.trans hcf
                      refine lv_iconst (v := (1 : Int32)) hx hb dL_areAlike_346 (by decide) ?_
                      refine lv_goto (tgt := 351) hx hb dL_areAlike_347 (by decide) ?_
                      refine lv_istore_n (lv' := [(3, .int (1 : Int32)), (7, .int (1 : Int32)), (6, .int x22), (0, .ref j0), (1, .ref j1), (2, .int x20.2.1), (4, .int x20.2.2.2.1), (5, .int x20.2.2.2.2.1)]) hx hb dL_areAlike_351 rfl hl (by decide) rfl (fun ls hl => ?_)
                      refine lv_iload_n hx hb dL_areAlike_352 rfl (lv_at hl 0 rfl) ?_
                      refine lv_if_eq (tgt := 396) hx hb dL_areAlike_353 (by decide) (fun q108 => ?_) (fun q108 => ?_)
                      · exact absurd q108 (by decide)
                      · clear q108
                        refine lv_aload_n hx hb dL_areAlike_356 rfl (lv_at hl 3 rfl) ?_
                        refine lv_iload hx hb dL_areAlike_357 (lv_at hl 7 rfl) ?_
                        refine lv_ldc2 hx hb hown (hts _ q480) dL_areAlike_359 ?_
                        obtain ⟨x109, hx109, hcf⟩ := ob hcf
                        refine iv_L_78 (As := [.int x20.2.2.2.2.1, .long (3 : Int64)]) (rest := []) hx hb hml hown hts hE (ct_X3_fine l D cy z n Y x103.2 G j0 x20.2.2.2.2.1 (3 : Int64) x109 hx109) hW hS q21 rfl rfl hl.1 (Nat.le_of_ble_eq_true rfl) ⟨Nat.le_of_ble_eq_true rfl, Nat.le_of_ble_eq_true rfl⟩ dL_areAlike_362 ⟨Nat.zero_le _, Nat.zero_le _⟩ (fun H locs hW hS => ?_)
                        refine lv_ldc2 hx hb hown (hts _ q480) dL_areAlike_365 ?_
                        refine lv_aload_n hx hb dL_areAlike_368 rfl (lv_at hl 3 rfl) ?_
                        refine lv_iload hx hb dL_areAlike_369 (lv_at hl 7 rfl) ?_
                        refine lv_bipush (v := (11 : Int32)) hx hb dL_areAlike_371 (by decide) ?_
                        obtain ⟨x110, hx110, hcf⟩ := ob hcf
                        refine iv_L_70 (As := [.int x20.2.2.2.2.1, .int (11 : Int32)]) (rest := [.long (3 : Int64), .long x109]) hx hb hml hown hts hE (ct_X3_conditionOf l D cy z n Y x103.2 G j0 x20.2.2.2.2.1 (11 : Int32) x110 hx110) hW hS q21 rfl rfl hl.1 (Nat.le_of_ble_eq_true rfl) ⟨Nat.le_of_ble_eq_true rfl, Nat.le_of_ble_eq_true rfl⟩ dL_areAlike_373 ⟨Nat.zero_le _, Nat.zero_le _⟩ (fun H locs hW hS => ?_)
                        refine lv_i2l hx hb dL_areAlike_376 rfl ?_
                        refine lv_lmul hx hb dL_areAlike_377 ?_
                        refine lv_aload_n hx hb dL_areAlike_378 rfl (lv_at hl 3 rfl) ?_
                        refine lv_iload hx hb dL_areAlike_379 (lv_at hl 7 rfl) ?_
                        refine lv_bipush (v := (11 : Int32)) hx hb dL_areAlike_381 (by decide) ?_
                        obtain ⟨x111, hx111, hcf⟩ := ob hcf
                        refine iv_L_70 (As := [.int x20.2.2.2.2.1, .int (11 : Int32)]) (rest := [.long ((3 : Int64) * (x110).toInt64), .long x109]) hx hb hml hown hts hE (ct_X3_conditionOf l D cy z n Y x103.2 G j0 x20.2.2.2.2.1 (11 : Int32) x111 hx111) hW hS q21 rfl rfl hl.1 (Nat.le_of_ble_eq_true rfl) ⟨Nat.le_of_ble_eq_true rfl, Nat.le_of_ble_eq_true rfl⟩ dL_areAlike_383 ⟨Nat.zero_le _, Nat.zero_le _⟩ (fun H locs hW hS => ?_)
                        refine lv_i2l hx hb dL_areAlike_386 rfl ?_
                        refine lv_lmul hx hb dL_areAlike_387 ?_
                        refine W.lcmp hx hb dL_areAlike_388 ?_
                        refine lv_if_ne (tgt := 396) hx hb dL_areAlike_389 (by decide) (fun q112 => ?_) (fun q112 => ?_)
                        · replace hcf := (if_neg q112).symm.trans hcf
                          refine lv_iconst (v := (0 : Int32)) hx hb dL_areAlike_396 (by decide) ?_
                          refine lv_istore_n (lv' := [(3, .int (0 : Int32)), (7, .int (1 : Int32)), (6, .int x22), (0, .ref j0), (1, .ref j1), (2, .int x20.2.1), (4, .int x20.2.2.2.1), (5, .int x20.2.2.2.2.1)]) hx hb dL_areAlike_397 rfl hl (by decide) rfl (fun ls hl => ?_)
                          refine lv_iinc (v := (x20.2.2.2.2.1 + 1)) (lv' := [(5, .int (x20.2.2.2.2.1 + 1)), (3, .int (0 : Int32)), (7, .int (1 : Int32)), (6, .int x22), (0, .ref j0), (1, .ref j1), (2, .int x20.2.1), (4, .int x20.2.2.2.1)]) hx hb dL_areAlike_398 hl (k := 7) rfl rfl (by decide) rfl (fun ls hl => ?_)
                          refine lv_goto (tgt := 157) hx hb dL_areAlike_401 (by decide) ?_
                          exact ih x103.2 j0 j1 x20.2.1 (0 : Int32) x20.2.2.2.1 (x20.2.2.2.2.1 + 1) _ _ _ hcf hW hS (lv_sub hl [4, 5, 6, 1, 7, 0] rfl)
                        · replace hcf := (if_pos q112).symm.trans hcf
                          refine lv_iconst (v := (1 : Int32)) hx hb dL_areAlike_392 (by decide) ?_
                          refine lv_goto (tgt := 397) hx hb dL_areAlike_393 (by decide) ?_
                          refine lv_istore_n (lv' := [(3, .int (1 : Int32)), (7, .int (1 : Int32)), (6, .int x22), (0, .ref j0), (1, .ref j1), (2, .int x20.2.1), (4, .int x20.2.2.2.1), (5, .int x20.2.2.2.2.1)]) hx hb dL_areAlike_397 rfl hl (by decide) rfl (fun ls hl => ?_)
                          refine lv_iinc (v := (x20.2.2.2.2.1 + 1)) (lv' := [(5, .int (x20.2.2.2.2.1 + 1)), (3, .int (1 : Int32)), (7, .int (1 : Int32)), (6, .int x22), (0, .ref j0), (1, .ref j1), (2, .int x20.2.1), (4, .int x20.2.2.2.1)]) hx hb dL_areAlike_398 hl (k := 7) rfl rfl (by decide) rfl (fun ls hl => ?_)
                          refine lv_goto (tgt := 157) hx hb dL_areAlike_401 (by decide) ?_
                          exact ih x103.2 j0 j1 x20.2.1 (1 : Int32) x20.2.2.2.1 (x20.2.2.2.2.1 + 1) _ _ _ hcf hW hS (lv_sub hl [4, 5, 6, 1, 7, 0] rfl)
                    · replace hcf := (if_neg q107).symm.trans hcf
                      refine lv_iload hx hb dL_areAlike_324 (lv_at hl 1 rfl) ?_
                      refine lv_iconst (v := (4 : Int32)) hx hb dL_areAlike_326 (by decide) ?_
                      refine lv_icmp_eq (tgt := 346) hx hb dL_areAlike_327 (by decide) (fun q113 => ?_) (fun q113 => ?_)
                      · replace hcf := (if_pos q113).symm.trans hcf
                        refine lv_iconst (v := (1 : Int32)) hx hb dL_areAlike_346 (by decide) ?_
                        refine lv_goto (tgt := 351) hx hb dL_areAlike_347 (by decide) ?_
                        refine lv_istore_n (lv' := [(3, .int (1 : Int32)), (7, .int (1 : Int32)), (6, .int x22), (0, .ref j0), (1, .ref j1), (2, .int x20.2.1), (4, .int x20.2.2.2.1), (5, .int x20.2.2.2.2.1)]) hx hb dL_areAlike_351 rfl hl (by decide) rfl (fun ls hl => ?_)
                        refine lv_iload_n hx hb dL_areAlike_352 rfl (lv_at hl 0 rfl) ?_
                        refine lv_if_eq (tgt := 396) hx hb dL_areAlike_353 (by decide) (fun q114 => ?_) (fun q114 => ?_)
                        · exact absurd q114 (by decide)
                        · clear q114
                          refine lv_aload_n hx hb dL_areAlike_356 rfl (lv_at hl 3 rfl) ?_
                          refine lv_iload hx hb dL_areAlike_357 (lv_at hl 7 rfl) ?_
                          refine lv_ldc2 hx hb hown (hts _ q480) dL_areAlike_359 ?_
                          obtain ⟨x115, hx115, hcf⟩ := ob hcf
                          refine iv_L_78 (As := [.int x20.2.2.2.2.1, .long (3 : Int64)]) (rest := []) hx hb hml hown hts hE (ct_X3_fine l D cy z n Y x103.2 G j0 x20.2.2.2.2.1 (3 : Int64) x115 hx115) hW hS q21 rfl rfl hl.1 (Nat.le_of_ble_eq_true rfl) ⟨Nat.le_of_ble_eq_true rfl, Nat.le_of_ble_eq_true rfl⟩ dL_areAlike_362 ⟨Nat.zero_le _, Nat.zero_le _⟩ (fun H locs hW hS => ?_)
                          refine lv_ldc2 hx hb hown (hts _ q480) dL_areAlike_365 ?_
                          refine lv_aload_n hx hb dL_areAlike_368 rfl (lv_at hl 3 rfl) ?_
                          refine lv_iload hx hb dL_areAlike_369 (lv_at hl 7 rfl) ?_
                          refine lv_bipush (v := (11 : Int32)) hx hb dL_areAlike_371 (by decide) ?_
                          obtain ⟨x116, hx116, hcf⟩ := ob hcf
                          refine iv_L_70 (As := [.int x20.2.2.2.2.1, .int (11 : Int32)]) (rest := [.long (3 : Int64), .long x115]) hx hb hml hown hts hE (ct_X3_conditionOf l D cy z n Y x103.2 G j0 x20.2.2.2.2.1 (11 : Int32) x116 hx116) hW hS q21 rfl rfl hl.1 (Nat.le_of_ble_eq_true rfl) ⟨Nat.le_of_ble_eq_true rfl, Nat.le_of_ble_eq_true rfl⟩ dL_areAlike_373 ⟨Nat.zero_le _, Nat.zero_le _⟩ (fun H locs hW hS => ?_)
                          refine lv_i2l hx hb dL_areAlike_376 rfl ?_
                          refine lv_lmul hx hb dL_areAlike_377 ?_
                          refine lv_aload_n hx hb dL_areAlike_378 rfl (lv_at hl 3 rfl) ?_
                          refine lv_iload hx hb dL_areAlike_379 (lv_at hl 7 rfl) ?_
                          refine lv_bipush (v := (11 : Int32)) hx hb dL_areAlike_381 (by decide) ?_
                          obtain ⟨x117, hx117, hcf⟩ := ob hcf
                          refine iv_L_70 (As := [.int x20.2.2.2.2.1, .int (11 : Int32)]) (rest := [.long ((3 : Int64) * (x116).toInt64), .long x115]) hx hb hml hown hts hE (ct_X3_conditionOf l D cy z n Y x103.2 G j0 x20.2.2.2.2.1 (11 : Int32) x117 hx117) hW hS q21 rfl rfl hl.1 (Nat.le_of_ble_eq_true rfl) ⟨Nat.le_of_ble_eq_true rfl, Nat.le_of_ble_eq_true rfl⟩ dL_areAlike_383 ⟨Nat.zero_le _, Nat.zero_le _⟩ (fun H locs hW hS => ?_)
                          refine lv_i2l hx hb dL_areAlike_386 rfl ?_
                          refine lv_lmul hx hb dL_areAlike_387 ?_
                          refine W.lcmp hx hb dL_areAlike_388 ?_
                          refine lv_if_ne (tgt := 396) hx hb dL_areAlike_389 (by decide) (fun q118 => ?_) (fun q118 => ?_)
                          · replace hcf := (if_neg q118).symm.trans hcf
                            refine lv_iconst (v := (0 : Int32)) hx hb dL_areAlike_396 (by decide) ?_
                            refine lv_istore_n (lv' := [(3, .int (0 : Int32)), (7, .int (1 : Int32)), (6, .int x22), (0, .ref j0), (1, .ref j1), (2, .int x20.2.1), (4, .int x20.2.2.2.1), (5, .int x20.2.2.2.2.1)]) hx hb dL_areAlike_397 rfl hl (by decide) rfl (fun ls hl => ?_)
                            refine lv_iinc (v := (x20.2.2.2.2.1 + 1)) (lv' := [(5, .int (x20.2.2.2.2.1 + 1)), (3, .int (0 : Int32)), (7, .int (1 : Int32)), (6, .int x22), (0, .ref j0), (1, .ref j1), (2, .int x20.2.1), (4, .int x20.2.2.2.1)]) hx hb dL_areAlike_398 hl (k := 7) rfl rfl (by decide) rfl (fun ls hl => ?_)
                            refine lv_goto (tgt := 157) hx hb dL_areAlike_401 (by decide) ?_
                            exact ih x103.2 j0 j1 x20.2.1 (0 : Int32) x20.2.2.2.1 (x20.2.2.2.2.1 + 1) _ _ _ hcf hW hS (lv_sub hl [4, 5, 6, 1, 7, 0] rfl)
                          · replace hcf := (if_pos q118).symm.trans hcf
                            refine lv_iconst (v := (1 : Int32)) hx hb dL_areAlike_392 (by decide) ?_
                            refine lv_goto (tgt := 397) hx hb dL_areAlike_393 (by decide) ?_
                            refine lv_istore_n (lv' := [(3, .int (1 : Int32)), (7, .int (1 : Int32)), (6, .int x22), (0, .ref j0), (1, .ref j1), (2, .int x20.2.1), (4, .int x20.2.2.2.1), (5, .int x20.2.2.2.2.1)]) hx hb dL_areAlike_397 rfl hl (by decide) rfl (fun ls hl => ?_)
                            refine lv_iinc (v := (x20.2.2.2.2.1 + 1)) (lv' := [(5, .int (x20.2.2.2.2.1 + 1)), (3, .int (1 : Int32)), (7, .int (1 : Int32)), (6, .int x22), (0, .ref j0), (1, .ref j1), (2, .int x20.2.1), (4, .int x20.2.2.2.1)]) hx hb dL_areAlike_398 hl (k := 7) rfl rfl (by decide) rfl (fun ls hl => ?_)
                            refine lv_goto (tgt := 157) hx hb dL_areAlike_401 (by decide) ?_
                            exact ih x103.2 j0 j1 x20.2.1 (1 : Int32) x20.2.2.2.1 (x20.2.2.2.2.1 + 1) _ _ _ hcf hW hS (lv_sub hl [4, 5, 6, 1, 7, 0] rfl)
                      · replace hcf := (if_neg q113).symm.trans hcf
                        refine lv_iload hx hb dL_areAlike_330 (lv_at hl 0 rfl) ?_
                        refine lv_iload hx hb dL_areAlike_332 (lv_at hl 1 rfl) ?_
                        refine lv_iconst (v := (2 : Int32)) hx hb dL_areAlike_334 (by decide) ?_
                        refine lv_icmp_ne (tgt := 342) hx hb dL_areAlike_335 (by decide) (fun q119 => ?_) (fun q119 => ?_)
                        · replace hcf := (if_neg q119).symm.trans hcf
                          refine lv_iconst (v := (0 : Int32)) hx hb dL_areAlike_342 (by decide) ?_
                          refine lv_icmp_ne (tgt := 350) hx hb dL_areAlike_343 (by decide) (fun q120 => ?_) (fun q120 => ?_)
                          · clear q120
                            refine lv_iconst (v := (0 : Int32)) hx hb dL_areAlike_350 (by decide) ?_
                            refine lv_istore_n (lv' := [(3, .int (0 : Int32)), (7, .int (1 : Int32)), (6, .int x22), (0, .ref j0), (1, .ref j1), (2, .int x20.2.1), (4, .int x20.2.2.2.1), (5, .int x20.2.2.2.2.1)]) hx hb dL_areAlike_351 rfl hl (by decide) rfl (fun ls hl => ?_)
                            refine lv_iload_n hx hb dL_areAlike_352 rfl (lv_at hl 0 rfl) ?_
                            refine lv_if_eq (tgt := 396) hx hb dL_areAlike_353 (by decide) (fun q121 => ?_) (fun q121 => ?_)
                            · clear q121
                              refine lv_iconst (v := (0 : Int32)) hx hb dL_areAlike_396 (by decide) ?_
                              refine lv_istore_n (lv' := [(3, .int (0 : Int32)), (7, .int (1 : Int32)), (6, .int x22), (0, .ref j0), (1, .ref j1), (2, .int x20.2.1), (4, .int x20.2.2.2.1), (5, .int x20.2.2.2.2.1)]) hx hb dL_areAlike_397 rfl hl (by decide) rfl (fun ls hl => ?_)
                              refine lv_iinc (v := (x20.2.2.2.2.1 + 1)) (lv' := [(5, .int (x20.2.2.2.2.1 + 1)), (3, .int (0 : Int32)), (7, .int (1 : Int32)), (6, .int x22), (0, .ref j0), (1, .ref j1), (2, .int x20.2.1), (4, .int x20.2.2.2.1)]) hx hb dL_areAlike_398 hl (k := 7) rfl rfl (by decide) rfl (fun ls hl => ?_)
                              refine lv_goto (tgt := 157) hx hb dL_areAlike_401 (by decide) ?_
                              exact ih x103.2 j0 j1 x20.2.1 (0 : Int32) x20.2.2.2.1 (x20.2.2.2.2.1 + 1) _ _ _ hcf hW hS (lv_sub hl [4, 5, 6, 1, 7, 0] rfl)
                            · exact absurd (by decide) q121
                          · exact absurd q120 (by decide)
                        · replace hcf := (if_pos q119).symm.trans hcf
                          refine lv_iconst (v := (1 : Int32)) hx hb dL_areAlike_338 (by decide) ?_
                          refine lv_goto (tgt := 343) hx hb dL_areAlike_339 (by decide) ?_
                          refine lv_icmp_ne (tgt := 350) hx hb dL_areAlike_343 (by decide) (fun q122 => ?_) (fun q122 => ?_)
                          · exact absurd (by decide) q122
                          · clear q122
                            refine lv_iconst (v := (1 : Int32)) hx hb dL_areAlike_346 (by decide) ?_
                            refine lv_goto (tgt := 351) hx hb dL_areAlike_347 (by decide) ?_
                            refine lv_istore_n (lv' := [(3, .int (1 : Int32)), (7, .int (1 : Int32)), (6, .int x22), (0, .ref j0), (1, .ref j1), (2, .int x20.2.1), (4, .int x20.2.2.2.1), (5, .int x20.2.2.2.2.1)]) hx hb dL_areAlike_351 rfl hl (by decide) rfl (fun ls hl => ?_)
                            refine lv_iload_n hx hb dL_areAlike_352 rfl (lv_at hl 0 rfl) ?_
                            refine lv_if_eq (tgt := 396) hx hb dL_areAlike_353 (by decide) (fun q123 => ?_) (fun q123 => ?_)
                            · exact absurd q123 (by decide)
                            · clear q123
                              refine lv_aload_n hx hb dL_areAlike_356 rfl (lv_at hl 3 rfl) ?_
                              refine lv_iload hx hb dL_areAlike_357 (lv_at hl 7 rfl) ?_
                              refine lv_ldc2 hx hb hown (hts _ q480) dL_areAlike_359 ?_
                              obtain ⟨x124, hx124, hcf⟩ := ob hcf
                              refine iv_L_78 (As := [.int x20.2.2.2.2.1, .long (3 : Int64)]) (rest := []) hx hb hml hown hts hE (ct_X3_fine l D cy z n Y x103.2 G j0 x20.2.2.2.2.1 (3 : Int64) x124 hx124) hW hS q21 rfl rfl hl.1 (Nat.le_of_ble_eq_true rfl) ⟨Nat.le_of_ble_eq_true rfl, Nat.le_of_ble_eq_true rfl⟩ dL_areAlike_362 ⟨Nat.zero_le _, Nat.zero_le _⟩ (fun H locs hW hS => ?_)
                              refine lv_ldc2 hx hb hown (hts _ q480) dL_areAlike_365 ?_
                              refine lv_aload_n hx hb dL_areAlike_368 rfl (lv_at hl 3 rfl) ?_
                              refine lv_iload hx hb dL_areAlike_369 (lv_at hl 7 rfl) ?_
                              refine lv_bipush (v := (11 : Int32)) hx hb dL_areAlike_371 (by decide) ?_
                              obtain ⟨x125, hx125, hcf⟩ := ob hcf
                              refine iv_L_70 (As := [.int x20.2.2.2.2.1, .int (11 : Int32)]) (rest := [.long (3 : Int64), .long x124]) hx hb hml hown hts hE (ct_X3_conditionOf l D cy z n Y x103.2 G j0 x20.2.2.2.2.1 (11 : Int32) x125 hx125) hW hS q21 rfl rfl hl.1 (Nat.le_of_ble_eq_true rfl) ⟨Nat.le_of_ble_eq_true rfl, Nat.le_of_ble_eq_true rfl⟩ dL_areAlike_373 ⟨Nat.zero_le _, Nat.zero_le _⟩ (fun H locs hW hS => ?_)
                              refine lv_i2l hx hb dL_areAlike_376 rfl ?_
                              refine lv_lmul hx hb dL_areAlike_377 ?_
                              refine lv_aload_n hx hb dL_areAlike_378 rfl (lv_at hl 3 rfl) ?_
                              refine lv_iload hx hb dL_areAlike_379 (lv_at hl 7 rfl) ?_
                              refine lv_bipush (v := (11 : Int32)) hx hb dL_areAlike_381 (by decide) ?_
                              obtain ⟨x126, hx126, hcf⟩ := ob hcf
                              refine iv_L_70 (As := [.int x20.2.2.2.2.1, .int (11 : Int32)]) (rest := [.long ((3 : Int64) * (x125).toInt64), .long x124]) hx hb hml hown hts hE (ct_X3_conditionOf l D cy z n Y x103.2 G j0 x20.2.2.2.2.1 (11 : Int32) x126 hx126) hW hS q21 rfl rfl hl.1 (Nat.le_of_ble_eq_true rfl) ⟨Nat.le_of_ble_eq_true rfl, Nat.le_of_ble_eq_true rfl⟩ dL_areAlike_383 ⟨Nat.zero_le _, Nat.zero_le _⟩ (fun H locs hW hS => ?_)
                              refine lv_i2l hx hb dL_areAlike_386 rfl ?_
                              refine lv_lmul hx hb dL_areAlike_387 ?_
                              refine W.lcmp hx hb dL_areAlike_388 ?_
                              refine lv_if_ne (tgt := 396) hx hb dL_areAlike_389 (by decide) (fun q127 => ?_) (fun q127 => ?_)
                              · replace hcf := (if_neg q127).symm.trans hcf
                                refine lv_iconst (v := (0 : Int32)) hx hb dL_areAlike_396 (by decide) ?_
                                refine lv_istore_n (lv' := [(3, .int (0 : Int32)), (7, .int (1 : Int32)), (6, .int x22), (0, .ref j0), (1, .ref j1), (2, .int x20.2.1), (4, .int x20.2.2.2.1), (5, .int x20.2.2.2.2.1)]) hx hb dL_areAlike_397 rfl hl (by decide) rfl (fun ls hl => ?_)
                                refine lv_iinc (v := (x20.2.2.2.2.1 + 1)) (lv' := [(5, .int (x20.2.2.2.2.1 + 1)), (3, .int (0 : Int32)), (7, .int (1 : Int32)), (6, .int x22), (0, .ref j0), (1, .ref j1), (2, .int x20.2.1), (4, .int x20.2.2.2.1)]) hx hb dL_areAlike_398 hl (k := 7) rfl rfl (by decide) rfl (fun ls hl => ?_)
                                refine lv_goto (tgt := 157) hx hb dL_areAlike_401 (by decide) ?_
                                exact ih x103.2 j0 j1 x20.2.1 (0 : Int32) x20.2.2.2.1 (x20.2.2.2.2.1 + 1) _ _ _ hcf hW hS (lv_sub hl [4, 5, 6, 1, 7, 0] rfl)
                              · replace hcf := (if_pos q127).symm.trans hcf
                                refine lv_iconst (v := (1 : Int32)) hx hb dL_areAlike_392 (by decide) ?_
                                refine lv_goto (tgt := 397) hx hb dL_areAlike_393 (by decide) ?_
                                refine lv_istore_n (lv' := [(3, .int (1 : Int32)), (7, .int (1 : Int32)), (6, .int x22), (0, .ref j0), (1, .ref j1), (2, .int x20.2.1), (4, .int x20.2.2.2.1), (5, .int x20.2.2.2.2.1)]) hx hb dL_areAlike_397 rfl hl (by decide) rfl (fun ls hl => ?_)
                                refine lv_iinc (v := (x20.2.2.2.2.1 + 1)) (lv' := [(5, .int (x20.2.2.2.2.1 + 1)), (3, .int (1 : Int32)), (7, .int (1 : Int32)), (6, .int x22), (0, .ref j0), (1, .ref j1), (2, .int x20.2.1), (4, .int x20.2.2.2.1)]) hx hb dL_areAlike_398 hl (k := 7) rfl rfl (by decide) rfl (fun ls hl => ?_)
                                refine lv_goto (tgt := 157) hx hb dL_areAlike_401 (by decide) ?_
                                exact ih x103.2 j0 j1 x20.2.1 (1 : Int32) x20.2.2.2.1 (x20.2.2.2.2.1 + 1) _ _ _ hcf hW hS (lv_sub hl [4, 5, 6, 1, 7, 0] rfl)
              · replace hcf := (if_neg q101).symm.trans hcf
                refine lv_iconst (v := (1 : Int32)) hx hb dL_areAlike_294 (by decide) ?_
                refine lv_goto (tgt := 299) hx hb dL_areAlike_295 (by decide) ?_
                refine lv_icmp_ne (tgt := 350) hx hb dL_areAlike_299 (by decide) (fun q128 => ?_) (fun q128 => ?_)
                · clear q128
                  refine lv_iconst (v := (0 : Int32)) hx hb dL_areAlike_350 (by decide) ?_
                  refine lv_istore_n (lv' := [(3, .int (0 : Int32)), (7, .int (1 : Int32)), (6, .int x22), (0, .ref j0), (1, .ref j1), (2, .int x20.2.1), (4, .int x20.2.2.2.1), (5, .int x20.2.2.2.2.1)]) hx hb dL_areAlike_351 rfl hl (by decide) rfl (fun ls hl => ?_)
                  refine lv_iload_n hx hb dL_areAlike_352 rfl (lv_at hl 0 rfl) ?_
                  refine lv_if_eq (tgt := 396) hx hb dL_areAlike_353 (by decide) (fun q129 => ?_) (fun q129 => ?_)
                  · clear q129
                    refine lv_iconst (v := (0 : Int32)) hx hb dL_areAlike_396 (by decide) ?_
                    refine lv_istore_n (lv' := [(3, .int (0 : Int32)), (7, .int (1 : Int32)), (6, .int x22), (0, .ref j0), (1, .ref j1), (2, .int x20.2.1), (4, .int x20.2.2.2.1), (5, .int x20.2.2.2.2.1)]) hx hb dL_areAlike_397 rfl hl (by decide) rfl (fun ls hl => ?_)
                    refine lv_iinc (v := (x20.2.2.2.2.1 + 1)) (lv' := [(5, .int (x20.2.2.2.2.1 + 1)), (3, .int (0 : Int32)), (7, .int (1 : Int32)), (6, .int x22), (0, .ref j0), (1, .ref j1), (2, .int x20.2.1), (4, .int x20.2.2.2.1)]) hx hb dL_areAlike_398 hl (k := 7) rfl rfl (by decide) rfl (fun ls hl => ?_)
                    refine lv_goto (tgt := 157) hx hb dL_areAlike_401 (by decide) ?_
                    exact ih x20.1 j0 j1 x20.2.1 (0 : Int32) x20.2.2.2.1 (x20.2.2.2.2.1 + 1) _ _ _ hcf hW hS (lv_sub hl [4, 5, 6, 1, 7, 0] rfl)
                  · exact absurd (by decide) q129
                · exact absurd q128 (by decide)
            · replace hcf := (if_pos q99).symm.trans hcf
              refine lv_iconst (v := (1 : Int32)) hx hb dL_areAlike_278 (by decide) ?_
              refine lv_goto (tgt := 283) hx hb dL_areAlike_279 (by decide) ?_
              refine lv_aload_n hx hb dL_areAlike_283 rfl (lv_at hl 2 rfl) ?_
              refine lv_iload hx hb dL_areAlike_284 (lv_at hl 7 rfl) ?_
              refine lv_bipush (v := (9 : Int32)) hx hb dL_areAlike_286 (by decide) ?_
              obtain ⟨x130, hx130, hcf⟩ := ob hcf
              refine iv_L_70 (As := [.int x20.2.2.2.2.1, .int (9 : Int32)]) (rest := [.int (1 : Int32)]) hx hb hml hown hts hE (ct_X3_conditionOf l D cy z n Y x20.1 G j0 x20.2.2.2.2.1 (9 : Int32) x130 hx130) hW hS q21 rfl rfl hl.1 (Nat.le_of_ble_eq_true rfl) ⟨Nat.le_of_ble_eq_true rfl, Nat.le_of_ble_eq_true rfl⟩ dL_areAlike_288 ⟨Nat.zero_le _, Nat.zero_le _⟩ (fun H locs hW hS => ?_)
              refine lv_if_lt (tgt := 298) hx hb dL_areAlike_291 (by decide) (fun q131 => ?_) (fun q131 => ?_)
              · replace hcf := (if_pos q131).symm.trans hcf
                refine lv_iconst (v := (0 : Int32)) hx hb dL_areAlike_298 (by decide) ?_
                refine lv_icmp_ne (tgt := 350) hx hb dL_areAlike_299 (by decide) (fun q132 => ?_) (fun q132 => ?_)
                · clear q132
                  refine lv_iconst (v := (0 : Int32)) hx hb dL_areAlike_350 (by decide) ?_
                  refine lv_istore_n (lv' := [(3, .int (0 : Int32)), (7, .int (1 : Int32)), (6, .int x22), (0, .ref j0), (1, .ref j1), (2, .int x20.2.1), (4, .int x20.2.2.2.1), (5, .int x20.2.2.2.2.1)]) hx hb dL_areAlike_351 rfl hl (by decide) rfl (fun ls hl => ?_)
                  refine lv_iload_n hx hb dL_areAlike_352 rfl (lv_at hl 0 rfl) ?_
                  refine lv_if_eq (tgt := 396) hx hb dL_areAlike_353 (by decide) (fun q133 => ?_) (fun q133 => ?_)
                  · clear q133
                    refine lv_iconst (v := (0 : Int32)) hx hb dL_areAlike_396 (by decide) ?_
                    refine lv_istore_n (lv' := [(3, .int (0 : Int32)), (7, .int (1 : Int32)), (6, .int x22), (0, .ref j0), (1, .ref j1), (2, .int x20.2.1), (4, .int x20.2.2.2.1), (5, .int x20.2.2.2.2.1)]) hx hb dL_areAlike_397 rfl hl (by decide) rfl (fun ls hl => ?_)
                    refine lv_iinc (v := (x20.2.2.2.2.1 + 1)) (lv' := [(5, .int (x20.2.2.2.2.1 + 1)), (3, .int (0 : Int32)), (7, .int (1 : Int32)), (6, .int x22), (0, .ref j0), (1, .ref j1), (2, .int x20.2.1), (4, .int x20.2.2.2.1)]) hx hb dL_areAlike_398 hl (k := 7) rfl rfl (by decide) rfl (fun ls hl => ?_)
                    refine lv_goto (tgt := 157) hx hb dL_areAlike_401 (by decide) ?_
                    exact ih x20.1 j0 j1 x20.2.1 (0 : Int32) x20.2.2.2.1 (x20.2.2.2.2.1 + 1) _ _ _ hcf hW hS (lv_sub hl [4, 5, 6, 1, 7, 0] rfl)
                  · exact absurd (by decide) q133
                · exact absurd q132 (by decide)
              · replace hcf := (if_neg q131).symm.trans hcf
                refine lv_iconst (v := (1 : Int32)) hx hb dL_areAlike_294 (by decide) ?_
                refine lv_goto (tgt := 299) hx hb dL_areAlike_295 (by decide) ?_
                refine lv_icmp_ne (tgt := 350) hx hb dL_areAlike_299 (by decide) (fun q134 => ?_) (fun q134 => ?_)
                · exact absurd (by decide) q134
                · clear q134
                  refine lv_aload_n hx hb dL_areAlike_302 rfl (lv_at hl 2 rfl) ?_
                  refine lv_iload hx hb dL_areAlike_303 (lv_at hl 7 rfl) ?_
                  refine lv_iload hx hb dL_areAlike_305 (lv_at hl 1 rfl) ?_
                  obtain ⟨x135, hx135, hcf⟩ := ob hcf
                  refine iv_L_73 (As := [.int x20.2.2.2.2.1, .int x22]) (rest := []) hx hb hml hown hts hE (ct_X3_when l D cy z n Y x20.1 G j0 x20.2.2.2.2.1 x22 x135 hx135) hW hS q21 rfl rfl hl.1 (Nat.le_of_ble_eq_true rfl) ⟨Nat.le_of_ble_eq_true rfl, Nat.le_of_ble_eq_true rfl⟩ dL_areAlike_307 ⟨Nat.zero_le _, Nat.zero_le _⟩ (fun H locs hW hS => ?_)
                  refine lv_if_ne (tgt := 350) hx hb dL_areAlike_310 (by decide) (fun q136 => ?_) (fun q136 => ?_)
                  · replace hcf := (if_neg q136).symm.trans hcf
                    refine lv_iconst (v := (0 : Int32)) hx hb dL_areAlike_350 (by decide) ?_
                    refine lv_istore_n (lv' := [(3, .int (0 : Int32)), (7, .int (1 : Int32)), (6, .int x22), (0, .ref j0), (1, .ref j1), (2, .int x20.2.1), (4, .int x20.2.2.2.1), (5, .int x20.2.2.2.2.1)]) hx hb dL_areAlike_351 rfl hl (by decide) rfl (fun ls hl => ?_)
                    refine lv_iload_n hx hb dL_areAlike_352 rfl (lv_at hl 0 rfl) ?_
                    refine lv_if_eq (tgt := 396) hx hb dL_areAlike_353 (by decide) (fun q137 => ?_) (fun q137 => ?_)
                    · clear q137
                      refine lv_iconst (v := (0 : Int32)) hx hb dL_areAlike_396 (by decide) ?_
                      refine lv_istore_n (lv' := [(3, .int (0 : Int32)), (7, .int (1 : Int32)), (6, .int x22), (0, .ref j0), (1, .ref j1), (2, .int x20.2.1), (4, .int x20.2.2.2.1), (5, .int x20.2.2.2.2.1)]) hx hb dL_areAlike_397 rfl hl (by decide) rfl (fun ls hl => ?_)
                      refine lv_iinc (v := (x20.2.2.2.2.1 + 1)) (lv' := [(5, .int (x20.2.2.2.2.1 + 1)), (3, .int (0 : Int32)), (7, .int (1 : Int32)), (6, .int x22), (0, .ref j0), (1, .ref j1), (2, .int x20.2.1), (4, .int x20.2.2.2.1)]) hx hb dL_areAlike_398 hl (k := 7) rfl rfl (by decide) rfl (fun ls hl => ?_)
                      refine lv_goto (tgt := 157) hx hb dL_areAlike_401 (by decide) ?_
                      exact ih x135.2 j0 j1 x20.2.1 (0 : Int32) x20.2.2.2.1 (x20.2.2.2.2.1 + 1) _ _ _ hcf hW hS (lv_sub hl [4, 5, 6, 1, 7, 0] rfl)
                    · exact absurd (by decide) q137
                  · replace hcf := (if_pos q136).symm.trans hcf
                    refine lv_aload_n hx hb dL_areAlike_313 rfl (lv_at hl 2 rfl) ?_
                    refine lv_iload hx hb dL_areAlike_314 (lv_at hl 7 rfl) ?_
                    refine lv_iconst (v := (0 : Int32)) hx hb dL_areAlike_316 (by decide) ?_
                    obtain ⟨x138, hx138, hcf⟩ := ob hcf
                    refine iv_L_70 (As := [.int x20.2.2.2.2.1, .int (0 : Int32)]) (rest := []) hx hb hml hown hts hE (ct_X3_conditionOf l D cy z n Y x135.2 G j0 x20.2.2.2.2.1 (0 : Int32) x138 hx138) hW hS q21 rfl rfl hl.1 (Nat.le_of_ble_eq_true rfl) ⟨Nat.le_of_ble_eq_true rfl, Nat.le_of_ble_eq_true rfl⟩ dL_areAlike_317 ⟨Nat.zero_le _, Nat.zero_le _⟩ (fun H locs hW hS => ?_)
                    refine lv_iconst (v := (2 : Int32)) hx hb dL_areAlike_320 (by decide) ?_
                    refine lv_icmp_eq (tgt := 346) hx hb dL_areAlike_321 (by decide) (fun q139 => ?_) (fun q139 => ?_)
                    · replace hcf := (if_pos q139).symm.trans hcf
                      refine lv_iconst (v := (1 : Int32)) hx hb dL_areAlike_346 (by decide) ?_
                      refine lv_goto (tgt := 351) hx hb dL_areAlike_347 (by decide) ?_
                      refine lv_istore_n (lv' := [(3, .int (1 : Int32)), (7, .int (1 : Int32)), (6, .int x22), (0, .ref j0), (1, .ref j1), (2, .int x20.2.1), (4, .int x20.2.2.2.1), (5, .int x20.2.2.2.2.1)]) hx hb dL_areAlike_351 rfl hl (by decide) rfl (fun ls hl => ?_)
                      refine lv_iload_n hx hb dL_areAlike_352 rfl (lv_at hl 0 rfl) ?_
                      refine lv_if_eq (tgt := 396) hx hb dL_areAlike_353 (by decide) (fun q140 => ?_) (fun q140 => ?_)
                      · exact absurd q140 (by decide)
                      · clear q140
                        refine lv_aload_n hx hb dL_areAlike_356 rfl (lv_at hl 3 rfl) ?_
                        refine lv_iload hx hb dL_areAlike_357 (lv_at hl 7 rfl) ?_
                        refine lv_ldc2 hx hb hown (hts _ q480) dL_areAlike_359 ?_
                        obtain ⟨x141, hx141, hcf⟩ := ob hcf
                        refine iv_L_78 (As := [.int x20.2.2.2.2.1, .long (3 : Int64)]) (rest := []) hx hb hml hown hts hE (ct_X3_fine l D cy z n Y x135.2 G j0 x20.2.2.2.2.1 (3 : Int64) x141 hx141) hW hS q21 rfl rfl hl.1 (Nat.le_of_ble_eq_true rfl) ⟨Nat.le_of_ble_eq_true rfl, Nat.le_of_ble_eq_true rfl⟩ dL_areAlike_362 ⟨Nat.zero_le _, Nat.zero_le _⟩ (fun H locs hW hS => ?_)
                        refine lv_ldc2 hx hb hown (hts _ q480) dL_areAlike_365 ?_
                        refine lv_aload_n hx hb dL_areAlike_368 rfl (lv_at hl 3 rfl) ?_
                        refine lv_iload hx hb dL_areAlike_369 (lv_at hl 7 rfl) ?_
                        refine lv_bipush (v := (11 : Int32)) hx hb dL_areAlike_371 (by decide) ?_
                        obtain ⟨x142, hx142, hcf⟩ := ob hcf
                        refine iv_L_70 (As := [.int x20.2.2.2.2.1, .int (11 : Int32)]) (rest := [.long (3 : Int64), .long x141]) hx hb hml hown hts hE (ct_X3_conditionOf l D cy z n Y x135.2 G j0 x20.2.2.2.2.1 (11 : Int32) x142 hx142) hW hS q21 rfl rfl hl.1 (Nat.le_of_ble_eq_true rfl) ⟨Nat.le_of_ble_eq_true rfl, Nat.le_of_ble_eq_true rfl⟩ dL_areAlike_373 ⟨Nat.zero_le _, Nat.zero_le _⟩ (fun H locs hW hS => ?_)
                        refine lv_i2l hx hb dL_areAlike_376 rfl ?_
                        refine lv_lmul hx hb dL_areAlike_377 ?_
                        refine lv_aload_n hx hb dL_areAlike_378 rfl (lv_at hl 3 rfl) ?_
                        refine lv_iload hx hb dL_areAlike_379 (lv_at hl 7 rfl) ?_
                        refine lv_bipush (v := (11 : Int32)) hx hb dL_areAlike_381 (by decide) ?_
                        obtain ⟨x143, hx143, hcf⟩ := ob hcf
                        refine iv_L_70 (As := [.int x20.2.2.2.2.1, .int (11 : Int32)]) (rest := [.long ((3 : Int64) * (x142).toInt64), .long x141]) hx hb hml hown hts hE (ct_X3_conditionOf l D cy z n Y x135.2 G j0 x20.2.2.2.2.1 (11 : Int32) x143 hx143) hW hS q21 rfl rfl hl.1 (Nat.le_of_ble_eq_true rfl) ⟨Nat.le_of_ble_eq_true rfl, Nat.le_of_ble_eq_true rfl⟩ dL_areAlike_383 ⟨Nat.zero_le _, Nat.zero_le _⟩ (fun H locs hW hS => ?_)
                        refine lv_i2l hx hb dL_areAlike_386 rfl ?_
                        refine lv_lmul hx hb dL_areAlike_387 ?_
                        refine W.lcmp hx hb dL_areAlike_388 ?_
                        refine lv_if_ne (tgt := 396) hx hb dL_areAlike_389 (by decide) (fun q144 => ?_) (fun q144 => ?_)
                        · replace hcf := (if_neg q144).symm.trans hcf
                          refine lv_iconst (v := (0 : Int32)) hx hb dL_areAlike_396 (by decide) ?_
                          refine lv_istore_n (lv' := [(3, .int (0 : Int32)), (7, .int (1 : Int32)), (6, .int x22), (0, .ref j0), (1, .ref j1), (2, .int x20.2.1), (4, .int x20.2.2.2.1), (5, .int x20.2.2.2.2.1)]) hx hb dL_areAlike_397 rfl hl (by decide) rfl (fun ls hl => ?_)
                          refine lv_iinc (v := (x20.2.2.2.2.1 + 1)) (lv' := [(5, .int (x20.2.2.2.2.1 + 1)), (3, .int (0 : Int32)), (7, .int (1 : Int32)), (6, .int x22), (0, .ref j0), (1, .ref j1), (2, .int x20.2.1), (4, .int x20.2.2.2.1)]) hx hb dL_areAlike_398 hl (k := 7) rfl rfl (by decide) rfl (fun ls hl => ?_)
                          refine lv_goto (tgt := 157) hx hb dL_areAlike_401 (by decide) ?_
                          exact ih x135.2 j0 j1 x20.2.1 (0 : Int32) x20.2.2.2.1 (x20.2.2.2.2.1 + 1) _ _ _ hcf hW hS (lv_sub hl [4, 5, 6, 1, 7, 0] rfl)
                        · replace hcf := (if_pos q144).symm.trans hcf
                          refine lv_iconst (v := (1 : Int32)) hx hb dL_areAlike_392 (by decide) ?_
                          refine lv_goto (tgt := 397) hx hb dL_areAlike_393 (by decide) ?_
                          refine lv_istore_n (lv' := [(3, .int (1 : Int32)), (7, .int (1 : Int32)), (6, .int x22), (0, .ref j0), (1, .ref j1), (2, .int x20.2.1), (4, .int x20.2.2.2.1), (5, .int x20.2.2.2.2.1)]) hx hb dL_areAlike_397 rfl hl (by decide) rfl (fun ls hl => ?_)
                          refine lv_iinc (v := (x20.2.2.2.2.1 + 1)) (lv' := [(5, .int (x20.2.2.2.2.1 + 1)), (3, .int (1 : Int32)), (7, .int (1 : Int32)), (6, .int x22), (0, .ref j0), (1, .ref j1), (2, .int x20.2.1), (4, .int x20.2.2.2.1)]) hx hb dL_areAlike_398 hl (k := 7) rfl rfl (by decide) rfl (fun ls hl => ?_)
                          refine lv_goto (tgt := 157) hx hb dL_areAlike_401 (by decide) ?_
                          exact ih x135.2 j0 j1 x20.2.1 (1 : Int32) x20.2.2.2.1 (x20.2.2.2.2.1 + 1) _ _ _ hcf hW hS (lv_sub hl [4, 5, 6, 1, 7, 0] rfl)
                    · replace hcf := (if_neg q139).symm.trans hcf
                      refine lv_iload hx hb dL_areAlike_324 (lv_at hl 1 rfl) ?_
                      refine lv_iconst (v := (4 : Int32)) hx hb dL_areAlike_326 (by decide) ?_
                      refine lv_icmp_eq (tgt := 346) hx hb dL_areAlike_327 (by decide) (fun q145 => ?_) (fun q145 => ?_)
                      · replace hcf := (if_pos q145).symm.trans hcf
                        refine lv_iconst (v := (1 : Int32)) hx hb dL_areAlike_346 (by decide) ?_
                        refine lv_goto (tgt := 351) hx hb dL_areAlike_347 (by decide) ?_
                        refine lv_istore_n (lv' := [(3, .int (1 : Int32)), (7, .int (1 : Int32)), (6, .int x22), (0, .ref j0), (1, .ref j1), (2, .int x20.2.1), (4, .int x20.2.2.2.1), (5, .int x20.2.2.2.2.1)]) hx hb dL_areAlike_351 rfl hl (by decide) rfl (fun ls hl => ?_)
                        refine lv_iload_n hx hb dL_areAlike_352 rfl (lv_at hl 0 rfl) ?_
                        refine lv_if_eq (tgt := 396) hx hb dL_areAlike_353 (by decide) (fun q146 => ?_) (fun q146 => ?_)
                        · exact absurd q146 (by decide)
                        · clear q146
                          refine lv_aload_n hx hb dL_areAlike_356 rfl (lv_at hl 3 rfl) ?_
                          refine lv_iload hx hb dL_areAlike_357 (lv_at hl 7 rfl) ?_
                          refine lv_ldc2 hx hb hown (hts _ q480) dL_areAlike_359 ?_
                          obtain ⟨x147, hx147, hcf⟩ := ob hcf
                          refine iv_L_78 (As := [.int x20.2.2.2.2.1, .long (3 : Int64)]) (rest := []) hx hb hml hown hts hE (ct_X3_fine l D cy z n Y x135.2 G j0 x20.2.2.2.2.1 (3 : Int64) x147 hx147) hW hS q21 rfl rfl hl.1 (Nat.le_of_ble_eq_true rfl) ⟨Nat.le_of_ble_eq_true rfl, Nat.le_of_ble_eq_true rfl⟩ dL_areAlike_362 ⟨Nat.zero_le _, Nat.zero_le _⟩ (fun H locs hW hS => ?_)
                          refine lv_ldc2 hx hb hown (hts _ q480) dL_areAlike_365 ?_
                          refine lv_aload_n hx hb dL_areAlike_368 rfl (lv_at hl 3 rfl) ?_
                          refine lv_iload hx hb dL_areAlike_369 (lv_at hl 7 rfl) ?_
                          refine lv_bipush (v := (11 : Int32)) hx hb dL_areAlike_371 (by decide) ?_
                          obtain ⟨x148, hx148, hcf⟩ := ob hcf
                          refine iv_L_70 (As := [.int x20.2.2.2.2.1, .int (11 : Int32)]) (rest := [.long (3 : Int64), .long x147]) hx hb hml hown hts hE (ct_X3_conditionOf l D cy z n Y x135.2 G j0 x20.2.2.2.2.1 (11 : Int32) x148 hx148) hW hS q21 rfl rfl hl.1 (Nat.le_of_ble_eq_true rfl) ⟨Nat.le_of_ble_eq_true rfl, Nat.le_of_ble_eq_true rfl⟩ dL_areAlike_373 ⟨Nat.zero_le _, Nat.zero_le _⟩ (fun H locs hW hS => ?_)
                          refine lv_i2l hx hb dL_areAlike_376 rfl ?_
                          refine lv_lmul hx hb dL_areAlike_377 ?_
                          refine lv_aload_n hx hb dL_areAlike_378 rfl (lv_at hl 3 rfl) ?_
                          refine lv_iload hx hb dL_areAlike_379 (lv_at hl 7 rfl) ?_
                          refine lv_bipush (v := (11 : Int32)) hx hb dL_areAlike_381 (by decide) ?_
                          obtain ⟨x149, hx149, hcf⟩ := ob hcf
                          refine iv_L_70 (As := [.int x20.2.2.2.2.1, .int (11 : Int32)]) (rest := [.long ((3 : Int64) * (x148).toInt64), .long x147]) hx hb hml hown hts hE (ct_X3_conditionOf l D cy z n Y x135.2 G j0 x20.2.2.2.2.1 (11 : Int32) x149 hx149) hW hS q21 rfl rfl hl.1 (Nat.le_of_ble_eq_true rfl) ⟨Nat.le_of_ble_eq_true rfl, Nat.le_of_ble_eq_true rfl⟩ dL_areAlike_383 ⟨Nat.zero_le _, Nat.zero_le _⟩ (fun H locs hW hS => ?_)
                          refine lv_i2l hx hb dL_areAlike_386 rfl ?_
                          refine lv_lmul hx hb dL_areAlike_387 ?_
                          refine W.lcmp hx hb dL_areAlike_388 ?_
                          refine lv_if_ne (tgt := 396) hx hb dL_areAlike_389 (by decide) (fun q150 => ?_) (fun q150 => ?_)
                          · replace hcf := (if_neg q150).symm.trans hcf
                            refine lv_iconst (v := (0 : Int32)) hx hb dL_areAlike_396 (by decide) ?_
                            refine lv_istore_n (lv' := [(3, .int (0 : Int32)), (7, .int (1 : Int32)), (6, .int x22), (0, .ref j0), (1, .ref j1), (2, .int x20.2.1), (4, .int x20.2.2.2.1), (5, .int x20.2.2.2.2.1)]) hx hb dL_areAlike_397 rfl hl (by decide) rfl (fun ls hl => ?_)
                            refine lv_iinc (v := (x20.2.2.2.2.1 + 1)) (lv' := [(5, .int (x20.2.2.2.2.1 + 1)), (3, .int (0 : Int32)), (7, .int (1 : Int32)), (6, .int x22), (0, .ref j0), (1, .ref j1), (2, .int x20.2.1), (4, .int x20.2.2.2.1)]) hx hb dL_areAlike_398 hl (k := 7) rfl rfl (by decide) rfl (fun ls hl => ?_)
                            refine lv_goto (tgt := 157) hx hb dL_areAlike_401 (by decide) ?_
                            exact ih x135.2 j0 j1 x20.2.1 (0 : Int32) x20.2.2.2.1 (x20.2.2.2.2.1 + 1) _ _ _ hcf hW hS (lv_sub hl [4, 5, 6, 1, 7, 0] rfl)
                          · replace hcf := (if_pos q150).symm.trans hcf
                            refine lv_iconst (v := (1 : Int32)) hx hb dL_areAlike_392 (by decide) ?_
                            refine lv_goto (tgt := 397) hx hb dL_areAlike_393 (by decide) ?_
                            refine lv_istore_n (lv' := [(3, .int (1 : Int32)), (7, .int (1 : Int32)), (6, .int x22), (0, .ref j0), (1, .ref j1), (2, .int x20.2.1), (4, .int x20.2.2.2.1), (5, .int x20.2.2.2.2.1)]) hx hb dL_areAlike_397 rfl hl (by decide) rfl (fun ls hl => ?_)
                            refine lv_iinc (v := (x20.2.2.2.2.1 + 1)) (lv' := [(5, .int (x20.2.2.2.2.1 + 1)), (3, .int (1 : Int32)), (7, .int (1 : Int32)), (6, .int x22), (0, .ref j0), (1, .ref j1), (2, .int x20.2.1), (4, .int x20.2.2.2.1)]) hx hb dL_areAlike_398 hl (k := 7) rfl rfl (by decide) rfl (fun ls hl => ?_)
                            refine lv_goto (tgt := 157) hx hb dL_areAlike_401 (by decide) ?_
                            exact ih x135.2 j0 j1 x20.2.1 (1 : Int32) x20.2.2.2.1 (x20.2.2.2.2.1 + 1) _ _ _ hcf hW hS (lv_sub hl [4, 5, 6, 1, 7, 0] rfl)
                      · replace hcf := (if_neg q145).symm.trans hcf
                        refine lv_iload hx hb dL_areAlike_330 (lv_at hl 0 rfl) ?_
                        refine lv_iload hx hb dL_areAlike_332 (lv_at hl 1 rfl) ?_
                        refine lv_iconst (v := (2 : Int32)) hx hb dL_areAlike_334 (by decide) ?_
                        refine lv_icmp_ne (tgt := 342) hx hb dL_areAlike_335 (by decide) (fun q151 => ?_) (fun q151 => ?_)
                        · replace hcf := (if_neg q151).symm.trans hcf
                          refine lv_iconst (v := (0 : Int32)) hx hb dL_areAlike_342 (by decide) ?_
                          refine lv_icmp_ne (tgt := 350) hx hb dL_areAlike_343 (by decide) (fun q152 => ?_) (fun q152 => ?_)
                          · clear q152
                            refine lv_iconst (v := (0 : Int32)) hx hb dL_areAlike_350 (by decide) ?_
                            refine lv_istore_n (lv' := [(3, .int (0 : Int32)), (7, .int (1 : Int32)), (6, .int x22), (0, .ref j0), (1, .ref j1), (2, .int x20.2.1), (4, .int x20.2.2.2.1), (5, .int x20.2.2.2.2.1)]) hx hb dL_areAlike_351 rfl hl (by decide) rfl (fun ls hl => ?_)
                            refine lv_iload_n hx hb dL_areAlike_352 rfl (lv_at hl 0 rfl) ?_
                            refine lv_if_eq (tgt := 396) hx hb dL_areAlike_353 (by decide) (fun q153 => ?_) (fun q153 => ?_)
                            · clear q153
                              refine lv_iconst (v := (0 : Int32)) hx hb dL_areAlike_396 (by decide) ?_
                              refine lv_istore_n (lv' := [(3, .int (0 : Int32)), (7, .int (1 : Int32)), (6, .int x22), (0, .ref j0), (1, .ref j1), (2, .int x20.2.1), (4, .int x20.2.2.2.1), (5, .int x20.2.2.2.2.1)]) hx hb dL_areAlike_397 rfl hl (by decide) rfl (fun ls hl => ?_)
                              refine lv_iinc (v := (x20.2.2.2.2.1 + 1)) (lv' := [(5, .int (x20.2.2.2.2.1 + 1)), (3, .int (0 : Int32)), (7, .int (1 : Int32)), (6, .int x22), (0, .ref j0), (1, .ref j1), (2, .int x20.2.1), (4, .int x20.2.2.2.1)]) hx hb dL_areAlike_398 hl (k := 7) rfl rfl (by decide) rfl (fun ls hl => ?_)
                              refine lv_goto (tgt := 157) hx hb dL_areAlike_401 (by decide) ?_
                              exact ih x135.2 j0 j1 x20.2.1 (0 : Int32) x20.2.2.2.1 (x20.2.2.2.2.1 + 1) _ _ _ hcf hW hS (lv_sub hl [4, 5, 6, 1, 7, 0] rfl)
                            · exact absurd (by decide) q153
                          · exact absurd q152 (by decide)
                        · replace hcf := (if_pos q151).symm.trans hcf
                          refine lv_iconst (v := (1 : Int32)) hx hb dL_areAlike_338 (by decide) ?_
                          refine lv_goto (tgt := 343) hx hb dL_areAlike_339 (by decide) ?_
                          refine lv_icmp_ne (tgt := 350) hx hb dL_areAlike_343 (by decide) (fun q154 => ?_) (fun q154 => ?_)
                          · exact absurd (by decide) q154
                          · clear q154
                            refine lv_iconst (v := (1 : Int32)) hx hb dL_areAlike_346 (by decide) ?_
                            refine lv_goto (tgt := 351) hx hb dL_areAlike_347 (by decide) ?_
                            refine lv_istore_n (lv' := [(3, .int (1 : Int32)), (7, .int (1 : Int32)), (6, .int x22), (0, .ref j0), (1, .ref j1), (2, .int x20.2.1), (4, .int x20.2.2.2.1), (5, .int x20.2.2.2.2.1)]) hx hb dL_areAlike_351 rfl hl (by decide) rfl (fun ls hl => ?_)
                            refine lv_iload_n hx hb dL_areAlike_352 rfl (lv_at hl 0 rfl) ?_
                            refine lv_if_eq (tgt := 396) hx hb dL_areAlike_353 (by decide) (fun q155 => ?_) (fun q155 => ?_)
                            · exact absurd q155 (by decide)
                            · clear q155
                              refine lv_aload_n hx hb dL_areAlike_356 rfl (lv_at hl 3 rfl) ?_
                              refine lv_iload hx hb dL_areAlike_357 (lv_at hl 7 rfl) ?_
                              refine lv_ldc2 hx hb hown (hts _ q480) dL_areAlike_359 ?_
                              obtain ⟨x156, hx156, hcf⟩ := ob hcf
                              refine iv_L_78 (As := [.int x20.2.2.2.2.1, .long (3 : Int64)]) (rest := []) hx hb hml hown hts hE (ct_X3_fine l D cy z n Y x135.2 G j0 x20.2.2.2.2.1 (3 : Int64) x156 hx156) hW hS q21 rfl rfl hl.1 (Nat.le_of_ble_eq_true rfl) ⟨Nat.le_of_ble_eq_true rfl, Nat.le_of_ble_eq_true rfl⟩ dL_areAlike_362 ⟨Nat.zero_le _, Nat.zero_le _⟩ (fun H locs hW hS => ?_)
                              refine lv_ldc2 hx hb hown (hts _ q480) dL_areAlike_365 ?_
                              refine lv_aload_n hx hb dL_areAlike_368 rfl (lv_at hl 3 rfl) ?_
                              refine lv_iload hx hb dL_areAlike_369 (lv_at hl 7 rfl) ?_
                              refine lv_bipush (v := (11 : Int32)) hx hb dL_areAlike_371 (by decide) ?_
                              obtain ⟨x157, hx157, hcf⟩ := ob hcf
                              refine iv_L_70 (As := [.int x20.2.2.2.2.1, .int (11 : Int32)]) (rest := [.long (3 : Int64), .long x156]) hx hb hml hown hts hE (ct_X3_conditionOf l D cy z n Y x135.2 G j0 x20.2.2.2.2.1 (11 : Int32) x157 hx157) hW hS q21 rfl rfl hl.1 (Nat.le_of_ble_eq_true rfl) ⟨Nat.le_of_ble_eq_true rfl, Nat.le_of_ble_eq_true rfl⟩ dL_areAlike_373 ⟨Nat.zero_le _, Nat.zero_le _⟩ (fun H locs hW hS => ?_)
                              refine lv_i2l hx hb dL_areAlike_376 rfl ?_
                              refine lv_lmul hx hb dL_areAlike_377 ?_
                              refine lv_aload_n hx hb dL_areAlike_378 rfl (lv_at hl 3 rfl) ?_
                              refine lv_iload hx hb dL_areAlike_379 (lv_at hl 7 rfl) ?_
                              refine lv_bipush (v := (11 : Int32)) hx hb dL_areAlike_381 (by decide) ?_
                              obtain ⟨x158, hx158, hcf⟩ := ob hcf
                              refine iv_L_70 (As := [.int x20.2.2.2.2.1, .int (11 : Int32)]) (rest := [.long ((3 : Int64) * (x157).toInt64), .long x156]) hx hb hml hown hts hE (ct_X3_conditionOf l D cy z n Y x135.2 G j0 x20.2.2.2.2.1 (11 : Int32) x158 hx158) hW hS q21 rfl rfl hl.1 (Nat.le_of_ble_eq_true rfl) ⟨Nat.le_of_ble_eq_true rfl, Nat.le_of_ble_eq_true rfl⟩ dL_areAlike_383 ⟨Nat.zero_le _, Nat.zero_le _⟩ (fun H locs hW hS => ?_)
                              refine lv_i2l hx hb dL_areAlike_386 rfl ?_
                              refine lv_lmul hx hb dL_areAlike_387 ?_
                              refine W.lcmp hx hb dL_areAlike_388 ?_
                              refine lv_if_ne (tgt := 396) hx hb dL_areAlike_389 (by decide) (fun q159 => ?_) (fun q159 => ?_)
                              · replace hcf := (if_neg q159).symm.trans hcf
                                refine lv_iconst (v := (0 : Int32)) hx hb dL_areAlike_396 (by decide) ?_
                                refine lv_istore_n (lv' := [(3, .int (0 : Int32)), (7, .int (1 : Int32)), (6, .int x22), (0, .ref j0), (1, .ref j1), (2, .int x20.2.1), (4, .int x20.2.2.2.1), (5, .int x20.2.2.2.2.1)]) hx hb dL_areAlike_397 rfl hl (by decide) rfl (fun ls hl => ?_)
                                refine lv_iinc (v := (x20.2.2.2.2.1 + 1)) (lv' := [(5, .int (x20.2.2.2.2.1 + 1)), (3, .int (0 : Int32)), (7, .int (1 : Int32)), (6, .int x22), (0, .ref j0), (1, .ref j1), (2, .int x20.2.1), (4, .int x20.2.2.2.1)]) hx hb dL_areAlike_398 hl (k := 7) rfl rfl (by decide) rfl (fun ls hl => ?_)
                                refine lv_goto (tgt := 157) hx hb dL_areAlike_401 (by decide) ?_
                                exact ih x135.2 j0 j1 x20.2.1 (0 : Int32) x20.2.2.2.1 (x20.2.2.2.2.1 + 1) _ _ _ hcf hW hS (lv_sub hl [4, 5, 6, 1, 7, 0] rfl)
                              · replace hcf := (if_pos q159).symm.trans hcf
                                refine lv_iconst (v := (1 : Int32)) hx hb dL_areAlike_392 (by decide) ?_
                                refine lv_goto (tgt := 397) hx hb dL_areAlike_393 (by decide) ?_
                                refine lv_istore_n (lv' := [(3, .int (1 : Int32)), (7, .int (1 : Int32)), (6, .int x22), (0, .ref j0), (1, .ref j1), (2, .int x20.2.1), (4, .int x20.2.2.2.1), (5, .int x20.2.2.2.2.1)]) hx hb dL_areAlike_397 rfl hl (by decide) rfl (fun ls hl => ?_)
                                refine lv_iinc (v := (x20.2.2.2.2.1 + 1)) (lv' := [(5, .int (x20.2.2.2.2.1 + 1)), (3, .int (1 : Int32)), (7, .int (1 : Int32)), (6, .int x22), (0, .ref j0), (1, .ref j1), (2, .int x20.2.1), (4, .int x20.2.2.2.1)]) hx hb dL_areAlike_398 hl (k := 7) rfl rfl (by decide) rfl (fun ls hl => ?_)
                                refine lv_goto (tgt := 157) hx hb dL_areAlike_401 (by decide) ?_
                                exact ih x135.2 j0 j1 x20.2.1 (1 : Int32) x20.2.2.2.1 (x20.2.2.2.2.1 + 1) _ _ _ hcf hW hS (lv_sub hl [4, 5, 6, 1, 7, 0] rfl)
set_option maxHeartbeats 4000000 in
set_option maxRecDepth 100000 in
theorem wl_L_areAlike_70 {p : Program} {l : Launch} {e : Env} {s : State} {m : MethodId} {args : Array Value} {below : List Frame} {meth : Method} {c : Code} {D : va_G} {cy : Nat → ClassId} {z : Nat} {n : Nat} {Y : mY} {G : mG} (hx : p.tables.exec = Jvm.exec) (hb : c.code = cL_areAlike) (hr : meth.sig.returnType = (some .boolean)) (hml : c.maxLocals = 8) (hown : s.vm.findClass RL = some m.cls) (hts : ∀ w ∈ lw_all, w.before args s = true) (hlocks : meth.locks = false) (hE : En D cy s) (x : Int32 × mV) : ∀ (k : Nat) (V : mV) (j0 : Nat) (j1 : Nat) (j2 : Int32) (j3 : Int32) (j4 : Int32) (j5 : Int32) (H : Heap) (locs : List Loc) (ls : Array Slot), lp_L_areAlike_70 Y G k V j0 j1 j2 j3 j4 j5 = some x → Wd Y cy D z n V G H → va_S (zA z) s.heap H locs → lv_has ls 8 [(0, .ref j0), (1, .ref j1), (2, .int j2), (3, .int j3), (4, .int j4), (5, .int j5)] → W p l e (rmd 6) s m args below meth c H locs 0 0 (MQ below (QC D cy z Y n x.2 G (some (.int x.1))) args s 0 0 (zA z)) (F0 m 70 ls []) := by
  intro k
  induction k with
  | zero =>
    intro V j0 j1 j2 j3 j4 j5 H locs ls hcf
    have hcf : none = some _ := hcf
    cases hcf
  | succ k ih =>
    intro V j0 j1 j2 j3 j4 j5 H locs ls hcf hW hS hl
    rw [lp_L_areAlike_70] at hcf
    refine lv_iload hx hb dL_areAlike_70 (lv_at hl 5 rfl) ?_
    refine lv_iconst (v := (5 : Int32)) hx hb dL_areAlike_72 (by decide) ?_
    refine lv_icmp_ge (tgt := 134) hx hb dL_areAlike_73 (by decide) (fun q8 => ?_) (fun q8 => ?_)
    · replace hcf := (if_pos q8).symm.trans hcf
      refine lv_iload_n hx hb dL_areAlike_134 rfl (lv_at hl 3 rfl) ?_
      refine lv_if_eq (tgt := 152) hx hb dL_areAlike_135 (by decide) (fun q9 => ?_) (fun q9 => ?_)
      · replace hcf := (if_pos q9).symm.trans hcf
        refine lv_iconst (v := (0 : Int32)) hx hb dL_areAlike_152 (by decide) ?_
        refine lv_istore_n (lv' := [(3, .int (0 : Int32)), (0, .ref j0), (1, .ref j1), (2, .int j2), (4, .int j4), (5, .int j5)]) hx hb dL_areAlike_153 rfl hl (by decide) rfl (fun ls hl => ?_)
        refine lv_iconst (v := (0 : Int32)) hx hb dL_areAlike_154 (by decide) ?_
        refine lv_istore (lv' := [(5, .int (0 : Int32)), (3, .int (0 : Int32)), (0, .ref j0), (1, .ref j1), (2, .int j2), (4, .int j4)]) hx hb dL_areAlike_155 hl (by decide) rfl (fun ls hl => ?_)
        exact wl_L_areAlike_157 hx hb hr hml hown hts hlocks hE x fuB V j0 j1 j2 (0 : Int32) j4 (0 : Int32) _ _ _ hcf hW hS (lv_sub hl [2, 3, 4, 1, 5, 0] rfl)
      · replace hcf := (if_neg q9).symm.trans hcf
        refine lv_iload hx hb dL_areAlike_138 (lv_at hl 4 rfl) ?_
        refine lv_iconst (v := (1 : Int32)) hx hb dL_areAlike_140 (by decide) ?_
        refine lv_iload_n hx hb dL_areAlike_141 rfl (lv_at hl 2 rfl) ?_
        refine lv_ishl hx hb dL_areAlike_142 ?_
        refine lv_iconst (v := (1 : Int32)) hx hb dL_areAlike_143 (by decide) ?_
        refine lv_isub hx hb dL_areAlike_144 ?_
        refine lv_icmp_ne (tgt := 152) hx hb dL_areAlike_145 (by decide) (fun q160 => ?_) (fun q160 => ?_)
        · replace hcf := (if_neg q160).symm.trans hcf
          refine lv_iconst (v := (0 : Int32)) hx hb dL_areAlike_152 (by decide) ?_
          refine lv_istore_n (lv' := [(3, .int (0 : Int32)), (0, .ref j0), (1, .ref j1), (2, .int j2), (4, .int j4), (5, .int j5)]) hx hb dL_areAlike_153 rfl hl (by decide) rfl (fun ls hl => ?_)
          refine lv_iconst (v := (0 : Int32)) hx hb dL_areAlike_154 (by decide) ?_
          refine lv_istore (lv' := [(5, .int (0 : Int32)), (3, .int (0 : Int32)), (0, .ref j0), (1, .ref j1), (2, .int j2), (4, .int j4)]) hx hb dL_areAlike_155 hl (by decide) rfl (fun ls hl => ?_)
          exact wl_L_areAlike_157 hx hb hr hml hown hts hlocks hE x fuB V j0 j1 j2 (0 : Int32) j4 (0 : Int32) _ _ _ hcf hW hS (lv_sub hl [2, 3, 4, 1, 5, 0] rfl)
        · replace hcf := (if_pos q160).symm.trans hcf
          refine lv_iconst (v := (1 : Int32)) hx hb dL_areAlike_148 (by decide) ?_
          refine lv_goto (tgt := 153) hx hb dL_areAlike_149 (by decide) ?_
          refine lv_istore_n (lv' := [(3, .int (1 : Int32)), (0, .ref j0), (1, .ref j1), (2, .int j2), (4, .int j4), (5, .int j5)]) hx hb dL_areAlike_153 rfl hl (by decide) rfl (fun ls hl => ?_)
          refine lv_iconst (v := (0 : Int32)) hx hb dL_areAlike_154 (by decide) ?_
          refine lv_istore (lv' := [(5, .int (0 : Int32)), (3, .int (1 : Int32)), (0, .ref j0), (1, .ref j1), (2, .int j2), (4, .int j4)]) hx hb dL_areAlike_155 hl (by decide) rfl (fun ls hl => ?_)
          exact wl_L_areAlike_157 hx hb hr hml hown hts hlocks hE x fuB V j0 j1 j2 (1 : Int32) j4 (0 : Int32) _ _ _ hcf hW hS (lv_sub hl [2, 3, 4, 1, 5, 0] rfl)
    · replace hcf := (if_neg q8).symm.trans hcf
      refine lv_iload_n hx hb dL_areAlike_76 rfl (lv_at hl 3 rfl) ?_
      refine lv_if_eq (tgt := 115) hx hb dL_areAlike_77 (by decide) (fun q161 => ?_) (fun q161 => ?_)
      · replace hcf := (if_pos q161).symm.trans hcf
        refine lv_iconst (v := (0 : Int32)) hx hb dL_areAlike_115 (by decide) ?_
        refine lv_istore_n (lv' := [(3, .int (0 : Int32)), (0, .ref j0), (1, .ref j1), (2, .int j2), (4, .int j4), (5, .int j5)]) hx hb dL_areAlike_116 rfl hl (by decide) rfl (fun ls hl => ?_)
        refine lv_iload hx hb dL_areAlike_117 (lv_at hl 4 rfl) ?_
        refine lv_aload_n hx hb dL_areAlike_119 rfl (lv_at hl 1 rfl) ?_
        refine lv_iload hx hb dL_areAlike_120 (lv_at hl 5 rfl) ?_
        obtain ⟨q162, hcf⟩ := og hcf
        obtain ⟨x163, hx163, hcf⟩ := ob hcf
        refine iv_L_67 (As := [.int j5]) (rest := [.int j4]) hx hb hml hown hts hE (ct_X3_which l D cy z n Y V G j0 j5 x163 hx163) hW hS q162 rfl rfl hl.1 (Nat.le_of_ble_eq_true rfl) ⟨Nat.le_of_ble_eq_true rfl, Nat.le_of_ble_eq_true rfl⟩ dL_areAlike_122 ⟨Nat.zero_le _, Nat.zero_le _⟩ (fun H locs hW hS => ?_)
        refine lv_ior hx hb dL_areAlike_125 ?_
        refine lv_istore (lv' := [(4, .int (j4 ||| x163)), (3, .int (0 : Int32)), (0, .ref j0), (1, .ref j1), (2, .int j2), (5, .int j5)]) hx hb dL_areAlike_126 hl (by decide) rfl (fun ls hl => ?_)
        refine lv_iinc (v := (j5 + 1)) (lv' := [(5, .int (j5 + 1)), (4, .int (j4 ||| x163)), (3, .int (0 : Int32)), (0, .ref j0), (1, .ref j1), (2, .int j2)]) hx hb dL_areAlike_128 hl (k := 5) rfl rfl (by decide) rfl (fun ls hl => ?_)
        refine lv_goto (tgt := 70) hx hb dL_areAlike_131 (by decide) ?_
        exact ih V j0 j1 j2 (0 : Int32) (j4 ||| x163) (j5 + 1) _ _ _ hcf hW hS (lv_sub hl [3, 4, 5, 2, 1, 0] rfl)
      · replace hcf := (if_neg q161).symm.trans hcf
        refine lv_aload_n hx hb dL_areAlike_80 rfl (lv_at hl 0 rfl) ?_
        refine lv_iload hx hb dL_areAlike_81 (lv_at hl 5 rfl) ?_
        obtain ⟨q164, hcf⟩ := og hcf
        obtain ⟨x165, hx165, hcf⟩ := ob hcf
        refine iv_L_67 (As := [.int j5]) (rest := []) hx hb hml hown hts hE (ct_X3_which l D cy z n Y V G j0 j5 x165 hx165) hW hS q164 rfl rfl hl.1 (Nat.le_of_ble_eq_true rfl) ⟨Nat.le_of_ble_eq_true rfl, Nat.le_of_ble_eq_true rfl⟩ dL_areAlike_83 ⟨Nat.zero_le _, Nat.zero_le _⟩ (fun H locs hW hS => ?_)
        refine lv_aload_n hx hb dL_areAlike_86 rfl (lv_at hl 1 rfl) ?_
        refine lv_iload hx hb dL_areAlike_87 (lv_at hl 5 rfl) ?_
        obtain ⟨q166, hcf⟩ := og hcf
        obtain ⟨x167, hx167, hcf⟩ := ob hcf
        refine iv_L_67 (As := [.int j5]) (rest := [.int x165]) hx hb hml hown hts hE (ct_X3_which l D cy z n Y V G j1 j5 x167 hx167) hW hS q166 rfl rfl hl.1 (Nat.le_of_ble_eq_true rfl) ⟨Nat.le_of_ble_eq_true rfl, Nat.le_of_ble_eq_true rfl⟩ dL_areAlike_89 ⟨Nat.zero_le _, Nat.zero_le _⟩ (fun H locs hW hS => ?_)
        refine lv_iload_n hx hb dL_areAlike_92 rfl (lv_at hl 2 rfl) ?_
        obtain ⟨x168, hx168, hcf⟩ := ob hcf
        refine iv_L_31 (As := [.int x167, .int j2]) (rest := [.int x165]) hx hb hml hown hts hE (ct_L_turned l D cy z n Y V G x167 j2 x168 hx168) hW hS rfl rfl hl.1 (Nat.le_of_ble_eq_true rfl) ⟨Nat.le_of_ble_eq_true rfl, Nat.le_of_ble_eq_true rfl⟩ dL_areAlike_93 ⟨Nat.zero_le _, Nat.zero_le _⟩ (fun H locs hW hS => ?_)
        refine lv_icmp_ne (tgt := 115) hx hb dL_areAlike_96 (by decide) (fun q169 => ?_) (fun q169 => ?_)
        · replace hcf := (if_neg q169).symm.trans hcf
          refine lv_iconst (v := (0 : Int32)) hx hb dL_areAlike_115 (by decide) ?_
          refine lv_istore_n (lv' := [(3, .int (0 : Int32)), (0, .ref j0), (1, .ref j1), (2, .int j2), (4, .int j4), (5, .int j5)]) hx hb dL_areAlike_116 rfl hl (by decide) rfl (fun ls hl => ?_)
          refine lv_iload hx hb dL_areAlike_117 (lv_at hl 4 rfl) ?_
          refine lv_aload_n hx hb dL_areAlike_119 rfl (lv_at hl 1 rfl) ?_
          refine lv_iload hx hb dL_areAlike_120 (lv_at hl 5 rfl) ?_
          obtain ⟨x170, hx170, hcf⟩ := ob hcf
          refine iv_L_67 (As := [.int j5]) (rest := [.int j4]) hx hb hml hown hts hE (ct_X3_which l D cy z n Y V G j0 j5 x170 hx170) hW hS q164 rfl rfl hl.1 (Nat.le_of_ble_eq_true rfl) ⟨Nat.le_of_ble_eq_true rfl, Nat.le_of_ble_eq_true rfl⟩ dL_areAlike_122 ⟨Nat.zero_le _, Nat.zero_le _⟩ (fun H locs hW hS => ?_)
          refine lv_ior hx hb dL_areAlike_125 ?_
          refine lv_istore (lv' := [(4, .int (j4 ||| x170)), (3, .int (0 : Int32)), (0, .ref j0), (1, .ref j1), (2, .int j2), (5, .int j5)]) hx hb dL_areAlike_126 hl (by decide) rfl (fun ls hl => ?_)
          refine lv_iinc (v := (j5 + 1)) (lv' := [(5, .int (j5 + 1)), (4, .int (j4 ||| x170)), (3, .int (0 : Int32)), (0, .ref j0), (1, .ref j1), (2, .int j2)]) hx hb dL_areAlike_128 hl (k := 5) rfl rfl (by decide) rfl (fun ls hl => ?_)
          refine lv_goto (tgt := 70) hx hb dL_areAlike_131 (by decide) ?_
          exact ih V j0 j1 j2 (0 : Int32) (j4 ||| x170) (j5 + 1) _ _ _ hcf hW hS (lv_sub hl [3, 4, 5, 2, 1, 0] rfl)
        · replace hcf := (if_pos q169).symm.trans hcf
          refine lv_iload hx hb dL_areAlike_99 (lv_at hl 4 rfl) ?_
          refine lv_aload_n hx hb dL_areAlike_101 rfl (lv_at hl 0 rfl) ?_
          refine lv_iload hx hb dL_areAlike_102 (lv_at hl 5 rfl) ?_
          obtain ⟨x171, hx171, hcf⟩ := ob hcf
          refine iv_L_67 (As := [.int j5]) (rest := [.int j4]) hx hb hml hown hts hE (ct_X3_which l D cy z n Y V G j0 j5 x171 hx171) hW hS q164 rfl rfl hl.1 (Nat.le_of_ble_eq_true rfl) ⟨Nat.le_of_ble_eq_true rfl, Nat.le_of_ble_eq_true rfl⟩ dL_areAlike_104 ⟨Nat.zero_le _, Nat.zero_le _⟩ (fun H locs hW hS => ?_)
          refine lv_iand hx hb dL_areAlike_107 ?_
          refine lv_if_ne (tgt := 115) hx hb dL_areAlike_108 (by decide) (fun q172 => ?_) (fun q172 => ?_)
          · replace hcf := (if_neg q172).symm.trans hcf
            refine lv_iconst (v := (0 : Int32)) hx hb dL_areAlike_115 (by decide) ?_
            refine lv_istore_n (lv' := [(3, .int (0 : Int32)), (0, .ref j0), (1, .ref j1), (2, .int j2), (4, .int j4), (5, .int j5)]) hx hb dL_areAlike_116 rfl hl (by decide) rfl (fun ls hl => ?_)
            refine lv_iload hx hb dL_areAlike_117 (lv_at hl 4 rfl) ?_
            refine lv_aload_n hx hb dL_areAlike_119 rfl (lv_at hl 1 rfl) ?_
            refine lv_iload hx hb dL_areAlike_120 (lv_at hl 5 rfl) ?_
            obtain ⟨x173, hx173, hcf⟩ := ob hcf
            refine iv_L_67 (As := [.int j5]) (rest := [.int j4]) hx hb hml hown hts hE (ct_X3_which l D cy z n Y V G j0 j5 x173 hx173) hW hS q164 rfl rfl hl.1 (Nat.le_of_ble_eq_true rfl) ⟨Nat.le_of_ble_eq_true rfl, Nat.le_of_ble_eq_true rfl⟩ dL_areAlike_122 ⟨Nat.zero_le _, Nat.zero_le _⟩ (fun H locs hW hS => ?_)
            refine lv_ior hx hb dL_areAlike_125 ?_
            refine lv_istore (lv' := [(4, .int (j4 ||| x173)), (3, .int (0 : Int32)), (0, .ref j0), (1, .ref j1), (2, .int j2), (5, .int j5)]) hx hb dL_areAlike_126 hl (by decide) rfl (fun ls hl => ?_)
            refine lv_iinc (v := (j5 + 1)) (lv' := [(5, .int (j5 + 1)), (4, .int (j4 ||| x173)), (3, .int (0 : Int32)), (0, .ref j0), (1, .ref j1), (2, .int j2)]) hx hb dL_areAlike_128 hl (k := 5) rfl rfl (by decide) rfl (fun ls hl => ?_)
            refine lv_goto (tgt := 70) hx hb dL_areAlike_131 (by decide) ?_
            exact ih V j0 j1 j2 (0 : Int32) (j4 ||| x173) (j5 + 1) _ _ _ hcf hW hS (lv_sub hl [3, 4, 5, 2, 1, 0] rfl)
          · replace hcf := (if_pos q172).symm.trans hcf
            refine lv_iconst (v := (1 : Int32)) hx hb dL_areAlike_111 (by decide) ?_
            refine lv_goto (tgt := 116) hx hb dL_areAlike_112 (by decide) ?_
            refine lv_istore_n (lv' := [(3, .int (1 : Int32)), (0, .ref j0), (1, .ref j1), (2, .int j2), (4, .int j4), (5, .int j5)]) hx hb dL_areAlike_116 rfl hl (by decide) rfl (fun ls hl => ?_)
            refine lv_iload hx hb dL_areAlike_117 (lv_at hl 4 rfl) ?_
            refine lv_aload_n hx hb dL_areAlike_119 rfl (lv_at hl 1 rfl) ?_
            refine lv_iload hx hb dL_areAlike_120 (lv_at hl 5 rfl) ?_
            obtain ⟨x174, hx174, hcf⟩ := ob hcf
            refine iv_L_67 (As := [.int j5]) (rest := [.int j4]) hx hb hml hown hts hE (ct_X3_which l D cy z n Y V G j0 j5 x174 hx174) hW hS q164 rfl rfl hl.1 (Nat.le_of_ble_eq_true rfl) ⟨Nat.le_of_ble_eq_true rfl, Nat.le_of_ble_eq_true rfl⟩ dL_areAlike_122 ⟨Nat.zero_le _, Nat.zero_le _⟩ (fun H locs hW hS => ?_)
            refine lv_ior hx hb dL_areAlike_125 ?_
            refine lv_istore (lv' := [(4, .int (j4 ||| x174)), (3, .int (1 : Int32)), (0, .ref j0), (1, .ref j1), (2, .int j2), (5, .int j5)]) hx hb dL_areAlike_126 hl (by decide) rfl (fun ls hl => ?_)
            refine lv_iinc (v := (j5 + 1)) (lv' := [(5, .int (j5 + 1)), (4, .int (j4 ||| x174)), (3, .int (1 : Int32)), (0, .ref j0), (1, .ref j1), (2, .int j2)]) hx hb dL_areAlike_128 hl (k := 5) rfl rfl (by decide) rfl (fun ls hl => ?_)
            refine lv_goto (tgt := 70) hx hb dL_areAlike_131 (by decide) ?_
            exact ih V j0 j1 j2 (1 : Int32) (j4 ||| x174) (j5 + 1) _ _ _ hcf hW hS (lv_sub hl [3, 4, 5, 2, 1, 0] rfl)
set_option maxHeartbeats 4000000 in
set_option maxRecDepth 100000 in
theorem wl_L_areAlike_26 {p : Program} {l : Launch} {e : Env} {s : State} {m : MethodId} {args : Array Value} {below : List Frame} {meth : Method} {c : Code} {D : va_G} {cy : Nat → ClassId} {z : Nat} {n : Nat} {Y : mY} {G : mG} (hx : p.tables.exec = Jvm.exec) (hb : c.code = cL_areAlike) (hr : meth.sig.returnType = (some .boolean)) (hml : c.maxLocals = 8) (hown : s.vm.findClass RL = some m.cls) (hts : ∀ w ∈ lw_all, w.before args s = true) (hlocks : meth.locks = false) (hE : En D cy s) (x : Int32 × mV) : ∀ (k : Nat) (V : mV) (j0 : Nat) (j1 : Nat) (j2 : Int32) (j3 : Int32) (j4 : Int32) (H : Heap) (locs : List Loc) (ls : Array Slot), lp_L_areAlike_26 Y G k V j0 j1 j2 j3 j4 = some x → Wd Y cy D z n V G H → va_S (zA z) s.heap H locs → lv_has ls 8 [(0, .ref j0), (1, .ref j1), (2, .int j2), (3, .int j3), (4, .int j4)] → W p l e (rmd 6) s m args below meth c H locs 0 0 (MQ below (QC D cy z Y n x.2 G (some (.int x.1))) args s 0 0 (zA z)) (F0 m 26 ls []) := by
  intro k
  induction k with
  | zero =>
    intro V j0 j1 j2 j3 j4 H locs ls hcf
    have hcf : none = some _ := hcf
    cases hcf
  | succ k ih =>
    intro V j0 j1 j2 j3 j4 H locs ls hcf hW hS hl
    rw [lp_L_areAlike_26] at hcf
    refine lv_iload hx hb dL_areAlike_26 (lv_at hl 4 rfl) ?_
    refine lv_bipush (v := (6 : Int32)) hx hb dL_areAlike_28 (by decide) ?_
    refine lv_icmp_ge (tgt := 64) hx hb dL_areAlike_30 (by decide) (fun q7 => ?_) (fun q7 => ?_)
    · replace hcf := (if_pos q7).symm.trans hcf
      refine lv_iconst (v := (0 : Int32)) hx hb dL_areAlike_64 (by decide) ?_
      refine lv_istore (lv' := [(4, .int (0 : Int32)), (0, .ref j0), (1, .ref j1), (2, .int j2), (3, .int j3)]) hx hb dL_areAlike_65 hl (by decide) rfl (fun ls hl => ?_)
      refine lv_iconst (v := (0 : Int32)) hx hb dL_areAlike_67 (by decide) ?_
      refine lv_istore (lv' := [(5, .int (0 : Int32)), (4, .int (0 : Int32)), (0, .ref j0), (1, .ref j1), (2, .int j2), (3, .int j3)]) hx hb dL_areAlike_68 hl (by decide) rfl (fun ls hl => ?_)
      exact wl_L_areAlike_70 hx hb hr hml hown hts hlocks hE x fuB V j0 j1 j2 j3 (0 : Int32) (0 : Int32) _ _ _ hcf hW hS (lv_sub hl [2, 3, 4, 5, 1, 0] rfl)
    · replace hcf := (if_neg q7).symm.trans hcf
      refine lv_iload_n hx hb dL_areAlike_33 rfl (lv_at hl 3 rfl) ?_
      refine lv_if_eq (tgt := 56) hx hb dL_areAlike_34 (by decide) (fun q175 => ?_) (fun q175 => ?_)
      · replace hcf := (if_pos q175).symm.trans hcf
        refine lv_iconst (v := (0 : Int32)) hx hb dL_areAlike_56 (by decide) ?_
        refine lv_istore_n (lv' := [(3, .int (0 : Int32)), (0, .ref j0), (1, .ref j1), (2, .int j2), (4, .int j4)]) hx hb dL_areAlike_57 rfl hl (by decide) rfl (fun ls hl => ?_)
        refine lv_iinc (v := (j4 + 1)) (lv' := [(4, .int (j4 + 1)), (3, .int (0 : Int32)), (0, .ref j0), (1, .ref j1), (2, .int j2)]) hx hb dL_areAlike_58 hl (k := 4) rfl rfl (by decide) rfl (fun ls hl => ?_)
        refine lv_goto (tgt := 26) hx hb dL_areAlike_61 (by decide) ?_
        exact ih V j0 j1 j2 (0 : Int32) (j4 + 1) _ _ _ hcf hW hS (lv_sub hl [2, 3, 4, 1, 0] rfl)
      · replace hcf := (if_neg q175).symm.trans hcf
        refine lv_aload_n hx hb dL_areAlike_37 rfl (lv_at hl 0 rfl) ?_
        refine lv_iload hx hb dL_areAlike_38 (lv_at hl 4 rfl) ?_
        obtain ⟨q176, hcf⟩ := og hcf
        obtain ⟨x177, hx177, hcf⟩ := ob hcf
        refine iv_L_9 (As := [.int j4]) (rest := []) hx hb hml hown hts hE (ct_X3_count l D cy z n Y V G j0 j4 x177 hx177) hW hS q176 rfl rfl hl.1 (Nat.le_of_ble_eq_true rfl) ⟨Nat.le_of_ble_eq_true rfl, Nat.le_of_ble_eq_true rfl⟩ dL_areAlike_40 ⟨Nat.zero_le _, Nat.zero_le _⟩ (fun H locs hW hS => ?_)
        refine lv_aload_n hx hb dL_areAlike_43 rfl (lv_at hl 1 rfl) ?_
        refine lv_iload hx hb dL_areAlike_44 (lv_at hl 4 rfl) ?_
        obtain ⟨q178, hcf⟩ := og hcf
        obtain ⟨x179, hx179, hcf⟩ := ob hcf
        refine iv_L_9 (As := [.int j4]) (rest := [.int x177]) hx hb hml hown hts hE (ct_X3_count l D cy z n Y V G j1 j4 x179 hx179) hW hS q178 rfl rfl hl.1 (Nat.le_of_ble_eq_true rfl) ⟨Nat.le_of_ble_eq_true rfl, Nat.le_of_ble_eq_true rfl⟩ dL_areAlike_46 ⟨Nat.zero_le _, Nat.zero_le _⟩ (fun H locs hW hS => ?_)
        refine lv_icmp_ne (tgt := 56) hx hb dL_areAlike_49 (by decide) (fun q180 => ?_) (fun q180 => ?_)
        · replace hcf := (if_neg q180).symm.trans hcf
          refine lv_iconst (v := (0 : Int32)) hx hb dL_areAlike_56 (by decide) ?_
          refine lv_istore_n (lv' := [(3, .int (0 : Int32)), (0, .ref j0), (1, .ref j1), (2, .int j2), (4, .int j4)]) hx hb dL_areAlike_57 rfl hl (by decide) rfl (fun ls hl => ?_)
          refine lv_iinc (v := (j4 + 1)) (lv' := [(4, .int (j4 + 1)), (3, .int (0 : Int32)), (0, .ref j0), (1, .ref j1), (2, .int j2)]) hx hb dL_areAlike_58 hl (k := 4) rfl rfl (by decide) rfl (fun ls hl => ?_)
          refine lv_goto (tgt := 26) hx hb dL_areAlike_61 (by decide) ?_
          exact ih V j0 j1 j2 (0 : Int32) (j4 + 1) _ _ _ hcf hW hS (lv_sub hl [2, 3, 4, 1, 0] rfl)
        · replace hcf := (if_pos q180).symm.trans hcf
          refine lv_iconst (v := (1 : Int32)) hx hb dL_areAlike_52 (by decide) ?_
          refine lv_goto (tgt := 57) hx hb dL_areAlike_53 (by decide) ?_
          refine lv_istore_n (lv' := [(3, .int (1 : Int32)), (0, .ref j0), (1, .ref j1), (2, .int j2), (4, .int j4)]) hx hb dL_areAlike_57 rfl hl (by decide) rfl (fun ls hl => ?_)
          refine lv_iinc (v := (j4 + 1)) (lv' := [(4, .int (j4 + 1)), (3, .int (1 : Int32)), (0, .ref j0), (1, .ref j1), (2, .int j2)]) hx hb dL_areAlike_58 hl (k := 4) rfl rfl (by decide) rfl (fun ls hl => ?_)
          refine lv_goto (tgt := 26) hx hb dL_areAlike_61 (by decide) ?_
          exact ih V j0 j1 j2 (1 : Int32) (j4 + 1) _ _ _ hcf hW hS (lv_sub hl [2, 3, 4, 1, 0] rfl)
set_option maxHeartbeats 4000000 in
set_option maxRecDepth 100000 in
theorem ct_L_areAlike (l : Launch) (D : va_G) (cy : Nat → ClassId) (z n : Nat) (Y : mY) (V : mV) (G : mG) (b1 : Nat) (b2 : Nat) (x : Int32 × mV) (hcf : cf_L_areAlike Y V G b1 b2 = some x) : CT l yL_areAlike cL_areAlike 8 (some .boolean) (rmd 6) D cy z [.ref b1, .ref b2] Y n V G (some (.int x.1)) Y n x.2 G := by
  refine ct_of (by decide) (Nat.le_of_ble_eq_true rfl) ?_
  intro p e s m args below meth c ls hx hb hr hml hown hts hlocks hnm hE hW hl
  have hS : va_S (zA z) s.heap s.heap [] := va_S.rf
  have hl : lv_has ls 8 [(0, .ref b1), (1, .ref b2)] := hl
  have hown : s.vm.findClass RL = some m.cls := hown
  rw [cf_L_areAlike] at hcf
  refine lv_aload_n hx hb dL_areAlike_0 rfl (lv_at hl 0 rfl) ?_
  refine lv_iconst (v := (0 : Int32)) hx hb dL_areAlike_1 (by decide) ?_
  obtain ⟨q1, hcf⟩ := og hcf
  obtain ⟨x2, hx2, hcf⟩ := ob hcf
  refine iv_L_9 (As := [.int (0 : Int32)]) (rest := []) hx hb hml hown hts hE (ct_X3_count l D cy z n Y V G b1 (0 : Int32) x2 hx2) hW hS q1 rfl rfl hl.1 (Nat.le_of_ble_eq_true rfl) ⟨Nat.le_of_ble_eq_true rfl, Nat.le_of_ble_eq_true rfl⟩ dL_areAlike_2 ⟨Nat.zero_le _, Nat.zero_le _⟩ (fun H locs hW hS => ?_)
  refine lv_istore_n (lv' := [(2, .int x2), (0, .ref b1), (1, .ref b2)]) hx hb dL_areAlike_5 rfl hl (by decide) rfl (fun ls hl => ?_)
  refine lv_aload_n hx hb dL_areAlike_6 rfl (lv_at hl 1 rfl) ?_
  obtain ⟨x3, hx3, hcf⟩ := ob hcf
  refine iv_L_63 (As := []) (rest := []) hx hb hml hown hts hE (ct_X3_share l D cy z n Y V G b1 x3 hx3) hW hS q1 rfl rfl hl.1 (Nat.le_of_ble_eq_true rfl) ⟨Nat.le_of_ble_eq_true rfl, Nat.le_of_ble_eq_true rfl⟩ dL_areAlike_7 ⟨Nat.zero_le _, Nat.zero_le _⟩ (fun H locs hW hS => ?_)
  refine lv_aload_n hx hb dL_areAlike_10 rfl (lv_at hl 2 rfl) ?_
  obtain ⟨q4, hcf⟩ := og hcf
  obtain ⟨x5, hx5, hcf⟩ := ob hcf
  refine iv_L_63 (As := []) (rest := [.int x3]) hx hb hml hown hts hE (ct_X3_share l D cy z n Y V G b2 x5 hx5) hW hS q4 rfl rfl hl.1 (Nat.le_of_ble_eq_true rfl) ⟨Nat.le_of_ble_eq_true rfl, Nat.le_of_ble_eq_true rfl⟩ dL_areAlike_11 ⟨Nat.zero_le _, Nat.zero_le _⟩ (fun H locs hW hS => ?_)
  refine lv_icmp_ne (tgt := 21) hx hb dL_areAlike_14 (by decide) (fun q6 => ?_) (fun q6 => ?_)
  · replace hcf := (if_neg q6).symm.trans hcf
    refine lv_iconst (v := (0 : Int32)) hx hb dL_areAlike_21 (by decide) ?_
    refine lv_istore_n (lv' := [(3, .int (0 : Int32)), (2, .int x2), (0, .ref b1), (1, .ref b2)]) hx hb dL_areAlike_22 rfl hl (by decide) rfl (fun ls hl => ?_)
    refine lv_iconst (v := (0 : Int32)) hx hb dL_areAlike_23 (by decide) ?_
    refine lv_istore (lv' := [(4, .int (0 : Int32)), (3, .int (0 : Int32)), (2, .int x2), (0, .ref b1), (1, .ref b2)]) hx hb dL_areAlike_24 hl (by decide) rfl (fun ls hl => ?_)
    exact wl_L_areAlike_26 hx hb hr hml hown hts hlocks hE x fuB V b1 b2 x2 (0 : Int32) (0 : Int32) _ _ _ hcf hW hS (lv_sub hl [3, 4, 2, 1, 0] rfl)
  · replace hcf := (if_pos q6).symm.trans hcf
    refine lv_iconst (v := (1 : Int32)) hx hb dL_areAlike_17 (by decide) ?_
    refine lv_goto (tgt := 22) hx hb dL_areAlike_18 (by decide) ?_
    refine lv_istore_n (lv' := [(3, .int (1 : Int32)), (2, .int x2), (0, .ref b1), (1, .ref b2)]) hx hb dL_areAlike_22 rfl hl (by decide) rfl (fun ls hl => ?_)
    refine lv_iconst (v := (0 : Int32)) hx hb dL_areAlike_23 (by decide) ?_
    refine lv_istore (lv' := [(4, .int (0 : Int32)), (3, .int (1 : Int32)), (2, .int x2), (0, .ref b1), (1, .ref b2)]) hx hb dL_areAlike_24 hl (by decide) rfl (fun ls hl => ?_)
    exact wl_L_areAlike_26 hx hb hr hml hown hts hlocks hE x fuB V b1 b2 x2 (1 : Int32) (0 : Int32) _ _ _ hcf hW hS (lv_sub hl [3, 4, 2, 1, 0] rfl)
set_option maxHeartbeats 4000000 in
set_option maxRecDepth 100000 in
theorem ct_L_comes (l : Launch) (D : va_G) (cy : Nat → ClassId) (z n : Nat) (Y : mY) (V : mV) (G : mG) (b1 : Nat) (b2 : Nat) (b3 : Int32) (x : Int32 × mV × mG) (hcf : cf_L_comes Y V G b1 b2 b3 = some x) : CT l yL_comes cL_comes 9 (some .boolean) (rmd 7) D cy z [.ref b1, .ref b2, .int b3] Y n V G (some (.int x.1)) Y n x.2.1 x.2.2 := by
  refine ct_of (by decide) (Nat.le_of_ble_eq_true rfl) ?_
  intro p e s m args below meth c ls hx hb hr hml hown hts hlocks hnm hE hW hl
  have hS : va_S (zA z) s.heap s.heap [] := va_S.rf
  have hl : lv_has ls 9 [(0, .ref b1), (1, .ref b2), (2, .int b3)] := hl
  have hown : s.vm.findClass RL = some m.cls := hown
  rw [cf_L_comes] at hcf
  refine lv_iload_n hx hb dL_comes_0 rfl (lv_at hl 2 rfl) ?_
  refine lv_aload_n hx hb dL_comes_1 rfl (lv_at hl 0 rfl) ?_
  refine lv_iconst (v := (0 : Int32)) hx hb dL_comes_2 (by decide) ?_
  obtain ⟨q1, hcf⟩ := og hcf
  obtain ⟨x2, hx2, hcf⟩ := ob hcf
  refine iv_L_9 (As := [.int (0 : Int32)]) (rest := [.int b3]) hx hb hml hown hts hE (ct_X3_count l D cy z n Y V G b1 (0 : Int32) x2 hx2) hW hS q1 rfl rfl hl.1 (Nat.le_of_ble_eq_true rfl) ⟨Nat.le_of_ble_eq_true rfl, Nat.le_of_ble_eq_true rfl⟩ dL_comes_3 ⟨Nat.zero_le _, Nat.zero_le _⟩ (fun H locs hW hS => ?_)
  obtain ⟨x3, hx3, hcf⟩ := ob hcf
  refine iv_L_18 (As := [.int b3, .int x2]) (rest := []) hx hb hml hown hts hE (ct_L_up l D cy z n Y V G b3 x2 x3 hx3) hW hS rfl rfl hl.1 (Nat.le_of_ble_eq_true rfl) ⟨Nat.le_of_ble_eq_true rfl, Nat.le_of_ble_eq_true rfl⟩ dL_comes_6 ⟨Nat.zero_le _, Nat.zero_le _⟩ (fun H locs hW hS => ?_)
  refine lv_istore_n (lv' := [(3, .int x3), (0, .ref b1), (1, .ref b2), (2, .int b3)]) hx hb dL_comes_9 rfl hl (by decide) rfl (fun ls hl => ?_)
  refine lv_iconst (v := (1 : Int32)) hx hb dL_comes_10 (by decide) ?_
  refine lv_iload_n hx hb dL_comes_11 rfl (lv_at hl 3 rfl) ?_
  refine lv_iconst (v := (3 : Int32)) hx hb dL_comes_12 (by decide) ?_
  refine lv_ishr hx hb dL_comes_13 ?_
  refine lv_iconst (v := (4 : Int32)) hx hb dL_comes_14 (by decide) ?_
  obtain ⟨x4, hx4, hcf⟩ := ob hcf
  refine iv_L_18 (As := [.int (b3 >>> ((3 : Int32) &&& 31)), .int (4 : Int32)]) (rest := [.int (1 : Int32)]) hx hb hml hown hts hE (ct_L_up l D cy z n Y V G (b3 >>> ((3 : Int32) &&& 31)) (4 : Int32) x4 hx4) hW hS rfl rfl hl.1 (Nat.le_of_ble_eq_true rfl) ⟨Nat.le_of_ble_eq_true rfl, Nat.le_of_ble_eq_true rfl⟩ dL_comes_15 ⟨Nat.zero_le _, Nat.zero_le _⟩ (fun H locs hW hS => ?_)
  refine lv_iadd hx hb dL_comes_18 ?_
  refine lv_istore (lv' := [(4, .int ((1 : Int32) + x4)), (3, .int x3), (0, .ref b1), (1, .ref b2), (2, .int b3)]) hx hb dL_comes_19 hl (by decide) rfl (fun ls hl => ?_)
  refine lv_iload_n hx hb dL_comes_21 rfl (lv_at hl 4 rfl) ?_
  refine lv_iconst (v := (5 : Int32)) hx hb dL_comes_22 (by decide) ?_
  refine lv_ishr hx hb dL_comes_23 ?_
  refine lv_iconst (v := (3 : Int32)) hx hb dL_comes_24 (by decide) ?_
  obtain ⟨x5, hx5, hcf⟩ := ob hcf
  refine iv_L_18 (As := [.int (b3 >>> ((5 : Int32) &&& 31)), .int (3 : Int32)]) (rest := []) hx hb hml hown hts hE (ct_L_up l D cy z n Y V G (b3 >>> ((5 : Int32) &&& 31)) (3 : Int32) x5 hx5) hW hS rfl rfl hl.1 (Nat.le_of_ble_eq_true rfl) ⟨Nat.le_of_ble_eq_true rfl, Nat.le_of_ble_eq_true rfl⟩ dL_comes_25 ⟨Nat.zero_le _, Nat.zero_le _⟩ (fun H locs hW hS => ?_)
  refine lv_istore (lv' := [(5, .int x5), (4, .int ((1 : Int32) + x4)), (3, .int x3), (0, .ref b1), (1, .ref b2), (2, .int b3)]) hx hb dL_comes_28 hl (by decide) rfl (fun ls hl => ?_)
  refine lv_aload_n hx hb dL_comes_30 rfl (lv_at hl 3 rfl) ?_
  refine lv_iload_n hx hb dL_comes_31 rfl (lv_at hl 2 rfl) ?_
  refine lv_iload hx hb dL_comes_32 (lv_at hl 1 rfl) ?_
  obtain ⟨x6, hx6, hcf⟩ := ob hcf
  refine iv_L_73 (As := [.int x3, .int ((1 : Int32) + x4)]) (rest := []) hx hb hml hown hts hE (ct_X3_when l D cy z n Y V G b1 x3 ((1 : Int32) + x4) x6 hx6) hW hS q1 rfl rfl hl.1 (Nat.le_of_ble_eq_true rfl) ⟨Nat.le_of_ble_eq_true rfl, Nat.le_of_ble_eq_true rfl⟩ dL_comes_34 ⟨Nat.zero_le _, Nat.zero_le _⟩ (fun H locs hW hS => ?_)
  refine lv_istore (lv' := [(6, .int x6.1), (5, .int x5), (4, .int ((1 : Int32) + x4)), (3, .int x3), (0, .ref b1), (1, .ref b2), (2, .int b3)]) hx hb dL_comes_37 hl (by decide) rfl (fun ls hl => ?_)
  refine lv_aload_n hx hb dL_comes_39 rfl (lv_at hl 4 rfl) ?_
  refine lv_iload hx hb dL_comes_40 (lv_at hl 1 rfl) ?_
  obtain ⟨x7, hx7, hcf⟩ := ob hcf
  refine iv_L_82 (As := [.int x5]) (rest := []) hx hb hml hown hts hE (ct_X3_lawful l D cy z n Y x6.2 G b1 x5 x7 hx7) hW hS q1 rfl rfl hl.1 (Nat.le_of_ble_eq_true rfl) ⟨Nat.le_of_ble_eq_true rfl, Nat.le_of_ble_eq_true rfl⟩ dL_comes_42 ⟨Nat.zero_le _, Nat.zero_le _⟩ (fun H locs hW hS => ?_)
  refine lv_istore (lv' := [(7, .int x7.1), (6, .int x6.1), (5, .int x5), (4, .int ((1 : Int32) + x4)), (3, .int x3), (0, .ref b1), (1, .ref b2), (2, .int b3)]) hx hb dL_comes_45 hl (by decide) rfl (fun ls hl => ?_)
  refine lv_iload hx hb dL_comes_47 (lv_at hl 1 rfl) ?_
  refine lv_aload_n hx hb dL_comes_49 rfl (lv_at hl 6 rfl) ?_
  refine lv_aload_n hx hb dL_comes_50 rfl (lv_at hl 5 rfl) ?_
  refine lv_iload_n hx hb dL_comes_51 rfl (lv_at hl 4 rfl) ?_
  obtain ⟨x8, hx8, hcf⟩ := ob hcf
  refine iv_L_24 (As := [.ref b1, .int x3]) (rest := [.ref b2, .int x6.1]) hx hb hml hown hts hE (ct_L_there l D cy z n Y x7.2 G b1 x3 x8 hx8) hW hS rfl rfl hl.1 (Nat.le_of_ble_eq_true rfl) ⟨Nat.le_of_ble_eq_true rfl, Nat.le_of_ble_eq_true rfl⟩ dL_comes_52 ⟨Nat.zero_le _, Nat.zero_le _⟩ (fun H locs hW hS => ?_)
  refine lv_iload hx hb dL_comes_55 (lv_at hl 3 rfl) ?_
  obtain ⟨q9, hcf⟩ := og hcf
  obtain ⟨x10, hx10, hcf⟩ := ob hcf
  refine iv_L_73 (As := [.int x8, .int ((1 : Int32) + x4)]) (rest := [.int x6.1]) hx hb hml hown hts hE (ct_X3_when l D cy z n Y x7.2 G b2 x8 ((1 : Int32) + x4) x10 hx10) hW hS q9 rfl rfl hl.1 (Nat.le_of_ble_eq_true rfl) ⟨Nat.le_of_ble_eq_true rfl, Nat.le_of_ble_eq_true rfl⟩ dL_comes_57 ⟨Nat.zero_le _, Nat.zero_le _⟩ (fun H locs hW hS => ?_)
  refine lv_icmp_ne (tgt := 78) hx hb dL_comes_60 (by decide) (fun q11 => ?_) (fun q11 => ?_)
  · replace hcf := (if_neg q11).symm.trans hcf
    refine lv_iconst (v := (0 : Int32)) hx hb dL_comes_78 (by decide) ?_
    refine lv_istore (lv' := [(8, .int (0 : Int32)), (7, .int x7.1), (6, .int x6.1), (5, .int x5), (4, .int ((1 : Int32) + x4)), (3, .int x3), (0, .ref b1), (1, .ref b2), (2, .int b3)]) hx hb dL_comes_79 hl (by decide) rfl (fun ls hl => ?_)
    refine lv_iload hx hb dL_comes_81 (lv_at hl 2 rfl) ?_
    refine lv_if_le (tgt := 183) hx hb dL_comes_83 (by decide) (fun q12 => ?_) (fun q12 => ?_)
    · replace hcf := (if_pos q12).symm.trans hcf
      refine lv_iload hx hb dL_comes_183 (lv_at hl 1 rfl) ?_
      refine lv_if_lt (tgt := 240) hx hb dL_comes_185 (by decide) (fun q13 => ?_) (fun q13 => ?_)
      · replace hcf := (if_pos q13).symm.trans hcf
        refine lv_iload hx hb dL_comes_240 (lv_at hl 0 rfl) ?_
        have hcf := Option.some.inj hcf; subst hcf
        exact wk_zret hx hb hr hlocks (Or.inl rfl) hW hS dL_comes_242
      · replace hcf := (if_neg q13).symm.trans hcf
        refine lv_iload hx hb dL_comes_188 (lv_at hl 0 rfl) ?_
        refine lv_if_eq (tgt := 237) hx hb dL_comes_190 (by decide) (fun q14 => ?_) (fun q14 => ?_)
        · clear q14
          refine lv_iconst (v := (0 : Int32)) hx hb dL_comes_237 (by decide) ?_
          refine lv_istore (lv' := [(8, .int (0 : Int32)), (7, .int x7.1), (6, .int x6.1), (5, .int x5), (4, .int ((1 : Int32) + x4)), (3, .int x3), (0, .ref b1), (1, .ref b2), (2, .int b3)]) hx hb dL_comes_238 hl (by decide) rfl (fun ls hl => ?_)
          refine lv_iload hx hb dL_comes_240 (lv_at hl 0 rfl) ?_
          have hcf := Option.some.inj hcf; subst hcf
          exact wk_zret hx hb hr hlocks (Or.inl rfl) hW hS dL_comes_242
        · exact absurd (by decide) q14
    · replace hcf := (if_neg q12).symm.trans hcf
      refine lv_iload hx hb dL_comes_86 (lv_at hl 0 rfl) ?_
      refine lv_if_eq (tgt := 141) hx hb dL_comes_88 (by decide) (fun q15 => ?_) (fun q15 => ?_)
      · clear q15
        refine lv_iconst (v := (0 : Int32)) hx hb dL_comes_141 (by decide) ?_
        refine lv_istore (lv' := [(8, .int (0 : Int32)), (7, .int x7.1), (6, .int x6.1), (5, .int x5), (4, .int ((1 : Int32) + x4)), (3, .int x3), (0, .ref b1), (1, .ref b2), (2, .int b3)]) hx hb dL_comes_142 hl (by decide) rfl (fun ls hl => ?_)
        refine lv_iload hx hb dL_comes_144 (lv_at hl 0 rfl) ?_
        refine lv_if_eq (tgt := 180) hx hb dL_comes_146 (by decide) (fun q16 => ?_) (fun q16 => ?_)
        · clear q16
          refine lv_iconst (v := (0 : Int32)) hx hb dL_comes_180 (by decide) ?_
          refine lv_istore (lv' := [(8, .int (0 : Int32)), (7, .int x7.1), (6, .int x6.1), (5, .int x5), (4, .int ((1 : Int32) + x4)), (3, .int x3), (0, .ref b1), (1, .ref b2), (2, .int b3)]) hx hb dL_comes_181 hl (by decide) rfl (fun ls hl => ?_)
          refine lv_iload hx hb dL_comes_183 (lv_at hl 1 rfl) ?_
          refine lv_if_lt (tgt := 240) hx hb dL_comes_185 (by decide) (fun q17 => ?_) (fun q17 => ?_)
          · replace hcf := (if_pos q17).symm.trans hcf
            refine lv_iload hx hb dL_comes_240 (lv_at hl 0 rfl) ?_
            have hcf := Option.some.inj hcf; subst hcf
            exact wk_zret hx hb hr hlocks (Or.inl rfl) hW hS dL_comes_242
          · replace hcf := (if_neg q17).symm.trans hcf
            refine lv_iload hx hb dL_comes_188 (lv_at hl 0 rfl) ?_
            refine lv_if_eq (tgt := 237) hx hb dL_comes_190 (by decide) (fun q18 => ?_) (fun q18 => ?_)
            · clear q18
              refine lv_iconst (v := (0 : Int32)) hx hb dL_comes_237 (by decide) ?_
              refine lv_istore (lv' := [(8, .int (0 : Int32)), (7, .int x7.1), (6, .int x6.1), (5, .int x5), (4, .int ((1 : Int32) + x4)), (3, .int x3), (0, .ref b1), (1, .ref b2), (2, .int b3)]) hx hb dL_comes_238 hl (by decide) rfl (fun ls hl => ?_)
              refine lv_iload hx hb dL_comes_240 (lv_at hl 0 rfl) ?_
              have hcf := Option.some.inj hcf; subst hcf
              exact wk_zret hx hb hr hlocks (Or.inl rfl) hW hS dL_comes_242
            · exact absurd (by decide) q18
        · exact absurd (by decide) q16
      · exact absurd (by decide) q15
  · replace hcf := (if_pos q11).symm.trans hcf
    refine lv_iload hx hb dL_comes_63 (lv_at hl 0 rfl) ?_
    refine lv_aload_n hx hb dL_comes_65 rfl (lv_at hl 6 rfl) ?_
    refine lv_iload hx hb dL_comes_66 (lv_at hl 2 rfl) ?_
    obtain ⟨x19, hx19, hcf⟩ := ob hcf
    refine iv_L_82 (As := [.int x5]) (rest := [.int x7.1]) hx hb hml hown hts hE (ct_X3_lawful l D cy z n Y x10.2 G b2 x5 x19 hx19) hW hS q9 rfl rfl hl.1 (Nat.le_of_ble_eq_true rfl) ⟨Nat.le_of_ble_eq_true rfl, Nat.le_of_ble_eq_true rfl⟩ dL_comes_68 ⟨Nat.zero_le _, Nat.zero_le _⟩ (fun H locs hW hS => ?_)
    refine lv_icmp_ne (tgt := 78) hx hb dL_comes_71 (by decide) (fun q20 => ?_) (fun q20 => ?_)
    · replace hcf := (if_neg q20).symm.trans hcf
      refine lv_iconst (v := (0 : Int32)) hx hb dL_comes_78 (by decide) ?_
      refine lv_istore (lv' := [(8, .int (0 : Int32)), (7, .int x7.1), (6, .int x6.1), (5, .int x5), (4, .int ((1 : Int32) + x4)), (3, .int x3), (0, .ref b1), (1, .ref b2), (2, .int b3)]) hx hb dL_comes_79 hl (by decide) rfl (fun ls hl => ?_)
      refine lv_iload hx hb dL_comes_81 (lv_at hl 2 rfl) ?_
      refine lv_if_le (tgt := 183) hx hb dL_comes_83 (by decide) (fun q21 => ?_) (fun q21 => ?_)
      · replace hcf := (if_pos q21).symm.trans hcf
        refine lv_iload hx hb dL_comes_183 (lv_at hl 1 rfl) ?_
        refine lv_if_lt (tgt := 240) hx hb dL_comes_185 (by decide) (fun q22 => ?_) (fun q22 => ?_)
        · replace hcf := (if_pos q22).symm.trans hcf
          refine lv_iload hx hb dL_comes_240 (lv_at hl 0 rfl) ?_
          have hcf := Option.some.inj hcf; subst hcf
          exact wk_zret hx hb hr hlocks (Or.inl rfl) hW hS dL_comes_242
        · replace hcf := (if_neg q22).symm.trans hcf
          refine lv_iload hx hb dL_comes_188 (lv_at hl 0 rfl) ?_
          refine lv_if_eq (tgt := 237) hx hb dL_comes_190 (by decide) (fun q23 => ?_) (fun q23 => ?_)
          · clear q23
            refine lv_iconst (v := (0 : Int32)) hx hb dL_comes_237 (by decide) ?_
            refine lv_istore (lv' := [(8, .int (0 : Int32)), (7, .int x7.1), (6, .int x6.1), (5, .int x5), (4, .int ((1 : Int32) + x4)), (3, .int x3), (0, .ref b1), (1, .ref b2), (2, .int b3)]) hx hb dL_comes_238 hl (by decide) rfl (fun ls hl => ?_)
            refine lv_iload hx hb dL_comes_240 (lv_at hl 0 rfl) ?_
            have hcf := Option.some.inj hcf; subst hcf
            exact wk_zret hx hb hr hlocks (Or.inl rfl) hW hS dL_comes_242
          · exact absurd (by decide) q23
      · replace hcf := (if_neg q21).symm.trans hcf
        refine lv_iload hx hb dL_comes_86 (lv_at hl 0 rfl) ?_
        refine lv_if_eq (tgt := 141) hx hb dL_comes_88 (by decide) (fun q24 => ?_) (fun q24 => ?_)
        · clear q24
          refine lv_iconst (v := (0 : Int32)) hx hb dL_comes_141 (by decide) ?_
          refine lv_istore (lv' := [(8, .int (0 : Int32)), (7, .int x7.1), (6, .int x6.1), (5, .int x5), (4, .int ((1 : Int32) + x4)), (3, .int x3), (0, .ref b1), (1, .ref b2), (2, .int b3)]) hx hb dL_comes_142 hl (by decide) rfl (fun ls hl => ?_)
          refine lv_iload hx hb dL_comes_144 (lv_at hl 0 rfl) ?_
          refine lv_if_eq (tgt := 180) hx hb dL_comes_146 (by decide) (fun q25 => ?_) (fun q25 => ?_)
          · clear q25
            refine lv_iconst (v := (0 : Int32)) hx hb dL_comes_180 (by decide) ?_
            refine lv_istore (lv' := [(8, .int (0 : Int32)), (7, .int x7.1), (6, .int x6.1), (5, .int x5), (4, .int ((1 : Int32) + x4)), (3, .int x3), (0, .ref b1), (1, .ref b2), (2, .int b3)]) hx hb dL_comes_181 hl (by decide) rfl (fun ls hl => ?_)
            refine lv_iload hx hb dL_comes_183 (lv_at hl 1 rfl) ?_
            refine lv_if_lt (tgt := 240) hx hb dL_comes_185 (by decide) (fun q26 => ?_) (fun q26 => ?_)
            · replace hcf := (if_pos q26).symm.trans hcf
              refine lv_iload hx hb dL_comes_240 (lv_at hl 0 rfl) ?_
              have hcf := Option.some.inj hcf; subst hcf
              exact wk_zret hx hb hr hlocks (Or.inl rfl) hW hS dL_comes_242
            · replace hcf := (if_neg q26).symm.trans hcf
              refine lv_iload hx hb dL_comes_188 (lv_at hl 0 rfl) ?_
              refine lv_if_eq (tgt := 237) hx hb dL_comes_190 (by decide) (fun q27 => ?_) (fun q27 => ?_)
              · clear q27
                refine lv_iconst (v := (0 : Int32)) hx hb dL_comes_237 (by decide) ?_
                refine lv_istore (lv' := [(8, .int (0 : Int32)), (7, .int x7.1), (6, .int x6.1), (5, .int x5), (4, .int ((1 : Int32) + x4)), (3, .int x3), (0, .ref b1), (1, .ref b2), (2, .int b3)]) hx hb dL_comes_238 hl (by decide) rfl (fun ls hl => ?_)
                refine lv_iload hx hb dL_comes_240 (lv_at hl 0 rfl) ?_
                have hcf := Option.some.inj hcf; subst hcf
                exact wk_zret hx hb hr hlocks (Or.inl rfl) hW hS dL_comes_242
              · exact absurd (by decide) q27
          · exact absurd (by decide) q25
        · exact absurd (by decide) q24
    · replace hcf := (if_pos q20).symm.trans hcf
      refine lv_iconst (v := (1 : Int32)) hx hb dL_comes_74 (by decide) ?_
      refine lv_goto (tgt := 79) hx hb dL_comes_75 (by decide) ?_
      refine lv_istore (lv' := [(8, .int (1 : Int32)), (7, .int x7.1), (6, .int x6.1), (5, .int x5), (4, .int ((1 : Int32) + x4)), (3, .int x3), (0, .ref b1), (1, .ref b2), (2, .int b3)]) hx hb dL_comes_79 hl (by decide) rfl (fun ls hl => ?_)
      refine lv_iload hx hb dL_comes_81 (lv_at hl 2 rfl) ?_
      refine lv_if_le (tgt := 183) hx hb dL_comes_83 (by decide) (fun q28 => ?_) (fun q28 => ?_)
      · replace hcf := (if_pos q28).symm.trans hcf
        refine lv_iload hx hb dL_comes_183 (lv_at hl 1 rfl) ?_
        refine lv_if_lt (tgt := 240) hx hb dL_comes_185 (by decide) (fun q29 => ?_) (fun q29 => ?_)
        · replace hcf := (if_pos q29).symm.trans hcf
          refine lv_iload hx hb dL_comes_240 (lv_at hl 0 rfl) ?_
          have hcf := Option.some.inj hcf; subst hcf
          exact wk_zret hx hb hr hlocks (Or.inr rfl) hW hS dL_comes_242
        · replace hcf := (if_neg q29).symm.trans hcf
          refine lv_iload hx hb dL_comes_188 (lv_at hl 0 rfl) ?_
          refine lv_if_eq (tgt := 237) hx hb dL_comes_190 (by decide) (fun q30 => ?_) (fun q30 => ?_)
          · exact absurd q30 (by decide)
          · clear q30
            refine lv_iload hx hb dL_comes_193 (lv_at hl 1 rfl) ?_
            refine lv_if_eq (tgt := 207) hx hb dL_comes_195 (by decide) (fun q31 => ?_) (fun q31 => ?_)
            · replace hcf := (if_pos q31).symm.trans hcf
              refine lv_aload_n hx hb dL_comes_207 rfl (lv_at hl 6 rfl) ?_
              refine lv_iload hx hb dL_comes_208 (lv_at hl 3 rfl) ?_
              refine lv_iconst (v := (3 : Int32)) hx hb dL_comes_210 (by decide) ?_
              obtain ⟨x32, hx32, hcf⟩ := ob hcf
              refine iv_L_88 (As := [.int x5, .int (3 : Int32)]) (rest := []) hx hb hml hown hts hE (ct_X3_stageOf l D cy z n Y x19.2 G b1 x5 (3 : Int32) x32 hx32) hW hS q1 rfl rfl hl.1 (Nat.le_of_ble_eq_true rfl) ⟨Nat.le_of_ble_eq_true rfl, Nat.le_of_ble_eq_true rfl⟩ dL_comes_211 ⟨Nat.zero_le _, Nat.zero_le _⟩ (fun H locs hW hS => ?_)
              refine lv_if_ne (tgt := 237) hx hb dL_comes_214 (by decide) (fun q33 => ?_) (fun q33 => ?_)
              · replace hcf := (if_neg q33).symm.trans hcf
                refine lv_iconst (v := (0 : Int32)) hx hb dL_comes_237 (by decide) ?_
                refine lv_istore (lv' := [(8, .int (0 : Int32)), (7, .int x7.1), (6, .int x6.1), (5, .int x5), (4, .int ((1 : Int32) + x4)), (3, .int x3), (0, .ref b1), (1, .ref b2), (2, .int b3)]) hx hb dL_comes_238 hl (by decide) rfl (fun ls hl => ?_)
                refine lv_iload hx hb dL_comes_240 (lv_at hl 0 rfl) ?_
                have hcf := Option.some.inj hcf; subst hcf
                exact wk_zret hx hb hr hlocks (Or.inl rfl) hW hS dL_comes_242
              · replace hcf := (if_pos q33).symm.trans hcf
                refine lv_aload_n hx hb dL_comes_217 rfl (lv_at hl 6 rfl) ?_
                refine lv_iload hx hb dL_comes_218 (lv_at hl 3 rfl) ?_
                obtain ⟨x34, hx34, hcf⟩ := ob hcf
                refine iv_L_28 (As := [.int x5]) (rest := []) hx hb hml hown hts hE (ct_X3_begin l D cy z n Y x19.2 G b1 x5 x34 hx34) hW hS q1 rfl rfl hl.1 (Nat.le_of_ble_eq_true rfl) ⟨Nat.le_of_ble_eq_true rfl, Nat.le_of_ble_eq_true rfl⟩ dL_comes_220 ⟨Nat.zero_le _, Nat.zero_le _⟩ (fun H locs hW hS => ?_)
                refine lv_if_ne (tgt := 237) hx hb dL_comes_223 (by decide) (fun q35 => ?_) (fun q35 => ?_)
                · replace hcf := (if_neg q35).symm.trans hcf
                  refine lv_iconst (v := (0 : Int32)) hx hb dL_comes_237 (by decide) ?_
                  refine lv_istore (lv' := [(8, .int (0 : Int32)), (7, .int x7.1), (6, .int x6.1), (5, .int x5), (4, .int ((1 : Int32) + x4)), (3, .int x3), (0, .ref b1), (1, .ref b2), (2, .int b3)]) hx hb dL_comes_238 hl (by decide) rfl (fun ls hl => ?_)
                  refine lv_iload hx hb dL_comes_240 (lv_at hl 0 rfl) ?_
                  have hcf := Option.some.inj hcf; subst hcf
                  exact wk_zret hx hb hr hlocks (Or.inl rfl) hW hS dL_comes_242
                · replace hcf := (if_pos q35).symm.trans hcf
                  refine lv_aload_n hx hb dL_comes_226 rfl (lv_at hl 6 rfl) ?_
                  obtain ⟨x36, hx36, hcf⟩ := ob hcf
                  refine iv_L_85 (As := []) (rest := []) hx hb hml hown hts hE (ct_X3_undo l D cy z n Y x34.2.1 x34.2.2 b1 x36 hx36) hW hS q1 rfl rfl hl.1 (Nat.le_of_ble_eq_true rfl) ⟨Nat.le_of_ble_eq_true rfl, Nat.le_of_ble_eq_true rfl⟩ dL_comes_227 ⟨Nat.zero_le _, Nat.zero_le _⟩ (fun H locs hW hS => ?_)
                  refine lv_if_lt (tgt := 237) hx hb dL_comes_230 (by decide) (fun q37 => ?_) (fun q37 => ?_)
                  · replace hcf := (if_pos q37).symm.trans hcf
                    refine lv_iconst (v := (0 : Int32)) hx hb dL_comes_237 (by decide) ?_
                    refine lv_istore (lv' := [(8, .int (0 : Int32)), (7, .int x7.1), (6, .int x6.1), (5, .int x5), (4, .int ((1 : Int32) + x4)), (3, .int x3), (0, .ref b1), (1, .ref b2), (2, .int b3)]) hx hb dL_comes_238 hl (by decide) rfl (fun ls hl => ?_)
                    refine lv_iload hx hb dL_comes_240 (lv_at hl 0 rfl) ?_
                    have hcf := Option.some.inj hcf; subst hcf
                    exact wk_zret hx hb hr hlocks (Or.inl rfl) hW hS dL_comes_242
                  · replace hcf := (if_neg q37).symm.trans hcf
                    refine lv_iconst (v := (1 : Int32)) hx hb dL_comes_233 (by decide) ?_
                    refine lv_goto (tgt := 238) hx hb dL_comes_234 (by decide) ?_
                    refine lv_istore (lv' := [(8, .int (1 : Int32)), (7, .int x7.1), (6, .int x6.1), (5, .int x5), (4, .int ((1 : Int32) + x4)), (3, .int x3), (0, .ref b1), (1, .ref b2), (2, .int b3)]) hx hb dL_comes_238 hl (by decide) rfl (fun ls hl => ?_)
                    refine lv_iload hx hb dL_comes_240 (lv_at hl 0 rfl) ?_
                    have hcf := Option.some.inj hcf; subst hcf
                    exact wk_zret hx hb hr hlocks (Or.inr rfl) hW hS dL_comes_242
            · replace hcf := (if_neg q31).symm.trans hcf
              refine lv_aload_n hx hb dL_comes_198 rfl (lv_at hl 6 rfl) ?_
              refine lv_iload hx hb dL_comes_199 (lv_at hl 1 rfl) ?_
              obtain ⟨x38, hx38, hcf⟩ := ob hcf
              refine iv_L_15 (As := [.int x7.1]) (rest := []) hx hb hml hown hts hE (ct_X3_pass l D cy z n Y x19.2 G b1 x7.1 x38 hx38) hW hS q1 rfl rfl hl.1 (Nat.le_of_ble_eq_true rfl) ⟨Nat.le_of_ble_eq_true rfl, Nat.le_of_ble_eq_true rfl⟩ dL_comes_201 ⟨Nat.zero_le _, Nat.zero_le _⟩ (fun H locs hW hS => ?_)
              refine lv_if_le (tgt := 237) hx hb dL_comes_204 (by decide) (fun q39 => ?_) (fun q39 => ?_)
              · replace hcf := (if_pos q39).symm.trans hcf
                refine lv_iconst (v := (0 : Int32)) hx hb dL_comes_237 (by decide) ?_
                refine lv_istore (lv' := [(8, .int (0 : Int32)), (7, .int x7.1), (6, .int x6.1), (5, .int x5), (4, .int ((1 : Int32) + x4)), (3, .int x3), (0, .ref b1), (1, .ref b2), (2, .int b3)]) hx hb dL_comes_238 hl (by decide) rfl (fun ls hl => ?_)
                refine lv_iload hx hb dL_comes_240 (lv_at hl 0 rfl) ?_
                have hcf := Option.some.inj hcf; subst hcf
                exact wk_zret hx hb hr hlocks (Or.inl rfl) hW hS dL_comes_242
              · replace hcf := (if_neg q39).symm.trans hcf
                refine lv_aload_n hx hb dL_comes_207 rfl (lv_at hl 6 rfl) ?_
                refine lv_iload hx hb dL_comes_208 (lv_at hl 3 rfl) ?_
                refine lv_iconst (v := (3 : Int32)) hx hb dL_comes_210 (by decide) ?_
                obtain ⟨x40, hx40, hcf⟩ := ob hcf
                refine iv_L_88 (As := [.int x5, .int (3 : Int32)]) (rest := []) hx hb hml hown hts hE (ct_X3_stageOf l D cy z n Y x38.2.1 x38.2.2 b1 x5 (3 : Int32) x40 hx40) hW hS q1 rfl rfl hl.1 (Nat.le_of_ble_eq_true rfl) ⟨Nat.le_of_ble_eq_true rfl, Nat.le_of_ble_eq_true rfl⟩ dL_comes_211 ⟨Nat.zero_le _, Nat.zero_le _⟩ (fun H locs hW hS => ?_)
                refine lv_if_ne (tgt := 237) hx hb dL_comes_214 (by decide) (fun q41 => ?_) (fun q41 => ?_)
                · replace hcf := (if_neg q41).symm.trans hcf
                  refine lv_iconst (v := (0 : Int32)) hx hb dL_comes_237 (by decide) ?_
                  refine lv_istore (lv' := [(8, .int (0 : Int32)), (7, .int x7.1), (6, .int x6.1), (5, .int x5), (4, .int ((1 : Int32) + x4)), (3, .int x3), (0, .ref b1), (1, .ref b2), (2, .int b3)]) hx hb dL_comes_238 hl (by decide) rfl (fun ls hl => ?_)
                  refine lv_iload hx hb dL_comes_240 (lv_at hl 0 rfl) ?_
                  have hcf := Option.some.inj hcf; subst hcf
                  exact wk_zret hx hb hr hlocks (Or.inl rfl) hW hS dL_comes_242
                · replace hcf := (if_pos q41).symm.trans hcf
                  refine lv_aload_n hx hb dL_comes_217 rfl (lv_at hl 6 rfl) ?_
                  refine lv_iload hx hb dL_comes_218 (lv_at hl 3 rfl) ?_
                  obtain ⟨x42, hx42, hcf⟩ := ob hcf
                  refine iv_L_28 (As := [.int x5]) (rest := []) hx hb hml hown hts hE (ct_X3_begin l D cy z n Y x38.2.1 x38.2.2 b1 x5 x42 hx42) hW hS q1 rfl rfl hl.1 (Nat.le_of_ble_eq_true rfl) ⟨Nat.le_of_ble_eq_true rfl, Nat.le_of_ble_eq_true rfl⟩ dL_comes_220 ⟨Nat.zero_le _, Nat.zero_le _⟩ (fun H locs hW hS => ?_)
                  refine lv_if_ne (tgt := 237) hx hb dL_comes_223 (by decide) (fun q43 => ?_) (fun q43 => ?_)
                  · replace hcf := (if_neg q43).symm.trans hcf
                    refine lv_iconst (v := (0 : Int32)) hx hb dL_comes_237 (by decide) ?_
                    refine lv_istore (lv' := [(8, .int (0 : Int32)), (7, .int x7.1), (6, .int x6.1), (5, .int x5), (4, .int ((1 : Int32) + x4)), (3, .int x3), (0, .ref b1), (1, .ref b2), (2, .int b3)]) hx hb dL_comes_238 hl (by decide) rfl (fun ls hl => ?_)
                    refine lv_iload hx hb dL_comes_240 (lv_at hl 0 rfl) ?_
                    have hcf := Option.some.inj hcf; subst hcf
                    exact wk_zret hx hb hr hlocks (Or.inl rfl) hW hS dL_comes_242
                  · replace hcf := (if_pos q43).symm.trans hcf
                    refine lv_aload_n hx hb dL_comes_226 rfl (lv_at hl 6 rfl) ?_
                    obtain ⟨x44, hx44, hcf⟩ := ob hcf
                    refine iv_L_85 (As := []) (rest := []) hx hb hml hown hts hE (ct_X3_undo l D cy z n Y x42.2.1 x42.2.2 b1 x44 hx44) hW hS q1 rfl rfl hl.1 (Nat.le_of_ble_eq_true rfl) ⟨Nat.le_of_ble_eq_true rfl, Nat.le_of_ble_eq_true rfl⟩ dL_comes_227 ⟨Nat.zero_le _, Nat.zero_le _⟩ (fun H locs hW hS => ?_)
                    refine lv_if_lt (tgt := 237) hx hb dL_comes_230 (by decide) (fun q45 => ?_) (fun q45 => ?_)
                    · replace hcf := (if_pos q45).symm.trans hcf
                      refine lv_iconst (v := (0 : Int32)) hx hb dL_comes_237 (by decide) ?_
                      refine lv_istore (lv' := [(8, .int (0 : Int32)), (7, .int x7.1), (6, .int x6.1), (5, .int x5), (4, .int ((1 : Int32) + x4)), (3, .int x3), (0, .ref b1), (1, .ref b2), (2, .int b3)]) hx hb dL_comes_238 hl (by decide) rfl (fun ls hl => ?_)
                      refine lv_iload hx hb dL_comes_240 (lv_at hl 0 rfl) ?_
                      have hcf := Option.some.inj hcf; subst hcf
                      exact wk_zret hx hb hr hlocks (Or.inl rfl) hW hS dL_comes_242
                    · replace hcf := (if_neg q45).symm.trans hcf
                      refine lv_iconst (v := (1 : Int32)) hx hb dL_comes_233 (by decide) ?_
                      refine lv_goto (tgt := 238) hx hb dL_comes_234 (by decide) ?_
                      refine lv_istore (lv' := [(8, .int (1 : Int32)), (7, .int x7.1), (6, .int x6.1), (5, .int x5), (4, .int ((1 : Int32) + x4)), (3, .int x3), (0, .ref b1), (1, .ref b2), (2, .int b3)]) hx hb dL_comes_238 hl (by decide) rfl (fun ls hl => ?_)
                      refine lv_iload hx hb dL_comes_240 (lv_at hl 0 rfl) ?_
                      have hcf := Option.some.inj hcf; subst hcf
                      exact wk_zret hx hb hr hlocks (Or.inr rfl) hW hS dL_comes_242
      · replace hcf := (if_neg q28).symm.trans hcf
        refine lv_iload hx hb dL_comes_86 (lv_at hl 0 rfl) ?_
        refine lv_if_eq (tgt := 141) hx hb dL_comes_88 (by decide) (fun q46 => ?_) (fun q46 => ?_)
        · exact absurd q46 (by decide)
        · clear q46
          refine lv_iload hx hb dL_comes_91 (lv_at hl 2 rfl) ?_
          refine lv_iconst (v := (1 : Int32)) hx hb dL_comes_93 (by decide) ?_
          refine lv_icmp_eq (tgt := 137) hx hb dL_comes_94 (by decide) (fun q47 => ?_) (fun q47 => ?_)
          · replace hcf := (if_pos q47).symm.trans hcf
            refine lv_iconst (v := (1 : Int32)) hx hb dL_comes_137 (by decide) ?_
            refine lv_goto (tgt := 142) hx hb dL_comes_138 (by decide) ?_
            refine lv_istore (lv' := [(8, .int (1 : Int32)), (7, .int x7.1), (6, .int x6.1), (5, .int x5), (4, .int ((1 : Int32) + x4)), (3, .int x3), (0, .ref b1), (1, .ref b2), (2, .int b3)]) hx hb dL_comes_142 hl (by decide) rfl (fun ls hl => ?_)
            refine lv_iload hx hb dL_comes_144 (lv_at hl 0 rfl) ?_
            refine lv_if_eq (tgt := 180) hx hb dL_comes_146 (by decide) (fun q48 => ?_) (fun q48 => ?_)
            · exact absurd q48 (by decide)
            · clear q48
              refine lv_aload_n hx hb dL_comes_149 rfl (lv_at hl 6 rfl) ?_
              refine lv_iload hx hb dL_comes_150 (lv_at hl 2 rfl) ?_
              obtain ⟨x49, hx49, hcf⟩ := ob hcf
              refine iv_L_15 (As := [.int x6.1]) (rest := []) hx hb hml hown hts hE (ct_X3_pass l D cy z n Y x19.2 G b1 x6.1 x49 hx49) hW hS q1 rfl rfl hl.1 (Nat.le_of_ble_eq_true rfl) ⟨Nat.le_of_ble_eq_true rfl, Nat.le_of_ble_eq_true rfl⟩ dL_comes_152 ⟨Nat.zero_le _, Nat.zero_le _⟩ (fun H locs hW hS => ?_)
              refine lv_if_le (tgt := 180) hx hb dL_comes_155 (by decide) (fun q50 => ?_) (fun q50 => ?_)
              · replace hcf := (if_pos q50).symm.trans hcf
                refine lv_iconst (v := (0 : Int32)) hx hb dL_comes_180 (by decide) ?_
                refine lv_istore (lv' := [(8, .int (0 : Int32)), (7, .int x7.1), (6, .int x6.1), (5, .int x5), (4, .int ((1 : Int32) + x4)), (3, .int x3), (0, .ref b1), (1, .ref b2), (2, .int b3)]) hx hb dL_comes_181 hl (by decide) rfl (fun ls hl => ?_)
                refine lv_iload hx hb dL_comes_183 (lv_at hl 1 rfl) ?_
                refine lv_if_lt (tgt := 240) hx hb dL_comes_185 (by decide) (fun q51 => ?_) (fun q51 => ?_)
                · replace hcf := (if_pos q51).symm.trans hcf
                  refine lv_iload hx hb dL_comes_240 (lv_at hl 0 rfl) ?_
                  have hcf := Option.some.inj hcf; subst hcf
                  exact wk_zret hx hb hr hlocks (Or.inl rfl) hW hS dL_comes_242
                · replace hcf := (if_neg q51).symm.trans hcf
                  refine lv_iload hx hb dL_comes_188 (lv_at hl 0 rfl) ?_
                  refine lv_if_eq (tgt := 237) hx hb dL_comes_190 (by decide) (fun q52 => ?_) (fun q52 => ?_)
                  · clear q52
                    refine lv_iconst (v := (0 : Int32)) hx hb dL_comes_237 (by decide) ?_
                    refine lv_istore (lv' := [(8, .int (0 : Int32)), (7, .int x7.1), (6, .int x6.1), (5, .int x5), (4, .int ((1 : Int32) + x4)), (3, .int x3), (0, .ref b1), (1, .ref b2), (2, .int b3)]) hx hb dL_comes_238 hl (by decide) rfl (fun ls hl => ?_)
                    refine lv_iload hx hb dL_comes_240 (lv_at hl 0 rfl) ?_
                    have hcf := Option.some.inj hcf; subst hcf
                    exact wk_zret hx hb hr hlocks (Or.inl rfl) hW hS dL_comes_242
                  · exact absurd (by decide) q52
              · replace hcf := (if_neg q50).symm.trans hcf
                refine lv_aload_n hx hb dL_comes_158 rfl (lv_at hl 6 rfl) ?_
                refine lv_iload_n hx hb dL_comes_159 rfl (lv_at hl 5 rfl) ?_
                refine lv_iconst (v := (4 : Int32)) hx hb dL_comes_160 (by decide) ?_
                obtain ⟨x53, hx53, hcf⟩ := ob hcf
                refine iv_L_70 (As := [.int x3, .int (4 : Int32)]) (rest := []) hx hb hml hown hts hE (ct_X3_conditionOf l D cy z n Y x49.2.1 x49.2.2 b1 x3 (4 : Int32) x53 hx53) hW hS q1 rfl rfl hl.1 (Nat.le_of_ble_eq_true rfl) ⟨Nat.le_of_ble_eq_true rfl, Nat.le_of_ble_eq_true rfl⟩ dL_comes_161 ⟨Nat.zero_le _, Nat.zero_le _⟩ (fun H locs hW hS => ?_)
                refine lv_iload hx hb dL_comes_164 (lv_at hl 4 rfl) ?_
                refine lv_icmp_ne (tgt := 180) hx hb dL_comes_166 (by decide) (fun q54 => ?_) (fun q54 => ?_)
                · replace hcf := (if_neg q54).symm.trans hcf
                  refine lv_iconst (v := (0 : Int32)) hx hb dL_comes_180 (by decide) ?_
                  refine lv_istore (lv' := [(8, .int (0 : Int32)), (7, .int x7.1), (6, .int x6.1), (5, .int x5), (4, .int ((1 : Int32) + x4)), (3, .int x3), (0, .ref b1), (1, .ref b2), (2, .int b3)]) hx hb dL_comes_181 hl (by decide) rfl (fun ls hl => ?_)
                  refine lv_iload hx hb dL_comes_183 (lv_at hl 1 rfl) ?_
                  refine lv_if_lt (tgt := 240) hx hb dL_comes_185 (by decide) (fun q55 => ?_) (fun q55 => ?_)
                  · replace hcf := (if_pos q55).symm.trans hcf
                    refine lv_iload hx hb dL_comes_240 (lv_at hl 0 rfl) ?_
                    have hcf := Option.some.inj hcf; subst hcf
                    exact wk_zret hx hb hr hlocks (Or.inl rfl) hW hS dL_comes_242
                  · replace hcf := (if_neg q55).symm.trans hcf
                    refine lv_iload hx hb dL_comes_188 (lv_at hl 0 rfl) ?_
                    refine lv_if_eq (tgt := 237) hx hb dL_comes_190 (by decide) (fun q56 => ?_) (fun q56 => ?_)
                    · clear q56
                      refine lv_iconst (v := (0 : Int32)) hx hb dL_comes_237 (by decide) ?_
                      refine lv_istore (lv' := [(8, .int (0 : Int32)), (7, .int x7.1), (6, .int x6.1), (5, .int x5), (4, .int ((1 : Int32) + x4)), (3, .int x3), (0, .ref b1), (1, .ref b2), (2, .int b3)]) hx hb dL_comes_238 hl (by decide) rfl (fun ls hl => ?_)
                      refine lv_iload hx hb dL_comes_240 (lv_at hl 0 rfl) ?_
                      have hcf := Option.some.inj hcf; subst hcf
                      exact wk_zret hx hb hr hlocks (Or.inl rfl) hW hS dL_comes_242
                    · exact absurd (by decide) q56
                · replace hcf := (if_pos q54).symm.trans hcf
                  refine lv_aload_n hx hb dL_comes_169 rfl (lv_at hl 6 rfl) ?_
                  obtain ⟨x57, hx57, hcf⟩ := ob hcf
                  refine iv_L_85 (As := []) (rest := []) hx hb hml hown hts hE (ct_X3_undo l D cy z n Y x49.2.1 x49.2.2 b1 x57 hx57) hW hS q1 rfl rfl hl.1 (Nat.le_of_ble_eq_true rfl) ⟨Nat.le_of_ble_eq_true rfl, Nat.le_of_ble_eq_true rfl⟩ dL_comes_170 ⟨Nat.zero_le _, Nat.zero_le _⟩ (fun H locs hW hS => ?_)
                  refine lv_if_lt (tgt := 180) hx hb dL_comes_173 (by decide) (fun q58 => ?_) (fun q58 => ?_)
                  · replace hcf := (if_pos q58).symm.trans hcf
                    refine lv_iconst (v := (0 : Int32)) hx hb dL_comes_180 (by decide) ?_
                    refine lv_istore (lv' := [(8, .int (0 : Int32)), (7, .int x7.1), (6, .int x6.1), (5, .int x5), (4, .int ((1 : Int32) + x4)), (3, .int x3), (0, .ref b1), (1, .ref b2), (2, .int b3)]) hx hb dL_comes_181 hl (by decide) rfl (fun ls hl => ?_)
                    refine lv_iload hx hb dL_comes_183 (lv_at hl 1 rfl) ?_
                    refine lv_if_lt (tgt := 240) hx hb dL_comes_185 (by decide) (fun q59 => ?_) (fun q59 => ?_)
                    · replace hcf := (if_pos q59).symm.trans hcf
                      refine lv_iload hx hb dL_comes_240 (lv_at hl 0 rfl) ?_
                      have hcf := Option.some.inj hcf; subst hcf
                      exact wk_zret hx hb hr hlocks (Or.inl rfl) hW hS dL_comes_242
                    · replace hcf := (if_neg q59).symm.trans hcf
                      refine lv_iload hx hb dL_comes_188 (lv_at hl 0 rfl) ?_
                      refine lv_if_eq (tgt := 237) hx hb dL_comes_190 (by decide) (fun q60 => ?_) (fun q60 => ?_)
                      · clear q60
                        refine lv_iconst (v := (0 : Int32)) hx hb dL_comes_237 (by decide) ?_
                        refine lv_istore (lv' := [(8, .int (0 : Int32)), (7, .int x7.1), (6, .int x6.1), (5, .int x5), (4, .int ((1 : Int32) + x4)), (3, .int x3), (0, .ref b1), (1, .ref b2), (2, .int b3)]) hx hb dL_comes_238 hl (by decide) rfl (fun ls hl => ?_)
                        refine lv_iload hx hb dL_comes_240 (lv_at hl 0 rfl) ?_
                        have hcf := Option.some.inj hcf; subst hcf
                        exact wk_zret hx hb hr hlocks (Or.inl rfl) hW hS dL_comes_242
                      · exact absurd (by decide) q60
                  · replace hcf := (if_neg q58).symm.trans hcf
                    refine lv_iconst (v := (1 : Int32)) hx hb dL_comes_176 (by decide) ?_
                    refine lv_goto (tgt := 181) hx hb dL_comes_177 (by decide) ?_
                    refine lv_istore (lv' := [(8, .int (1 : Int32)), (7, .int x7.1), (6, .int x6.1), (5, .int x5), (4, .int ((1 : Int32) + x4)), (3, .int x3), (0, .ref b1), (1, .ref b2), (2, .int b3)]) hx hb dL_comes_181 hl (by decide) rfl (fun ls hl => ?_)
                    refine lv_iload hx hb dL_comes_183 (lv_at hl 1 rfl) ?_
                    refine lv_if_lt (tgt := 240) hx hb dL_comes_185 (by decide) (fun q61 => ?_) (fun q61 => ?_)
                    · replace hcf := (if_pos q61).symm.trans hcf
                      refine lv_iload hx hb dL_comes_240 (lv_at hl 0 rfl) ?_
                      have hcf := Option.some.inj hcf; subst hcf
                      exact wk_zret hx hb hr hlocks (Or.inr rfl) hW hS dL_comes_242
                    · replace hcf := (if_neg q61).symm.trans hcf
                      refine lv_iload hx hb dL_comes_188 (lv_at hl 0 rfl) ?_
                      refine lv_if_eq (tgt := 237) hx hb dL_comes_190 (by decide) (fun q62 => ?_) (fun q62 => ?_)
                      · exact absurd q62 (by decide)
                      · clear q62
                        refine lv_iload hx hb dL_comes_193 (lv_at hl 1 rfl) ?_
                        refine lv_if_eq (tgt := 207) hx hb dL_comes_195 (by decide) (fun q63 => ?_) (fun q63 => ?_)
                        · replace hcf := (if_pos q63).symm.trans hcf
                          refine lv_aload_n hx hb dL_comes_207 rfl (lv_at hl 6 rfl) ?_
                          refine lv_iload hx hb dL_comes_208 (lv_at hl 3 rfl) ?_
                          refine lv_iconst (v := (3 : Int32)) hx hb dL_comes_210 (by decide) ?_
                          obtain ⟨x64, hx64, hcf⟩ := ob hcf
                          refine iv_L_88 (As := [.int x5, .int (3 : Int32)]) (rest := []) hx hb hml hown hts hE (ct_X3_stageOf l D cy z n Y x57.2 x49.2.2 b1 x5 (3 : Int32) x64 hx64) hW hS q1 rfl rfl hl.1 (Nat.le_of_ble_eq_true rfl) ⟨Nat.le_of_ble_eq_true rfl, Nat.le_of_ble_eq_true rfl⟩ dL_comes_211 ⟨Nat.zero_le _, Nat.zero_le _⟩ (fun H locs hW hS => ?_)
                          refine lv_if_ne (tgt := 237) hx hb dL_comes_214 (by decide) (fun q65 => ?_) (fun q65 => ?_)
                          · replace hcf := (if_neg q65).symm.trans hcf
                            refine lv_iconst (v := (0 : Int32)) hx hb dL_comes_237 (by decide) ?_
                            refine lv_istore (lv' := [(8, .int (0 : Int32)), (7, .int x7.1), (6, .int x6.1), (5, .int x5), (4, .int ((1 : Int32) + x4)), (3, .int x3), (0, .ref b1), (1, .ref b2), (2, .int b3)]) hx hb dL_comes_238 hl (by decide) rfl (fun ls hl => ?_)
                            refine lv_iload hx hb dL_comes_240 (lv_at hl 0 rfl) ?_
                            have hcf := Option.some.inj hcf; subst hcf
                            exact wk_zret hx hb hr hlocks (Or.inl rfl) hW hS dL_comes_242
                          · replace hcf := (if_pos q65).symm.trans hcf
                            refine lv_aload_n hx hb dL_comes_217 rfl (lv_at hl 6 rfl) ?_
                            refine lv_iload hx hb dL_comes_218 (lv_at hl 3 rfl) ?_
                            obtain ⟨x66, hx66, hcf⟩ := ob hcf
                            refine iv_L_28 (As := [.int x5]) (rest := []) hx hb hml hown hts hE (ct_X3_begin l D cy z n Y x57.2 x49.2.2 b1 x5 x66 hx66) hW hS q1 rfl rfl hl.1 (Nat.le_of_ble_eq_true rfl) ⟨Nat.le_of_ble_eq_true rfl, Nat.le_of_ble_eq_true rfl⟩ dL_comes_220 ⟨Nat.zero_le _, Nat.zero_le _⟩ (fun H locs hW hS => ?_)
                            refine lv_if_ne (tgt := 237) hx hb dL_comes_223 (by decide) (fun q67 => ?_) (fun q67 => ?_)
                            · replace hcf := (if_neg q67).symm.trans hcf
                              refine lv_iconst (v := (0 : Int32)) hx hb dL_comes_237 (by decide) ?_
                              refine lv_istore (lv' := [(8, .int (0 : Int32)), (7, .int x7.1), (6, .int x6.1), (5, .int x5), (4, .int ((1 : Int32) + x4)), (3, .int x3), (0, .ref b1), (1, .ref b2), (2, .int b3)]) hx hb dL_comes_238 hl (by decide) rfl (fun ls hl => ?_)
                              refine lv_iload hx hb dL_comes_240 (lv_at hl 0 rfl) ?_
                              have hcf := Option.some.inj hcf; subst hcf
                              exact wk_zret hx hb hr hlocks (Or.inl rfl) hW hS dL_comes_242
                            · replace hcf := (if_pos q67).symm.trans hcf
                              refine lv_aload_n hx hb dL_comes_226 rfl (lv_at hl 6 rfl) ?_
                              obtain ⟨x68, hx68, hcf⟩ := ob hcf
                              refine iv_L_85 (As := []) (rest := []) hx hb hml hown hts hE (ct_X3_undo l D cy z n Y x66.2.1 x66.2.2 b1 x68 hx68) hW hS q1 rfl rfl hl.1 (Nat.le_of_ble_eq_true rfl) ⟨Nat.le_of_ble_eq_true rfl, Nat.le_of_ble_eq_true rfl⟩ dL_comes_227 ⟨Nat.zero_le _, Nat.zero_le _⟩ (fun H locs hW hS => ?_)
                              refine lv_if_lt (tgt := 237) hx hb dL_comes_230 (by decide) (fun q69 => ?_) (fun q69 => ?_)
                              · replace hcf := (if_pos q69).symm.trans hcf
                                refine lv_iconst (v := (0 : Int32)) hx hb dL_comes_237 (by decide) ?_
                                refine lv_istore (lv' := [(8, .int (0 : Int32)), (7, .int x7.1), (6, .int x6.1), (5, .int x5), (4, .int ((1 : Int32) + x4)), (3, .int x3), (0, .ref b1), (1, .ref b2), (2, .int b3)]) hx hb dL_comes_238 hl (by decide) rfl (fun ls hl => ?_)
                                refine lv_iload hx hb dL_comes_240 (lv_at hl 0 rfl) ?_
                                have hcf := Option.some.inj hcf; subst hcf
                                exact wk_zret hx hb hr hlocks (Or.inl rfl) hW hS dL_comes_242
                              · replace hcf := (if_neg q69).symm.trans hcf
                                refine lv_iconst (v := (1 : Int32)) hx hb dL_comes_233 (by decide) ?_
                                refine lv_goto (tgt := 238) hx hb dL_comes_234 (by decide) ?_
                                refine lv_istore (lv' := [(8, .int (1 : Int32)), (7, .int x7.1), (6, .int x6.1), (5, .int x5), (4, .int ((1 : Int32) + x4)), (3, .int x3), (0, .ref b1), (1, .ref b2), (2, .int b3)]) hx hb dL_comes_238 hl (by decide) rfl (fun ls hl => ?_)
                                refine lv_iload hx hb dL_comes_240 (lv_at hl 0 rfl) ?_
                                have hcf := Option.some.inj hcf; subst hcf
                                exact wk_zret hx hb hr hlocks (Or.inr rfl) hW hS dL_comes_242
                        · replace hcf := (if_neg q63).symm.trans hcf
                          refine lv_aload_n hx hb dL_comes_198 rfl (lv_at hl 6 rfl) ?_
                          refine lv_iload hx hb dL_comes_199 (lv_at hl 1 rfl) ?_
                          obtain ⟨x70, hx70, hcf⟩ := ob hcf
                          refine iv_L_15 (As := [.int x7.1]) (rest := []) hx hb hml hown hts hE (ct_X3_pass l D cy z n Y x57.2 x49.2.2 b1 x7.1 x70 hx70) hW hS q1 rfl rfl hl.1 (Nat.le_of_ble_eq_true rfl) ⟨Nat.le_of_ble_eq_true rfl, Nat.le_of_ble_eq_true rfl⟩ dL_comes_201 ⟨Nat.zero_le _, Nat.zero_le _⟩ (fun H locs hW hS => ?_)
                          refine lv_if_le (tgt := 237) hx hb dL_comes_204 (by decide) (fun q71 => ?_) (fun q71 => ?_)
                          · replace hcf := (if_pos q71).symm.trans hcf
                            refine lv_iconst (v := (0 : Int32)) hx hb dL_comes_237 (by decide) ?_
                            refine lv_istore (lv' := [(8, .int (0 : Int32)), (7, .int x7.1), (6, .int x6.1), (5, .int x5), (4, .int ((1 : Int32) + x4)), (3, .int x3), (0, .ref b1), (1, .ref b2), (2, .int b3)]) hx hb dL_comes_238 hl (by decide) rfl (fun ls hl => ?_)
                            refine lv_iload hx hb dL_comes_240 (lv_at hl 0 rfl) ?_
                            have hcf := Option.some.inj hcf; subst hcf
                            exact wk_zret hx hb hr hlocks (Or.inl rfl) hW hS dL_comes_242
                          · replace hcf := (if_neg q71).symm.trans hcf
                            refine lv_aload_n hx hb dL_comes_207 rfl (lv_at hl 6 rfl) ?_
                            refine lv_iload hx hb dL_comes_208 (lv_at hl 3 rfl) ?_
                            refine lv_iconst (v := (3 : Int32)) hx hb dL_comes_210 (by decide) ?_
                            obtain ⟨x72, hx72, hcf⟩ := ob hcf
                            refine iv_L_88 (As := [.int x5, .int (3 : Int32)]) (rest := []) hx hb hml hown hts hE (ct_X3_stageOf l D cy z n Y x70.2.1 x70.2.2 b1 x5 (3 : Int32) x72 hx72) hW hS q1 rfl rfl hl.1 (Nat.le_of_ble_eq_true rfl) ⟨Nat.le_of_ble_eq_true rfl, Nat.le_of_ble_eq_true rfl⟩ dL_comes_211 ⟨Nat.zero_le _, Nat.zero_le _⟩ (fun H locs hW hS => ?_)
                            refine lv_if_ne (tgt := 237) hx hb dL_comes_214 (by decide) (fun q73 => ?_) (fun q73 => ?_)
                            · replace hcf := (if_neg q73).symm.trans hcf
                              refine lv_iconst (v := (0 : Int32)) hx hb dL_comes_237 (by decide) ?_
                              refine lv_istore (lv' := [(8, .int (0 : Int32)), (7, .int x7.1), (6, .int x6.1), (5, .int x5), (4, .int ((1 : Int32) + x4)), (3, .int x3), (0, .ref b1), (1, .ref b2), (2, .int b3)]) hx hb dL_comes_238 hl (by decide) rfl (fun ls hl => ?_)
                              refine lv_iload hx hb dL_comes_240 (lv_at hl 0 rfl) ?_
                              have hcf := Option.some.inj hcf; subst hcf
                              exact wk_zret hx hb hr hlocks (Or.inl rfl) hW hS dL_comes_242
                            · replace hcf := (if_pos q73).symm.trans hcf
                              refine lv_aload_n hx hb dL_comes_217 rfl (lv_at hl 6 rfl) ?_
                              refine lv_iload hx hb dL_comes_218 (lv_at hl 3 rfl) ?_
                              obtain ⟨x74, hx74, hcf⟩ := ob hcf
                              refine iv_L_28 (As := [.int x5]) (rest := []) hx hb hml hown hts hE (ct_X3_begin l D cy z n Y x70.2.1 x70.2.2 b1 x5 x74 hx74) hW hS q1 rfl rfl hl.1 (Nat.le_of_ble_eq_true rfl) ⟨Nat.le_of_ble_eq_true rfl, Nat.le_of_ble_eq_true rfl⟩ dL_comes_220 ⟨Nat.zero_le _, Nat.zero_le _⟩ (fun H locs hW hS => ?_)
                              refine lv_if_ne (tgt := 237) hx hb dL_comes_223 (by decide) (fun q75 => ?_) (fun q75 => ?_)
                              · replace hcf := (if_neg q75).symm.trans hcf
                                refine lv_iconst (v := (0 : Int32)) hx hb dL_comes_237 (by decide) ?_
                                refine lv_istore (lv' := [(8, .int (0 : Int32)), (7, .int x7.1), (6, .int x6.1), (5, .int x5), (4, .int ((1 : Int32) + x4)), (3, .int x3), (0, .ref b1), (1, .ref b2), (2, .int b3)]) hx hb dL_comes_238 hl (by decide) rfl (fun ls hl => ?_)
                                refine lv_iload hx hb dL_comes_240 (lv_at hl 0 rfl) ?_
                                have hcf := Option.some.inj hcf; subst hcf
                                exact wk_zret hx hb hr hlocks (Or.inl rfl) hW hS dL_comes_242
                              · replace hcf := (if_pos q75).symm.trans hcf
                                refine lv_aload_n hx hb dL_comes_226 rfl (lv_at hl 6 rfl) ?_
                                obtain ⟨x76, hx76, hcf⟩ := ob hcf
                                refine iv_L_85 (As := []) (rest := []) hx hb hml hown hts hE (ct_X3_undo l D cy z n Y x74.2.1 x74.2.2 b1 x76 hx76) hW hS q1 rfl rfl hl.1 (Nat.le_of_ble_eq_true rfl) ⟨Nat.le_of_ble_eq_true rfl, Nat.le_of_ble_eq_true rfl⟩ dL_comes_227 ⟨Nat.zero_le _, Nat.zero_le _⟩ (fun H locs hW hS => ?_)
                                refine lv_if_lt (tgt := 237) hx hb dL_comes_230 (by decide) (fun q77 => ?_) (fun q77 => ?_)
                                · replace hcf := (if_pos q77).symm.trans hcf
                                  refine lv_iconst (v := (0 : Int32)) hx hb dL_comes_237 (by decide) ?_
                                  refine lv_istore (lv' := [(8, .int (0 : Int32)), (7, .int x7.1), (6, .int x6.1), (5, .int x5), (4, .int ((1 : Int32) + x4)), (3, .int x3), (0, .ref b1), (1, .ref b2), (2, .int b3)]) hx hb dL_comes_238 hl (by decide) rfl (fun ls hl => ?_)
                                  refine lv_iload hx hb dL_comes_240 (lv_at hl 0 rfl) ?_
                                  have hcf := Option.some.inj hcf; subst hcf
                                  exact wk_zret hx hb hr hlocks (Or.inl rfl) hW hS dL_comes_242
                                · replace hcf := (if_neg q77).symm.trans hcf
                                  refine lv_iconst (v := (1 : Int32)) hx hb dL_comes_233 (by decide) ?_
                                  refine lv_goto (tgt := 238) hx hb dL_comes_234 (by decide) ?_
                                  refine lv_istore (lv' := [(8, .int (1 : Int32)), (7, .int x7.1), (6, .int x6.1), (5, .int x5), (4, .int ((1 : Int32) + x4)), (3, .int x3), (0, .ref b1), (1, .ref b2), (2, .int b3)]) hx hb dL_comes_238 hl (by decide) rfl (fun ls hl => ?_)
                                  refine lv_iload hx hb dL_comes_240 (lv_at hl 0 rfl) ?_
                                  have hcf := Option.some.inj hcf; subst hcf
                                  exact wk_zret hx hb hr hlocks (Or.inr rfl) hW hS dL_comes_242
          · replace hcf := (if_neg q47).symm.trans hcf
            refine lv_aload_n hx hb dL_comes_97 rfl (lv_at hl 6 rfl) ?_
            refine lv_iload hx hb dL_comes_98 (lv_at hl 2 rfl) ?_
            refine lv_iconst (v := (1 : Int32)) hx hb dL_comes_100 (by decide) ?_
            refine lv_isub hx hb dL_comes_101 ?_
            obtain ⟨x78, hx78, hcf⟩ := ob hcf
            refine iv_L_15 (As := [.int (x6.1 - (1 : Int32))]) (rest := []) hx hb hml hown hts hE (ct_X3_pass l D cy z n Y x19.2 G b1 (x6.1 - (1 : Int32)) x78 hx78) hW hS q1 rfl rfl hl.1 (Nat.le_of_ble_eq_true rfl) ⟨Nat.le_of_ble_eq_true rfl, Nat.le_of_ble_eq_true rfl⟩ dL_comes_102 ⟨Nat.zero_le _, Nat.zero_le _⟩ (fun H locs hW hS => ?_)
            refine lv_if_le (tgt := 141) hx hb dL_comes_105 (by decide) (fun q79 => ?_) (fun q79 => ?_)
            · replace hcf := (if_pos q79).symm.trans hcf
              refine lv_iconst (v := (0 : Int32)) hx hb dL_comes_141 (by decide) ?_
              refine lv_istore (lv' := [(8, .int (0 : Int32)), (7, .int x7.1), (6, .int x6.1), (5, .int x5), (4, .int ((1 : Int32) + x4)), (3, .int x3), (0, .ref b1), (1, .ref b2), (2, .int b3)]) hx hb dL_comes_142 hl (by decide) rfl (fun ls hl => ?_)
              refine lv_iload hx hb dL_comes_144 (lv_at hl 0 rfl) ?_
              refine lv_if_eq (tgt := 180) hx hb dL_comes_146 (by decide) (fun q80 => ?_) (fun q80 => ?_)
              · clear q80
                refine lv_iconst (v := (0 : Int32)) hx hb dL_comes_180 (by decide) ?_
                refine lv_istore (lv' := [(8, .int (0 : Int32)), (7, .int x7.1), (6, .int x6.1), (5, .int x5), (4, .int ((1 : Int32) + x4)), (3, .int x3), (0, .ref b1), (1, .ref b2), (2, .int b3)]) hx hb dL_comes_181 hl (by decide) rfl (fun ls hl => ?_)
                refine lv_iload hx hb dL_comes_183 (lv_at hl 1 rfl) ?_
                refine lv_if_lt (tgt := 240) hx hb dL_comes_185 (by decide) (fun q81 => ?_) (fun q81 => ?_)
                · replace hcf := (if_pos q81).symm.trans hcf
                  refine lv_iload hx hb dL_comes_240 (lv_at hl 0 rfl) ?_
                  have hcf := Option.some.inj hcf; subst hcf
                  exact wk_zret hx hb hr hlocks (Or.inl rfl) hW hS dL_comes_242
                · replace hcf := (if_neg q81).symm.trans hcf
                  refine lv_iload hx hb dL_comes_188 (lv_at hl 0 rfl) ?_
                  refine lv_if_eq (tgt := 237) hx hb dL_comes_190 (by decide) (fun q82 => ?_) (fun q82 => ?_)
                  · clear q82
                    refine lv_iconst (v := (0 : Int32)) hx hb dL_comes_237 (by decide) ?_
                    refine lv_istore (lv' := [(8, .int (0 : Int32)), (7, .int x7.1), (6, .int x6.1), (5, .int x5), (4, .int ((1 : Int32) + x4)), (3, .int x3), (0, .ref b1), (1, .ref b2), (2, .int b3)]) hx hb dL_comes_238 hl (by decide) rfl (fun ls hl => ?_)
                    refine lv_iload hx hb dL_comes_240 (lv_at hl 0 rfl) ?_
                    have hcf := Option.some.inj hcf; subst hcf
                    exact wk_zret hx hb hr hlocks (Or.inl rfl) hW hS dL_comes_242
                  · exact absurd (by decide) q82
              · exact absurd (by decide) q80
            · replace hcf := (if_neg q79).symm.trans hcf
              refine lv_aload_n hx hb dL_comes_108 rfl (lv_at hl 6 rfl) ?_
              refine lv_iload_n hx hb dL_comes_109 rfl (lv_at hl 5 rfl) ?_
              refine lv_iconst (v := (4 : Int32)) hx hb dL_comes_110 (by decide) ?_
              obtain ⟨x83, hx83, hcf⟩ := ob hcf
              refine iv_L_70 (As := [.int x3, .int (4 : Int32)]) (rest := []) hx hb hml hown hts hE (ct_X3_conditionOf l D cy z n Y x78.2.1 x78.2.2 b1 x3 (4 : Int32) x83 hx83) hW hS q1 rfl rfl hl.1 (Nat.le_of_ble_eq_true rfl) ⟨Nat.le_of_ble_eq_true rfl, Nat.le_of_ble_eq_true rfl⟩ dL_comes_111 ⟨Nat.zero_le _, Nat.zero_le _⟩ (fun H locs hW hS => ?_)
              refine lv_iload hx hb dL_comes_114 (lv_at hl 4 rfl) ?_
              refine lv_icmp_eq (tgt := 141) hx hb dL_comes_116 (by decide) (fun q84 => ?_) (fun q84 => ?_)
              · replace hcf := (if_pos q84).symm.trans hcf
                refine lv_iconst (v := (0 : Int32)) hx hb dL_comes_141 (by decide) ?_
                refine lv_istore (lv' := [(8, .int (0 : Int32)), (7, .int x7.1), (6, .int x6.1), (5, .int x5), (4, .int ((1 : Int32) + x4)), (3, .int x3), (0, .ref b1), (1, .ref b2), (2, .int b3)]) hx hb dL_comes_142 hl (by decide) rfl (fun ls hl => ?_)
                refine lv_iload hx hb dL_comes_144 (lv_at hl 0 rfl) ?_
                refine lv_if_eq (tgt := 180) hx hb dL_comes_146 (by decide) (fun q85 => ?_) (fun q85 => ?_)
                · clear q85
                  refine lv_iconst (v := (0 : Int32)) hx hb dL_comes_180 (by decide) ?_
                  refine lv_istore (lv' := [(8, .int (0 : Int32)), (7, .int x7.1), (6, .int x6.1), (5, .int x5), (4, .int ((1 : Int32) + x4)), (3, .int x3), (0, .ref b1), (1, .ref b2), (2, .int b3)]) hx hb dL_comes_181 hl (by decide) rfl (fun ls hl => ?_)
                  refine lv_iload hx hb dL_comes_183 (lv_at hl 1 rfl) ?_
                  refine lv_if_lt (tgt := 240) hx hb dL_comes_185 (by decide) (fun q86 => ?_) (fun q86 => ?_)
                  · replace hcf := (if_pos q86).symm.trans hcf
                    refine lv_iload hx hb dL_comes_240 (lv_at hl 0 rfl) ?_
                    have hcf := Option.some.inj hcf; subst hcf
                    exact wk_zret hx hb hr hlocks (Or.inl rfl) hW hS dL_comes_242
                  · replace hcf := (if_neg q86).symm.trans hcf
                    refine lv_iload hx hb dL_comes_188 (lv_at hl 0 rfl) ?_
                    refine lv_if_eq (tgt := 237) hx hb dL_comes_190 (by decide) (fun q87 => ?_) (fun q87 => ?_)
                    · clear q87
                      refine lv_iconst (v := (0 : Int32)) hx hb dL_comes_237 (by decide) ?_
                      refine lv_istore (lv' := [(8, .int (0 : Int32)), (7, .int x7.1), (6, .int x6.1), (5, .int x5), (4, .int ((1 : Int32) + x4)), (3, .int x3), (0, .ref b1), (1, .ref b2), (2, .int b3)]) hx hb dL_comes_238 hl (by decide) rfl (fun ls hl => ?_)
                      refine lv_iload hx hb dL_comes_240 (lv_at hl 0 rfl) ?_
                      have hcf := Option.some.inj hcf; subst hcf
                      exact wk_zret hx hb hr hlocks (Or.inl rfl) hW hS dL_comes_242
                    · exact absurd (by decide) q87
                · exact absurd (by decide) q85
              · replace hcf := (if_neg q84).symm.trans hcf
                refine lv_aload_n hx hb dL_comes_119 rfl (lv_at hl 6 rfl) ?_
                refine lv_iload_n hx hb dL_comes_120 rfl (lv_at hl 5 rfl) ?_
                refine lv_iload hx hb dL_comes_121 (lv_at hl 4 rfl) ?_
                obtain ⟨x88, hx88, hcf⟩ := ob hcf
                refine iv_L_73 (As := [.int x3, .int ((1 : Int32) + x4)]) (rest := []) hx hb hml hown hts hE (ct_X3_when l D cy z n Y x78.2.1 x78.2.2 b1 x3 ((1 : Int32) + x4) x88 hx88) hW hS q1 rfl rfl hl.1 (Nat.le_of_ble_eq_true rfl) ⟨Nat.le_of_ble_eq_true rfl, Nat.le_of_ble_eq_true rfl⟩ dL_comes_123 ⟨Nat.zero_le _, Nat.zero_le _⟩ (fun H locs hW hS => ?_)
                refine lv_iconst (v := (1 : Int32)) hx hb dL_comes_126 (by decide) ?_
                refine lv_icmp_ne (tgt := 141) hx hb dL_comes_127 (by decide) (fun q89 => ?_) (fun q89 => ?_)
                · replace hcf := (if_neg q89).symm.trans hcf
                  refine lv_iconst (v := (0 : Int32)) hx hb dL_comes_141 (by decide) ?_
                  refine lv_istore (lv' := [(8, .int (0 : Int32)), (7, .int x7.1), (6, .int x6.1), (5, .int x5), (4, .int ((1 : Int32) + x4)), (3, .int x3), (0, .ref b1), (1, .ref b2), (2, .int b3)]) hx hb dL_comes_142 hl (by decide) rfl (fun ls hl => ?_)
                  refine lv_iload hx hb dL_comes_144 (lv_at hl 0 rfl) ?_
                  refine lv_if_eq (tgt := 180) hx hb dL_comes_146 (by decide) (fun q90 => ?_) (fun q90 => ?_)
                  · clear q90
                    refine lv_iconst (v := (0 : Int32)) hx hb dL_comes_180 (by decide) ?_
                    refine lv_istore (lv' := [(8, .int (0 : Int32)), (7, .int x7.1), (6, .int x6.1), (5, .int x5), (4, .int ((1 : Int32) + x4)), (3, .int x3), (0, .ref b1), (1, .ref b2), (2, .int b3)]) hx hb dL_comes_181 hl (by decide) rfl (fun ls hl => ?_)
                    refine lv_iload hx hb dL_comes_183 (lv_at hl 1 rfl) ?_
                    refine lv_if_lt (tgt := 240) hx hb dL_comes_185 (by decide) (fun q91 => ?_) (fun q91 => ?_)
                    · replace hcf := (if_pos q91).symm.trans hcf
                      refine lv_iload hx hb dL_comes_240 (lv_at hl 0 rfl) ?_
                      have hcf := Option.some.inj hcf; subst hcf
                      exact wk_zret hx hb hr hlocks (Or.inl rfl) hW hS dL_comes_242
                    · replace hcf := (if_neg q91).symm.trans hcf
                      refine lv_iload hx hb dL_comes_188 (lv_at hl 0 rfl) ?_
                      refine lv_if_eq (tgt := 237) hx hb dL_comes_190 (by decide) (fun q92 => ?_) (fun q92 => ?_)
                      · clear q92
                        refine lv_iconst (v := (0 : Int32)) hx hb dL_comes_237 (by decide) ?_
                        refine lv_istore (lv' := [(8, .int (0 : Int32)), (7, .int x7.1), (6, .int x6.1), (5, .int x5), (4, .int ((1 : Int32) + x4)), (3, .int x3), (0, .ref b1), (1, .ref b2), (2, .int b3)]) hx hb dL_comes_238 hl (by decide) rfl (fun ls hl => ?_)
                        refine lv_iload hx hb dL_comes_240 (lv_at hl 0 rfl) ?_
                        have hcf := Option.some.inj hcf; subst hcf
                        exact wk_zret hx hb hr hlocks (Or.inl rfl) hW hS dL_comes_242
                      · exact absurd (by decide) q92
                  · exact absurd (by decide) q90
                · replace hcf := (if_pos q89).symm.trans hcf
                  refine lv_aload_n hx hb dL_comes_130 rfl (lv_at hl 6 rfl) ?_
                  obtain ⟨x93, hx93, hcf⟩ := ob hcf
                  refine iv_L_85 (As := []) (rest := []) hx hb hml hown hts hE (ct_X3_undo l D cy z n Y x88.2 x78.2.2 b1 x93 hx93) hW hS q1 rfl rfl hl.1 (Nat.le_of_ble_eq_true rfl) ⟨Nat.le_of_ble_eq_true rfl, Nat.le_of_ble_eq_true rfl⟩ dL_comes_131 ⟨Nat.zero_le _, Nat.zero_le _⟩ (fun H locs hW hS => ?_)
                  refine lv_if_lt (tgt := 141) hx hb dL_comes_134 (by decide) (fun q94 => ?_) (fun q94 => ?_)
                  · replace hcf := (if_pos q94).symm.trans hcf
                    refine lv_iconst (v := (0 : Int32)) hx hb dL_comes_141 (by decide) ?_
                    refine lv_istore (lv' := [(8, .int (0 : Int32)), (7, .int x7.1), (6, .int x6.1), (5, .int x5), (4, .int ((1 : Int32) + x4)), (3, .int x3), (0, .ref b1), (1, .ref b2), (2, .int b3)]) hx hb dL_comes_142 hl (by decide) rfl (fun ls hl => ?_)
                    refine lv_iload hx hb dL_comes_144 (lv_at hl 0 rfl) ?_
                    refine lv_if_eq (tgt := 180) hx hb dL_comes_146 (by decide) (fun q95 => ?_) (fun q95 => ?_)
                    · clear q95
                      refine lv_iconst (v := (0 : Int32)) hx hb dL_comes_180 (by decide) ?_
                      refine lv_istore (lv' := [(8, .int (0 : Int32)), (7, .int x7.1), (6, .int x6.1), (5, .int x5), (4, .int ((1 : Int32) + x4)), (3, .int x3), (0, .ref b1), (1, .ref b2), (2, .int b3)]) hx hb dL_comes_181 hl (by decide) rfl (fun ls hl => ?_)
                      refine lv_iload hx hb dL_comes_183 (lv_at hl 1 rfl) ?_
                      refine lv_if_lt (tgt := 240) hx hb dL_comes_185 (by decide) (fun q96 => ?_) (fun q96 => ?_)
                      · replace hcf := (if_pos q96).symm.trans hcf
                        refine lv_iload hx hb dL_comes_240 (lv_at hl 0 rfl) ?_
                        have hcf := Option.some.inj hcf; subst hcf
                        exact wk_zret hx hb hr hlocks (Or.inl rfl) hW hS dL_comes_242
                      · replace hcf := (if_neg q96).symm.trans hcf
                        refine lv_iload hx hb dL_comes_188 (lv_at hl 0 rfl) ?_
                        refine lv_if_eq (tgt := 237) hx hb dL_comes_190 (by decide) (fun q97 => ?_) (fun q97 => ?_)
                        · clear q97
                          refine lv_iconst (v := (0 : Int32)) hx hb dL_comes_237 (by decide) ?_
                          refine lv_istore (lv' := [(8, .int (0 : Int32)), (7, .int x7.1), (6, .int x6.1), (5, .int x5), (4, .int ((1 : Int32) + x4)), (3, .int x3), (0, .ref b1), (1, .ref b2), (2, .int b3)]) hx hb dL_comes_238 hl (by decide) rfl (fun ls hl => ?_)
                          refine lv_iload hx hb dL_comes_240 (lv_at hl 0 rfl) ?_
                          have hcf := Option.some.inj hcf; subst hcf
                          exact wk_zret hx hb hr hlocks (Or.inl rfl) hW hS dL_comes_242
                        · exact absurd (by decide) q97
                    · exact absurd (by decide) q95
                  · replace hcf := (if_neg q94).symm.trans hcf
                    refine lv_iconst (v := (1 : Int32)) hx hb dL_comes_137 (by decide) ?_
                    refine lv_goto (tgt := 142) hx hb dL_comes_138 (by decide) ?_
                    refine lv_istore (lv' := [(8, .int (1 : Int32)), (7, .int x7.1), (6, .int x6.1), (5, .int x5), (4, .int ((1 : Int32) + x4)), (3, .int x3), (0, .ref b1), (1, .ref b2), (2, .int b3)]) hx hb dL_comes_142 hl (by decide) rfl (fun ls hl => ?_)
                    refine lv_iload hx hb dL_comes_144 (lv_at hl 0 rfl) ?_
                    refine lv_if_eq (tgt := 180) hx hb dL_comes_146 (by decide) (fun q98 => ?_) (fun q98 => ?_)
                    · exact absurd q98 (by decide)
                    · clear q98
                      refine lv_aload_n hx hb dL_comes_149 rfl (lv_at hl 6 rfl) ?_
                      refine lv_iload hx hb dL_comes_150 (lv_at hl 2 rfl) ?_
                      obtain ⟨x99, hx99, hcf⟩ := ob hcf
                      refine iv_L_15 (As := [.int x6.1]) (rest := []) hx hb hml hown hts hE (ct_X3_pass l D cy z n Y x93.2 x78.2.2 b1 x6.1 x99 hx99) hW hS q1 rfl rfl hl.1 (Nat.le_of_ble_eq_true rfl) ⟨Nat.le_of_ble_eq_true rfl, Nat.le_of_ble_eq_true rfl⟩ dL_comes_152 ⟨Nat.zero_le _, Nat.zero_le _⟩ (fun H locs hW hS => ?_)
                      refine lv_if_le (tgt := 180) hx hb dL_comes_155 (by decide) (fun q100 => ?_) (fun q100 => ?_)
                      · replace hcf := (if_pos q100).symm.trans hcf
                        refine lv_iconst (v := (0 : Int32)) hx hb dL_comes_180 (by decide) ?_
                        refine lv_istore (lv' := [(8, .int (0 : Int32)), (7, .int x7.1), (6, .int x6.1), (5, .int x5), (4, .int ((1 : Int32) + x4)), (3, .int x3), (0, .ref b1), (1, .ref b2), (2, .int b3)]) hx hb dL_comes_181 hl (by decide) rfl (fun ls hl => ?_)
                        refine lv_iload hx hb dL_comes_183 (lv_at hl 1 rfl) ?_
                        refine lv_if_lt (tgt := 240) hx hb dL_comes_185 (by decide) (fun q101 => ?_) (fun q101 => ?_)
                        · replace hcf := (if_pos q101).symm.trans hcf
                          refine lv_iload hx hb dL_comes_240 (lv_at hl 0 rfl) ?_
                          have hcf := Option.some.inj hcf; subst hcf
                          exact wk_zret hx hb hr hlocks (Or.inl rfl) hW hS dL_comes_242
                        · replace hcf := (if_neg q101).symm.trans hcf
                          refine lv_iload hx hb dL_comes_188 (lv_at hl 0 rfl) ?_
                          refine lv_if_eq (tgt := 237) hx hb dL_comes_190 (by decide) (fun q102 => ?_) (fun q102 => ?_)
                          · clear q102
                            refine lv_iconst (v := (0 : Int32)) hx hb dL_comes_237 (by decide) ?_
                            refine lv_istore (lv' := [(8, .int (0 : Int32)), (7, .int x7.1), (6, .int x6.1), (5, .int x5), (4, .int ((1 : Int32) + x4)), (3, .int x3), (0, .ref b1), (1, .ref b2), (2, .int b3)]) hx hb dL_comes_238 hl (by decide) rfl (fun ls hl => ?_)
                            refine lv_iload hx hb dL_comes_240 (lv_at hl 0 rfl) ?_
                            have hcf := Option.some.inj hcf; subst hcf
                            exact wk_zret hx hb hr hlocks (Or.inl rfl) hW hS dL_comes_242
                          · exact absurd (by decide) q102
                      · replace hcf := (if_neg q100).symm.trans hcf
                        refine lv_aload_n hx hb dL_comes_158 rfl (lv_at hl 6 rfl) ?_
                        refine lv_iload_n hx hb dL_comes_159 rfl (lv_at hl 5 rfl) ?_
                        refine lv_iconst (v := (4 : Int32)) hx hb dL_comes_160 (by decide) ?_
                        obtain ⟨x103, hx103, hcf⟩ := ob hcf
                        refine iv_L_70 (As := [.int x3, .int (4 : Int32)]) (rest := []) hx hb hml hown hts hE (ct_X3_conditionOf l D cy z n Y x99.2.1 x99.2.2 b1 x3 (4 : Int32) x103 hx103) hW hS q1 rfl rfl hl.1 (Nat.le_of_ble_eq_true rfl) ⟨Nat.le_of_ble_eq_true rfl, Nat.le_of_ble_eq_true rfl⟩ dL_comes_161 ⟨Nat.zero_le _, Nat.zero_le _⟩ (fun H locs hW hS => ?_)
                        refine lv_iload hx hb dL_comes_164 (lv_at hl 4 rfl) ?_
                        refine lv_icmp_ne (tgt := 180) hx hb dL_comes_166 (by decide) (fun q104 => ?_) (fun q104 => ?_)
                        · replace hcf := (if_neg q104).symm.trans hcf
                          refine lv_iconst (v := (0 : Int32)) hx hb dL_comes_180 (by decide) ?_
                          refine lv_istore (lv' := [(8, .int (0 : Int32)), (7, .int x7.1), (6, .int x6.1), (5, .int x5), (4, .int ((1 : Int32) + x4)), (3, .int x3), (0, .ref b1), (1, .ref b2), (2, .int b3)]) hx hb dL_comes_181 hl (by decide) rfl (fun ls hl => ?_)
                          refine lv_iload hx hb dL_comes_183 (lv_at hl 1 rfl) ?_
                          refine lv_if_lt (tgt := 240) hx hb dL_comes_185 (by decide) (fun q105 => ?_) (fun q105 => ?_)
                          · replace hcf := (if_pos q105).symm.trans hcf
                            refine lv_iload hx hb dL_comes_240 (lv_at hl 0 rfl) ?_
                            have hcf := Option.some.inj hcf; subst hcf
                            exact wk_zret hx hb hr hlocks (Or.inl rfl) hW hS dL_comes_242
                          · replace hcf := (if_neg q105).symm.trans hcf
                            refine lv_iload hx hb dL_comes_188 (lv_at hl 0 rfl) ?_
                            refine lv_if_eq (tgt := 237) hx hb dL_comes_190 (by decide) (fun q106 => ?_) (fun q106 => ?_)
                            · clear q106
                              refine lv_iconst (v := (0 : Int32)) hx hb dL_comes_237 (by decide) ?_
                              refine lv_istore (lv' := [(8, .int (0 : Int32)), (7, .int x7.1), (6, .int x6.1), (5, .int x5), (4, .int ((1 : Int32) + x4)), (3, .int x3), (0, .ref b1), (1, .ref b2), (2, .int b3)]) hx hb dL_comes_238 hl (by decide) rfl (fun ls hl => ?_)
                              refine lv_iload hx hb dL_comes_240 (lv_at hl 0 rfl) ?_
                              have hcf := Option.some.inj hcf; subst hcf
                              exact wk_zret hx hb hr hlocks (Or.inl rfl) hW hS dL_comes_242
                            · exact absurd (by decide) q106
                        · replace hcf := (if_pos q104).symm.trans hcf
                          refine lv_aload_n hx hb dL_comes_169 rfl (lv_at hl 6 rfl) ?_
                          obtain ⟨x107, hx107, hcf⟩ := ob hcf
                          refine iv_L_85 (As := []) (rest := []) hx hb hml hown hts hE (ct_X3_undo l D cy z n Y x99.2.1 x99.2.2 b1 x107 hx107) hW hS q1 rfl rfl hl.1 (Nat.le_of_ble_eq_true rfl) ⟨Nat.le_of_ble_eq_true rfl, Nat.le_of_ble_eq_true rfl⟩ dL_comes_170 ⟨Nat.zero_le _, Nat.zero_le _⟩ (fun H locs hW hS => ?_)
                          refine lv_if_lt (tgt := 180) hx hb dL_comes_173 (by decide) (fun q108 => ?_) (fun q108 => ?_)
                          · replace hcf := (if_pos q108).symm.trans hcf
                            refine lv_iconst (v := (0 : Int32)) hx hb dL_comes_180 (by decide) ?_
                            refine lv_istore (lv' := [(8, .int (0 : Int32)), (7, .int x7.1), (6, .int x6.1), (5, .int x5), (4, .int ((1 : Int32) + x4)), (3, .int x3), (0, .ref b1), (1, .ref b2), (2, .int b3)]) hx hb dL_comes_181 hl (by decide) rfl (fun ls hl => ?_)
                            refine lv_iload hx hb dL_comes_183 (lv_at hl 1 rfl) ?_
                            refine lv_if_lt (tgt := 240) hx hb dL_comes_185 (by decide) (fun q109 => ?_) (fun q109 => ?_)
                            · replace hcf := (if_pos q109).symm.trans hcf
                              refine lv_iload hx hb dL_comes_240 (lv_at hl 0 rfl) ?_
                              have hcf := Option.some.inj hcf; subst hcf
                              exact wk_zret hx hb hr hlocks (Or.inl rfl) hW hS dL_comes_242
                            · replace hcf := (if_neg q109).symm.trans hcf
                              refine lv_iload hx hb dL_comes_188 (lv_at hl 0 rfl) ?_
                              refine lv_if_eq (tgt := 237) hx hb dL_comes_190 (by decide) (fun q110 => ?_) (fun q110 => ?_)
                              · clear q110
                                refine lv_iconst (v := (0 : Int32)) hx hb dL_comes_237 (by decide) ?_
                                refine lv_istore (lv' := [(8, .int (0 : Int32)), (7, .int x7.1), (6, .int x6.1), (5, .int x5), (4, .int ((1 : Int32) + x4)), (3, .int x3), (0, .ref b1), (1, .ref b2), (2, .int b3)]) hx hb dL_comes_238 hl (by decide) rfl (fun ls hl => ?_)
                                refine lv_iload hx hb dL_comes_240 (lv_at hl 0 rfl) ?_
                                have hcf := Option.some.inj hcf; subst hcf
                                exact wk_zret hx hb hr hlocks (Or.inl rfl) hW hS dL_comes_242
                              · exact absurd (by decide) q110
                          · replace hcf := (if_neg q108).symm.trans hcf
                            refine lv_iconst (v := (1 : Int32)) hx hb dL_comes_176 (by decide) ?_
                            refine lv_goto (tgt := 181) hx hb dL_comes_177 (by decide) ?_
                            refine lv_istore (lv' := [(8, .int (1 : Int32)), (7, .int x7.1), (6, .int x6.1), (5, .int x5), (4, .int ((1 : Int32) + x4)), (3, .int x3), (0, .ref b1), (1, .ref b2), (2, .int b3)]) hx hb dL_comes_181 hl (by decide) rfl (fun ls hl => ?_)
                            refine lv_iload hx hb dL_comes_183 (lv_at hl 1 rfl) ?_
                            refine lv_if_lt (tgt := 240) hx hb dL_comes_185 (by decide) (fun q111 => ?_) (fun q111 => ?_)
                            · replace hcf := (if_pos q111).symm.trans hcf
                              refine lv_iload hx hb dL_comes_240 (lv_at hl 0 rfl) ?_
                              have hcf := Option.some.inj hcf; subst hcf
                              exact wk_zret hx hb hr hlocks (Or.inr rfl) hW hS dL_comes_242
                            · replace hcf := (if_neg q111).symm.trans hcf
                              refine lv_iload hx hb dL_comes_188 (lv_at hl 0 rfl) ?_
                              refine lv_if_eq (tgt := 237) hx hb dL_comes_190 (by decide) (fun q112 => ?_) (fun q112 => ?_)
                              · exact absurd q112 (by decide)
                              · clear q112
                                refine lv_iload hx hb dL_comes_193 (lv_at hl 1 rfl) ?_
                                refine lv_if_eq (tgt := 207) hx hb dL_comes_195 (by decide) (fun q113 => ?_) (fun q113 => ?_)
                                · replace hcf := (if_pos q113).symm.trans hcf
                                  refine lv_aload_n hx hb dL_comes_207 rfl (lv_at hl 6 rfl) ?_
                                  refine lv_iload hx hb dL_comes_208 (lv_at hl 3 rfl) ?_
                                  refine lv_iconst (v := (3 : Int32)) hx hb dL_comes_210 (by decide) ?_
                                  obtain ⟨x114, hx114, hcf⟩ := ob hcf
                                  refine iv_L_88 (As := [.int x5, .int (3 : Int32)]) (rest := []) hx hb hml hown hts hE (ct_X3_stageOf l D cy z n Y x107.2 x99.2.2 b1 x5 (3 : Int32) x114 hx114) hW hS q1 rfl rfl hl.1 (Nat.le_of_ble_eq_true rfl) ⟨Nat.le_of_ble_eq_true rfl, Nat.le_of_ble_eq_true rfl⟩ dL_comes_211 ⟨Nat.zero_le _, Nat.zero_le _⟩ (fun H locs hW hS => ?_)
                                  refine lv_if_ne (tgt := 237) hx hb dL_comes_214 (by decide) (fun q115 => ?_) (fun q115 => ?_)
                                  · replace hcf := (if_neg q115).symm.trans hcf
                                    refine lv_iconst (v := (0 : Int32)) hx hb dL_comes_237 (by decide) ?_
                                    refine lv_istore (lv' := [(8, .int (0 : Int32)), (7, .int x7.1), (6, .int x6.1), (5, .int x5), (4, .int ((1 : Int32) + x4)), (3, .int x3), (0, .ref b1), (1, .ref b2), (2, .int b3)]) hx hb dL_comes_238 hl (by decide) rfl (fun ls hl => ?_)
                                    refine lv_iload hx hb dL_comes_240 (lv_at hl 0 rfl) ?_
                                    have hcf := Option.some.inj hcf; subst hcf
                                    exact wk_zret hx hb hr hlocks (Or.inl rfl) hW hS dL_comes_242
                                  · replace hcf := (if_pos q115).symm.trans hcf
                                    refine lv_aload_n hx hb dL_comes_217 rfl (lv_at hl 6 rfl) ?_
                                    refine lv_iload hx hb dL_comes_218 (lv_at hl 3 rfl) ?_
                                    obtain ⟨x116, hx116, hcf⟩ := ob hcf
                                    refine iv_L_28 (As := [.int x5]) (rest := []) hx hb hml hown hts hE (ct_X3_begin l D cy z n Y x107.2 x99.2.2 b1 x5 x116 hx116) hW hS q1 rfl rfl hl.1 (Nat.le_of_ble_eq_true rfl) ⟨Nat.le_of_ble_eq_true rfl, Nat.le_of_ble_eq_true rfl⟩ dL_comes_220 ⟨Nat.zero_le _, Nat.zero_le _⟩ (fun H locs hW hS => ?_)
                                    refine lv_if_ne (tgt := 237) hx hb dL_comes_223 (by decide) (fun q117 => ?_) (fun q117 => ?_)
                                    · replace hcf := (if_neg q117).symm.trans hcf
                                      refine lv_iconst (v := (0 : Int32)) hx hb dL_comes_237 (by decide) ?_
                                      refine lv_istore (lv' := [(8, .int (0 : Int32)), (7, .int x7.1), (6, .int x6.1), (5, .int x5), (4, .int ((1 : Int32) + x4)), (3, .int x3), (0, .ref b1), (1, .ref b2), (2, .int b3)]) hx hb dL_comes_238 hl (by decide) rfl (fun ls hl => ?_)
                                      refine lv_iload hx hb dL_comes_240 (lv_at hl 0 rfl) ?_
                                      have hcf := Option.some.inj hcf; subst hcf
                                      exact wk_zret hx hb hr hlocks (Or.inl rfl) hW hS dL_comes_242
                                    · replace hcf := (if_pos q117).symm.trans hcf
                                      refine lv_aload_n hx hb dL_comes_226 rfl (lv_at hl 6 rfl) ?_
                                      obtain ⟨x118, hx118, hcf⟩ := ob hcf
                                      refine iv_L_85 (As := []) (rest := []) hx hb hml hown hts hE (ct_X3_undo l D cy z n Y x116.2.1 x116.2.2 b1 x118 hx118) hW hS q1 rfl rfl hl.1 (Nat.le_of_ble_eq_true rfl) ⟨Nat.le_of_ble_eq_true rfl, Nat.le_of_ble_eq_true rfl⟩ dL_comes_227 ⟨Nat.zero_le _, Nat.zero_le _⟩ (fun H locs hW hS => ?_)
                                      refine lv_if_lt (tgt := 237) hx hb dL_comes_230 (by decide) (fun q119 => ?_) (fun q119 => ?_)
                                      · replace hcf := (if_pos q119).symm.trans hcf
                                        refine lv_iconst (v := (0 : Int32)) hx hb dL_comes_237 (by decide) ?_
                                        refine lv_istore (lv' := [(8, .int (0 : Int32)), (7, .int x7.1), (6, .int x6.1), (5, .int x5), (4, .int ((1 : Int32) + x4)), (3, .int x3), (0, .ref b1), (1, .ref b2), (2, .int b3)]) hx hb dL_comes_238 hl (by decide) rfl (fun ls hl => ?_)
                                        refine lv_iload hx hb dL_comes_240 (lv_at hl 0 rfl) ?_
                                        have hcf := Option.some.inj hcf; subst hcf
                                        exact wk_zret hx hb hr hlocks (Or.inl rfl) hW hS dL_comes_242
                                      · replace hcf := (if_neg q119).symm.trans hcf
                                        refine lv_iconst (v := (1 : Int32)) hx hb dL_comes_233 (by decide) ?_
                                        refine lv_goto (tgt := 238) hx hb dL_comes_234 (by decide) ?_
                                        refine lv_istore (lv' := [(8, .int (1 : Int32)), (7, .int x7.1), (6, .int x6.1), (5, .int x5), (4, .int ((1 : Int32) + x4)), (3, .int x3), (0, .ref b1), (1, .ref b2), (2, .int b3)]) hx hb dL_comes_238 hl (by decide) rfl (fun ls hl => ?_)
                                        refine lv_iload hx hb dL_comes_240 (lv_at hl 0 rfl) ?_
                                        have hcf := Option.some.inj hcf; subst hcf
                                        exact wk_zret hx hb hr hlocks (Or.inr rfl) hW hS dL_comes_242
                                · replace hcf := (if_neg q113).symm.trans hcf
                                  refine lv_aload_n hx hb dL_comes_198 rfl (lv_at hl 6 rfl) ?_
                                  refine lv_iload hx hb dL_comes_199 (lv_at hl 1 rfl) ?_
                                  obtain ⟨x120, hx120, hcf⟩ := ob hcf
                                  refine iv_L_15 (As := [.int x7.1]) (rest := []) hx hb hml hown hts hE (ct_X3_pass l D cy z n Y x107.2 x99.2.2 b1 x7.1 x120 hx120) hW hS q1 rfl rfl hl.1 (Nat.le_of_ble_eq_true rfl) ⟨Nat.le_of_ble_eq_true rfl, Nat.le_of_ble_eq_true rfl⟩ dL_comes_201 ⟨Nat.zero_le _, Nat.zero_le _⟩ (fun H locs hW hS => ?_)
                                  refine lv_if_le (tgt := 237) hx hb dL_comes_204 (by decide) (fun q121 => ?_) (fun q121 => ?_)
                                  · replace hcf := (if_pos q121).symm.trans hcf
                                    refine lv_iconst (v := (0 : Int32)) hx hb dL_comes_237 (by decide) ?_
                                    refine lv_istore (lv' := [(8, .int (0 : Int32)), (7, .int x7.1), (6, .int x6.1), (5, .int x5), (4, .int ((1 : Int32) + x4)), (3, .int x3), (0, .ref b1), (1, .ref b2), (2, .int b3)]) hx hb dL_comes_238 hl (by decide) rfl (fun ls hl => ?_)
                                    refine lv_iload hx hb dL_comes_240 (lv_at hl 0 rfl) ?_
                                    have hcf := Option.some.inj hcf; subst hcf
                                    exact wk_zret hx hb hr hlocks (Or.inl rfl) hW hS dL_comes_242
                                  · replace hcf := (if_neg q121).symm.trans hcf
                                    refine lv_aload_n hx hb dL_comes_207 rfl (lv_at hl 6 rfl) ?_
                                    refine lv_iload hx hb dL_comes_208 (lv_at hl 3 rfl) ?_
                                    refine lv_iconst (v := (3 : Int32)) hx hb dL_comes_210 (by decide) ?_
                                    obtain ⟨x122, hx122, hcf⟩ := ob hcf
                                    refine iv_L_88 (As := [.int x5, .int (3 : Int32)]) (rest := []) hx hb hml hown hts hE (ct_X3_stageOf l D cy z n Y x120.2.1 x120.2.2 b1 x5 (3 : Int32) x122 hx122) hW hS q1 rfl rfl hl.1 (Nat.le_of_ble_eq_true rfl) ⟨Nat.le_of_ble_eq_true rfl, Nat.le_of_ble_eq_true rfl⟩ dL_comes_211 ⟨Nat.zero_le _, Nat.zero_le _⟩ (fun H locs hW hS => ?_)
                                    refine lv_if_ne (tgt := 237) hx hb dL_comes_214 (by decide) (fun q123 => ?_) (fun q123 => ?_)
                                    · replace hcf := (if_neg q123).symm.trans hcf
                                      refine lv_iconst (v := (0 : Int32)) hx hb dL_comes_237 (by decide) ?_
                                      refine lv_istore (lv' := [(8, .int (0 : Int32)), (7, .int x7.1), (6, .int x6.1), (5, .int x5), (4, .int ((1 : Int32) + x4)), (3, .int x3), (0, .ref b1), (1, .ref b2), (2, .int b3)]) hx hb dL_comes_238 hl (by decide) rfl (fun ls hl => ?_)
                                      refine lv_iload hx hb dL_comes_240 (lv_at hl 0 rfl) ?_
                                      have hcf := Option.some.inj hcf; subst hcf
                                      exact wk_zret hx hb hr hlocks (Or.inl rfl) hW hS dL_comes_242
                                    · replace hcf := (if_pos q123).symm.trans hcf
                                      refine lv_aload_n hx hb dL_comes_217 rfl (lv_at hl 6 rfl) ?_
                                      refine lv_iload hx hb dL_comes_218 (lv_at hl 3 rfl) ?_
                                      obtain ⟨x124, hx124, hcf⟩ := ob hcf
                                      refine iv_L_28 (As := [.int x5]) (rest := []) hx hb hml hown hts hE (ct_X3_begin l D cy z n Y x120.2.1 x120.2.2 b1 x5 x124 hx124) hW hS q1 rfl rfl hl.1 (Nat.le_of_ble_eq_true rfl) ⟨Nat.le_of_ble_eq_true rfl, Nat.le_of_ble_eq_true rfl⟩ dL_comes_220 ⟨Nat.zero_le _, Nat.zero_le _⟩ (fun H locs hW hS => ?_)
                                      refine lv_if_ne (tgt := 237) hx hb dL_comes_223 (by decide) (fun q125 => ?_) (fun q125 => ?_)
                                      · replace hcf := (if_neg q125).symm.trans hcf
                                        refine lv_iconst (v := (0 : Int32)) hx hb dL_comes_237 (by decide) ?_
                                        refine lv_istore (lv' := [(8, .int (0 : Int32)), (7, .int x7.1), (6, .int x6.1), (5, .int x5), (4, .int ((1 : Int32) + x4)), (3, .int x3), (0, .ref b1), (1, .ref b2), (2, .int b3)]) hx hb dL_comes_238 hl (by decide) rfl (fun ls hl => ?_)
                                        refine lv_iload hx hb dL_comes_240 (lv_at hl 0 rfl) ?_
                                        have hcf := Option.some.inj hcf; subst hcf
                                        exact wk_zret hx hb hr hlocks (Or.inl rfl) hW hS dL_comes_242
                                      · replace hcf := (if_pos q125).symm.trans hcf
                                        refine lv_aload_n hx hb dL_comes_226 rfl (lv_at hl 6 rfl) ?_
                                        obtain ⟨x126, hx126, hcf⟩ := ob hcf
                                        refine iv_L_85 (As := []) (rest := []) hx hb hml hown hts hE (ct_X3_undo l D cy z n Y x124.2.1 x124.2.2 b1 x126 hx126) hW hS q1 rfl rfl hl.1 (Nat.le_of_ble_eq_true rfl) ⟨Nat.le_of_ble_eq_true rfl, Nat.le_of_ble_eq_true rfl⟩ dL_comes_227 ⟨Nat.zero_le _, Nat.zero_le _⟩ (fun H locs hW hS => ?_)
                                        refine lv_if_lt (tgt := 237) hx hb dL_comes_230 (by decide) (fun q127 => ?_) (fun q127 => ?_)
                                        · replace hcf := (if_pos q127).symm.trans hcf
                                          refine lv_iconst (v := (0 : Int32)) hx hb dL_comes_237 (by decide) ?_
                                          refine lv_istore (lv' := [(8, .int (0 : Int32)), (7, .int x7.1), (6, .int x6.1), (5, .int x5), (4, .int ((1 : Int32) + x4)), (3, .int x3), (0, .ref b1), (1, .ref b2), (2, .int b3)]) hx hb dL_comes_238 hl (by decide) rfl (fun ls hl => ?_)
                                          refine lv_iload hx hb dL_comes_240 (lv_at hl 0 rfl) ?_
                                          have hcf := Option.some.inj hcf; subst hcf
                                          exact wk_zret hx hb hr hlocks (Or.inl rfl) hW hS dL_comes_242
                                        · replace hcf := (if_neg q127).symm.trans hcf
                                          refine lv_iconst (v := (1 : Int32)) hx hb dL_comes_233 (by decide) ?_
                                          refine lv_goto (tgt := 238) hx hb dL_comes_234 (by decide) ?_
                                          refine lv_istore (lv' := [(8, .int (1 : Int32)), (7, .int x7.1), (6, .int x6.1), (5, .int x5), (4, .int ((1 : Int32) + x4)), (3, .int x3), (0, .ref b1), (1, .ref b2), (2, .int b3)]) hx hb dL_comes_238 hl (by decide) rfl (fun ls hl => ?_)
                                          refine lv_iload hx hb dL_comes_240 (lv_at hl 0 rfl) ?_
                                          have hcf := Option.some.inj hcf; subst hcf
                                          exact wk_zret hx hb hr hlocks (Or.inr rfl) hW hS dL_comes_242
