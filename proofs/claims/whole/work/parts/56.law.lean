def lp_L_law_18 (L : Nat) (xs : Nat → Int32) (Y : mY) : Nat → mV → mG → Nat → Nat → Int32 → Option (Int32)
  | 0, _, _, _, _, _ => none
  | k + 1, V, G, j1, j2, j3 => if ((Int32.ofNat L) - (5 : Int32)) < j3 then (some (1 : Int32)) else (if ¬ (j3 < 0 ∨ L ≤ j3.toNatClampNeg) then if ((xs j3.toNatClampNeg) &&& (31 : Int32)) = (0 : Int32) then (if ¬ ((j3 + (1 : Int32)) < 0 ∨ L ≤ (j3 + (1 : Int32)).toNatClampNeg) then if ¬ ((j3 + (2 : Int32)) < 0 ∨ L ≤ (j3 + (2 : Int32)).toNatClampNeg) then if ¬ ((j3 + (3 : Int32)) < 0 ∨ L ≤ (j3 + (3 : Int32)).toNatClampNeg) then if ¬ ((j3 + (4 : Int32)) < 0 ∨ L ≤ (j3 + (4 : Int32)).toNatClampNeg) then if Y.1 j1 = 3 then (cf_X3_condition Y V G j1 (xs (j3 + (1 : Int32)).toNatClampNeg) (xs (j3 + (2 : Int32)).toNatClampNeg) (xs (j3 + (3 : Int32)).toNatClampNeg) (xs (j3 + (4 : Int32)).toNatClampNeg)).bind (fun x15 => if ¬ ((j3 + (1 : Int32)) < 0 ∨ L ≤ (j3 + (1 : Int32)).toNatClampNeg) then if ¬ ((j3 + (2 : Int32)) < 0 ∨ L ≤ (j3 + (2 : Int32)).toNatClampNeg) then if ¬ ((j3 + (3 : Int32)) < 0 ∨ L ≤ (j3 + (3 : Int32)).toNatClampNeg) then if ¬ ((j3 + (4 : Int32)) < 0 ∨ L ≤ (j3 + (4 : Int32)).toNatClampNeg) then if Y.1 j2 = 4 then (cf_X4_condition Y x15.2.1 x15.2.2 j2 (xs (j3 + (1 : Int32)).toNatClampNeg) (xs (j3 + (2 : Int32)).toNatClampNeg) (xs (j3 + (3 : Int32)).toNatClampNeg) (xs (j3 + (4 : Int32)).toNatClampNeg)).bind (fun x21 => if x15.1 = x21.1 then (lp_L_law_18 L xs Y k x21.2 x15.2.2 j1 j2 (j3 + 5)) else (some (0 : Int32))) else none else none else none else none else none) else none else none else none else none else none) else (if ((xs j3.toNatClampNeg) &&& (31 : Int32)) = (1 : Int32) then (if ¬ ((j3 + (1 : Int32)) < 0 ∨ L ≤ (j3 + (1 : Int32)).toNatClampNeg) then if Y.1 j1 = 3 then (cf_X3_begin Y V G j1 (xs (j3 + (1 : Int32)).toNatClampNeg)).bind (fun x26 => if ¬ ((j3 + (1 : Int32)) < 0 ∨ L ≤ (j3 + (1 : Int32)).toNatClampNeg) then if Y.1 j2 = 4 then (cf_X4_begin Y x26.2.1 x26.2.2 j2 (xs (j3 + (1 : Int32)).toNatClampNeg)).bind (fun x29 => if x26.1 = x29.1 then (lp_L_law_18 L xs Y k x29.2 x26.2.2 j1 j2 (j3 + 5)) else (some (0 : Int32))) else none else none) else none else none) else (if ((xs j3.toNatClampNeg) &&& (31 : Int32)) = (2 : Int32) then (if ¬ ((j3 + (1 : Int32)) < 0 ∨ L ≤ (j3 + (1 : Int32)).toNatClampNeg) then if Y.1 j1 = 3 then (cf_X3_finish Y V G j1 (xs (j3 + (1 : Int32)).toNatClampNeg)).bind (fun x34 => if ¬ ((j3 + (1 : Int32)) < 0 ∨ L ≤ (j3 + (1 : Int32)).toNatClampNeg) then if Y.1 j2 = 4 then (cf_X4_finish Y x34.2.1 x34.2.2 j2 (xs (j3 + (1 : Int32)).toNatClampNeg)).bind (fun x37 => if x34.1 = x37.1 then (lp_L_law_18 L xs Y k x37.2 x34.2.2 j1 j2 (j3 + 5)) else (some (0 : Int32))) else none else none) else none else none) else (if ((xs j3.toNatClampNeg) &&& (31 : Int32)) = (3 : Int32) then (if ¬ ((j3 + (1 : Int32)) < 0 ∨ L ≤ (j3 + (1 : Int32)).toNatClampNeg) then if ¬ ((j3 + (2 : Int32)) < 0 ∨ L ≤ (j3 + (2 : Int32)).toNatClampNeg) then if Y.1 j1 = 3 then (cf_X3_apply Y V G j1 (xs (j3 + (1 : Int32)).toNatClampNeg) (xs (j3 + (2 : Int32)).toNatClampNeg)).bind (fun x43 => if ¬ ((j3 + (1 : Int32)) < 0 ∨ L ≤ (j3 + (1 : Int32)).toNatClampNeg) then if ¬ ((j3 + (2 : Int32)) < 0 ∨ L ≤ (j3 + (2 : Int32)).toNatClampNeg) then if Y.1 j2 = 4 then (cf_X4_apply Y x43.2.1 x43.2.2 j2 (xs (j3 + (1 : Int32)).toNatClampNeg) (xs (j3 + (2 : Int32)).toNatClampNeg)).bind (fun x47 => if x43.1 = x47.1 then (lp_L_law_18 L xs Y k x47.2 x43.2.2 j1 j2 (j3 + 5)) else (some (0 : Int32))) else none else none else none) else none else none else none) else (if ((xs j3.toNatClampNeg) &&& (31 : Int32)) = (4 : Int32) then (if ¬ ((j3 + (1 : Int32)) < 0 ∨ L ≤ (j3 + (1 : Int32)).toNatClampNeg) then if ¬ ((j3 + (2 : Int32)) < 0 ∨ L ≤ (j3 + (2 : Int32)).toNatClampNeg) then if Y.1 j1 = 3 then (cf_X3_decide Y V G j1 (xs (j3 + (1 : Int32)).toNatClampNeg) (xs (j3 + (2 : Int32)).toNatClampNeg)).bind (fun x53 => if ¬ ((j3 + (1 : Int32)) < 0 ∨ L ≤ (j3 + (1 : Int32)).toNatClampNeg) then if ¬ ((j3 + (2 : Int32)) < 0 ∨ L ≤ (j3 + (2 : Int32)).toNatClampNeg) then if Y.1 j2 = 4 then (cf_X4_decide Y x53.2.1 x53.2.2 j2 (xs (j3 + (1 : Int32)).toNatClampNeg) (xs (j3 + (2 : Int32)).toNatClampNeg)).bind (fun x57 => if x53.1 = x57.1 then (lp_L_law_18 L xs Y k x57.2 x53.2.2 j1 j2 (j3 + 5)) else (some (0 : Int32))) else none else none else none) else none else none else none) else (if ((xs j3.toNatClampNeg) &&& (31 : Int32)) = (5 : Int32) then (if ¬ ((j3 + (1 : Int32)) < 0 ∨ L ≤ (j3 + (1 : Int32)).toNatClampNeg) then if Y.1 j1 = 3 then (cf_X3_lapse Y V G j1 (xs (j3 + (1 : Int32)).toNatClampNeg)).bind (fun x62 => if ¬ ((j3 + (1 : Int32)) < 0 ∨ L ≤ (j3 + (1 : Int32)).toNatClampNeg) then if Y.1 j2 = 4 then (cf_X4_lapse Y x62.2.1 x62.2.2 j2 (xs (j3 + (1 : Int32)).toNatClampNeg)).bind (fun x65 => if x62.1 = x65.1 then (lp_L_law_18 L xs Y k x65.2 x62.2.2 j1 j2 (j3 + 5)) else (some (0 : Int32))) else none else none) else none else none) else (if ((xs j3.toNatClampNeg) &&& (31 : Int32)) = (6 : Int32) then (if ¬ ((j3 + (1 : Int32)) < 0 ∨ L ≤ (j3 + (1 : Int32)).toNatClampNeg) then if Y.1 j1 = 3 then (cf_X3_cure Y V G j1 (xs (j3 + (1 : Int32)).toNatClampNeg)).bind (fun x70 => if ¬ ((j3 + (1 : Int32)) < 0 ∨ L ≤ (j3 + (1 : Int32)).toNatClampNeg) then if Y.1 j2 = 4 then (cf_X4_cure Y x70.2.1 x70.2.2 j2 (xs (j3 + (1 : Int32)).toNatClampNeg)).bind (fun x73 => if x70.1 = x73.1 then (lp_L_law_18 L xs Y k x73.2 x70.2.2 j1 j2 (j3 + 5)) else (some (0 : Int32))) else none else none) else none else none) else (if ((xs j3.toNatClampNeg) &&& (31 : Int32)) = (7 : Int32) then (if ¬ ((j3 + (1 : Int32)) < 0 ∨ L ≤ (j3 + (1 : Int32)).toNatClampNeg) then if ¬ ((j3 + (2 : Int32)) < 0 ∨ L ≤ (j3 + (2 : Int32)).toNatClampNeg) then if Y.1 j1 = 3 then (cf_X3_serve Y V G j1 (xs (j3 + (1 : Int32)).toNatClampNeg) (xs (j3 + (2 : Int32)).toNatClampNeg)).bind (fun x79 => if ¬ ((j3 + (1 : Int32)) < 0 ∨ L ≤ (j3 + (1 : Int32)).toNatClampNeg) then if ¬ ((j3 + (2 : Int32)) < 0 ∨ L ≤ (j3 + (2 : Int32)).toNatClampNeg) then if Y.1 j2 = 4 then (cf_X4_serve Y x79.2.1 x79.2.2 j2 (xs (j3 + (1 : Int32)).toNatClampNeg) (xs (j3 + (2 : Int32)).toNatClampNeg)).bind (fun x83 => if x79.1 = x83.1 then (lp_L_law_18 L xs Y k x83.2 x79.2.2 j1 j2 (j3 + 5)) else (some (0 : Int32))) else none else none else none) else none else none else none) else (if ((xs j3.toNatClampNeg) &&& (31 : Int32)) = (8 : Int32) then (if ¬ ((j3 + (1 : Int32)) < 0 ∨ L ≤ (j3 + (1 : Int32)).toNatClampNeg) then if ¬ ((j3 + (2 : Int32)) < 0 ∨ L ≤ (j3 + (2 : Int32)).toNatClampNeg) then if ¬ ((j3 + (3 : Int32)) < 0 ∨ L ≤ (j3 + (3 : Int32)).toNatClampNeg) then if Y.1 j1 = 3 then (cf_X3_vary Y V G j1 (xs (j3 + (1 : Int32)).toNatClampNeg) (xs (j3 + (2 : Int32)).toNatClampNeg) (xs (j3 + (3 : Int32)).toNatClampNeg)).bind (fun x90 => if ¬ ((j3 + (1 : Int32)) < 0 ∨ L ≤ (j3 + (1 : Int32)).toNatClampNeg) then if ¬ ((j3 + (2 : Int32)) < 0 ∨ L ≤ (j3 + (2 : Int32)).toNatClampNeg) then if ¬ ((j3 + (3 : Int32)) < 0 ∨ L ≤ (j3 + (3 : Int32)).toNatClampNeg) then if Y.1 j2 = 4 then (cf_X4_vary Y x90.2.1 x90.2.2 j2 (xs (j3 + (1 : Int32)).toNatClampNeg) (xs (j3 + (2 : Int32)).toNatClampNeg) (xs (j3 + (3 : Int32)).toNatClampNeg)).bind (fun x95 => if x90.1 = x95.1 then (lp_L_law_18 L xs Y k x95.2 x90.2.2 j1 j2 (j3 + 5)) else (some (0 : Int32))) else none else none else none else none) else none else none else none else none) else (if ((xs j3.toNatClampNeg) &&& (31 : Int32)) = (9 : Int32) then (if ¬ ((j3 + (1 : Int32)) < 0 ∨ L ≤ (j3 + (1 : Int32)).toNatClampNeg) then if Y.1 j1 = 3 then (cf_X3_pass Y V G j1 (xs (j3 + (1 : Int32)).toNatClampNeg)).bind (fun x100 => if ¬ ((j3 + (1 : Int32)) < 0 ∨ L ≤ (j3 + (1 : Int32)).toNatClampNeg) then if Y.1 j2 = 4 then (cf_X4_pass Y x100.2.1 x100.2.2 j2 (xs (j3 + (1 : Int32)).toNatClampNeg)).bind (fun x103 => if x100.1 = x103.1 then (lp_L_law_18 L xs Y k x103.2 x100.2.2 j1 j2 (j3 + 5)) else (some (0 : Int32))) else none else none) else none else none) else (if ((xs j3.toNatClampNeg) &&& (31 : Int32)) = (10 : Int32) then (if ¬ ((j3 + (1 : Int32)) < 0 ∨ L ≤ (j3 + (1 : Int32)).toNatClampNeg) then if ¬ ((j3 + (2 : Int32)) < 0 ∨ L ≤ (j3 + (2 : Int32)).toNatClampNeg) then if Y.1 j1 = 3 then (cf_X3_set Y V G j1 (xs (j3 + (1 : Int32)).toNatClampNeg) (xs (j3 + (2 : Int32)).toNatClampNeg)).bind (fun x109 => if ¬ ((j3 + (1 : Int32)) < 0 ∨ L ≤ (j3 + (1 : Int32)).toNatClampNeg) then if ¬ ((j3 + (2 : Int32)) < 0 ∨ L ≤ (j3 + (2 : Int32)).toNatClampNeg) then if Y.1 j2 = 4 then (cf_X4_set Y x109.2.1 x109.2.2 j2 (xs (j3 + (1 : Int32)).toNatClampNeg) (xs (j3 + (2 : Int32)).toNatClampNeg)).bind (fun x113 => if x109.1 = x113.1 then (lp_L_law_18 L xs Y k x113.2 x109.2.2 j1 j2 (j3 + 5)) else (some (0 : Int32))) else none else none else none) else none else none else none) else (if ((xs j3.toNatClampNeg) &&& (31 : Int32)) = (11 : Int32) then (if ¬ ((j3 + (1 : Int32)) < 0 ∨ L ≤ (j3 + (1 : Int32)).toNatClampNeg) then if ¬ ((j3 + (2 : Int32)) < 0 ∨ L ≤ (j3 + (2 : Int32)).toNatClampNeg) then if Y.1 j1 = 3 then (cf_X3_conditionOf Y V G j1 (xs (j3 + (1 : Int32)).toNatClampNeg) (xs (j3 + (2 : Int32)).toNatClampNeg)).bind (fun x119 => if ¬ ((j3 + (1 : Int32)) < 0 ∨ L ≤ (j3 + (1 : Int32)).toNatClampNeg) then if ¬ ((j3 + (2 : Int32)) < 0 ∨ L ≤ (j3 + (2 : Int32)).toNatClampNeg) then if Y.1 j2 = 4 then (cf_X4_conditionOf Y V G j2 (xs (j3 + (1 : Int32)).toNatClampNeg) (xs (j3 + (2 : Int32)).toNatClampNeg)).bind (fun x123 => if x119 = x123 then (lp_L_law_18 L xs Y k V G j1 j2 (j3 + 5)) else (some (0 : Int32))) else none else none else none) else none else none else none) else (if ((xs j3.toNatClampNeg) &&& (31 : Int32)) = (12 : Int32) then (if ¬ ((j3 + (1 : Int32)) < 0 ∨ L ≤ (j3 + (1 : Int32)).toNatClampNeg) then if ¬ ((j3 + (2 : Int32)) < 0 ∨ L ≤ (j3 + (2 : Int32)).toNatClampNeg) then if Y.1 j1 = 3 then (cf_X3_stageOf Y V G j1 (xs (j3 + (1 : Int32)).toNatClampNeg) (xs (j3 + (2 : Int32)).toNatClampNeg)).bind (fun x129 => if ¬ ((j3 + (1 : Int32)) < 0 ∨ L ≤ (j3 + (1 : Int32)).toNatClampNeg) then if ¬ ((j3 + (2 : Int32)) < 0 ∨ L ≤ (j3 + (2 : Int32)).toNatClampNeg) then if Y.1 j2 = 4 then (cf_X4_stageOf Y V G j2 (xs (j3 + (1 : Int32)).toNatClampNeg) (xs (j3 + (2 : Int32)).toNatClampNeg)).bind (fun x133 => if x129 = x133 then (lp_L_law_18 L xs Y k V G j1 j2 (j3 + 5)) else (some (0 : Int32))) else none else none else none) else none else none else none) else (if ((xs j3.toNatClampNeg) &&& (31 : Int32)) = (13 : Int32) then (if ¬ ((j3 + (1 : Int32)) < 0 ∨ L ≤ (j3 + (1 : Int32)).toNatClampNeg) then if Y.1 j1 = 3 then (cf_X3_which Y V G j1 (xs (j3 + (1 : Int32)).toNatClampNeg)).bind (fun x138 => if ¬ ((j3 + (1 : Int32)) < 0 ∨ L ≤ (j3 + (1 : Int32)).toNatClampNeg) then if Y.1 j2 = 4 then (cf_X4_which Y V G j2 (xs (j3 + (1 : Int32)).toNatClampNeg)).bind (fun x141 => if x138 = x141 then (lp_L_law_18 L xs Y k V G j1 j2 (j3 + 5)) else (some (0 : Int32))) else none else none) else none else none) else (if ((xs j3.toNatClampNeg) &&& (31 : Int32)) = (14 : Int32) then (if ¬ ((j3 + (1 : Int32)) < 0 ∨ L ≤ (j3 + (1 : Int32)).toNatClampNeg) then if ¬ ((j3 + (2 : Int32)) < 0 ∨ L ≤ (j3 + (2 : Int32)).toNatClampNeg) then if Y.1 j1 = 3 then (cf_X3_when Y V G j1 (xs (j3 + (1 : Int32)).toNatClampNeg) (xs (j3 + (2 : Int32)).toNatClampNeg)).bind (fun x147 => if ¬ ((j3 + (1 : Int32)) < 0 ∨ L ≤ (j3 + (1 : Int32)).toNatClampNeg) then if ¬ ((j3 + (2 : Int32)) < 0 ∨ L ≤ (j3 + (2 : Int32)).toNatClampNeg) then if Y.1 j2 = 4 then (cf_X4_when Y x147.2 G j2 (xs (j3 + (1 : Int32)).toNatClampNeg) (xs (j3 + (2 : Int32)).toNatClampNeg)).bind (fun x151 => if x147.1 = x151.1 then (lp_L_law_18 L xs Y k x151.2 G j1 j2 (j3 + 5)) else (some (0 : Int32))) else none else none else none) else none else none else none) else (if ((xs j3.toNatClampNeg) &&& (31 : Int32)) = (15 : Int32) then (if ¬ ((j3 + (1 : Int32)) < 0 ∨ L ≤ (j3 + (1 : Int32)).toNatClampNeg) then if Y.1 j1 = 3 then (cf_X3_lawful Y V G j1 (xs (j3 + (1 : Int32)).toNatClampNeg)).bind (fun x156 => if ¬ ((j3 + (1 : Int32)) < 0 ∨ L ≤ (j3 + (1 : Int32)).toNatClampNeg) then if Y.1 j2 = 4 then (cf_X4_lawful Y x156.2 G j2 (xs (j3 + (1 : Int32)).toNatClampNeg)).bind (fun x159 => if x156.1 = x159.1 then (lp_L_law_18 L xs Y k x159.2 G j1 j2 (j3 + 5)) else (some (0 : Int32))) else none else none) else none else none) else (if ((xs j3.toNatClampNeg) &&& (31 : Int32)) = (16 : Int32) then (if ¬ ((j3 + (1 : Int32)) < 0 ∨ L ≤ (j3 + (1 : Int32)).toNatClampNeg) then if ¬ ((j3 + (2 : Int32)) < 0 ∨ L ≤ (j3 + (2 : Int32)).toNatClampNeg) then if ¬ ((j3 + (3 : Int32)) < 0 ∨ L ≤ (j3 + (3 : Int32)).toNatClampNeg) then if Y.1 j1 = 3 then (cf_X3_fine Y V G j1 (xs (j3 + (1 : Int32)).toNatClampNeg) ((((xs (j3 + (2 : Int32)).toNatClampNeg)).toInt64 <<< ((32 : Int32).toInt64 &&& 63)) ||| (((xs (j3 + (3 : Int32)).toNatClampNeg)).toInt64 &&& (4294967295 : Int64)))).bind (fun x166 => if ¬ ((j3 + (1 : Int32)) < 0 ∨ L ≤ (j3 + (1 : Int32)).toNatClampNeg) then if ¬ ((j3 + (2 : Int32)) < 0 ∨ L ≤ (j3 + (2 : Int32)).toNatClampNeg) then if ¬ ((j3 + (3 : Int32)) < 0 ∨ L ≤ (j3 + (3 : Int32)).toNatClampNeg) then if Y.1 j2 = 4 then (cf_X4_fine Y V G j2 (xs (j3 + (1 : Int32)).toNatClampNeg) ((((xs (j3 + (2 : Int32)).toNatClampNeg)).toInt64 <<< ((32 : Int32).toInt64 &&& 63)) ||| (((xs (j3 + (3 : Int32)).toNatClampNeg)).toInt64 &&& (4294967295 : Int64)))).bind (fun x171 => if (lg_cmp x166 x171) = 0 then (lp_L_law_18 L xs Y k V G j1 j2 (j3 + 5)) else (some (0 : Int32))) else none else none else none else none) else none else none else none else none) else (if ((xs j3.toNatClampNeg) &&& (31 : Int32)) = (17 : Int32) then (if Y.1 j1 = 3 then (cf_X3_share Y V G j1).bind (fun x175 => if Y.1 j2 = 4 then (cf_X4_share Y V G j2).bind (fun x177 => if x175 = x177 then (lp_L_law_18 L xs Y k V G j1 j2 (j3 + 5)) else (some (0 : Int32))) else none) else none) else (if ((xs j3.toNatClampNeg) &&& (31 : Int32)) = (18 : Int32) then (if ¬ ((j3 + (1 : Int32)) < 0 ∨ L ≤ (j3 + (1 : Int32)).toNatClampNeg) then if Y.1 j1 = 3 then (cf_X3_count Y V G j1 (xs (j3 + (1 : Int32)).toNatClampNeg)).bind (fun x182 => if ¬ ((j3 + (1 : Int32)) < 0 ∨ L ≤ (j3 + (1 : Int32)).toNatClampNeg) then if Y.1 j2 = 4 then (cf_X4_count Y V G j2 (xs (j3 + (1 : Int32)).toNatClampNeg)).bind (fun x185 => if x182 = x185 then (lp_L_law_18 L xs Y k V G j1 j2 (j3 + 5)) else (some (0 : Int32))) else none else none) else none else none) else (if ((xs j3.toNatClampNeg) &&& (31 : Int32)) = (19 : Int32) then (if Y.1 j1 = 3 then (cf_X3_undo Y V G j1).bind (fun x189 => if Y.1 j2 = 4 then (cf_X4_undo Y x189.2 G j2).bind (fun x191 => if x189.1 = x191.1 then (lp_L_law_18 L xs Y k x191.2 G j1 j2 (j3 + 5)) else (some (0 : Int32))) else none) else none) else (if ((xs j3.toNatClampNeg) &&& (31 : Int32)) = (20 : Int32) then (if ¬ ((j3 + (1 : Int32)) < 0 ∨ L ≤ (j3 + (1 : Int32)).toNatClampNeg) then if Y.1 j1 = 3 then (cf_X3_type Y V G j1 (xs (j3 + (1 : Int32)).toNatClampNeg)).bind (fun x196 => if ¬ ((j3 + (1 : Int32)) < 0 ∨ L ≤ (j3 + (1 : Int32)).toNatClampNeg) then if Y.1 j2 = 4 then (cf_X4_type Y x196.2 G j2 (xs (j3 + (1 : Int32)).toNatClampNeg)).bind (fun x199 => if x196.1 = x199.1 then (lp_L_law_18 L xs Y k x199.2 G j1 j2 (j3 + 5)) else (some (0 : Int32))) else none else none) else none else none) else (if ((xs j3.toNatClampNeg) &&& (31 : Int32)) = (21 : Int32) then (if Y.1 j1 = 3 then (cf_X3_clearText Y V G j1).bind (fun x203 => if Y.1 j2 = 4 then (cf_X4_clearText Y x203.2 G j2).bind (fun x205 => if x203.1 = x205.1 then (lp_L_law_18 L xs Y k x205.2 G j1 j2 (j3 + 5)) else (some (0 : Int32))) else none) else none) else (if ((xs j3.toNatClampNeg) &&& (31 : Int32)) = (22 : Int32) then (if ¬ ((j3 + (1 : Int32)) < 0 ∨ L ≤ (j3 + (1 : Int32)).toNatClampNeg) then if Y.1 j1 = 3 then (cf_X3_fault Y V G j1 (xs (j3 + (1 : Int32)).toNatClampNeg)).bind (fun x210 => if ¬ ((j3 + (1 : Int32)) < 0 ∨ L ≤ (j3 + (1 : Int32)).toNatClampNeg) then if Y.1 j2 = 4 then (cf_X4_fault Y x210.2 G j2 (xs (j3 + (1 : Int32)).toNatClampNeg)).bind (fun x213 => if x210.1 = x213.1 then (lp_L_law_18 L xs Y k x213.2 G j1 j2 (j3 + 5)) else (some (0 : Int32))) else none else none) else none else none) else (if ((xs j3.toNatClampNeg) &&& (31 : Int32)) = (23 : Int32) then (if Y.1 j1 = 3 then (cf_X3_play Y V G j1).bind (fun x217 => if Y.1 j2 = 4 then (cf_X4_play Y x217.2.1 x217.2.2 j2).bind (fun x219 => if x217.1 = x219.1 then (lp_L_law_18 L xs Y k x219.2 x217.2.2 j1 j2 (j3 + 5)) else (some (0 : Int32))) else none) else none) else (lp_L_law_18 L xs Y k V G j1 j2 (j3 + 5))))))))))))))))))))))))) else none)
def cf_L_law (L : Nat) (xs : Nat → Int32) (n : Nat) (Y : mY) (V : mV) (G : mG) : Option (Int32) := if 0 + 1 ≤ 200 then if (0 + 1) + 102 ≤ 200 then (cf_X3_init (n + 1) (va_up Y.1 n 3, Y.2) (va_up V n (fun _ => 0)) (va_up G n (fun _ => none)) n).bind (fun x3 => if ((0 + 1) + 102) + 1 ≤ 200 then if (((0 + 1) + 102) + 1) + 6 ≤ 200 then (cf_X4_init (x3.1 + 1) (va_up x3.2.1.1 x3.1 4, x3.2.1.2) (va_up x3.2.2.1 x3.1 (fun _ => 0)) (va_up x3.2.2.2 x3.1 (fun _ => none)) x3.1).bind (fun x6 => lp_L_law_18 L xs x6.2.1 fuB x6.2.2.1 x6.2.2.2 n x3.1 (0 : Int32)) else none else none) else none else none
set_option maxHeartbeats 4000000 in
set_option maxRecDepth 100000 in
theorem wl_L_law_18 {p : Program} {l : Launch} {e : Env} {s : State} {m : MethodId} {below : List Frame} {meth : Method} {c : Code} {D : va_G} {cy : Nat → ClassId} {z n b L : Nat} {xs : Nat → Int32} {Y : mY} (hx : p.tables.exec = Jvm.exec) (hb : c.code = cL_law) (hr : meth.sig.returnType = ret) (hml : c.maxLocals = 4) (hown : s.vm.findClass RL = some m.cls) (hts : ∀ w ∈ lw_all, w.before #[Value.ref b] s = true) (hlocks : meth.locks = false) (hE : En D cy s) (hX : va_X b L xs s s.heap) (hbl : b < s.heap.size) (hbA : ¬ zA z b) (hzs : s.heap.size ≤ z) (hd0 : s.drawn.sameBut s.drawn lw_cs) : ∀ (k : Nat) (V : mV) (G : mG) (j1 : Nat) (j2 : Nat) (j3 : Int32) (H : Heap) (locs : List Loc) (ls : Array Slot), lp_L_law_18 L xs Y k V G j1 j2 j3 = some 1 → Wd Y cy D z n V G H → va_S (zA z) s.heap H locs → lv_has ls 4 [(0, .ref b), (1, .ref j1), (2, .ref j2), (3, .int j3)] → W p l e room_1 s m #[Value.ref b] below meth c H locs 110 66000 (lw_Z below #[Value.ref b] s) (F0 m 18 ls []) := by
  intro k
  induction k with
  | zero =>
    intro V G j1 j2 j3 H locs ls hcf
    have hcf : none = some _ := hcf
    cases hcf
  | succ k ih =>
    intro V G j1 j2 j3 H locs ls hcf hW hS hl
    rw [lp_L_law_18] at hcf
    refine lv_iload_n hx hb dL_law_18 rfl (lv_at hl 3 rfl) ?_
    refine lv_aload_n hx hb dL_law_19 rfl (lv_at hl 0 rfl) ?_
    refine va_slen hx hb hX hbl hbA hS dL_law_20 ?_
    refine lv_iconst (v := (5 : Int32)) hx hb dL_law_21 (by decide) ?_
    refine lv_isub hx hb dL_law_22 ?_
    refine lv_icmp_gt (tgt := 823) hx hb dL_law_23 (by decide) (fun q7 => ?_) (fun q7 => ?_)
    · replace hcf := (if_pos q7).symm.trans hcf
      refine lv_iconst (v := (1 : Int32)) hx hb dL_law_823 (by decide) ?_
      refine va_forget (fun q hq => Nat.le_trans hzs (hS.2.2 q hq)) ?_
      refine W.widen (k := 600000) (n := 7302250) (Nat.le_of_ble_eq_true rfl) (Nat.le_of_ble_eq_true rfl) ?_
      refine W.base ?_
      exact lw_ret (d0 := s.drawn) hd0 hx hb hr hlocks dL_law_824
    · replace hcf := (if_neg q7).symm.trans hcf
      refine lv_aload_n hx hb dL_law_26 rfl (lv_at hl 0 rfl) ?_
      refine lv_iload_n hx hb dL_law_27 rfl (lv_at hl 3 rfl) ?_
      obtain ⟨q8, hcf⟩ := og hcf
      refine va_sld hx hb hX hbl hbA hS q8 dL_law_28 ?_
      refine lv_bipush (v := (31 : Int32)) hx hb dL_law_29 (by decide) ?_
      refine lv_iand hx hb dL_law_31 ?_
      by_cases q9 : ((xs j3.toNatClampNeg) &&& (31 : Int32)) = (0 : Int32)
      · replace hcf := (if_pos q9).symm.trans hcf
        refine wk_tsw (off := 112) (tgt := 144) hx hb dL_law_32 (by rw [q9]; rfl) (by decide) ?_
        refine lv_aload_n hx hb dL_law_144 rfl (lv_at hl 1 rfl) ?_
        refine lv_aload_n hx hb dL_law_145 rfl (lv_at hl 0 rfl) ?_
        refine lv_iload_n hx hb dL_law_146 rfl (lv_at hl 3 rfl) ?_
        refine lv_iconst (v := (1 : Int32)) hx hb dL_law_147 (by decide) ?_
        refine lv_iadd hx hb dL_law_148 ?_
        obtain ⟨q10, hcf⟩ := og hcf
        refine va_sld hx hb hX hbl hbA hS q10 dL_law_149 ?_
        refine lv_aload_n hx hb dL_law_150 rfl (lv_at hl 0 rfl) ?_
        refine lv_iload_n hx hb dL_law_151 rfl (lv_at hl 3 rfl) ?_
        refine lv_iconst (v := (2 : Int32)) hx hb dL_law_152 (by decide) ?_
        refine lv_iadd hx hb dL_law_153 ?_
        obtain ⟨q11, hcf⟩ := og hcf
        refine va_sld hx hb hX hbl hbA hS q11 dL_law_154 ?_
        refine lv_aload_n hx hb dL_law_155 rfl (lv_at hl 0 rfl) ?_
        refine lv_iload_n hx hb dL_law_156 rfl (lv_at hl 3 rfl) ?_
        refine lv_iconst (v := (3 : Int32)) hx hb dL_law_157 (by decide) ?_
        refine lv_iadd hx hb dL_law_158 ?_
        obtain ⟨q12, hcf⟩ := og hcf
        refine va_sld hx hb hX hbl hbA hS q12 dL_law_159 ?_
        refine lv_aload_n hx hb dL_law_160 rfl (lv_at hl 0 rfl) ?_
        refine lv_iload_n hx hb dL_law_161 rfl (lv_at hl 3 rfl) ?_
        refine lv_iconst (v := (4 : Int32)) hx hb dL_law_162 (by decide) ?_
        refine lv_iadd hx hb dL_law_163 ?_
        obtain ⟨q13, hcf⟩ := og hcf
        refine va_sld hx hb hX hbl hbA hS q13 dL_law_164 ?_
        obtain ⟨q14, hcf⟩ := og hcf
        obtain ⟨x15, hx15, hcf⟩ := ob hcf
        refine iv_L_13 (As := [.int (xs (j3 + (1 : Int32)).toNatClampNeg), .int (xs (j3 + (2 : Int32)).toNatClampNeg), .int (xs (j3 + (3 : Int32)).toNatClampNeg), .int (xs (j3 + (4 : Int32)).toNatClampNeg)]) (rest := []) hx hb hml hown hts hE (ct_X3_condition l D cy z n Y V G j1 (xs (j3 + (1 : Int32)).toNatClampNeg) (xs (j3 + (2 : Int32)).toNatClampNeg) (xs (j3 + (3 : Int32)).toNatClampNeg) (xs (j3 + (4 : Int32)).toNatClampNeg) x15 hx15) hW hS q14 rfl rfl hl.1 (Nat.le_of_ble_eq_true rfl) ⟨Nat.le_of_ble_eq_true rfl, Nat.le_of_ble_eq_true rfl⟩ dL_law_165 ⟨Nat.le_of_ble_eq_true rfl, Nat.le_of_ble_eq_true rfl⟩ (fun H locs hW hS => ?_)
        refine lv_aload_n hx hb dL_law_168 rfl (lv_at hl 2 rfl) ?_
        refine lv_aload_n hx hb dL_law_169 rfl (lv_at hl 0 rfl) ?_
        refine lv_iload_n hx hb dL_law_170 rfl (lv_at hl 3 rfl) ?_
        refine lv_iconst (v := (1 : Int32)) hx hb dL_law_171 (by decide) ?_
        refine lv_iadd hx hb dL_law_172 ?_
        obtain ⟨q16, hcf⟩ := og hcf
        refine va_sld hx hb hX hbl hbA hS q16 dL_law_173 ?_
        refine lv_aload_n hx hb dL_law_174 rfl (lv_at hl 0 rfl) ?_
        refine lv_iload_n hx hb dL_law_175 rfl (lv_at hl 3 rfl) ?_
        refine lv_iconst (v := (2 : Int32)) hx hb dL_law_176 (by decide) ?_
        refine lv_iadd hx hb dL_law_177 ?_
        obtain ⟨q17, hcf⟩ := og hcf
        refine va_sld hx hb hX hbl hbA hS q17 dL_law_178 ?_
        refine lv_aload_n hx hb dL_law_179 rfl (lv_at hl 0 rfl) ?_
        refine lv_iload_n hx hb dL_law_180 rfl (lv_at hl 3 rfl) ?_
        refine lv_iconst (v := (3 : Int32)) hx hb dL_law_181 (by decide) ?_
        refine lv_iadd hx hb dL_law_182 ?_
        obtain ⟨q18, hcf⟩ := og hcf
        refine va_sld hx hb hX hbl hbA hS q18 dL_law_183 ?_
        refine lv_aload_n hx hb dL_law_184 rfl (lv_at hl 0 rfl) ?_
        refine lv_iload_n hx hb dL_law_185 rfl (lv_at hl 3 rfl) ?_
        refine lv_iconst (v := (4 : Int32)) hx hb dL_law_186 (by decide) ?_
        refine lv_iadd hx hb dL_law_187 ?_
        obtain ⟨q19, hcf⟩ := og hcf
        refine va_sld hx hb hX hbl hbA hS q19 dL_law_188 ?_
        obtain ⟨q20, hcf⟩ := og hcf
        obtain ⟨x21, hx21, hcf⟩ := ob hcf
        refine iv_L_17 (As := [.int (xs (j3 + (1 : Int32)).toNatClampNeg), .int (xs (j3 + (2 : Int32)).toNatClampNeg), .int (xs (j3 + (3 : Int32)).toNatClampNeg), .int (xs (j3 + (4 : Int32)).toNatClampNeg)]) (rest := [.int x15.1]) hx hb hml hown hts hE (ct_X4_condition l D cy z n Y x15.2.1 x15.2.2 j2 (xs (j3 + (1 : Int32)).toNatClampNeg) (xs (j3 + (2 : Int32)).toNatClampNeg) (xs (j3 + (3 : Int32)).toNatClampNeg) (xs (j3 + (4 : Int32)).toNatClampNeg) x21 hx21) hW hS q20 rfl rfl hl.1 (Nat.le_of_ble_eq_true rfl) ⟨Nat.le_of_ble_eq_true rfl, Nat.le_of_ble_eq_true rfl⟩ dL_law_189 ⟨Nat.le_of_ble_eq_true rfl, Nat.le_of_ble_eq_true rfl⟩ (fun H locs hW hS => ?_)
        refine lv_icmp_eq (tgt := 817) hx hb dL_law_192 (by decide) (fun q22 => ?_) (fun q22 => ?_)
        · replace hcf := (if_pos q22).symm.trans hcf
          refine lv_iinc (v := (j3 + 5)) (lv' := [(3, .int (j3 + 5)), (0, .ref b), (1, .ref j1), (2, .ref j2)]) hx hb dL_law_817 hl (k := 3) rfl rfl (by decide) rfl (fun ls hl => ?_)
          refine lv_goto (tgt := 18) hx hb dL_law_820 (by decide) ?_
          exact ih x21.2 x15.2.2 j1 j2 (j3 + 5) _ _ _ hcf hW hS (lv_sub hl [1, 2, 3, 0] rfl)
        · replace hcf := (if_neg q22).symm.trans hcf
          refine lv_iconst (v := (0 : Int32)) hx hb dL_law_195 (by decide) ?_
          exact absurd hcf (by decide)
      · replace hcf := (if_neg q9).symm.trans hcf
        by_cases q23 : ((xs j3.toNatClampNeg) &&& (31 : Int32)) = (1 : Int32)
        · replace hcf := (if_pos q23).symm.trans hcf
          refine wk_tsw (off := 165) (tgt := 197) hx hb dL_law_32 (by rw [q23]; rfl) (by decide) ?_
          refine lv_aload_n hx hb dL_law_197 rfl (lv_at hl 1 rfl) ?_
          refine lv_aload_n hx hb dL_law_198 rfl (lv_at hl 0 rfl) ?_
          refine lv_iload_n hx hb dL_law_199 rfl (lv_at hl 3 rfl) ?_
          refine lv_iconst (v := (1 : Int32)) hx hb dL_law_200 (by decide) ?_
          refine lv_iadd hx hb dL_law_201 ?_
          obtain ⟨q24, hcf⟩ := og hcf
          refine va_sld hx hb hX hbl hbA hS q24 dL_law_202 ?_
          obtain ⟨q25, hcf⟩ := og hcf
          obtain ⟨x26, hx26, hcf⟩ := ob hcf
          refine iv_L_18 (As := [.int (xs (j3 + (1 : Int32)).toNatClampNeg)]) (rest := []) hx hb hml hown hts hE (ct_X3_begin l D cy z n Y V G j1 (xs (j3 + (1 : Int32)).toNatClampNeg) x26 hx26) hW hS q25 rfl rfl hl.1 (Nat.le_of_ble_eq_true rfl) ⟨Nat.le_of_ble_eq_true rfl, Nat.le_of_ble_eq_true rfl⟩ dL_law_203 ⟨Nat.le_of_ble_eq_true rfl, Nat.le_of_ble_eq_true rfl⟩ (fun H locs hW hS => ?_)
          refine lv_aload_n hx hb dL_law_206 rfl (lv_at hl 2 rfl) ?_
          refine lv_aload_n hx hb dL_law_207 rfl (lv_at hl 0 rfl) ?_
          refine lv_iload_n hx hb dL_law_208 rfl (lv_at hl 3 rfl) ?_
          refine lv_iconst (v := (1 : Int32)) hx hb dL_law_209 (by decide) ?_
          refine lv_iadd hx hb dL_law_210 ?_
          obtain ⟨q27, hcf⟩ := og hcf
          refine va_sld hx hb hX hbl hbA hS q27 dL_law_211 ?_
          obtain ⟨q28, hcf⟩ := og hcf
          obtain ⟨x29, hx29, hcf⟩ := ob hcf
          refine iv_L_22 (As := [.int (xs (j3 + (1 : Int32)).toNatClampNeg)]) (rest := [.int x26.1]) hx hb hml hown hts hE (ct_X4_begin l D cy z n Y x26.2.1 x26.2.2 j2 (xs (j3 + (1 : Int32)).toNatClampNeg) x29 hx29) hW hS q28 rfl rfl hl.1 (Nat.le_of_ble_eq_true rfl) ⟨Nat.le_of_ble_eq_true rfl, Nat.le_of_ble_eq_true rfl⟩ dL_law_212 ⟨Nat.le_of_ble_eq_true rfl, Nat.le_of_ble_eq_true rfl⟩ (fun H locs hW hS => ?_)
          refine lv_icmp_eq (tgt := 817) hx hb dL_law_215 (by decide) (fun q30 => ?_) (fun q30 => ?_)
          · replace hcf := (if_pos q30).symm.trans hcf
            refine lv_iinc (v := (j3 + 5)) (lv' := [(3, .int (j3 + 5)), (0, .ref b), (1, .ref j1), (2, .ref j2)]) hx hb dL_law_817 hl (k := 3) rfl rfl (by decide) rfl (fun ls hl => ?_)
            refine lv_goto (tgt := 18) hx hb dL_law_820 (by decide) ?_
            exact ih x29.2 x26.2.2 j1 j2 (j3 + 5) _ _ _ hcf hW hS (lv_sub hl [1, 2, 3, 0] rfl)
          · replace hcf := (if_neg q30).symm.trans hcf
            refine lv_iconst (v := (0 : Int32)) hx hb dL_law_218 (by decide) ?_
            exact absurd hcf (by decide)
        · replace hcf := (if_neg q23).symm.trans hcf
          by_cases q31 : ((xs j3.toNatClampNeg) &&& (31 : Int32)) = (2 : Int32)
          · replace hcf := (if_pos q31).symm.trans hcf
            refine wk_tsw (off := 188) (tgt := 220) hx hb dL_law_32 (by rw [q31]; rfl) (by decide) ?_
            refine lv_aload_n hx hb dL_law_220 rfl (lv_at hl 1 rfl) ?_
            refine lv_aload_n hx hb dL_law_221 rfl (lv_at hl 0 rfl) ?_
            refine lv_iload_n hx hb dL_law_222 rfl (lv_at hl 3 rfl) ?_
            refine lv_iconst (v := (1 : Int32)) hx hb dL_law_223 (by decide) ?_
            refine lv_iadd hx hb dL_law_224 ?_
            obtain ⟨q32, hcf⟩ := og hcf
            refine va_sld hx hb hX hbl hbA hS q32 dL_law_225 ?_
            obtain ⟨q33, hcf⟩ := og hcf
            obtain ⟨x34, hx34, hcf⟩ := ob hcf
            refine iv_L_23 (As := [.int (xs (j3 + (1 : Int32)).toNatClampNeg)]) (rest := []) hx hb hml hown hts hE (ct_X3_finish l D cy z n Y V G j1 (xs (j3 + (1 : Int32)).toNatClampNeg) x34 hx34) hW hS q33 rfl rfl hl.1 (Nat.le_of_ble_eq_true rfl) ⟨Nat.le_of_ble_eq_true rfl, Nat.le_of_ble_eq_true rfl⟩ dL_law_226 ⟨Nat.le_of_ble_eq_true rfl, Nat.le_of_ble_eq_true rfl⟩ (fun H locs hW hS => ?_)
            refine lv_aload_n hx hb dL_law_229 rfl (lv_at hl 2 rfl) ?_
            refine lv_aload_n hx hb dL_law_230 rfl (lv_at hl 0 rfl) ?_
            refine lv_iload_n hx hb dL_law_231 rfl (lv_at hl 3 rfl) ?_
            refine lv_iconst (v := (1 : Int32)) hx hb dL_law_232 (by decide) ?_
            refine lv_iadd hx hb dL_law_233 ?_
            obtain ⟨q35, hcf⟩ := og hcf
            refine va_sld hx hb hX hbl hbA hS q35 dL_law_234 ?_
            obtain ⟨q36, hcf⟩ := og hcf
            obtain ⟨x37, hx37, hcf⟩ := ob hcf
            refine iv_L_26 (As := [.int (xs (j3 + (1 : Int32)).toNatClampNeg)]) (rest := [.int x34.1]) hx hb hml hown hts hE (ct_X4_finish l D cy z n Y x34.2.1 x34.2.2 j2 (xs (j3 + (1 : Int32)).toNatClampNeg) x37 hx37) hW hS q36 rfl rfl hl.1 (Nat.le_of_ble_eq_true rfl) ⟨Nat.le_of_ble_eq_true rfl, Nat.le_of_ble_eq_true rfl⟩ dL_law_235 ⟨Nat.le_of_ble_eq_true rfl, Nat.le_of_ble_eq_true rfl⟩ (fun H locs hW hS => ?_)
            refine lv_icmp_eq (tgt := 817) hx hb dL_law_238 (by decide) (fun q38 => ?_) (fun q38 => ?_)
            · replace hcf := (if_pos q38).symm.trans hcf
              refine lv_iinc (v := (j3 + 5)) (lv' := [(3, .int (j3 + 5)), (0, .ref b), (1, .ref j1), (2, .ref j2)]) hx hb dL_law_817 hl (k := 3) rfl rfl (by decide) rfl (fun ls hl => ?_)
              refine lv_goto (tgt := 18) hx hb dL_law_820 (by decide) ?_
              exact ih x37.2 x34.2.2 j1 j2 (j3 + 5) _ _ _ hcf hW hS (lv_sub hl [1, 2, 3, 0] rfl)
            · replace hcf := (if_neg q38).symm.trans hcf
              refine lv_iconst (v := (0 : Int32)) hx hb dL_law_241 (by decide) ?_
              exact absurd hcf (by decide)
          · replace hcf := (if_neg q31).symm.trans hcf
            by_cases q39 : ((xs j3.toNatClampNeg) &&& (31 : Int32)) = (3 : Int32)
            · replace hcf := (if_pos q39).symm.trans hcf
              refine wk_tsw (off := 211) (tgt := 243) hx hb dL_law_32 (by rw [q39]; rfl) (by decide) ?_
              refine lv_aload_n hx hb dL_law_243 rfl (lv_at hl 1 rfl) ?_
              refine lv_aload_n hx hb dL_law_244 rfl (lv_at hl 0 rfl) ?_
              refine lv_iload_n hx hb dL_law_245 rfl (lv_at hl 3 rfl) ?_
              refine lv_iconst (v := (1 : Int32)) hx hb dL_law_246 (by decide) ?_
              refine lv_iadd hx hb dL_law_247 ?_
              obtain ⟨q40, hcf⟩ := og hcf
              refine va_sld hx hb hX hbl hbA hS q40 dL_law_248 ?_
              refine lv_aload_n hx hb dL_law_249 rfl (lv_at hl 0 rfl) ?_
              refine lv_iload_n hx hb dL_law_250 rfl (lv_at hl 3 rfl) ?_
              refine lv_iconst (v := (2 : Int32)) hx hb dL_law_251 (by decide) ?_
              refine lv_iadd hx hb dL_law_252 ?_
              obtain ⟨q41, hcf⟩ := og hcf
              refine va_sld hx hb hX hbl hbA hS q41 dL_law_253 ?_
              obtain ⟨q42, hcf⟩ := og hcf
              obtain ⟨x43, hx43, hcf⟩ := ob hcf
              refine iv_L_27 (As := [.int (xs (j3 + (1 : Int32)).toNatClampNeg), .int (xs (j3 + (2 : Int32)).toNatClampNeg)]) (rest := []) hx hb hml hown hts hE (ct_X3_apply l D cy z n Y V G j1 (xs (j3 + (1 : Int32)).toNatClampNeg) (xs (j3 + (2 : Int32)).toNatClampNeg) x43 hx43) hW hS q42 rfl rfl hl.1 (Nat.le_of_ble_eq_true rfl) ⟨Nat.le_of_ble_eq_true rfl, Nat.le_of_ble_eq_true rfl⟩ dL_law_254 ⟨Nat.le_of_ble_eq_true rfl, Nat.le_of_ble_eq_true rfl⟩ (fun H locs hW hS => ?_)
              refine lv_aload_n hx hb dL_law_257 rfl (lv_at hl 2 rfl) ?_
              refine lv_aload_n hx hb dL_law_258 rfl (lv_at hl 0 rfl) ?_
              refine lv_iload_n hx hb dL_law_259 rfl (lv_at hl 3 rfl) ?_
              refine lv_iconst (v := (1 : Int32)) hx hb dL_law_260 (by decide) ?_
              refine lv_iadd hx hb dL_law_261 ?_
              obtain ⟨q44, hcf⟩ := og hcf
              refine va_sld hx hb hX hbl hbA hS q44 dL_law_262 ?_
              refine lv_aload_n hx hb dL_law_263 rfl (lv_at hl 0 rfl) ?_
              refine lv_iload_n hx hb dL_law_264 rfl (lv_at hl 3 rfl) ?_
              refine lv_iconst (v := (2 : Int32)) hx hb dL_law_265 (by decide) ?_
              refine lv_iadd hx hb dL_law_266 ?_
              obtain ⟨q45, hcf⟩ := og hcf
              refine va_sld hx hb hX hbl hbA hS q45 dL_law_267 ?_
              obtain ⟨q46, hcf⟩ := og hcf
              obtain ⟨x47, hx47, hcf⟩ := ob hcf
              refine iv_L_31 (As := [.int (xs (j3 + (1 : Int32)).toNatClampNeg), .int (xs (j3 + (2 : Int32)).toNatClampNeg)]) (rest := [.int x43.1]) hx hb hml hown hts hE (ct_X4_apply l D cy z n Y x43.2.1 x43.2.2 j2 (xs (j3 + (1 : Int32)).toNatClampNeg) (xs (j3 + (2 : Int32)).toNatClampNeg) x47 hx47) hW hS q46 rfl rfl hl.1 (Nat.le_of_ble_eq_true rfl) ⟨Nat.le_of_ble_eq_true rfl, Nat.le_of_ble_eq_true rfl⟩ dL_law_268 ⟨Nat.le_of_ble_eq_true rfl, Nat.le_of_ble_eq_true rfl⟩ (fun H locs hW hS => ?_)
              refine lv_icmp_eq (tgt := 817) hx hb dL_law_271 (by decide) (fun q48 => ?_) (fun q48 => ?_)
              · replace hcf := (if_pos q48).symm.trans hcf
                refine lv_iinc (v := (j3 + 5)) (lv' := [(3, .int (j3 + 5)), (0, .ref b), (1, .ref j1), (2, .ref j2)]) hx hb dL_law_817 hl (k := 3) rfl rfl (by decide) rfl (fun ls hl => ?_)
                refine lv_goto (tgt := 18) hx hb dL_law_820 (by decide) ?_
                exact ih x47.2 x43.2.2 j1 j2 (j3 + 5) _ _ _ hcf hW hS (lv_sub hl [1, 2, 3, 0] rfl)
              · replace hcf := (if_neg q48).symm.trans hcf
                refine lv_iconst (v := (0 : Int32)) hx hb dL_law_274 (by decide) ?_
                exact absurd hcf (by decide)
            · replace hcf := (if_neg q39).symm.trans hcf
              by_cases q49 : ((xs j3.toNatClampNeg) &&& (31 : Int32)) = (4 : Int32)
              · replace hcf := (if_pos q49).symm.trans hcf
                refine wk_tsw (off := 244) (tgt := 276) hx hb dL_law_32 (by rw [q49]; rfl) (by decide) ?_
                refine lv_aload_n hx hb dL_law_276 rfl (lv_at hl 1 rfl) ?_
                refine lv_aload_n hx hb dL_law_277 rfl (lv_at hl 0 rfl) ?_
                refine lv_iload_n hx hb dL_law_278 rfl (lv_at hl 3 rfl) ?_
                refine lv_iconst (v := (1 : Int32)) hx hb dL_law_279 (by decide) ?_
                refine lv_iadd hx hb dL_law_280 ?_
                obtain ⟨q50, hcf⟩ := og hcf
                refine va_sld hx hb hX hbl hbA hS q50 dL_law_281 ?_
                refine lv_aload_n hx hb dL_law_282 rfl (lv_at hl 0 rfl) ?_
                refine lv_iload_n hx hb dL_law_283 rfl (lv_at hl 3 rfl) ?_
                refine lv_iconst (v := (2 : Int32)) hx hb dL_law_284 (by decide) ?_
                refine lv_iadd hx hb dL_law_285 ?_
                obtain ⟨q51, hcf⟩ := og hcf
                refine va_sld hx hb hX hbl hbA hS q51 dL_law_286 ?_
                obtain ⟨q52, hcf⟩ := og hcf
                obtain ⟨x53, hx53, hcf⟩ := ob hcf
                refine iv_L_32 (As := [.int (xs (j3 + (1 : Int32)).toNatClampNeg), .int (xs (j3 + (2 : Int32)).toNatClampNeg)]) (rest := []) hx hb hml hown hts hE (ct_X3_decide l D cy z n Y V G j1 (xs (j3 + (1 : Int32)).toNatClampNeg) (xs (j3 + (2 : Int32)).toNatClampNeg) x53 hx53) hW hS q52 rfl rfl hl.1 (Nat.le_of_ble_eq_true rfl) ⟨Nat.le_of_ble_eq_true rfl, Nat.le_of_ble_eq_true rfl⟩ dL_law_287 ⟨Nat.le_of_ble_eq_true rfl, Nat.le_of_ble_eq_true rfl⟩ (fun H locs hW hS => ?_)
                refine lv_aload_n hx hb dL_law_290 rfl (lv_at hl 2 rfl) ?_
                refine lv_aload_n hx hb dL_law_291 rfl (lv_at hl 0 rfl) ?_
                refine lv_iload_n hx hb dL_law_292 rfl (lv_at hl 3 rfl) ?_
                refine lv_iconst (v := (1 : Int32)) hx hb dL_law_293 (by decide) ?_
                refine lv_iadd hx hb dL_law_294 ?_
                obtain ⟨q54, hcf⟩ := og hcf
                refine va_sld hx hb hX hbl hbA hS q54 dL_law_295 ?_
                refine lv_aload_n hx hb dL_law_296 rfl (lv_at hl 0 rfl) ?_
                refine lv_iload_n hx hb dL_law_297 rfl (lv_at hl 3 rfl) ?_
                refine lv_iconst (v := (2 : Int32)) hx hb dL_law_298 (by decide) ?_
                refine lv_iadd hx hb dL_law_299 ?_
                obtain ⟨q55, hcf⟩ := og hcf
                refine va_sld hx hb hX hbl hbA hS q55 dL_law_300 ?_
                obtain ⟨q56, hcf⟩ := og hcf
                obtain ⟨x57, hx57, hcf⟩ := ob hcf
                refine iv_L_35 (As := [.int (xs (j3 + (1 : Int32)).toNatClampNeg), .int (xs (j3 + (2 : Int32)).toNatClampNeg)]) (rest := [.int x53.1]) hx hb hml hown hts hE (ct_X4_decide l D cy z n Y x53.2.1 x53.2.2 j2 (xs (j3 + (1 : Int32)).toNatClampNeg) (xs (j3 + (2 : Int32)).toNatClampNeg) x57 hx57) hW hS q56 rfl rfl hl.1 (Nat.le_of_ble_eq_true rfl) ⟨Nat.le_of_ble_eq_true rfl, Nat.le_of_ble_eq_true rfl⟩ dL_law_301 ⟨Nat.le_of_ble_eq_true rfl, Nat.le_of_ble_eq_true rfl⟩ (fun H locs hW hS => ?_)
                refine lv_icmp_eq (tgt := 817) hx hb dL_law_304 (by decide) (fun q58 => ?_) (fun q58 => ?_)
                · replace hcf := (if_pos q58).symm.trans hcf
                  refine lv_iinc (v := (j3 + 5)) (lv' := [(3, .int (j3 + 5)), (0, .ref b), (1, .ref j1), (2, .ref j2)]) hx hb dL_law_817 hl (k := 3) rfl rfl (by decide) rfl (fun ls hl => ?_)
                  refine lv_goto (tgt := 18) hx hb dL_law_820 (by decide) ?_
                  exact ih x57.2 x53.2.2 j1 j2 (j3 + 5) _ _ _ hcf hW hS (lv_sub hl [1, 2, 3, 0] rfl)
                · replace hcf := (if_neg q58).symm.trans hcf
                  refine lv_iconst (v := (0 : Int32)) hx hb dL_law_307 (by decide) ?_
                  exact absurd hcf (by decide)
              · replace hcf := (if_neg q49).symm.trans hcf
                by_cases q59 : ((xs j3.toNatClampNeg) &&& (31 : Int32)) = (5 : Int32)
                · replace hcf := (if_pos q59).symm.trans hcf
                  refine wk_tsw (off := 277) (tgt := 309) hx hb dL_law_32 (by rw [q59]; rfl) (by decide) ?_
                  refine lv_aload_n hx hb dL_law_309 rfl (lv_at hl 1 rfl) ?_
                  refine lv_aload_n hx hb dL_law_310 rfl (lv_at hl 0 rfl) ?_
                  refine lv_iload_n hx hb dL_law_311 rfl (lv_at hl 3 rfl) ?_
                  refine lv_iconst (v := (1 : Int32)) hx hb dL_law_312 (by decide) ?_
                  refine lv_iadd hx hb dL_law_313 ?_
                  obtain ⟨q60, hcf⟩ := og hcf
                  refine va_sld hx hb hX hbl hbA hS q60 dL_law_314 ?_
                  obtain ⟨q61, hcf⟩ := og hcf
                  obtain ⟨x62, hx62, hcf⟩ := ob hcf
                  refine iv_L_36 (As := [.int (xs (j3 + (1 : Int32)).toNatClampNeg)]) (rest := []) hx hb hml hown hts hE (ct_X3_lapse l D cy z n Y V G j1 (xs (j3 + (1 : Int32)).toNatClampNeg) x62 hx62) hW hS q61 rfl rfl hl.1 (Nat.le_of_ble_eq_true rfl) ⟨Nat.le_of_ble_eq_true rfl, Nat.le_of_ble_eq_true rfl⟩ dL_law_315 ⟨Nat.le_of_ble_eq_true rfl, Nat.le_of_ble_eq_true rfl⟩ (fun H locs hW hS => ?_)
                  refine lv_aload_n hx hb dL_law_318 rfl (lv_at hl 2 rfl) ?_
                  refine lv_aload_n hx hb dL_law_319 rfl (lv_at hl 0 rfl) ?_
                  refine lv_iload_n hx hb dL_law_320 rfl (lv_at hl 3 rfl) ?_
                  refine lv_iconst (v := (1 : Int32)) hx hb dL_law_321 (by decide) ?_
                  refine lv_iadd hx hb dL_law_322 ?_
                  obtain ⟨q63, hcf⟩ := og hcf
                  refine va_sld hx hb hX hbl hbA hS q63 dL_law_323 ?_
                  obtain ⟨q64, hcf⟩ := og hcf
                  obtain ⟨x65, hx65, hcf⟩ := ob hcf
                  refine iv_L_39 (As := [.int (xs (j3 + (1 : Int32)).toNatClampNeg)]) (rest := [.int x62.1]) hx hb hml hown hts hE (ct_X4_lapse l D cy z n Y x62.2.1 x62.2.2 j2 (xs (j3 + (1 : Int32)).toNatClampNeg) x65 hx65) hW hS q64 rfl rfl hl.1 (Nat.le_of_ble_eq_true rfl) ⟨Nat.le_of_ble_eq_true rfl, Nat.le_of_ble_eq_true rfl⟩ dL_law_324 ⟨Nat.le_of_ble_eq_true rfl, Nat.le_of_ble_eq_true rfl⟩ (fun H locs hW hS => ?_)
                  refine lv_icmp_eq (tgt := 817) hx hb dL_law_327 (by decide) (fun q66 => ?_) (fun q66 => ?_)
                  · replace hcf := (if_pos q66).symm.trans hcf
                    refine lv_iinc (v := (j3 + 5)) (lv' := [(3, .int (j3 + 5)), (0, .ref b), (1, .ref j1), (2, .ref j2)]) hx hb dL_law_817 hl (k := 3) rfl rfl (by decide) rfl (fun ls hl => ?_)
                    refine lv_goto (tgt := 18) hx hb dL_law_820 (by decide) ?_
                    exact ih x65.2 x62.2.2 j1 j2 (j3 + 5) _ _ _ hcf hW hS (lv_sub hl [1, 2, 3, 0] rfl)
                  · replace hcf := (if_neg q66).symm.trans hcf
                    refine lv_iconst (v := (0 : Int32)) hx hb dL_law_330 (by decide) ?_
                    exact absurd hcf (by decide)
                · replace hcf := (if_neg q59).symm.trans hcf
                  by_cases q67 : ((xs j3.toNatClampNeg) &&& (31 : Int32)) = (6 : Int32)
                  · replace hcf := (if_pos q67).symm.trans hcf
                    refine wk_tsw (off := 300) (tgt := 332) hx hb dL_law_32 (by rw [q67]; rfl) (by decide) ?_
                    refine lv_aload_n hx hb dL_law_332 rfl (lv_at hl 1 rfl) ?_
                    refine lv_aload_n hx hb dL_law_333 rfl (lv_at hl 0 rfl) ?_
                    refine lv_iload_n hx hb dL_law_334 rfl (lv_at hl 3 rfl) ?_
                    refine lv_iconst (v := (1 : Int32)) hx hb dL_law_335 (by decide) ?_
                    refine lv_iadd hx hb dL_law_336 ?_
                    obtain ⟨q68, hcf⟩ := og hcf
                    refine va_sld hx hb hX hbl hbA hS q68 dL_law_337 ?_
                    obtain ⟨q69, hcf⟩ := og hcf
                    obtain ⟨x70, hx70, hcf⟩ := ob hcf
                    refine iv_L_40 (As := [.int (xs (j3 + (1 : Int32)).toNatClampNeg)]) (rest := []) hx hb hml hown hts hE (ct_X3_cure l D cy z n Y V G j1 (xs (j3 + (1 : Int32)).toNatClampNeg) x70 hx70) hW hS q69 rfl rfl hl.1 (Nat.le_of_ble_eq_true rfl) ⟨Nat.le_of_ble_eq_true rfl, Nat.le_of_ble_eq_true rfl⟩ dL_law_338 ⟨Nat.le_of_ble_eq_true rfl, Nat.le_of_ble_eq_true rfl⟩ (fun H locs hW hS => ?_)
                    refine lv_aload_n hx hb dL_law_341 rfl (lv_at hl 2 rfl) ?_
                    refine lv_aload_n hx hb dL_law_342 rfl (lv_at hl 0 rfl) ?_
                    refine lv_iload_n hx hb dL_law_343 rfl (lv_at hl 3 rfl) ?_
                    refine lv_iconst (v := (1 : Int32)) hx hb dL_law_344 (by decide) ?_
                    refine lv_iadd hx hb dL_law_345 ?_
                    obtain ⟨q71, hcf⟩ := og hcf
                    refine va_sld hx hb hX hbl hbA hS q71 dL_law_346 ?_
                    obtain ⟨q72, hcf⟩ := og hcf
                    obtain ⟨x73, hx73, hcf⟩ := ob hcf
                    refine iv_L_43 (As := [.int (xs (j3 + (1 : Int32)).toNatClampNeg)]) (rest := [.int x70.1]) hx hb hml hown hts hE (ct_X4_cure l D cy z n Y x70.2.1 x70.2.2 j2 (xs (j3 + (1 : Int32)).toNatClampNeg) x73 hx73) hW hS q72 rfl rfl hl.1 (Nat.le_of_ble_eq_true rfl) ⟨Nat.le_of_ble_eq_true rfl, Nat.le_of_ble_eq_true rfl⟩ dL_law_347 ⟨Nat.le_of_ble_eq_true rfl, Nat.le_of_ble_eq_true rfl⟩ (fun H locs hW hS => ?_)
                    refine lv_icmp_eq (tgt := 817) hx hb dL_law_350 (by decide) (fun q74 => ?_) (fun q74 => ?_)
                    · replace hcf := (if_pos q74).symm.trans hcf
                      refine lv_iinc (v := (j3 + 5)) (lv' := [(3, .int (j3 + 5)), (0, .ref b), (1, .ref j1), (2, .ref j2)]) hx hb dL_law_817 hl (k := 3) rfl rfl (by decide) rfl (fun ls hl => ?_)
                      refine lv_goto (tgt := 18) hx hb dL_law_820 (by decide) ?_
                      exact ih x73.2 x70.2.2 j1 j2 (j3 + 5) _ _ _ hcf hW hS (lv_sub hl [1, 2, 3, 0] rfl)
                    · replace hcf := (if_neg q74).symm.trans hcf
                      refine lv_iconst (v := (0 : Int32)) hx hb dL_law_353 (by decide) ?_
                      exact absurd hcf (by decide)
                  · replace hcf := (if_neg q67).symm.trans hcf
                    by_cases q75 : ((xs j3.toNatClampNeg) &&& (31 : Int32)) = (7 : Int32)
                    · replace hcf := (if_pos q75).symm.trans hcf
                      refine wk_tsw (off := 323) (tgt := 355) hx hb dL_law_32 (by rw [q75]; rfl) (by decide) ?_
                      refine lv_aload_n hx hb dL_law_355 rfl (lv_at hl 1 rfl) ?_
                      refine lv_aload_n hx hb dL_law_356 rfl (lv_at hl 0 rfl) ?_
                      refine lv_iload_n hx hb dL_law_357 rfl (lv_at hl 3 rfl) ?_
                      refine lv_iconst (v := (1 : Int32)) hx hb dL_law_358 (by decide) ?_
                      refine lv_iadd hx hb dL_law_359 ?_
                      obtain ⟨q76, hcf⟩ := og hcf
                      refine va_sld hx hb hX hbl hbA hS q76 dL_law_360 ?_
                      refine lv_aload_n hx hb dL_law_361 rfl (lv_at hl 0 rfl) ?_
                      refine lv_iload_n hx hb dL_law_362 rfl (lv_at hl 3 rfl) ?_
                      refine lv_iconst (v := (2 : Int32)) hx hb dL_law_363 (by decide) ?_
                      refine lv_iadd hx hb dL_law_364 ?_
                      obtain ⟨q77, hcf⟩ := og hcf
                      refine va_sld hx hb hX hbl hbA hS q77 dL_law_365 ?_
                      obtain ⟨q78, hcf⟩ := og hcf
                      obtain ⟨x79, hx79, hcf⟩ := ob hcf
                      refine iv_L_44 (As := [.int (xs (j3 + (1 : Int32)).toNatClampNeg), .int (xs (j3 + (2 : Int32)).toNatClampNeg)]) (rest := []) hx hb hml hown hts hE (ct_X3_serve l D cy z n Y V G j1 (xs (j3 + (1 : Int32)).toNatClampNeg) (xs (j3 + (2 : Int32)).toNatClampNeg) x79 hx79) hW hS q78 rfl rfl hl.1 (Nat.le_of_ble_eq_true rfl) ⟨Nat.le_of_ble_eq_true rfl, Nat.le_of_ble_eq_true rfl⟩ dL_law_366 ⟨Nat.le_of_ble_eq_true rfl, Nat.le_of_ble_eq_true rfl⟩ (fun H locs hW hS => ?_)
                      refine lv_aload_n hx hb dL_law_369 rfl (lv_at hl 2 rfl) ?_
                      refine lv_aload_n hx hb dL_law_370 rfl (lv_at hl 0 rfl) ?_
                      refine lv_iload_n hx hb dL_law_371 rfl (lv_at hl 3 rfl) ?_
                      refine lv_iconst (v := (1 : Int32)) hx hb dL_law_372 (by decide) ?_
                      refine lv_iadd hx hb dL_law_373 ?_
                      obtain ⟨q80, hcf⟩ := og hcf
                      refine va_sld hx hb hX hbl hbA hS q80 dL_law_374 ?_
                      refine lv_aload_n hx hb dL_law_375 rfl (lv_at hl 0 rfl) ?_
                      refine lv_iload_n hx hb dL_law_376 rfl (lv_at hl 3 rfl) ?_
                      refine lv_iconst (v := (2 : Int32)) hx hb dL_law_377 (by decide) ?_
                      refine lv_iadd hx hb dL_law_378 ?_
                      obtain ⟨q81, hcf⟩ := og hcf
                      refine va_sld hx hb hX hbl hbA hS q81 dL_law_379 ?_
                      obtain ⟨q82, hcf⟩ := og hcf
                      obtain ⟨x83, hx83, hcf⟩ := ob hcf
                      refine iv_L_47 (As := [.int (xs (j3 + (1 : Int32)).toNatClampNeg), .int (xs (j3 + (2 : Int32)).toNatClampNeg)]) (rest := [.int x79.1]) hx hb hml hown hts hE (ct_X4_serve l D cy z n Y x79.2.1 x79.2.2 j2 (xs (j3 + (1 : Int32)).toNatClampNeg) (xs (j3 + (2 : Int32)).toNatClampNeg) x83 hx83) hW hS q82 rfl rfl hl.1 (Nat.le_of_ble_eq_true rfl) ⟨Nat.le_of_ble_eq_true rfl, Nat.le_of_ble_eq_true rfl⟩ dL_law_380 ⟨Nat.le_of_ble_eq_true rfl, Nat.le_of_ble_eq_true rfl⟩ (fun H locs hW hS => ?_)
                      refine lv_icmp_eq (tgt := 817) hx hb dL_law_383 (by decide) (fun q84 => ?_) (fun q84 => ?_)
                      · replace hcf := (if_pos q84).symm.trans hcf
                        refine lv_iinc (v := (j3 + 5)) (lv' := [(3, .int (j3 + 5)), (0, .ref b), (1, .ref j1), (2, .ref j2)]) hx hb dL_law_817 hl (k := 3) rfl rfl (by decide) rfl (fun ls hl => ?_)
                        refine lv_goto (tgt := 18) hx hb dL_law_820 (by decide) ?_
                        exact ih x83.2 x79.2.2 j1 j2 (j3 + 5) _ _ _ hcf hW hS (lv_sub hl [1, 2, 3, 0] rfl)
                      · replace hcf := (if_neg q84).symm.trans hcf
                        refine lv_iconst (v := (0 : Int32)) hx hb dL_law_386 (by decide) ?_
                        exact absurd hcf (by decide)
                    · replace hcf := (if_neg q75).symm.trans hcf
                      by_cases q85 : ((xs j3.toNatClampNeg) &&& (31 : Int32)) = (8 : Int32)
                      · replace hcf := (if_pos q85).symm.trans hcf
                        refine wk_tsw (off := 356) (tgt := 388) hx hb dL_law_32 (by rw [q85]; rfl) (by decide) ?_
                        refine lv_aload_n hx hb dL_law_388 rfl (lv_at hl 1 rfl) ?_
                        refine lv_aload_n hx hb dL_law_389 rfl (lv_at hl 0 rfl) ?_
                        refine lv_iload_n hx hb dL_law_390 rfl (lv_at hl 3 rfl) ?_
                        refine lv_iconst (v := (1 : Int32)) hx hb dL_law_391 (by decide) ?_
                        refine lv_iadd hx hb dL_law_392 ?_
                        obtain ⟨q86, hcf⟩ := og hcf
                        refine va_sld hx hb hX hbl hbA hS q86 dL_law_393 ?_
                        refine lv_aload_n hx hb dL_law_394 rfl (lv_at hl 0 rfl) ?_
                        refine lv_iload_n hx hb dL_law_395 rfl (lv_at hl 3 rfl) ?_
                        refine lv_iconst (v := (2 : Int32)) hx hb dL_law_396 (by decide) ?_
                        refine lv_iadd hx hb dL_law_397 ?_
                        obtain ⟨q87, hcf⟩ := og hcf
                        refine va_sld hx hb hX hbl hbA hS q87 dL_law_398 ?_
                        refine lv_aload_n hx hb dL_law_399 rfl (lv_at hl 0 rfl) ?_
                        refine lv_iload_n hx hb dL_law_400 rfl (lv_at hl 3 rfl) ?_
                        refine lv_iconst (v := (3 : Int32)) hx hb dL_law_401 (by decide) ?_
                        refine lv_iadd hx hb dL_law_402 ?_
                        obtain ⟨q88, hcf⟩ := og hcf
                        refine va_sld hx hb hX hbl hbA hS q88 dL_law_403 ?_
                        obtain ⟨q89, hcf⟩ := og hcf
                        obtain ⟨x90, hx90, hcf⟩ := ob hcf
                        refine iv_L_48 (As := [.int (xs (j3 + (1 : Int32)).toNatClampNeg), .int (xs (j3 + (2 : Int32)).toNatClampNeg), .int (xs (j3 + (3 : Int32)).toNatClampNeg)]) (rest := []) hx hb hml hown hts hE (ct_X3_vary l D cy z n Y V G j1 (xs (j3 + (1 : Int32)).toNatClampNeg) (xs (j3 + (2 : Int32)).toNatClampNeg) (xs (j3 + (3 : Int32)).toNatClampNeg) x90 hx90) hW hS q89 rfl rfl hl.1 (Nat.le_of_ble_eq_true rfl) ⟨Nat.le_of_ble_eq_true rfl, Nat.le_of_ble_eq_true rfl⟩ dL_law_404 ⟨Nat.le_of_ble_eq_true rfl, Nat.le_of_ble_eq_true rfl⟩ (fun H locs hW hS => ?_)
                        refine lv_aload_n hx hb dL_law_407 rfl (lv_at hl 2 rfl) ?_
                        refine lv_aload_n hx hb dL_law_408 rfl (lv_at hl 0 rfl) ?_
                        refine lv_iload_n hx hb dL_law_409 rfl (lv_at hl 3 rfl) ?_
                        refine lv_iconst (v := (1 : Int32)) hx hb dL_law_410 (by decide) ?_
                        refine lv_iadd hx hb dL_law_411 ?_
                        obtain ⟨q91, hcf⟩ := og hcf
                        refine va_sld hx hb hX hbl hbA hS q91 dL_law_412 ?_
                        refine lv_aload_n hx hb dL_law_413 rfl (lv_at hl 0 rfl) ?_
                        refine lv_iload_n hx hb dL_law_414 rfl (lv_at hl 3 rfl) ?_
                        refine lv_iconst (v := (2 : Int32)) hx hb dL_law_415 (by decide) ?_
                        refine lv_iadd hx hb dL_law_416 ?_
                        obtain ⟨q92, hcf⟩ := og hcf
                        refine va_sld hx hb hX hbl hbA hS q92 dL_law_417 ?_
                        refine lv_aload_n hx hb dL_law_418 rfl (lv_at hl 0 rfl) ?_
                        refine lv_iload_n hx hb dL_law_419 rfl (lv_at hl 3 rfl) ?_
                        refine lv_iconst (v := (3 : Int32)) hx hb dL_law_420 (by decide) ?_
                        refine lv_iadd hx hb dL_law_421 ?_
                        obtain ⟨q93, hcf⟩ := og hcf
                        refine va_sld hx hb hX hbl hbA hS q93 dL_law_422 ?_
                        obtain ⟨q94, hcf⟩ := og hcf
                        obtain ⟨x95, hx95, hcf⟩ := ob hcf
                        refine iv_L_52 (As := [.int (xs (j3 + (1 : Int32)).toNatClampNeg), .int (xs (j3 + (2 : Int32)).toNatClampNeg), .int (xs (j3 + (3 : Int32)).toNatClampNeg)]) (rest := [.int x90.1]) hx hb hml hown hts hE (ct_X4_vary l D cy z n Y x90.2.1 x90.2.2 j2 (xs (j3 + (1 : Int32)).toNatClampNeg) (xs (j3 + (2 : Int32)).toNatClampNeg) (xs (j3 + (3 : Int32)).toNatClampNeg) x95 hx95) hW hS q94 rfl rfl hl.1 (Nat.le_of_ble_eq_true rfl) ⟨Nat.le_of_ble_eq_true rfl, Nat.le_of_ble_eq_true rfl⟩ dL_law_423 ⟨Nat.le_of_ble_eq_true rfl, Nat.le_of_ble_eq_true rfl⟩ (fun H locs hW hS => ?_)
                        refine lv_icmp_eq (tgt := 817) hx hb dL_law_426 (by decide) (fun q96 => ?_) (fun q96 => ?_)
                        · replace hcf := (if_pos q96).symm.trans hcf
                          refine lv_iinc (v := (j3 + 5)) (lv' := [(3, .int (j3 + 5)), (0, .ref b), (1, .ref j1), (2, .ref j2)]) hx hb dL_law_817 hl (k := 3) rfl rfl (by decide) rfl (fun ls hl => ?_)
                          refine lv_goto (tgt := 18) hx hb dL_law_820 (by decide) ?_
                          exact ih x95.2 x90.2.2 j1 j2 (j3 + 5) _ _ _ hcf hW hS (lv_sub hl [1, 2, 3, 0] rfl)
                        · replace hcf := (if_neg q96).symm.trans hcf
                          refine lv_iconst (v := (0 : Int32)) hx hb dL_law_429 (by decide) ?_
                          exact absurd hcf (by decide)
                      · replace hcf := (if_neg q85).symm.trans hcf
                        by_cases q97 : ((xs j3.toNatClampNeg) &&& (31 : Int32)) = (9 : Int32)
                        · replace hcf := (if_pos q97).symm.trans hcf
                          refine wk_tsw (off := 399) (tgt := 431) hx hb dL_law_32 (by rw [q97]; rfl) (by decide) ?_
                          refine lv_aload_n hx hb dL_law_431 rfl (lv_at hl 1 rfl) ?_
                          refine lv_aload_n hx hb dL_law_432 rfl (lv_at hl 0 rfl) ?_
                          refine lv_iload_n hx hb dL_law_433 rfl (lv_at hl 3 rfl) ?_
                          refine lv_iconst (v := (1 : Int32)) hx hb dL_law_434 (by decide) ?_
                          refine lv_iadd hx hb dL_law_435 ?_
                          obtain ⟨q98, hcf⟩ := og hcf
                          refine va_sld hx hb hX hbl hbA hS q98 dL_law_436 ?_
                          obtain ⟨q99, hcf⟩ := og hcf
                          obtain ⟨x100, hx100, hcf⟩ := ob hcf
                          refine iv_L_53 (As := [.int (xs (j3 + (1 : Int32)).toNatClampNeg)]) (rest := []) hx hb hml hown hts hE (ct_X3_pass l D cy z n Y V G j1 (xs (j3 + (1 : Int32)).toNatClampNeg) x100 hx100) hW hS q99 rfl rfl hl.1 (Nat.le_of_ble_eq_true rfl) ⟨Nat.le_of_ble_eq_true rfl, Nat.le_of_ble_eq_true rfl⟩ dL_law_437 ⟨Nat.le_of_ble_eq_true rfl, Nat.le_of_ble_eq_true rfl⟩ (fun H locs hW hS => ?_)
                          refine lv_aload_n hx hb dL_law_440 rfl (lv_at hl 2 rfl) ?_
                          refine lv_aload_n hx hb dL_law_441 rfl (lv_at hl 0 rfl) ?_
                          refine lv_iload_n hx hb dL_law_442 rfl (lv_at hl 3 rfl) ?_
                          refine lv_iconst (v := (1 : Int32)) hx hb dL_law_443 (by decide) ?_
                          refine lv_iadd hx hb dL_law_444 ?_
                          obtain ⟨q101, hcf⟩ := og hcf
                          refine va_sld hx hb hX hbl hbA hS q101 dL_law_445 ?_
                          obtain ⟨q102, hcf⟩ := og hcf
                          obtain ⟨x103, hx103, hcf⟩ := ob hcf
                          refine iv_L_56 (As := [.int (xs (j3 + (1 : Int32)).toNatClampNeg)]) (rest := [.int x100.1]) hx hb hml hown hts hE (ct_X4_pass l D cy z n Y x100.2.1 x100.2.2 j2 (xs (j3 + (1 : Int32)).toNatClampNeg) x103 hx103) hW hS q102 rfl rfl hl.1 (Nat.le_of_ble_eq_true rfl) ⟨Nat.le_of_ble_eq_true rfl, Nat.le_of_ble_eq_true rfl⟩ dL_law_446 ⟨Nat.le_of_ble_eq_true rfl, Nat.le_of_ble_eq_true rfl⟩ (fun H locs hW hS => ?_)
                          refine lv_icmp_eq (tgt := 817) hx hb dL_law_449 (by decide) (fun q104 => ?_) (fun q104 => ?_)
                          · replace hcf := (if_pos q104).symm.trans hcf
                            refine lv_iinc (v := (j3 + 5)) (lv' := [(3, .int (j3 + 5)), (0, .ref b), (1, .ref j1), (2, .ref j2)]) hx hb dL_law_817 hl (k := 3) rfl rfl (by decide) rfl (fun ls hl => ?_)
                            refine lv_goto (tgt := 18) hx hb dL_law_820 (by decide) ?_
                            exact ih x103.2 x100.2.2 j1 j2 (j3 + 5) _ _ _ hcf hW hS (lv_sub hl [1, 2, 3, 0] rfl)
                          · replace hcf := (if_neg q104).symm.trans hcf
                            refine lv_iconst (v := (0 : Int32)) hx hb dL_law_452 (by decide) ?_
                            exact absurd hcf (by decide)
                        · replace hcf := (if_neg q97).symm.trans hcf
                          by_cases q105 : ((xs j3.toNatClampNeg) &&& (31 : Int32)) = (10 : Int32)
                          · replace hcf := (if_pos q105).symm.trans hcf
                            refine wk_tsw (off := 422) (tgt := 454) hx hb dL_law_32 (by rw [q105]; rfl) (by decide) ?_
                            refine lv_aload_n hx hb dL_law_454 rfl (lv_at hl 1 rfl) ?_
                            refine lv_aload_n hx hb dL_law_455 rfl (lv_at hl 0 rfl) ?_
                            refine lv_iload_n hx hb dL_law_456 rfl (lv_at hl 3 rfl) ?_
                            refine lv_iconst (v := (1 : Int32)) hx hb dL_law_457 (by decide) ?_
                            refine lv_iadd hx hb dL_law_458 ?_
                            obtain ⟨q106, hcf⟩ := og hcf
                            refine va_sld hx hb hX hbl hbA hS q106 dL_law_459 ?_
                            refine lv_aload_n hx hb dL_law_460 rfl (lv_at hl 0 rfl) ?_
                            refine lv_iload_n hx hb dL_law_461 rfl (lv_at hl 3 rfl) ?_
                            refine lv_iconst (v := (2 : Int32)) hx hb dL_law_462 (by decide) ?_
                            refine lv_iadd hx hb dL_law_463 ?_
                            obtain ⟨q107, hcf⟩ := og hcf
                            refine va_sld hx hb hX hbl hbA hS q107 dL_law_464 ?_
                            obtain ⟨q108, hcf⟩ := og hcf
                            obtain ⟨x109, hx109, hcf⟩ := ob hcf
                            refine iv_L_57 (As := [.int (xs (j3 + (1 : Int32)).toNatClampNeg), .int (xs (j3 + (2 : Int32)).toNatClampNeg)]) (rest := []) hx hb hml hown hts hE (ct_X3_set l D cy z n Y V G j1 (xs (j3 + (1 : Int32)).toNatClampNeg) (xs (j3 + (2 : Int32)).toNatClampNeg) x109 hx109) hW hS q108 rfl rfl hl.1 (Nat.le_of_ble_eq_true rfl) ⟨Nat.le_of_ble_eq_true rfl, Nat.le_of_ble_eq_true rfl⟩ dL_law_465 ⟨Nat.le_of_ble_eq_true rfl, Nat.le_of_ble_eq_true rfl⟩ (fun H locs hW hS => ?_)
                            refine lv_aload_n hx hb dL_law_468 rfl (lv_at hl 2 rfl) ?_
                            refine lv_aload_n hx hb dL_law_469 rfl (lv_at hl 0 rfl) ?_
                            refine lv_iload_n hx hb dL_law_470 rfl (lv_at hl 3 rfl) ?_
                            refine lv_iconst (v := (1 : Int32)) hx hb dL_law_471 (by decide) ?_
                            refine lv_iadd hx hb dL_law_472 ?_
                            obtain ⟨q110, hcf⟩ := og hcf
                            refine va_sld hx hb hX hbl hbA hS q110 dL_law_473 ?_
                            refine lv_aload_n hx hb dL_law_474 rfl (lv_at hl 0 rfl) ?_
                            refine lv_iload_n hx hb dL_law_475 rfl (lv_at hl 3 rfl) ?_
                            refine lv_iconst (v := (2 : Int32)) hx hb dL_law_476 (by decide) ?_
                            refine lv_iadd hx hb dL_law_477 ?_
                            obtain ⟨q111, hcf⟩ := og hcf
                            refine va_sld hx hb hX hbl hbA hS q111 dL_law_478 ?_
                            obtain ⟨q112, hcf⟩ := og hcf
                            obtain ⟨x113, hx113, hcf⟩ := ob hcf
                            refine iv_L_60 (As := [.int (xs (j3 + (1 : Int32)).toNatClampNeg), .int (xs (j3 + (2 : Int32)).toNatClampNeg)]) (rest := [.int x109.1]) hx hb hml hown hts hE (ct_X4_set l D cy z n Y x109.2.1 x109.2.2 j2 (xs (j3 + (1 : Int32)).toNatClampNeg) (xs (j3 + (2 : Int32)).toNatClampNeg) x113 hx113) hW hS q112 rfl rfl hl.1 (Nat.le_of_ble_eq_true rfl) ⟨Nat.le_of_ble_eq_true rfl, Nat.le_of_ble_eq_true rfl⟩ dL_law_479 ⟨Nat.le_of_ble_eq_true rfl, Nat.le_of_ble_eq_true rfl⟩ (fun H locs hW hS => ?_)
                            refine lv_icmp_eq (tgt := 817) hx hb dL_law_482 (by decide) (fun q114 => ?_) (fun q114 => ?_)
                            · replace hcf := (if_pos q114).symm.trans hcf
                              refine lv_iinc (v := (j3 + 5)) (lv' := [(3, .int (j3 + 5)), (0, .ref b), (1, .ref j1), (2, .ref j2)]) hx hb dL_law_817 hl (k := 3) rfl rfl (by decide) rfl (fun ls hl => ?_)
                              refine lv_goto (tgt := 18) hx hb dL_law_820 (by decide) ?_
                              exact ih x113.2 x109.2.2 j1 j2 (j3 + 5) _ _ _ hcf hW hS (lv_sub hl [1, 2, 3, 0] rfl)
                            · replace hcf := (if_neg q114).symm.trans hcf
                              refine lv_iconst (v := (0 : Int32)) hx hb dL_law_485 (by decide) ?_
                              exact absurd hcf (by decide)
                          · replace hcf := (if_neg q105).symm.trans hcf
                            by_cases q115 : ((xs j3.toNatClampNeg) &&& (31 : Int32)) = (11 : Int32)
                            · replace hcf := (if_pos q115).symm.trans hcf
                              refine wk_tsw (off := 455) (tgt := 487) hx hb dL_law_32 (by rw [q115]; rfl) (by decide) ?_
                              refine lv_aload_n hx hb dL_law_487 rfl (lv_at hl 1 rfl) ?_
                              refine lv_aload_n hx hb dL_law_488 rfl (lv_at hl 0 rfl) ?_
                              refine lv_iload_n hx hb dL_law_489 rfl (lv_at hl 3 rfl) ?_
                              refine lv_iconst (v := (1 : Int32)) hx hb dL_law_490 (by decide) ?_
                              refine lv_iadd hx hb dL_law_491 ?_
                              obtain ⟨q116, hcf⟩ := og hcf
                              refine va_sld hx hb hX hbl hbA hS q116 dL_law_492 ?_
                              refine lv_aload_n hx hb dL_law_493 rfl (lv_at hl 0 rfl) ?_
                              refine lv_iload_n hx hb dL_law_494 rfl (lv_at hl 3 rfl) ?_
                              refine lv_iconst (v := (2 : Int32)) hx hb dL_law_495 (by decide) ?_
                              refine lv_iadd hx hb dL_law_496 ?_
                              obtain ⟨q117, hcf⟩ := og hcf
                              refine va_sld hx hb hX hbl hbA hS q117 dL_law_497 ?_
                              obtain ⟨q118, hcf⟩ := og hcf
                              obtain ⟨x119, hx119, hcf⟩ := ob hcf
                              refine iv_L_61 (As := [.int (xs (j3 + (1 : Int32)).toNatClampNeg), .int (xs (j3 + (2 : Int32)).toNatClampNeg)]) (rest := []) hx hb hml hown hts hE (ct_X3_conditionOf l D cy z n Y V G j1 (xs (j3 + (1 : Int32)).toNatClampNeg) (xs (j3 + (2 : Int32)).toNatClampNeg) x119 hx119) hW hS q118 rfl rfl hl.1 (Nat.le_of_ble_eq_true rfl) ⟨Nat.le_of_ble_eq_true rfl, Nat.le_of_ble_eq_true rfl⟩ dL_law_498 ⟨Nat.le_of_ble_eq_true rfl, Nat.le_of_ble_eq_true rfl⟩ (fun H locs hW hS => ?_)
                              refine lv_aload_n hx hb dL_law_501 rfl (lv_at hl 2 rfl) ?_
                              refine lv_aload_n hx hb dL_law_502 rfl (lv_at hl 0 rfl) ?_
                              refine lv_iload_n hx hb dL_law_503 rfl (lv_at hl 3 rfl) ?_
                              refine lv_iconst (v := (1 : Int32)) hx hb dL_law_504 (by decide) ?_
                              refine lv_iadd hx hb dL_law_505 ?_
                              obtain ⟨q120, hcf⟩ := og hcf
                              refine va_sld hx hb hX hbl hbA hS q120 dL_law_506 ?_
                              refine lv_aload_n hx hb dL_law_507 rfl (lv_at hl 0 rfl) ?_
                              refine lv_iload_n hx hb dL_law_508 rfl (lv_at hl 3 rfl) ?_
                              refine lv_iconst (v := (2 : Int32)) hx hb dL_law_509 (by decide) ?_
                              refine lv_iadd hx hb dL_law_510 ?_
                              obtain ⟨q121, hcf⟩ := og hcf
                              refine va_sld hx hb hX hbl hbA hS q121 dL_law_511 ?_
                              obtain ⟨q122, hcf⟩ := og hcf
                              obtain ⟨x123, hx123, hcf⟩ := ob hcf
                              refine iv_L_64 (As := [.int (xs (j3 + (1 : Int32)).toNatClampNeg), .int (xs (j3 + (2 : Int32)).toNatClampNeg)]) (rest := [.int x119]) hx hb hml hown hts hE (ct_X4_conditionOf l D cy z n Y V G j2 (xs (j3 + (1 : Int32)).toNatClampNeg) (xs (j3 + (2 : Int32)).toNatClampNeg) x123 hx123) hW hS q122 rfl rfl hl.1 (Nat.le_of_ble_eq_true rfl) ⟨Nat.le_of_ble_eq_true rfl, Nat.le_of_ble_eq_true rfl⟩ dL_law_512 ⟨Nat.le_of_ble_eq_true rfl, Nat.le_of_ble_eq_true rfl⟩ (fun H locs hW hS => ?_)
                              refine lv_icmp_eq (tgt := 817) hx hb dL_law_515 (by decide) (fun q124 => ?_) (fun q124 => ?_)
                              · replace hcf := (if_pos q124).symm.trans hcf
                                refine lv_iinc (v := (j3 + 5)) (lv' := [(3, .int (j3 + 5)), (0, .ref b), (1, .ref j1), (2, .ref j2)]) hx hb dL_law_817 hl (k := 3) rfl rfl (by decide) rfl (fun ls hl => ?_)
                                refine lv_goto (tgt := 18) hx hb dL_law_820 (by decide) ?_
                                exact ih V G j1 j2 (j3 + 5) _ _ _ hcf hW hS (lv_sub hl [1, 2, 3, 0] rfl)
                              · replace hcf := (if_neg q124).symm.trans hcf
                                refine lv_iconst (v := (0 : Int32)) hx hb dL_law_518 (by decide) ?_
                                exact absurd hcf (by decide)
                            · replace hcf := (if_neg q115).symm.trans hcf
                              by_cases q125 : ((xs j3.toNatClampNeg) &&& (31 : Int32)) = (12 : Int32)
                              · replace hcf := (if_pos q125).symm.trans hcf
                                refine wk_tsw (off := 488) (tgt := 520) hx hb dL_law_32 (by rw [q125]; rfl) (by decide) ?_
                                refine lv_aload_n hx hb dL_law_520 rfl (lv_at hl 1 rfl) ?_
                                refine lv_aload_n hx hb dL_law_521 rfl (lv_at hl 0 rfl) ?_
                                refine lv_iload_n hx hb dL_law_522 rfl (lv_at hl 3 rfl) ?_
                                refine lv_iconst (v := (1 : Int32)) hx hb dL_law_523 (by decide) ?_
                                refine lv_iadd hx hb dL_law_524 ?_
                                obtain ⟨q126, hcf⟩ := og hcf
                                refine va_sld hx hb hX hbl hbA hS q126 dL_law_525 ?_
                                refine lv_aload_n hx hb dL_law_526 rfl (lv_at hl 0 rfl) ?_
                                refine lv_iload_n hx hb dL_law_527 rfl (lv_at hl 3 rfl) ?_
                                refine lv_iconst (v := (2 : Int32)) hx hb dL_law_528 (by decide) ?_
                                refine lv_iadd hx hb dL_law_529 ?_
                                obtain ⟨q127, hcf⟩ := og hcf
                                refine va_sld hx hb hX hbl hbA hS q127 dL_law_530 ?_
                                obtain ⟨q128, hcf⟩ := og hcf
                                obtain ⟨x129, hx129, hcf⟩ := ob hcf
                                refine iv_L_65 (As := [.int (xs (j3 + (1 : Int32)).toNatClampNeg), .int (xs (j3 + (2 : Int32)).toNatClampNeg)]) (rest := []) hx hb hml hown hts hE (ct_X3_stageOf l D cy z n Y V G j1 (xs (j3 + (1 : Int32)).toNatClampNeg) (xs (j3 + (2 : Int32)).toNatClampNeg) x129 hx129) hW hS q128 rfl rfl hl.1 (Nat.le_of_ble_eq_true rfl) ⟨Nat.le_of_ble_eq_true rfl, Nat.le_of_ble_eq_true rfl⟩ dL_law_531 ⟨Nat.le_of_ble_eq_true rfl, Nat.le_of_ble_eq_true rfl⟩ (fun H locs hW hS => ?_)
                                refine lv_aload_n hx hb dL_law_534 rfl (lv_at hl 2 rfl) ?_
                                refine lv_aload_n hx hb dL_law_535 rfl (lv_at hl 0 rfl) ?_
                                refine lv_iload_n hx hb dL_law_536 rfl (lv_at hl 3 rfl) ?_
                                refine lv_iconst (v := (1 : Int32)) hx hb dL_law_537 (by decide) ?_
                                refine lv_iadd hx hb dL_law_538 ?_
                                obtain ⟨q130, hcf⟩ := og hcf
                                refine va_sld hx hb hX hbl hbA hS q130 dL_law_539 ?_
                                refine lv_aload_n hx hb dL_law_540 rfl (lv_at hl 0 rfl) ?_
                                refine lv_iload_n hx hb dL_law_541 rfl (lv_at hl 3 rfl) ?_
                                refine lv_iconst (v := (2 : Int32)) hx hb dL_law_542 (by decide) ?_
                                refine lv_iadd hx hb dL_law_543 ?_
                                obtain ⟨q131, hcf⟩ := og hcf
                                refine va_sld hx hb hX hbl hbA hS q131 dL_law_544 ?_
                                obtain ⟨q132, hcf⟩ := og hcf
                                obtain ⟨x133, hx133, hcf⟩ := ob hcf
                                refine iv_L_68 (As := [.int (xs (j3 + (1 : Int32)).toNatClampNeg), .int (xs (j3 + (2 : Int32)).toNatClampNeg)]) (rest := [.int x129]) hx hb hml hown hts hE (ct_X4_stageOf l D cy z n Y V G j2 (xs (j3 + (1 : Int32)).toNatClampNeg) (xs (j3 + (2 : Int32)).toNatClampNeg) x133 hx133) hW hS q132 rfl rfl hl.1 (Nat.le_of_ble_eq_true rfl) ⟨Nat.le_of_ble_eq_true rfl, Nat.le_of_ble_eq_true rfl⟩ dL_law_545 ⟨Nat.le_of_ble_eq_true rfl, Nat.le_of_ble_eq_true rfl⟩ (fun H locs hW hS => ?_)
                                refine lv_icmp_eq (tgt := 817) hx hb dL_law_548 (by decide) (fun q134 => ?_) (fun q134 => ?_)
                                · replace hcf := (if_pos q134).symm.trans hcf
                                  refine lv_iinc (v := (j3 + 5)) (lv' := [(3, .int (j3 + 5)), (0, .ref b), (1, .ref j1), (2, .ref j2)]) hx hb dL_law_817 hl (k := 3) rfl rfl (by decide) rfl (fun ls hl => ?_)
                                  refine lv_goto (tgt := 18) hx hb dL_law_820 (by decide) ?_
                                  exact ih V G j1 j2 (j3 + 5) _ _ _ hcf hW hS (lv_sub hl [1, 2, 3, 0] rfl)
                                · replace hcf := (if_neg q134).symm.trans hcf
                                  refine lv_iconst (v := (0 : Int32)) hx hb dL_law_551 (by decide) ?_
                                  exact absurd hcf (by decide)
                              · replace hcf := (if_neg q125).symm.trans hcf
                                by_cases q135 : ((xs j3.toNatClampNeg) &&& (31 : Int32)) = (13 : Int32)
                                · replace hcf := (if_pos q135).symm.trans hcf
                                  refine wk_tsw (off := 521) (tgt := 553) hx hb dL_law_32 (by rw [q135]; rfl) (by decide) ?_
                                  refine lv_aload_n hx hb dL_law_553 rfl (lv_at hl 1 rfl) ?_
                                  refine lv_aload_n hx hb dL_law_554 rfl (lv_at hl 0 rfl) ?_
                                  refine lv_iload_n hx hb dL_law_555 rfl (lv_at hl 3 rfl) ?_
                                  refine lv_iconst (v := (1 : Int32)) hx hb dL_law_556 (by decide) ?_
                                  refine lv_iadd hx hb dL_law_557 ?_
                                  obtain ⟨q136, hcf⟩ := og hcf
                                  refine va_sld hx hb hX hbl hbA hS q136 dL_law_558 ?_
                                  obtain ⟨q137, hcf⟩ := og hcf
                                  obtain ⟨x138, hx138, hcf⟩ := ob hcf
                                  refine iv_L_69 (As := [.int (xs (j3 + (1 : Int32)).toNatClampNeg)]) (rest := []) hx hb hml hown hts hE (ct_X3_which l D cy z n Y V G j1 (xs (j3 + (1 : Int32)).toNatClampNeg) x138 hx138) hW hS q137 rfl rfl hl.1 (Nat.le_of_ble_eq_true rfl) ⟨Nat.le_of_ble_eq_true rfl, Nat.le_of_ble_eq_true rfl⟩ dL_law_559 ⟨Nat.le_of_ble_eq_true rfl, Nat.le_of_ble_eq_true rfl⟩ (fun H locs hW hS => ?_)
                                  refine lv_aload_n hx hb dL_law_562 rfl (lv_at hl 2 rfl) ?_
                                  refine lv_aload_n hx hb dL_law_563 rfl (lv_at hl 0 rfl) ?_
                                  refine lv_iload_n hx hb dL_law_564 rfl (lv_at hl 3 rfl) ?_
                                  refine lv_iconst (v := (1 : Int32)) hx hb dL_law_565 (by decide) ?_
                                  refine lv_iadd hx hb dL_law_566 ?_
                                  obtain ⟨q139, hcf⟩ := og hcf
                                  refine va_sld hx hb hX hbl hbA hS q139 dL_law_567 ?_
                                  obtain ⟨q140, hcf⟩ := og hcf
                                  obtain ⟨x141, hx141, hcf⟩ := ob hcf
                                  refine iv_L_72 (As := [.int (xs (j3 + (1 : Int32)).toNatClampNeg)]) (rest := [.int x138]) hx hb hml hown hts hE (ct_X4_which l D cy z n Y V G j2 (xs (j3 + (1 : Int32)).toNatClampNeg) x141 hx141) hW hS q140 rfl rfl hl.1 (Nat.le_of_ble_eq_true rfl) ⟨Nat.le_of_ble_eq_true rfl, Nat.le_of_ble_eq_true rfl⟩ dL_law_568 ⟨Nat.le_of_ble_eq_true rfl, Nat.le_of_ble_eq_true rfl⟩ (fun H locs hW hS => ?_)
                                  refine lv_icmp_eq (tgt := 817) hx hb dL_law_571 (by decide) (fun q142 => ?_) (fun q142 => ?_)
                                  · replace hcf := (if_pos q142).symm.trans hcf
                                    refine lv_iinc (v := (j3 + 5)) (lv' := [(3, .int (j3 + 5)), (0, .ref b), (1, .ref j1), (2, .ref j2)]) hx hb dL_law_817 hl (k := 3) rfl rfl (by decide) rfl (fun ls hl => ?_)
                                    refine lv_goto (tgt := 18) hx hb dL_law_820 (by decide) ?_
                                    exact ih V G j1 j2 (j3 + 5) _ _ _ hcf hW hS (lv_sub hl [1, 2, 3, 0] rfl)
                                  · replace hcf := (if_neg q142).symm.trans hcf
                                    refine lv_iconst (v := (0 : Int32)) hx hb dL_law_574 (by decide) ?_
                                    exact absurd hcf (by decide)
                                · replace hcf := (if_neg q135).symm.trans hcf
                                  by_cases q143 : ((xs j3.toNatClampNeg) &&& (31 : Int32)) = (14 : Int32)
                                  · replace hcf := (if_pos q143).symm.trans hcf
                                    refine wk_tsw (off := 544) (tgt := 576) hx hb dL_law_32 (by rw [q143]; rfl) (by decide) ?_
                                    refine lv_aload_n hx hb dL_law_576 rfl (lv_at hl 1 rfl) ?_
                                    refine lv_aload_n hx hb dL_law_577 rfl (lv_at hl 0 rfl) ?_
                                    refine lv_iload_n hx hb dL_law_578 rfl (lv_at hl 3 rfl) ?_
                                    refine lv_iconst (v := (1 : Int32)) hx hb dL_law_579 (by decide) ?_
                                    refine lv_iadd hx hb dL_law_580 ?_
                                    obtain ⟨q144, hcf⟩ := og hcf
                                    refine va_sld hx hb hX hbl hbA hS q144 dL_law_581 ?_
                                    refine lv_aload_n hx hb dL_law_582 rfl (lv_at hl 0 rfl) ?_
                                    refine lv_iload_n hx hb dL_law_583 rfl (lv_at hl 3 rfl) ?_
                                    refine lv_iconst (v := (2 : Int32)) hx hb dL_law_584 (by decide) ?_
                                    refine lv_iadd hx hb dL_law_585 ?_
                                    obtain ⟨q145, hcf⟩ := og hcf
                                    refine va_sld hx hb hX hbl hbA hS q145 dL_law_586 ?_
                                    obtain ⟨q146, hcf⟩ := og hcf
                                    obtain ⟨x147, hx147, hcf⟩ := ob hcf
                                    refine iv_L_73 (As := [.int (xs (j3 + (1 : Int32)).toNatClampNeg), .int (xs (j3 + (2 : Int32)).toNatClampNeg)]) (rest := []) hx hb hml hown hts hE (ct_X3_when l D cy z n Y V G j1 (xs (j3 + (1 : Int32)).toNatClampNeg) (xs (j3 + (2 : Int32)).toNatClampNeg) x147 hx147) hW hS q146 rfl rfl hl.1 (Nat.le_of_ble_eq_true rfl) ⟨Nat.le_of_ble_eq_true rfl, Nat.le_of_ble_eq_true rfl⟩ dL_law_587 ⟨Nat.le_of_ble_eq_true rfl, Nat.le_of_ble_eq_true rfl⟩ (fun H locs hW hS => ?_)
                                    refine lv_aload_n hx hb dL_law_590 rfl (lv_at hl 2 rfl) ?_
                                    refine lv_aload_n hx hb dL_law_591 rfl (lv_at hl 0 rfl) ?_
                                    refine lv_iload_n hx hb dL_law_592 rfl (lv_at hl 3 rfl) ?_
                                    refine lv_iconst (v := (1 : Int32)) hx hb dL_law_593 (by decide) ?_
                                    refine lv_iadd hx hb dL_law_594 ?_
                                    obtain ⟨q148, hcf⟩ := og hcf
                                    refine va_sld hx hb hX hbl hbA hS q148 dL_law_595 ?_
                                    refine lv_aload_n hx hb dL_law_596 rfl (lv_at hl 0 rfl) ?_
                                    refine lv_iload_n hx hb dL_law_597 rfl (lv_at hl 3 rfl) ?_
                                    refine lv_iconst (v := (2 : Int32)) hx hb dL_law_598 (by decide) ?_
                                    refine lv_iadd hx hb dL_law_599 ?_
                                    obtain ⟨q149, hcf⟩ := og hcf
                                    refine va_sld hx hb hX hbl hbA hS q149 dL_law_600 ?_
                                    obtain ⟨q150, hcf⟩ := og hcf
                                    obtain ⟨x151, hx151, hcf⟩ := ob hcf
                                    refine iv_L_76 (As := [.int (xs (j3 + (1 : Int32)).toNatClampNeg), .int (xs (j3 + (2 : Int32)).toNatClampNeg)]) (rest := [.int x147.1]) hx hb hml hown hts hE (ct_X4_when l D cy z n Y x147.2 G j2 (xs (j3 + (1 : Int32)).toNatClampNeg) (xs (j3 + (2 : Int32)).toNatClampNeg) x151 hx151) hW hS q150 rfl rfl hl.1 (Nat.le_of_ble_eq_true rfl) ⟨Nat.le_of_ble_eq_true rfl, Nat.le_of_ble_eq_true rfl⟩ dL_law_601 ⟨Nat.le_of_ble_eq_true rfl, Nat.le_of_ble_eq_true rfl⟩ (fun H locs hW hS => ?_)
                                    refine lv_icmp_eq (tgt := 817) hx hb dL_law_604 (by decide) (fun q152 => ?_) (fun q152 => ?_)
                                    · replace hcf := (if_pos q152).symm.trans hcf
                                      refine lv_iinc (v := (j3 + 5)) (lv' := [(3, .int (j3 + 5)), (0, .ref b), (1, .ref j1), (2, .ref j2)]) hx hb dL_law_817 hl (k := 3) rfl rfl (by decide) rfl (fun ls hl => ?_)
                                      refine lv_goto (tgt := 18) hx hb dL_law_820 (by decide) ?_
                                      exact ih x151.2 G j1 j2 (j3 + 5) _ _ _ hcf hW hS (lv_sub hl [1, 2, 3, 0] rfl)
                                    · replace hcf := (if_neg q152).symm.trans hcf
                                      refine lv_iconst (v := (0 : Int32)) hx hb dL_law_607 (by decide) ?_
                                      exact absurd hcf (by decide)
                                  · replace hcf := (if_neg q143).symm.trans hcf
                                    by_cases q153 : ((xs j3.toNatClampNeg) &&& (31 : Int32)) = (15 : Int32)
                                    · replace hcf := (if_pos q153).symm.trans hcf
                                      refine wk_tsw (off := 577) (tgt := 609) hx hb dL_law_32 (by rw [q153]; rfl) (by decide) ?_
                                      refine lv_aload_n hx hb dL_law_609 rfl (lv_at hl 1 rfl) ?_
                                      refine lv_aload_n hx hb dL_law_610 rfl (lv_at hl 0 rfl) ?_
                                      refine lv_iload_n hx hb dL_law_611 rfl (lv_at hl 3 rfl) ?_
                                      refine lv_iconst (v := (1 : Int32)) hx hb dL_law_612 (by decide) ?_
                                      refine lv_iadd hx hb dL_law_613 ?_
                                      obtain ⟨q154, hcf⟩ := og hcf
                                      refine va_sld hx hb hX hbl hbA hS q154 dL_law_614 ?_
                                      obtain ⟨q155, hcf⟩ := og hcf
                                      obtain ⟨x156, hx156, hcf⟩ := ob hcf
                                      refine iv_L_77 (As := [.int (xs (j3 + (1 : Int32)).toNatClampNeg)]) (rest := []) hx hb hml hown hts hE (ct_X3_lawful l D cy z n Y V G j1 (xs (j3 + (1 : Int32)).toNatClampNeg) x156 hx156) hW hS q155 rfl rfl hl.1 (Nat.le_of_ble_eq_true rfl) ⟨Nat.le_of_ble_eq_true rfl, Nat.le_of_ble_eq_true rfl⟩ dL_law_615 ⟨Nat.le_of_ble_eq_true rfl, Nat.le_of_ble_eq_true rfl⟩ (fun H locs hW hS => ?_)
                                      refine lv_aload_n hx hb dL_law_618 rfl (lv_at hl 2 rfl) ?_
                                      refine lv_aload_n hx hb dL_law_619 rfl (lv_at hl 0 rfl) ?_
                                      refine lv_iload_n hx hb dL_law_620 rfl (lv_at hl 3 rfl) ?_
                                      refine lv_iconst (v := (1 : Int32)) hx hb dL_law_621 (by decide) ?_
                                      refine lv_iadd hx hb dL_law_622 ?_
                                      obtain ⟨q157, hcf⟩ := og hcf
                                      refine va_sld hx hb hX hbl hbA hS q157 dL_law_623 ?_
                                      obtain ⟨q158, hcf⟩ := og hcf
                                      obtain ⟨x159, hx159, hcf⟩ := ob hcf
                                      refine iv_L_80 (As := [.int (xs (j3 + (1 : Int32)).toNatClampNeg)]) (rest := [.int x156.1]) hx hb hml hown hts hE (ct_X4_lawful l D cy z n Y x156.2 G j2 (xs (j3 + (1 : Int32)).toNatClampNeg) x159 hx159) hW hS q158 rfl rfl hl.1 (Nat.le_of_ble_eq_true rfl) ⟨Nat.le_of_ble_eq_true rfl, Nat.le_of_ble_eq_true rfl⟩ dL_law_624 ⟨Nat.le_of_ble_eq_true rfl, Nat.le_of_ble_eq_true rfl⟩ (fun H locs hW hS => ?_)
                                      refine lv_icmp_eq (tgt := 817) hx hb dL_law_627 (by decide) (fun q160 => ?_) (fun q160 => ?_)
                                      · replace hcf := (if_pos q160).symm.trans hcf
                                        refine lv_iinc (v := (j3 + 5)) (lv' := [(3, .int (j3 + 5)), (0, .ref b), (1, .ref j1), (2, .ref j2)]) hx hb dL_law_817 hl (k := 3) rfl rfl (by decide) rfl (fun ls hl => ?_)
                                        refine lv_goto (tgt := 18) hx hb dL_law_820 (by decide) ?_
                                        exact ih x159.2 G j1 j2 (j3 + 5) _ _ _ hcf hW hS (lv_sub hl [1, 2, 3, 0] rfl)
                                      · replace hcf := (if_neg q160).symm.trans hcf
                                        refine lv_iconst (v := (0 : Int32)) hx hb dL_law_630 (by decide) ?_
                                        exact absurd hcf (by decide)
                                    · replace hcf := (if_neg q153).symm.trans hcf
                                      by_cases q161 : ((xs j3.toNatClampNeg) &&& (31 : Int32)) = (16 : Int32)
                                      · replace hcf := (if_pos q161).symm.trans hcf
                                        refine wk_tsw (off := 600) (tgt := 632) hx hb dL_law_32 (by rw [q161]; rfl) (by decide) ?_
                                        refine lv_aload_n hx hb dL_law_632 rfl (lv_at hl 1 rfl) ?_
                                        refine lv_aload_n hx hb dL_law_633 rfl (lv_at hl 0 rfl) ?_
                                        refine lv_iload_n hx hb dL_law_634 rfl (lv_at hl 3 rfl) ?_
                                        refine lv_iconst (v := (1 : Int32)) hx hb dL_law_635 (by decide) ?_
                                        refine lv_iadd hx hb dL_law_636 ?_
                                        obtain ⟨q162, hcf⟩ := og hcf
                                        refine va_sld hx hb hX hbl hbA hS q162 dL_law_637 ?_
                                        refine lv_aload_n hx hb dL_law_638 rfl (lv_at hl 0 rfl) ?_
                                        refine lv_iload_n hx hb dL_law_639 rfl (lv_at hl 3 rfl) ?_
                                        refine lv_iconst (v := (2 : Int32)) hx hb dL_law_640 (by decide) ?_
                                        refine lv_iadd hx hb dL_law_641 ?_
                                        obtain ⟨q163, hcf⟩ := og hcf
                                        refine va_sld hx hb hX hbl hbA hS q163 dL_law_642 ?_
                                        refine lv_i2l hx hb dL_law_643 rfl ?_
                                        refine lv_bipush (v := (32 : Int32)) hx hb dL_law_644 (by decide) ?_
                                        refine lv_lshl hx hb dL_law_646 rfl ?_
                                        refine lv_aload_n hx hb dL_law_647 rfl (lv_at hl 0 rfl) ?_
                                        refine lv_iload_n hx hb dL_law_648 rfl (lv_at hl 3 rfl) ?_
                                        refine lv_iconst (v := (3 : Int32)) hx hb dL_law_649 (by decide) ?_
                                        refine lv_iadd hx hb dL_law_650 ?_
                                        obtain ⟨q164, hcf⟩ := og hcf
                                        refine va_sld hx hb hX hbl hbA hS q164 dL_law_651 ?_
                                        refine lv_i2l hx hb dL_law_652 rfl ?_
                                        refine lv_ldc2 hx hb hown (hts _ q951) dL_law_653 ?_
                                        refine lv_land hx hb dL_law_656 ?_
                                        refine lv_lor hx hb dL_law_657 ?_
                                        obtain ⟨q165, hcf⟩ := og hcf
                                        obtain ⟨x166, hx166, hcf⟩ := ob hcf
                                        refine iv_L_83 (As := [.int (xs (j3 + (1 : Int32)).toNatClampNeg), .long ((((xs (j3 + (2 : Int32)).toNatClampNeg)).toInt64 <<< ((32 : Int32).toInt64 &&& 63)) ||| (((xs (j3 + (3 : Int32)).toNatClampNeg)).toInt64 &&& (4294967295 : Int64)))]) (rest := []) hx hb hml hown hts hE (ct_X3_fine l D cy z n Y V G j1 (xs (j3 + (1 : Int32)).toNatClampNeg) ((((xs (j3 + (2 : Int32)).toNatClampNeg)).toInt64 <<< ((32 : Int32).toInt64 &&& 63)) ||| (((xs (j3 + (3 : Int32)).toNatClampNeg)).toInt64 &&& (4294967295 : Int64))) x166 hx166) hW hS q165 rfl rfl hl.1 (Nat.le_of_ble_eq_true rfl) ⟨Nat.le_of_ble_eq_true rfl, Nat.le_of_ble_eq_true rfl⟩ dL_law_658 ⟨Nat.le_of_ble_eq_true rfl, Nat.le_of_ble_eq_true rfl⟩ (fun H locs hW hS => ?_)
                                        refine lv_aload_n hx hb dL_law_661 rfl (lv_at hl 2 rfl) ?_
                                        refine lv_aload_n hx hb dL_law_662 rfl (lv_at hl 0 rfl) ?_
                                        refine lv_iload_n hx hb dL_law_663 rfl (lv_at hl 3 rfl) ?_
                                        refine lv_iconst (v := (1 : Int32)) hx hb dL_law_664 (by decide) ?_
                                        refine lv_iadd hx hb dL_law_665 ?_
                                        obtain ⟨q167, hcf⟩ := og hcf
                                        refine va_sld hx hb hX hbl hbA hS q167 dL_law_666 ?_
                                        refine lv_aload_n hx hb dL_law_667 rfl (lv_at hl 0 rfl) ?_
                                        refine lv_iload_n hx hb dL_law_668 rfl (lv_at hl 3 rfl) ?_
                                        refine lv_iconst (v := (2 : Int32)) hx hb dL_law_669 (by decide) ?_
                                        refine lv_iadd hx hb dL_law_670 ?_
                                        obtain ⟨q168, hcf⟩ := og hcf
                                        refine va_sld hx hb hX hbl hbA hS q168 dL_law_671 ?_
                                        refine lv_i2l hx hb dL_law_672 rfl ?_
                                        refine lv_bipush (v := (32 : Int32)) hx hb dL_law_673 (by decide) ?_
                                        refine lv_lshl hx hb dL_law_675 rfl ?_
                                        refine lv_aload_n hx hb dL_law_676 rfl (lv_at hl 0 rfl) ?_
                                        refine lv_iload_n hx hb dL_law_677 rfl (lv_at hl 3 rfl) ?_
                                        refine lv_iconst (v := (3 : Int32)) hx hb dL_law_678 (by decide) ?_
                                        refine lv_iadd hx hb dL_law_679 ?_
                                        obtain ⟨q169, hcf⟩ := og hcf
                                        refine va_sld hx hb hX hbl hbA hS q169 dL_law_680 ?_
                                        refine lv_i2l hx hb dL_law_681 rfl ?_
                                        refine lv_ldc2 hx hb hown (hts _ q951) dL_law_682 ?_
                                        refine lv_land hx hb dL_law_685 ?_
                                        refine lv_lor hx hb dL_law_686 ?_
                                        obtain ⟨q170, hcf⟩ := og hcf
                                        obtain ⟨x171, hx171, hcf⟩ := ob hcf
                                        refine iv_L_87 (As := [.int (xs (j3 + (1 : Int32)).toNatClampNeg), .long ((((xs (j3 + (2 : Int32)).toNatClampNeg)).toInt64 <<< ((32 : Int32).toInt64 &&& 63)) ||| (((xs (j3 + (3 : Int32)).toNatClampNeg)).toInt64 &&& (4294967295 : Int64)))]) (rest := [.long x166]) hx hb hml hown hts hE (ct_X4_fine l D cy z n Y V G j2 (xs (j3 + (1 : Int32)).toNatClampNeg) ((((xs (j3 + (2 : Int32)).toNatClampNeg)).toInt64 <<< ((32 : Int32).toInt64 &&& 63)) ||| (((xs (j3 + (3 : Int32)).toNatClampNeg)).toInt64 &&& (4294967295 : Int64))) x171 hx171) hW hS q170 rfl rfl hl.1 (Nat.le_of_ble_eq_true rfl) ⟨Nat.le_of_ble_eq_true rfl, Nat.le_of_ble_eq_true rfl⟩ dL_law_687 ⟨Nat.le_of_ble_eq_true rfl, Nat.le_of_ble_eq_true rfl⟩ (fun H locs hW hS => ?_)
                                        refine W.lcmp hx hb dL_law_690 ?_
                                        refine lv_if_eq (tgt := 817) hx hb dL_law_691 (by decide) (fun q172 => ?_) (fun q172 => ?_)
                                        · replace hcf := (if_pos q172).symm.trans hcf
                                          refine lv_iinc (v := (j3 + 5)) (lv' := [(3, .int (j3 + 5)), (0, .ref b), (1, .ref j1), (2, .ref j2)]) hx hb dL_law_817 hl (k := 3) rfl rfl (by decide) rfl (fun ls hl => ?_)
                                          refine lv_goto (tgt := 18) hx hb dL_law_820 (by decide) ?_
                                          exact ih V G j1 j2 (j3 + 5) _ _ _ hcf hW hS (lv_sub hl [1, 2, 3, 0] rfl)
                                        · replace hcf := (if_neg q172).symm.trans hcf
                                          refine lv_iconst (v := (0 : Int32)) hx hb dL_law_694 (by decide) ?_
                                          exact absurd hcf (by decide)
                                      · replace hcf := (if_neg q161).symm.trans hcf
                                        by_cases q173 : ((xs j3.toNatClampNeg) &&& (31 : Int32)) = (17 : Int32)
                                        · replace hcf := (if_pos q173).symm.trans hcf
                                          refine wk_tsw (off := 664) (tgt := 696) hx hb dL_law_32 (by rw [q173]; rfl) (by decide) ?_
                                          refine lv_aload_n hx hb dL_law_696 rfl (lv_at hl 1 rfl) ?_
                                          obtain ⟨q174, hcf⟩ := og hcf
                                          obtain ⟨x175, hx175, hcf⟩ := ob hcf
                                          refine iv_L_88 (As := []) (rest := []) hx hb hml hown hts hE (ct_X3_share l D cy z n Y V G j1 x175 hx175) hW hS q174 rfl rfl hl.1 (Nat.le_of_ble_eq_true rfl) ⟨Nat.le_of_ble_eq_true rfl, Nat.le_of_ble_eq_true rfl⟩ dL_law_697 ⟨Nat.le_of_ble_eq_true rfl, Nat.le_of_ble_eq_true rfl⟩ (fun H locs hW hS => ?_)
                                          refine lv_aload_n hx hb dL_law_700 rfl (lv_at hl 2 rfl) ?_
                                          obtain ⟨q176, hcf⟩ := og hcf
                                          obtain ⟨x177, hx177, hcf⟩ := ob hcf
                                          refine iv_L_92 (As := []) (rest := [.int x175]) hx hb hml hown hts hE (ct_X4_share l D cy z n Y V G j2 x177 hx177) hW hS q176 rfl rfl hl.1 (Nat.le_of_ble_eq_true rfl) ⟨Nat.le_of_ble_eq_true rfl, Nat.le_of_ble_eq_true rfl⟩ dL_law_701 ⟨Nat.le_of_ble_eq_true rfl, Nat.le_of_ble_eq_true rfl⟩ (fun H locs hW hS => ?_)
                                          refine lv_icmp_eq (tgt := 817) hx hb dL_law_704 (by decide) (fun q178 => ?_) (fun q178 => ?_)
                                          · replace hcf := (if_pos q178).symm.trans hcf
                                            refine lv_iinc (v := (j3 + 5)) (lv' := [(3, .int (j3 + 5)), (0, .ref b), (1, .ref j1), (2, .ref j2)]) hx hb dL_law_817 hl (k := 3) rfl rfl (by decide) rfl (fun ls hl => ?_)
                                            refine lv_goto (tgt := 18) hx hb dL_law_820 (by decide) ?_
                                            exact ih V G j1 j2 (j3 + 5) _ _ _ hcf hW hS (lv_sub hl [1, 2, 3, 0] rfl)
                                          · replace hcf := (if_neg q178).symm.trans hcf
                                            refine lv_iconst (v := (0 : Int32)) hx hb dL_law_707 (by decide) ?_
                                            exact absurd hcf (by decide)
                                        · replace hcf := (if_neg q173).symm.trans hcf
                                          by_cases q179 : ((xs j3.toNatClampNeg) &&& (31 : Int32)) = (18 : Int32)
                                          · replace hcf := (if_pos q179).symm.trans hcf
                                            refine wk_tsw (off := 677) (tgt := 709) hx hb dL_law_32 (by rw [q179]; rfl) (by decide) ?_
                                            refine lv_aload_n hx hb dL_law_709 rfl (lv_at hl 1 rfl) ?_
                                            refine lv_aload_n hx hb dL_law_710 rfl (lv_at hl 0 rfl) ?_
                                            refine lv_iload_n hx hb dL_law_711 rfl (lv_at hl 3 rfl) ?_
                                            refine lv_iconst (v := (1 : Int32)) hx hb dL_law_712 (by decide) ?_
                                            refine lv_iadd hx hb dL_law_713 ?_
                                            obtain ⟨q180, hcf⟩ := og hcf
                                            refine va_sld hx hb hX hbl hbA hS q180 dL_law_714 ?_
                                            obtain ⟨q181, hcf⟩ := og hcf
                                            obtain ⟨x182, hx182, hcf⟩ := ob hcf
                                            refine iv_L_93 (As := [.int (xs (j3 + (1 : Int32)).toNatClampNeg)]) (rest := []) hx hb hml hown hts hE (ct_X3_count l D cy z n Y V G j1 (xs (j3 + (1 : Int32)).toNatClampNeg) x182 hx182) hW hS q181 rfl rfl hl.1 (Nat.le_of_ble_eq_true rfl) ⟨Nat.le_of_ble_eq_true rfl, Nat.le_of_ble_eq_true rfl⟩ dL_law_715 ⟨Nat.le_of_ble_eq_true rfl, Nat.le_of_ble_eq_true rfl⟩ (fun H locs hW hS => ?_)
                                            refine lv_aload_n hx hb dL_law_718 rfl (lv_at hl 2 rfl) ?_
                                            refine lv_aload_n hx hb dL_law_719 rfl (lv_at hl 0 rfl) ?_
                                            refine lv_iload_n hx hb dL_law_720 rfl (lv_at hl 3 rfl) ?_
                                            refine lv_iconst (v := (1 : Int32)) hx hb dL_law_721 (by decide) ?_
                                            refine lv_iadd hx hb dL_law_722 ?_
                                            obtain ⟨q183, hcf⟩ := og hcf
                                            refine va_sld hx hb hX hbl hbA hS q183 dL_law_723 ?_
                                            obtain ⟨q184, hcf⟩ := og hcf
                                            obtain ⟨x185, hx185, hcf⟩ := ob hcf
                                            refine iv_L_96 (As := [.int (xs (j3 + (1 : Int32)).toNatClampNeg)]) (rest := [.int x182]) hx hb hml hown hts hE (ct_X4_count l D cy z n Y V G j2 (xs (j3 + (1 : Int32)).toNatClampNeg) x185 hx185) hW hS q184 rfl rfl hl.1 (Nat.le_of_ble_eq_true rfl) ⟨Nat.le_of_ble_eq_true rfl, Nat.le_of_ble_eq_true rfl⟩ dL_law_724 ⟨Nat.le_of_ble_eq_true rfl, Nat.le_of_ble_eq_true rfl⟩ (fun H locs hW hS => ?_)
                                            refine lv_icmp_eq (tgt := 817) hx hb dL_law_727 (by decide) (fun q186 => ?_) (fun q186 => ?_)
                                            · replace hcf := (if_pos q186).symm.trans hcf
                                              refine lv_iinc (v := (j3 + 5)) (lv' := [(3, .int (j3 + 5)), (0, .ref b), (1, .ref j1), (2, .ref j2)]) hx hb dL_law_817 hl (k := 3) rfl rfl (by decide) rfl (fun ls hl => ?_)
                                              refine lv_goto (tgt := 18) hx hb dL_law_820 (by decide) ?_
                                              exact ih V G j1 j2 (j3 + 5) _ _ _ hcf hW hS (lv_sub hl [1, 2, 3, 0] rfl)
                                            · replace hcf := (if_neg q186).symm.trans hcf
                                              refine lv_iconst (v := (0 : Int32)) hx hb dL_law_730 (by decide) ?_
                                              exact absurd hcf (by decide)
                                          · replace hcf := (if_neg q179).symm.trans hcf
                                            by_cases q187 : ((xs j3.toNatClampNeg) &&& (31 : Int32)) = (19 : Int32)
                                            · replace hcf := (if_pos q187).symm.trans hcf
                                              refine wk_tsw (off := 700) (tgt := 732) hx hb dL_law_32 (by rw [q187]; rfl) (by decide) ?_
                                              refine lv_aload_n hx hb dL_law_732 rfl (lv_at hl 1 rfl) ?_
                                              obtain ⟨q188, hcf⟩ := og hcf
                                              obtain ⟨x189, hx189, hcf⟩ := ob hcf
                                              refine iv_L_97 (As := []) (rest := []) hx hb hml hown hts hE (ct_X3_undo l D cy z n Y V G j1 x189 hx189) hW hS q188 rfl rfl hl.1 (Nat.le_of_ble_eq_true rfl) ⟨Nat.le_of_ble_eq_true rfl, Nat.le_of_ble_eq_true rfl⟩ dL_law_733 ⟨Nat.le_of_ble_eq_true rfl, Nat.le_of_ble_eq_true rfl⟩ (fun H locs hW hS => ?_)
                                              refine lv_aload_n hx hb dL_law_736 rfl (lv_at hl 2 rfl) ?_
                                              obtain ⟨q190, hcf⟩ := og hcf
                                              obtain ⟨x191, hx191, hcf⟩ := ob hcf
                                              refine iv_L_100 (As := []) (rest := [.int x189.1]) hx hb hml hown hts hE (ct_X4_undo l D cy z n Y x189.2 G j2 x191 hx191) hW hS q190 rfl rfl hl.1 (Nat.le_of_ble_eq_true rfl) ⟨Nat.le_of_ble_eq_true rfl, Nat.le_of_ble_eq_true rfl⟩ dL_law_737 ⟨Nat.le_of_ble_eq_true rfl, Nat.le_of_ble_eq_true rfl⟩ (fun H locs hW hS => ?_)
                                              refine lv_icmp_eq (tgt := 817) hx hb dL_law_740 (by decide) (fun q192 => ?_) (fun q192 => ?_)
                                              · replace hcf := (if_pos q192).symm.trans hcf
                                                refine lv_iinc (v := (j3 + 5)) (lv' := [(3, .int (j3 + 5)), (0, .ref b), (1, .ref j1), (2, .ref j2)]) hx hb dL_law_817 hl (k := 3) rfl rfl (by decide) rfl (fun ls hl => ?_)
                                                refine lv_goto (tgt := 18) hx hb dL_law_820 (by decide) ?_
                                                exact ih x191.2 G j1 j2 (j3 + 5) _ _ _ hcf hW hS (lv_sub hl [1, 2, 3, 0] rfl)
                                              · replace hcf := (if_neg q192).symm.trans hcf
                                                refine lv_iconst (v := (0 : Int32)) hx hb dL_law_743 (by decide) ?_
                                                exact absurd hcf (by decide)
                                            · replace hcf := (if_neg q187).symm.trans hcf
                                              by_cases q193 : ((xs j3.toNatClampNeg) &&& (31 : Int32)) = (20 : Int32)
                                              · replace hcf := (if_pos q193).symm.trans hcf
                                                refine wk_tsw (off := 713) (tgt := 745) hx hb dL_law_32 (by rw [q193]; rfl) (by decide) ?_
                                                refine lv_aload_n hx hb dL_law_745 rfl (lv_at hl 1 rfl) ?_
                                                refine lv_aload_n hx hb dL_law_746 rfl (lv_at hl 0 rfl) ?_
                                                refine lv_iload_n hx hb dL_law_747 rfl (lv_at hl 3 rfl) ?_
                                                refine lv_iconst (v := (1 : Int32)) hx hb dL_law_748 (by decide) ?_
                                                refine lv_iadd hx hb dL_law_749 ?_
                                                obtain ⟨q194, hcf⟩ := og hcf
                                                refine va_sld hx hb hX hbl hbA hS q194 dL_law_750 ?_
                                                obtain ⟨q195, hcf⟩ := og hcf
                                                obtain ⟨x196, hx196, hcf⟩ := ob hcf
                                                refine iv_L_101 (As := [.int (xs (j3 + (1 : Int32)).toNatClampNeg)]) (rest := []) hx hb hml hown hts hE (ct_X3_type l D cy z n Y V G j1 (xs (j3 + (1 : Int32)).toNatClampNeg) x196 hx196) hW hS q195 rfl rfl hl.1 (Nat.le_of_ble_eq_true rfl) ⟨Nat.le_of_ble_eq_true rfl, Nat.le_of_ble_eq_true rfl⟩ dL_law_751 ⟨Nat.le_of_ble_eq_true rfl, Nat.le_of_ble_eq_true rfl⟩ (fun H locs hW hS => ?_)
                                                refine lv_aload_n hx hb dL_law_754 rfl (lv_at hl 2 rfl) ?_
                                                refine lv_aload_n hx hb dL_law_755 rfl (lv_at hl 0 rfl) ?_
                                                refine lv_iload_n hx hb dL_law_756 rfl (lv_at hl 3 rfl) ?_
                                                refine lv_iconst (v := (1 : Int32)) hx hb dL_law_757 (by decide) ?_
                                                refine lv_iadd hx hb dL_law_758 ?_
                                                obtain ⟨q197, hcf⟩ := og hcf
                                                refine va_sld hx hb hX hbl hbA hS q197 dL_law_759 ?_
                                                obtain ⟨q198, hcf⟩ := og hcf
                                                obtain ⟨x199, hx199, hcf⟩ := ob hcf
                                                refine iv_L_104 (As := [.int (xs (j3 + (1 : Int32)).toNatClampNeg)]) (rest := [.int x196.1]) hx hb hml hown hts hE (ct_X4_type l D cy z n Y x196.2 G j2 (xs (j3 + (1 : Int32)).toNatClampNeg) x199 hx199) hW hS q198 rfl rfl hl.1 (Nat.le_of_ble_eq_true rfl) ⟨Nat.le_of_ble_eq_true rfl, Nat.le_of_ble_eq_true rfl⟩ dL_law_760 ⟨Nat.le_of_ble_eq_true rfl, Nat.le_of_ble_eq_true rfl⟩ (fun H locs hW hS => ?_)
                                                refine lv_icmp_eq (tgt := 817) hx hb dL_law_763 (by decide) (fun q200 => ?_) (fun q200 => ?_)
                                                · replace hcf := (if_pos q200).symm.trans hcf
                                                  refine lv_iinc (v := (j3 + 5)) (lv' := [(3, .int (j3 + 5)), (0, .ref b), (1, .ref j1), (2, .ref j2)]) hx hb dL_law_817 hl (k := 3) rfl rfl (by decide) rfl (fun ls hl => ?_)
                                                  refine lv_goto (tgt := 18) hx hb dL_law_820 (by decide) ?_
                                                  exact ih x199.2 G j1 j2 (j3 + 5) _ _ _ hcf hW hS (lv_sub hl [1, 2, 3, 0] rfl)
                                                · replace hcf := (if_neg q200).symm.trans hcf
                                                  refine lv_iconst (v := (0 : Int32)) hx hb dL_law_766 (by decide) ?_
                                                  exact absurd hcf (by decide)
                                              · replace hcf := (if_neg q193).symm.trans hcf
                                                by_cases q201 : ((xs j3.toNatClampNeg) &&& (31 : Int32)) = (21 : Int32)
                                                · replace hcf := (if_pos q201).symm.trans hcf
                                                  refine wk_tsw (off := 736) (tgt := 768) hx hb dL_law_32 (by rw [q201]; rfl) (by decide) ?_
                                                  refine lv_aload_n hx hb dL_law_768 rfl (lv_at hl 1 rfl) ?_
                                                  obtain ⟨q202, hcf⟩ := og hcf
                                                  obtain ⟨x203, hx203, hcf⟩ := ob hcf
                                                  refine iv_L_105 (As := []) (rest := []) hx hb hml hown hts hE (ct_X3_clearText l D cy z n Y V G j1 x203 hx203) hW hS q202 rfl rfl hl.1 (Nat.le_of_ble_eq_true rfl) ⟨Nat.le_of_ble_eq_true rfl, Nat.le_of_ble_eq_true rfl⟩ dL_law_769 ⟨Nat.le_of_ble_eq_true rfl, Nat.le_of_ble_eq_true rfl⟩ (fun H locs hW hS => ?_)
                                                  refine lv_aload_n hx hb dL_law_772 rfl (lv_at hl 2 rfl) ?_
                                                  obtain ⟨q204, hcf⟩ := og hcf
                                                  obtain ⟨x205, hx205, hcf⟩ := ob hcf
                                                  refine iv_L_108 (As := []) (rest := [.int x203.1]) hx hb hml hown hts hE (ct_X4_clearText l D cy z n Y x203.2 G j2 x205 hx205) hW hS q204 rfl rfl hl.1 (Nat.le_of_ble_eq_true rfl) ⟨Nat.le_of_ble_eq_true rfl, Nat.le_of_ble_eq_true rfl⟩ dL_law_773 ⟨Nat.le_of_ble_eq_true rfl, Nat.le_of_ble_eq_true rfl⟩ (fun H locs hW hS => ?_)
                                                  refine lv_icmp_eq (tgt := 817) hx hb dL_law_776 (by decide) (fun q206 => ?_) (fun q206 => ?_)
                                                  · replace hcf := (if_pos q206).symm.trans hcf
                                                    refine lv_iinc (v := (j3 + 5)) (lv' := [(3, .int (j3 + 5)), (0, .ref b), (1, .ref j1), (2, .ref j2)]) hx hb dL_law_817 hl (k := 3) rfl rfl (by decide) rfl (fun ls hl => ?_)
                                                    refine lv_goto (tgt := 18) hx hb dL_law_820 (by decide) ?_
                                                    exact ih x205.2 G j1 j2 (j3 + 5) _ _ _ hcf hW hS (lv_sub hl [1, 2, 3, 0] rfl)
                                                  · replace hcf := (if_neg q206).symm.trans hcf
                                                    refine lv_iconst (v := (0 : Int32)) hx hb dL_law_779 (by decide) ?_
                                                    exact absurd hcf (by decide)
                                                · replace hcf := (if_neg q201).symm.trans hcf
                                                  by_cases q207 : ((xs j3.toNatClampNeg) &&& (31 : Int32)) = (22 : Int32)
                                                  · replace hcf := (if_pos q207).symm.trans hcf
                                                    refine wk_tsw (off := 749) (tgt := 781) hx hb dL_law_32 (by rw [q207]; rfl) (by decide) ?_
                                                    refine lv_aload_n hx hb dL_law_781 rfl (lv_at hl 1 rfl) ?_
                                                    refine lv_aload_n hx hb dL_law_782 rfl (lv_at hl 0 rfl) ?_
                                                    refine lv_iload_n hx hb dL_law_783 rfl (lv_at hl 3 rfl) ?_
                                                    refine lv_iconst (v := (1 : Int32)) hx hb dL_law_784 (by decide) ?_
                                                    refine lv_iadd hx hb dL_law_785 ?_
                                                    obtain ⟨q208, hcf⟩ := og hcf
                                                    refine va_sld hx hb hX hbl hbA hS q208 dL_law_786 ?_
                                                    obtain ⟨q209, hcf⟩ := og hcf
                                                    obtain ⟨x210, hx210, hcf⟩ := ob hcf
                                                    refine iv_L_109 (As := [.int (xs (j3 + (1 : Int32)).toNatClampNeg)]) (rest := []) hx hb hml hown hts hE (ct_X3_fault l D cy z n Y V G j1 (xs (j3 + (1 : Int32)).toNatClampNeg) x210 hx210) hW hS q209 rfl rfl hl.1 (Nat.le_of_ble_eq_true rfl) ⟨Nat.le_of_ble_eq_true rfl, Nat.le_of_ble_eq_true rfl⟩ dL_law_787 ⟨Nat.le_of_ble_eq_true rfl, Nat.le_of_ble_eq_true rfl⟩ (fun H locs hW hS => ?_)
                                                    refine lv_aload_n hx hb dL_law_790 rfl (lv_at hl 2 rfl) ?_
                                                    refine lv_aload_n hx hb dL_law_791 rfl (lv_at hl 0 rfl) ?_
                                                    refine lv_iload_n hx hb dL_law_792 rfl (lv_at hl 3 rfl) ?_
                                                    refine lv_iconst (v := (1 : Int32)) hx hb dL_law_793 (by decide) ?_
                                                    refine lv_iadd hx hb dL_law_794 ?_
                                                    obtain ⟨q211, hcf⟩ := og hcf
                                                    refine va_sld hx hb hX hbl hbA hS q211 dL_law_795 ?_
                                                    obtain ⟨q212, hcf⟩ := og hcf
                                                    obtain ⟨x213, hx213, hcf⟩ := ob hcf
                                                    refine iv_L_112 (As := [.int (xs (j3 + (1 : Int32)).toNatClampNeg)]) (rest := [.int x210.1]) hx hb hml hown hts hE (ct_X4_fault l D cy z n Y x210.2 G j2 (xs (j3 + (1 : Int32)).toNatClampNeg) x213 hx213) hW hS q212 rfl rfl hl.1 (Nat.le_of_ble_eq_true rfl) ⟨Nat.le_of_ble_eq_true rfl, Nat.le_of_ble_eq_true rfl⟩ dL_law_796 ⟨Nat.le_of_ble_eq_true rfl, Nat.le_of_ble_eq_true rfl⟩ (fun H locs hW hS => ?_)
                                                    refine lv_icmp_eq (tgt := 817) hx hb dL_law_799 (by decide) (fun q214 => ?_) (fun q214 => ?_)
                                                    · replace hcf := (if_pos q214).symm.trans hcf
                                                      refine lv_iinc (v := (j3 + 5)) (lv' := [(3, .int (j3 + 5)), (0, .ref b), (1, .ref j1), (2, .ref j2)]) hx hb dL_law_817 hl (k := 3) rfl rfl (by decide) rfl (fun ls hl => ?_)
                                                      refine lv_goto (tgt := 18) hx hb dL_law_820 (by decide) ?_
                                                      exact ih x213.2 G j1 j2 (j3 + 5) _ _ _ hcf hW hS (lv_sub hl [1, 2, 3, 0] rfl)
                                                    · replace hcf := (if_neg q214).symm.trans hcf
                                                      refine lv_iconst (v := (0 : Int32)) hx hb dL_law_802 (by decide) ?_
                                                      exact absurd hcf (by decide)
                                                  · replace hcf := (if_neg q207).symm.trans hcf
                                                    by_cases q215 : ((xs j3.toNatClampNeg) &&& (31 : Int32)) = (23 : Int32)
                                                    · replace hcf := (if_pos q215).symm.trans hcf
                                                      refine wk_tsw (off := 772) (tgt := 804) hx hb dL_law_32 (by rw [q215]; rfl) (by decide) ?_
                                                      refine lv_aload_n hx hb dL_law_804 rfl (lv_at hl 1 rfl) ?_
                                                      obtain ⟨q216, hcf⟩ := og hcf
                                                      obtain ⟨x217, hx217, hcf⟩ := ob hcf
                                                      refine iv_L_113 (As := []) (rest := []) hx hb hml hown hts hE (ct_X3_play l D cy z n Y V G j1 x217 hx217) hW hS q216 rfl rfl hl.1 (Nat.le_of_ble_eq_true rfl) ⟨Nat.le_of_ble_eq_true rfl, Nat.le_of_ble_eq_true rfl⟩ dL_law_805 ⟨Nat.le_of_ble_eq_true rfl, Nat.le_of_ble_eq_true rfl⟩ (fun H locs hW hS => ?_)
                                                      refine lv_aload_n hx hb dL_law_808 rfl (lv_at hl 2 rfl) ?_
                                                      obtain ⟨q218, hcf⟩ := og hcf
                                                      obtain ⟨x219, hx219, hcf⟩ := ob hcf
                                                      refine iv_L_116 (As := []) (rest := [.int x217.1]) hx hb hml hown hts hE (ct_X4_play l D cy z n Y x217.2.1 x217.2.2 j2 x219 hx219) hW hS q218 rfl rfl hl.1 (Nat.le_of_ble_eq_true rfl) ⟨Nat.le_of_ble_eq_true rfl, Nat.le_of_ble_eq_true rfl⟩ dL_law_809 ⟨Nat.le_of_ble_eq_true rfl, Nat.le_of_ble_eq_true rfl⟩ (fun H locs hW hS => ?_)
                                                      refine lv_icmp_eq (tgt := 817) hx hb dL_law_812 (by decide) (fun q220 => ?_) (fun q220 => ?_)
                                                      · replace hcf := (if_pos q220).symm.trans hcf
                                                        refine lv_iinc (v := (j3 + 5)) (lv' := [(3, .int (j3 + 5)), (0, .ref b), (1, .ref j1), (2, .ref j2)]) hx hb dL_law_817 hl (k := 3) rfl rfl (by decide) rfl (fun ls hl => ?_)
                                                        refine lv_goto (tgt := 18) hx hb dL_law_820 (by decide) ?_
                                                        exact ih x219.2 x217.2.2 j1 j2 (j3 + 5) _ _ _ hcf hW hS (lv_sub hl [1, 2, 3, 0] rfl)
                                                      · replace hcf := (if_neg q220).symm.trans hcf
                                                        refine lv_iconst (v := (0 : Int32)) hx hb dL_law_815 (by decide) ?_
                                                        exact absurd hcf (by decide)
                                                    · replace hcf := (if_neg q215).symm.trans hcf
                                                      refine wk_tsw (off := 785) (tgt := 817) hx hb dL_law_32 (by have eq9 := lv_neT q9 (a := 0) rfl; have eq23 := lv_neT q23 (a := 1) rfl; have eq31 := lv_neT q31 (a := 2) rfl; have eq39 := lv_neT q39 (a := 3) rfl; have eq49 := lv_neT q49 (a := 4) rfl; have eq59 := lv_neT q59 (a := 5) rfl; have eq67 := lv_neT q67 (a := 6) rfl; have eq75 := lv_neT q75 (a := 7) rfl; have eq85 := lv_neT q85 (a := 8) rfl; have eq97 := lv_neT q97 (a := 9) rfl; have eq105 := lv_neT q105 (a := 10) rfl; have eq115 := lv_neT q115 (a := 11) rfl; have eq125 := lv_neT q125 (a := 12) rfl; have eq135 := lv_neT q135 (a := 13) rfl; have eq143 := lv_neT q143 (a := 14) rfl; have eq153 := lv_neT q153 (a := 15) rfl; have eq161 := lv_neT q161 (a := 16) rfl; have eq173 := lv_neT q173 (a := 17) rfl; have eq179 := lv_neT q179 (a := 18) rfl; have eq187 := lv_neT q187 (a := 19) rfl; have eq193 := lv_neT q193 (a := 20) rfl; have eq201 := lv_neT q201 (a := 21) rfl; have eq207 := lv_neT q207 (a := 22) rfl; have eq215 := lv_neT q215 (a := 23) rfl; by_cases hh : (((xs j3.toNatClampNeg) &&& (31 : Int32))).toInt < 0 ∨ 23 < (((xs j3.toNatClampNeg) &&& (31 : Int32))).toInt; exact if_pos hh; exfalso; omega) (by decide) ?_
                                                      refine lv_iinc (v := (j3 + 5)) (lv' := [(3, .int (j3 + 5)), (0, .ref b), (1, .ref j1), (2, .ref j2)]) hx hb dL_law_817 hl (k := 3) rfl rfl (by decide) rfl (fun ls hl => ?_)
                                                      refine lv_goto (tgt := 18) hx hb dL_law_820 (by decide) ?_
                                                      exact ih V G j1 j2 (j3 + 5) _ _ _ hcf hW hS (lv_sub hl [1, 2, 3, 0] rfl)
set_option maxHeartbeats 4000000 in
set_option maxRecDepth 100000 in
theorem law_walk {p : Program} {l : Launch} {e : Env} {s : State} {m : MethodId} {below : List Frame} {meth : Method} {c : Code} {D : va_G} {cy : Nat → ClassId} {z n b L : Nat} {xs : Nat → Int32} {Y : mY} {V : mV} {G : mG} (hx : p.tables.exec = Jvm.exec) (hb : c.code = cL_law) (hr : meth.sig.returnType = ret) (hml : c.maxLocals = 4) (hown : s.vm.findClass RL = some m.cls) (hts : ∀ w ∈ lw_all, w.before #[Value.ref b] s = true) (hlocks : meth.locks = false) (hE : En D cy s) (hX : va_X b L xs s s.heap) (hbl : b < s.heap.size) (hbA : ¬ zA z b) (hzs : s.heap.size ≤ z) (hz : z ≤ s.heap.size) (hd0 : s.drawn.sameBut s.drawn lw_cs) (hcf : cf_L_law L xs n Y V G = some 1) (hW : Wd Y cy D z n V G s.heap) {ls : Array Slot} (hl : lv_has ls 4 [(0, .ref b)]) : W p l e room_1 s m #[Value.ref b] below meth c s.heap [] 0 0 (lw_Z below #[Value.ref b] s) (F0 m 0 ls []) := by
  have hS : va_S (zA z) s.heap s.heap [] := va_S.rf
  rw [cf_L_law] at hcf
  obtain ⟨q1, hcf⟩ := og hcf
  refine wk_new hx hb hts hown hE hW hz hS (C := RX3) (T := TX3) (N := 6) (ci := 3) rfl inX3 tyX3 tyX3_ok q92 q93 q85 (by decide) hfX3 dL_law_0 (by show 0 + 1 ≤ 600000; omega) (by show 600 * 0 + 6 ≤ 7302250; omega) (fun H hW hS => ?_)
  refine W.widen (k := 0 + 1) (n := 600 * (0 + 1)) (Nat.le_refl _) (by omega) ?_
  refine lv_dup hx hb dL_law_3 rfl ?_
  obtain ⟨q2, hcf⟩ := og hcf
  obtain ⟨x3, hx3, hcf⟩ := ob hcf
  have hzn : z ≤ (n + 1) := by have := hS.1; have := hW.1; omega
  refine iv_L_9 (As := []) (rest := [.ref n]) hx hb hml hown hts hE (ct_X3_init l D cy z (n + 1) (va_up Y.1 n 3, Y.2) (va_up V n (fun _ => 0)) (va_up G n (fun _ => none)) n x3 hx3 hzn) hW hS rfl rfl hl.1 (Nat.le_of_ble_eq_true rfl) ⟨Nat.le_of_ble_eq_true rfl, Nat.le_of_ble_eq_true rfl⟩ dL_law_4 ⟨by show (0 + 1) + 102 ≤ 600000; omega, by show 600 * (0 + 1) + 61200 ≤ 7302250; omega⟩ (fun H locs hW hS => ?_)
  refine W.widen (k := (0 + 1) + 102) (n := 600 * ((0 + 1) + 102)) (Nat.le_refl _) (by show 600 * (0 + 1) + 61200 ≤ _; omega) ?_
  refine lv_astore_n (lv' := [(1, .ref n), (0, .ref b)]) hx hb dL_law_7 rfl hl (by decide) rfl (fun ls hl => ?_)
  obtain ⟨q4, hcf⟩ := og hcf
  refine wk_new hx hb hts hown hE hW hz hS (C := RX4) (T := TX4) (N := 13) (ci := 4) rfl inX4 tyX4 tyX4_ok q602 q603 q89 (by decide) hfX4 dL_law_8 (by show ((0 + 1) + 102) + 1 ≤ 600000; omega) (by show 600 * ((0 + 1) + 102) + 13 ≤ 7302250; omega) (fun H hW hS => ?_)
  refine W.widen (k := ((0 + 1) + 102) + 1) (n := 600 * (((0 + 1) + 102) + 1)) (Nat.le_refl _) (by omega) ?_
  refine lv_dup hx hb dL_law_11 rfl ?_
  obtain ⟨q5, hcf⟩ := og hcf
  obtain ⟨x6, hx6, hcf⟩ := ob hcf
  have hzn : z ≤ (x3.1 + 1) := by have := hS.1; have := hW.1; omega
  refine iv_L_12 (As := []) (rest := [.ref x3.1]) hx hb hml hown hts hE (ct_X4_init l D cy z (x3.1 + 1) (va_up x3.2.1.1 x3.1 4, x3.2.1.2) (va_up x3.2.2.1 x3.1 (fun _ => 0)) (va_up x3.2.2.2 x3.1 (fun _ => none)) x3.1 x6 hx6 hzn) hW hS rfl rfl hl.1 (Nat.le_of_ble_eq_true rfl) ⟨Nat.le_of_ble_eq_true rfl, Nat.le_of_ble_eq_true rfl⟩ dL_law_12 ⟨by show (((0 + 1) + 102) + 1) + 6 ≤ 600000; omega, by show 600 * (((0 + 1) + 102) + 1) + 3600 ≤ 7302250; omega⟩ (fun H locs hW hS => ?_)
  refine W.widen (k := (((0 + 1) + 102) + 1) + 6) (n := 600 * ((((0 + 1) + 102) + 1) + 6)) (Nat.le_refl _) (by show 600 * (((0 + 1) + 102) + 1) + 3600 ≤ _; omega) ?_
  refine lv_astore_n (lv' := [(2, .ref x3.1), (1, .ref n), (0, .ref b)]) hx hb dL_law_15 rfl hl (by decide) rfl (fun ls hl => ?_)
  refine lv_iconst (v := (0 : Int32)) hx hb dL_law_16 (by decide) ?_
  refine lv_istore_n (lv' := [(3, .int (0 : Int32)), (2, .ref x3.1), (1, .ref n), (0, .ref b)]) hx hb dL_law_17 rfl hl (by decide) rfl (fun ls hl => ?_)
  refine W.widen (k := 110) (n := 66000) (by decide) (by decide) ?_
  exact wl_L_law_18 hx hb hr hml hown hts hlocks hE hX hbl hbA hzs hd0 fuB x6.2.2.1 x6.2.2.2 n x3.1 (0 : Int32) _ _ _ hcf hW hS (lv_sub hl [3, 2, 1, 0] rfl)
