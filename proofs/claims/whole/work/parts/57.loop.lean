-- the law's loop
theorem lg_self (r : Int64) : lg_cmp r r = 0 := by simp [lg_cmp]
set_option maxHeartbeats 4000000 in
set_option maxRecDepth 100000 in
theorem law_lp {L : Nat} {xs : Nat → Int32} (hL : L ≤ 2560) {x : Nat} {Y : mY} : ∀ (b i fuel : Nat) (V : mV) (G : mG), L ≤ i + b → i ≤ 3000 → b < fuel → GI x Y V G → lp_L_law_18 L xs Y fuel V G x (x + 103) (nI i) = some 1
  | b, i, fuel, V, G, hb, hi, hf, hGI => by
      obtain ⟨f, rfl⟩ : ∃ f, fuel = f + 1 := ⟨fuel - 1, by omega⟩
      have a0 : Y.1 x = 3 := hGI.1.1.1
      have m0 : Y.1 (x + 103) = 4 := MT_k hGI.1.2.2.2.2
      by_cases hc : i + 5 ≤ L
      · have cn : ¬ (Int32.ofNat L - 5 < nI i) := by
          rw [show Int32.ofNat L - 5 = nI (L - 5) from nI_sb (a := L) (b := 5) (by omega)]
          exact nI_nlt (by omega) (by omega)
        have e5 : nI i + 5 = nI (i + 5) := nI_add i 5
        have g0 : ¬ (nI i < 0 ∨ L ≤ (nI i).toNatClampNeg) := nx_in (by omega) (by omega)
        have g1 : ¬ ((nI i + (1 : Int32)) < 0 ∨ L ≤ (nI i + (1 : Int32)).toNatClampNeg) := by rw [show nI i + (1 : Int32) = nI (i + 1) from nI_add i 1]; exact nx_in (by omega) (by omega)
        have g2 : ¬ ((nI i + (2 : Int32)) < 0 ∨ L ≤ (nI i + (2 : Int32)).toNatClampNeg) := by rw [show nI i + (2 : Int32) = nI (i + 2) from nI_add i 2]; exact nx_in (by omega) (by omega)
        have g3 : ¬ ((nI i + (3 : Int32)) < 0 ∨ L ≤ (nI i + (3 : Int32)).toNatClampNeg) := by rw [show nI i + (3 : Int32) = nI (i + 3) from nI_add i 3]; exact nx_in (by omega) (by omega)
        have g4 : ¬ ((nI i + (4 : Int32)) < 0 ∨ L ≤ (nI i + (4 : Int32)).toNatClampNeg) := by rw [show nI i + (4 : Int32) = nI (i + 4) from nI_add i 4]; exact nx_in (by omega) (by omega)
        obtain ⟨b', rfl⟩ : ∃ b', b = b' + 1 := ⟨b - 1, by omega⟩
        have ih : ∀ V G, GI x Y V G → lp_L_law_18 L xs Y f V G x (x + 103) (nI i + 5) = some 1 := fun V G h => by rw [e5]; exact law_lp hL b' (i + 5) f V G (by omega) (by omega) (by omega) h
        rw [lp_L_law_18, if_neg cn, if_pos g0]
        generalize (xs (nI i).toNatClampNeg &&& 31) = kd
        by_cases k0 : kd = 0
        · obtain ⟨r, V1, G1, V2, p1, p2, hg⟩ := P_condition hGI (xs (nI i + (1 : Int32)).toNatClampNeg) (xs (nI i + (2 : Int32)).toNatClampNeg) (xs (nI i + (3 : Int32)).toNatClampNeg) (xs (nI i + (4 : Int32)).toNatClampNeg)
          rw [if_pos k0, if_pos g1, if_pos g2, if_pos g3, if_pos g4, if_pos a0, p1, Option.bind_some, if_pos g1, if_pos g2, if_pos g3, if_pos g4, if_pos m0]
          show (Option.bind (cf_X4_condition Y V1 G1 (x + 103) (xs (nI i + (1 : Int32)).toNatClampNeg) (xs (nI i + (2 : Int32)).toNatClampNeg) (xs (nI i + (3 : Int32)).toNatClampNeg) (xs (nI i + (4 : Int32)).toNatClampNeg)) _) = _
          rw [p2, Option.bind_some, if_pos (show (r, V1, G1).1 = (r, V2).1 from rfl)]
          exact ih V2 G1 hg
        rw [if_neg k0]
        by_cases k1 : kd = 1
        · obtain ⟨r, V1, G1, V2, p1, p2, hg⟩ := P_begin hGI (xs (nI i + (1 : Int32)).toNatClampNeg)
          rw [if_pos k1, if_pos g1, if_pos a0, p1, Option.bind_some, if_pos g1, if_pos m0]
          show (Option.bind (cf_X4_begin Y V1 G1 (x + 103) (xs (nI i + (1 : Int32)).toNatClampNeg)) _) = _
          rw [p2, Option.bind_some, if_pos (show (r, V1, G1).1 = (r, V2).1 from rfl)]
          exact ih V2 G1 hg
        rw [if_neg k1]
        by_cases k2 : kd = 2
        · obtain ⟨r, V1, G1, V2, p1, p2, hg⟩ := P_finish hGI (xs (nI i + (1 : Int32)).toNatClampNeg)
          rw [if_pos k2, if_pos g1, if_pos a0, p1, Option.bind_some, if_pos g1, if_pos m0]
          show (Option.bind (cf_X4_finish Y V1 G1 (x + 103) (xs (nI i + (1 : Int32)).toNatClampNeg)) _) = _
          rw [p2, Option.bind_some, if_pos (show (r, V1, G1).1 = (r, V2).1 from rfl)]
          exact ih V2 G1 hg
        rw [if_neg k2]
        by_cases k3 : kd = 3
        · obtain ⟨r, V1, G1, V2, p1, p2, hg⟩ := P_apply hGI (xs (nI i + (1 : Int32)).toNatClampNeg) (xs (nI i + (2 : Int32)).toNatClampNeg)
          rw [if_pos k3, if_pos g1, if_pos g2, if_pos a0, p1, Option.bind_some, if_pos g1, if_pos g2, if_pos m0]
          show (Option.bind (cf_X4_apply Y V1 G1 (x + 103) (xs (nI i + (1 : Int32)).toNatClampNeg) (xs (nI i + (2 : Int32)).toNatClampNeg)) _) = _
          rw [p2, Option.bind_some, if_pos (show (r, V1, G1).1 = (r, V2).1 from rfl)]
          exact ih V2 G1 hg
        rw [if_neg k3]
        by_cases k4 : kd = 4
        · obtain ⟨r, V1, G1, V2, p1, p2, hg⟩ := P_decide hGI (xs (nI i + (1 : Int32)).toNatClampNeg) (xs (nI i + (2 : Int32)).toNatClampNeg)
          rw [if_pos k4, if_pos g1, if_pos g2, if_pos a0, p1, Option.bind_some, if_pos g1, if_pos g2, if_pos m0]
          show (Option.bind (cf_X4_decide Y V1 G1 (x + 103) (xs (nI i + (1 : Int32)).toNatClampNeg) (xs (nI i + (2 : Int32)).toNatClampNeg)) _) = _
          rw [p2, Option.bind_some, if_pos (show (r, V1, G1).1 = (r, V2).1 from rfl)]
          exact ih V2 G1 hg
        rw [if_neg k4]
        by_cases k5 : kd = 5
        · obtain ⟨r, V1, G1, V2, p1, p2, hg⟩ := P_lapse hGI (xs (nI i + (1 : Int32)).toNatClampNeg)
          rw [if_pos k5, if_pos g1, if_pos a0, p1, Option.bind_some, if_pos g1, if_pos m0]
          show (Option.bind (cf_X4_lapse Y V1 G1 (x + 103) (xs (nI i + (1 : Int32)).toNatClampNeg)) _) = _
          rw [p2, Option.bind_some, if_pos (show (r, V1, G1).1 = (r, V2).1 from rfl)]
          exact ih V2 G1 hg
        rw [if_neg k5]
        by_cases k6 : kd = 6
        · obtain ⟨r, V1, G1, V2, p1, p2, hg⟩ := P_cure hGI (xs (nI i + (1 : Int32)).toNatClampNeg)
          rw [if_pos k6, if_pos g1, if_pos a0, p1, Option.bind_some, if_pos g1, if_pos m0]
          show (Option.bind (cf_X4_cure Y V1 G1 (x + 103) (xs (nI i + (1 : Int32)).toNatClampNeg)) _) = _
          rw [p2, Option.bind_some, if_pos (show (r, V1, G1).1 = (r, V2).1 from rfl)]
          exact ih V2 G1 hg
        rw [if_neg k6]
        by_cases k7 : kd = 7
        · obtain ⟨r, V1, G1, V2, p1, p2, hg⟩ := P_serve hGI (xs (nI i + (1 : Int32)).toNatClampNeg) (xs (nI i + (2 : Int32)).toNatClampNeg)
          rw [if_pos k7, if_pos g1, if_pos g2, if_pos a0, p1, Option.bind_some, if_pos g1, if_pos g2, if_pos m0]
          show (Option.bind (cf_X4_serve Y V1 G1 (x + 103) (xs (nI i + (1 : Int32)).toNatClampNeg) (xs (nI i + (2 : Int32)).toNatClampNeg)) _) = _
          rw [p2, Option.bind_some, if_pos (show (r, V1, G1).1 = (r, V2).1 from rfl)]
          exact ih V2 G1 hg
        rw [if_neg k7]
        by_cases k8 : kd = 8
        · obtain ⟨r, V1, G1, V2, p1, p2, hg⟩ := P_vary hGI (xs (nI i + (1 : Int32)).toNatClampNeg) (xs (nI i + (2 : Int32)).toNatClampNeg) (xs (nI i + (3 : Int32)).toNatClampNeg)
          rw [if_pos k8, if_pos g1, if_pos g2, if_pos g3, if_pos a0, p1, Option.bind_some, if_pos g1, if_pos g2, if_pos g3, if_pos m0]
          show (Option.bind (cf_X4_vary Y V1 G1 (x + 103) (xs (nI i + (1 : Int32)).toNatClampNeg) (xs (nI i + (2 : Int32)).toNatClampNeg) (xs (nI i + (3 : Int32)).toNatClampNeg)) _) = _
          rw [p2, Option.bind_some, if_pos (show (r, V1, G1).1 = (r, V2).1 from rfl)]
          exact ih V2 G1 hg
        rw [if_neg k8]
        by_cases k9 : kd = 9
        · obtain ⟨r, V1, G1, V2, p1, p2, hg⟩ := P_pass hGI (xs (nI i + (1 : Int32)).toNatClampNeg)
          rw [if_pos k9, if_pos g1, if_pos a0, p1, Option.bind_some, if_pos g1, if_pos m0]
          show (Option.bind (cf_X4_pass Y V1 G1 (x + 103) (xs (nI i + (1 : Int32)).toNatClampNeg)) _) = _
          rw [p2, Option.bind_some, if_pos (show (r, V1, G1).1 = (r, V2).1 from rfl)]
          exact ih V2 G1 hg
        rw [if_neg k9]
        by_cases k10 : kd = 10
        · obtain ⟨r, V1, G1, V2, p1, p2, hg⟩ := P_set hGI (xs (nI i + (1 : Int32)).toNatClampNeg) (xs (nI i + (2 : Int32)).toNatClampNeg)
          rw [if_pos k10, if_pos g1, if_pos g2, if_pos a0, p1, Option.bind_some, if_pos g1, if_pos g2, if_pos m0]
          show (Option.bind (cf_X4_set Y V1 G1 (x + 103) (xs (nI i + (1 : Int32)).toNatClampNeg) (xs (nI i + (2 : Int32)).toNatClampNeg)) _) = _
          rw [p2, Option.bind_some, if_pos (show (r, V1, G1).1 = (r, V2).1 from rfl)]
          exact ih V2 G1 hg
        rw [if_neg k10]
        by_cases k11 : kd = 11
        · obtain ⟨r, p1, p2⟩ := P_conditionOf hGI (xs (nI i + (1 : Int32)).toNatClampNeg) (xs (nI i + (2 : Int32)).toNatClampNeg)
          rw [if_pos k11, if_pos g1, if_pos g2, if_pos a0, p1, Option.bind_some, if_pos g1, if_pos g2, if_pos m0, p2, Option.bind_some, if_pos rfl]
          exact ih V G hGI
        rw [if_neg k11]
        by_cases k12 : kd = 12
        · obtain ⟨r, p1, p2⟩ := P_stageOf hGI (xs (nI i + (1 : Int32)).toNatClampNeg) (xs (nI i + (2 : Int32)).toNatClampNeg)
          rw [if_pos k12, if_pos g1, if_pos g2, if_pos a0, p1, Option.bind_some, if_pos g1, if_pos g2, if_pos m0, p2, Option.bind_some, if_pos rfl]
          exact ih V G hGI
        rw [if_neg k12]
        by_cases k13 : kd = 13
        · obtain ⟨r, p1, p2⟩ := P_which hGI (xs (nI i + (1 : Int32)).toNatClampNeg)
          rw [if_pos k13, if_pos g1, if_pos a0, p1, Option.bind_some, if_pos g1, if_pos m0, p2, Option.bind_some, if_pos rfl]
          exact ih V G hGI
        rw [if_neg k13]
        by_cases k14 : kd = 14
        · obtain ⟨r, V1, V2, p1, p2, hg⟩ := P_when hGI (xs (nI i + (1 : Int32)).toNatClampNeg) (xs (nI i + (2 : Int32)).toNatClampNeg)
          rw [if_pos k14, if_pos g1, if_pos g2, if_pos a0, p1, Option.bind_some, if_pos g1, if_pos g2, if_pos m0]
          show (Option.bind (cf_X4_when Y V1 G (x + 103) (xs (nI i + (1 : Int32)).toNatClampNeg) (xs (nI i + (2 : Int32)).toNatClampNeg)) _) = _
          rw [p2, Option.bind_some, if_pos (show (r, V1).1 = (r, V2).1 from rfl)]
          exact ih V2 G hg
        rw [if_neg k14]
        by_cases k15 : kd = 15
        · obtain ⟨r, V1, V2, p1, p2, hg⟩ := P_lawful hGI (xs (nI i + (1 : Int32)).toNatClampNeg)
          rw [if_pos k15, if_pos g1, if_pos a0, p1, Option.bind_some, if_pos g1, if_pos m0]
          show (Option.bind (cf_X4_lawful Y V1 G (x + 103) (xs (nI i + (1 : Int32)).toNatClampNeg)) _) = _
          rw [p2, Option.bind_some, if_pos (show (r, V1).1 = (r, V2).1 from rfl)]
          exact ih V2 G hg
        rw [if_neg k15]
        by_cases k16 : kd = 16
        · obtain ⟨r, p1, p2⟩ := P_fine hGI (xs (nI i + (1 : Int32)).toNatClampNeg) ((((xs (nI i + (2 : Int32)).toNatClampNeg)).toInt64 <<< ((32 : Int32).toInt64 &&& 63)) ||| (((xs (nI i + (3 : Int32)).toNatClampNeg)).toInt64 &&& (4294967295 : Int64)))
          rw [if_pos k16, if_pos g1, if_pos g2, if_pos g3, if_pos a0, p1, Option.bind_some, if_pos g1, if_pos g2, if_pos g3, if_pos m0, p2, Option.bind_some, if_pos (lg_self r)]
          exact ih V G hGI
        rw [if_neg k16]
        by_cases k17 : kd = 17
        · obtain ⟨r, p1, p2⟩ := P_share hGI 
          rw [if_pos k17, if_pos a0, p1, Option.bind_some, if_pos m0, p2, Option.bind_some, if_pos rfl]
          exact ih V G hGI
        rw [if_neg k17]
        by_cases k18 : kd = 18
        · obtain ⟨r, p1, p2⟩ := P_count hGI (xs (nI i + (1 : Int32)).toNatClampNeg)
          rw [if_pos k18, if_pos g1, if_pos a0, p1, Option.bind_some, if_pos g1, if_pos m0, p2, Option.bind_some, if_pos rfl]
          exact ih V G hGI
        rw [if_neg k18]
        by_cases k19 : kd = 19
        · obtain ⟨r, V1, V2, p1, p2, hg⟩ := P_undo hGI 
          rw [if_pos k19, if_pos a0, p1, Option.bind_some, if_pos m0]
          show (Option.bind (cf_X4_undo Y V1 G (x + 103)) _) = _
          rw [p2, Option.bind_some, if_pos (show (r, V1).1 = (r, V2).1 from rfl)]
          exact ih V2 G hg
        rw [if_neg k19]
        by_cases k20 : kd = 20
        · obtain ⟨r, V1, V2, p1, p2, hg⟩ := P_type hGI (xs (nI i + (1 : Int32)).toNatClampNeg)
          rw [if_pos k20, if_pos g1, if_pos a0, p1, Option.bind_some, if_pos g1, if_pos m0]
          show (Option.bind (cf_X4_type Y V1 G (x + 103) (xs (nI i + (1 : Int32)).toNatClampNeg)) _) = _
          rw [p2, Option.bind_some, if_pos (show (r, V1).1 = (r, V2).1 from rfl)]
          exact ih V2 G hg
        rw [if_neg k20]
        by_cases k21 : kd = 21
        · obtain ⟨r, V1, V2, p1, p2, hg⟩ := P_clearText hGI 
          rw [if_pos k21, if_pos a0, p1, Option.bind_some, if_pos m0]
          show (Option.bind (cf_X4_clearText Y V1 G (x + 103)) _) = _
          rw [p2, Option.bind_some, if_pos (show (r, V1).1 = (r, V2).1 from rfl)]
          exact ih V2 G hg
        rw [if_neg k21]
        by_cases k22 : kd = 22
        · obtain ⟨r, V1, V2, p1, p2, hg⟩ := P_fault hGI (xs (nI i + (1 : Int32)).toNatClampNeg)
          rw [if_pos k22, if_pos g1, if_pos a0, p1, Option.bind_some, if_pos g1, if_pos m0]
          show (Option.bind (cf_X4_fault Y V1 G (x + 103) (xs (nI i + (1 : Int32)).toNatClampNeg)) _) = _
          rw [p2, Option.bind_some, if_pos (show (r, V1).1 = (r, V2).1 from rfl)]
          exact ih V2 G hg
        rw [if_neg k22]
        by_cases k23 : kd = 23
        · obtain ⟨r, V1, G1, V2, p1, p2, hg⟩ := P_play hGI 
          rw [if_pos k23, if_pos a0, p1, Option.bind_some, if_pos m0]
          show (Option.bind (cf_X4_play Y V1 G1 (x + 103)) _) = _
          rw [p2, Option.bind_some, if_pos (show (r, V1, G1).1 = (r, V2).1 from rfl)]
          exact ih V2 G1 hg
        rw [if_neg k23]
        exact ih V G hGI
      · have cp : Int32.ofNat L - 5 < nI i := by
          by_cases h5 : 5 ≤ L
          · rw [show Int32.ofNat L - 5 = nI (L - 5) from nI_sb (a := L) (b := 5) h5]
            exact nI_lt (by omega) (by omega)
          · have : Int32.ofNat L - 5 < 0 := by
              rcases (show L = 0 ∨ L = 1 ∨ L = 2 ∨ L = 3 ∨ L = 4 by omega) with e | e | e | e | e <;> subst e <;> decide
            exact Int32.lt_of_lt_of_le this (nI_pos' (by omega))
        rw [lp_L_law_18, if_pos cp]
