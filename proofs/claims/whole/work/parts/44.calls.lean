-- the eleven changes; undo
section CLS
variable {Y : mY} {G : mG} {x : Nat}
theorem P_condition {V : mV} (hGI : GI x Y V G) (b1 b2 b3 b4 : Int32) : ∃ r V1 G1 V2, cf_X3_condition Y V G x b1 b2 b3 b4 = some (r, V1, G1) ∧ cf_X4_condition Y V1 G1 (x + 103) b1 b2 b3 b4 = some (r, V2) ∧ GI x Y V2 G1 := by
  obtain ⟨r, V1, G1, V2, e1, e2, g⟩ := CHG hGI (fun V G => cf_X2_addCondition Y V G (x + 1) b1 b2 b3 b4) (fun V G => cf_X4_doCondition Y V G (x + 103) b1 b2 b3 b4) (fun V G G' N a hP hM hm hs => S_condition hP hM hm hs b1 b2 b3 b4)
  obtain ⟨hX, ⟨q, hq, hG, -⟩, -⟩ := id hGI
  rw [hG.1, Option.bind_some, hX.1.2.1, Option.bind_some] at e1
  exact ⟨r, V1, G1, V2, by rw [cf_X3_condition, if_pos hX.1.1, hG.1, Option.bind_some, hX.1.2.1, Option.bind_some]; exact e1, by rw [cf_X4_condition, if_pos (MT_k g.1.2.2.2.2)]; exact e2, g⟩
theorem P_begin {V : mV} (hGI : GI x Y V G) (b1 : Int32) : ∃ r V1 G1 V2, cf_X3_begin Y V G x b1 = some (r, V1, G1) ∧ cf_X4_begin Y V1 G1 (x + 103) b1 = some (r, V2) ∧ GI x Y V2 G1 := by
  obtain ⟨r, V1, G1, V2, e1, e2, g⟩ := CHG hGI (fun V G => cf_X2_beginStage Y V G (x + 1) b1) (fun V G => cf_X4_doBegin Y V G (x + 103) b1) (fun V G G' N a hP hM hm hs => S_begin hP hM hm hs b1)
  obtain ⟨hX, ⟨q, hq, hG, -⟩, -⟩ := id hGI
  rw [hG.1, Option.bind_some, hX.1.2.1, Option.bind_some] at e1
  exact ⟨r, V1, G1, V2, by rw [cf_X3_begin, if_pos hX.1.1, hG.1, Option.bind_some, hX.1.2.1, Option.bind_some]; exact e1, by rw [cf_X4_begin, if_pos (MT_k g.1.2.2.2.2)]; exact e2, g⟩
theorem P_finish {V : mV} (hGI : GI x Y V G) (b1 : Int32) : ∃ r V1 G1 V2, cf_X3_finish Y V G x b1 = some (r, V1, G1) ∧ cf_X4_finish Y V1 G1 (x + 103) b1 = some (r, V2) ∧ GI x Y V2 G1 := by
  obtain ⟨r, V1, G1, V2, e1, e2, g⟩ := CHG hGI (fun V G => cf_X2_finishStage Y V G (x + 1) b1) (fun V G => cf_X4_doFinish Y V G (x + 103) b1) (fun V G G' N a hP hM hm hs => OK_2 (S_finish hP hM hm hs b1))
  obtain ⟨hX, ⟨q, hq, hG, -⟩, -⟩ := id hGI
  rw [hG.1, Option.bind_some, hX.1.2.1, Option.bind_some] at e1
  exact ⟨r, V1, G1, V2, by rw [cf_X3_finish, if_pos hX.1.1, hG.1, Option.bind_some, hX.1.2.1, Option.bind_some]; exact e1, by rw [cf_X4_finish, if_pos (MT_k g.1.2.2.2.2)]; exact e2, g⟩
theorem P_apply {V : mV} (hGI : GI x Y V G) (b1 b2 : Int32) : ∃ r V1 G1 V2, cf_X3_apply Y V G x b1 b2 = some (r, V1, G1) ∧ cf_X4_apply Y V1 G1 (x + 103) b1 b2 = some (r, V2) ∧ GI x Y V2 G1 := by
  obtain ⟨r, V1, G1, V2, e1, e2, g⟩ := CHG hGI (fun V G => cf_X2_applyFor Y V G (x + 1) b1 b2) (fun V G => cf_X4_doApply Y V G (x + 103) b1 b2) (fun V G G' N a hP hM hm hs => OK_2 (S_apply hP hM hm hs b1 b2))
  obtain ⟨hX, ⟨q, hq, hG, -⟩, -⟩ := id hGI
  rw [hG.1, Option.bind_some, hX.1.2.1, Option.bind_some] at e1
  exact ⟨r, V1, G1, V2, by rw [cf_X3_apply, if_pos hX.1.1, hG.1, Option.bind_some, hX.1.2.1, Option.bind_some]; exact e1, by rw [cf_X4_apply, if_pos (MT_k g.1.2.2.2.2)]; exact e2, g⟩
theorem P_decide {V : mV} (hGI : GI x Y V G) (b1 b2 : Int32) : ∃ r V1 G1 V2, cf_X3_decide Y V G x b1 b2 = some (r, V1, G1) ∧ cf_X4_decide Y V1 G1 (x + 103) b1 b2 = some (r, V2) ∧ GI x Y V2 G1 := by
  obtain ⟨r, V1, G1, V2, e1, e2, g⟩ := CHG hGI (fun V G => cf_X2_decideOn Y V G (x + 1) b1 b2) (fun V G => cf_X4_doDecide Y V G (x + 103) b1 b2) (fun V G G' N a hP hM hm hs => OK_2 (S_decide hP hM hm hs b1 b2))
  obtain ⟨hX, ⟨q, hq, hG, -⟩, -⟩ := id hGI
  rw [hG.1, Option.bind_some, hX.1.2.1, Option.bind_some] at e1
  exact ⟨r, V1, G1, V2, by rw [cf_X3_decide, if_pos hX.1.1, hG.1, Option.bind_some, hX.1.2.1, Option.bind_some]; exact e1, by rw [cf_X4_decide, if_pos (MT_k g.1.2.2.2.2)]; exact e2, g⟩
theorem P_lapse {V : mV} (hGI : GI x Y V G) (b1 : Int32) : ∃ r V1 G1 V2, cf_X3_lapse Y V G x b1 = some (r, V1, G1) ∧ cf_X4_lapse Y V1 G1 (x + 103) b1 = some (r, V2) ∧ GI x Y V2 G1 := by
  obtain ⟨r, V1, G1, V2, e1, e2, g⟩ := CHG hGI (fun V G => cf_X2_lapseOf Y V G (x + 1) b1) (fun V G => cf_X4_doLapse Y V G (x + 103) b1) (fun V G G' N a hP hM hm hs => OK_2 (S_lapse hP hM hm hs b1))
  obtain ⟨hX, ⟨q, hq, hG, -⟩, -⟩ := id hGI
  rw [hG.1, Option.bind_some, hX.1.2.1, Option.bind_some] at e1
  exact ⟨r, V1, G1, V2, by rw [cf_X3_lapse, if_pos hX.1.1, hG.1, Option.bind_some, hX.1.2.1, Option.bind_some]; exact e1, by rw [cf_X4_lapse, if_pos (MT_k g.1.2.2.2.2)]; exact e2, g⟩
theorem P_cure {V : mV} (hGI : GI x Y V G) (b1 : Int32) : ∃ r V1 G1 V2, cf_X3_cure Y V G x b1 = some (r, V1, G1) ∧ cf_X4_cure Y V1 G1 (x + 103) b1 = some (r, V2) ∧ GI x Y V2 G1 := by
  obtain ⟨r, V1, G1, V2, e1, e2, g⟩ := CHG hGI (fun V G => cf_X2_cureOf Y V G (x + 1) b1) (fun V G => cf_X4_doCure Y V G (x + 103) b1) (fun V G G' N a hP hM hm hs => OK_2 (S_cure hP hM hm hs b1))
  obtain ⟨hX, ⟨q, hq, hG, -⟩, -⟩ := id hGI
  rw [hG.1, Option.bind_some, hX.1.2.1, Option.bind_some] at e1
  exact ⟨r, V1, G1, V2, by rw [cf_X3_cure, if_pos hX.1.1, hG.1, Option.bind_some, hX.1.2.1, Option.bind_some]; exact e1, by rw [cf_X4_cure, if_pos (MT_k g.1.2.2.2.2)]; exact e2, g⟩
theorem P_serve {V : mV} (hGI : GI x Y V G) (b1 b2 : Int32) : ∃ r V1 G1 V2, cf_X3_serve Y V G x b1 b2 = some (r, V1, G1) ∧ cf_X4_serve Y V1 G1 (x + 103) b1 b2 = some (r, V2) ∧ GI x Y V2 G1 := by
  obtain ⟨r, V1, G1, V2, e1, e2, g⟩ := CHG hGI (fun V G => cf_X2_serveOn Y V G (x + 1) b1 b2) (fun V G => cf_X4_doServe Y V G (x + 103) b1 b2) (fun V G G' N a hP hM hm hs => OK_2 (S_serve hP hM hm hs b1 b2))
  obtain ⟨hX, ⟨q, hq, hG, -⟩, -⟩ := id hGI
  rw [hG.1, Option.bind_some, hX.1.2.1, Option.bind_some] at e1
  exact ⟨r, V1, G1, V2, by rw [cf_X3_serve, if_pos hX.1.1, hG.1, Option.bind_some, hX.1.2.1, Option.bind_some]; exact e1, by rw [cf_X4_serve, if_pos (MT_k g.1.2.2.2.2)]; exact e2, g⟩
theorem P_vary {V : mV} (hGI : GI x Y V G) (b1 b2 b3 : Int32) : ∃ r V1 G1 V2, cf_X3_vary Y V G x b1 b2 b3 = some (r, V1, G1) ∧ cf_X4_vary Y V1 G1 (x + 103) b1 b2 b3 = some (r, V2) ∧ GI x Y V2 G1 := by
  obtain ⟨r, V1, G1, V2, e1, e2, g⟩ := CHG hGI (fun V G => cf_X2_varyTo Y V G (x + 1) b1 b2 b3) (fun V G => cf_X4_doVary Y V G (x + 103) b1 b2 b3) (fun V G G' N a hP hM hm hs => OK_2 (S_vary hP hM hm hs b1 b2 b3))
  obtain ⟨hX, ⟨q, hq, hG, -⟩, -⟩ := id hGI
  rw [hG.1, Option.bind_some, hX.1.2.1, Option.bind_some] at e1
  exact ⟨r, V1, G1, V2, by rw [cf_X3_vary, if_pos hX.1.1, hG.1, Option.bind_some, hX.1.2.1, Option.bind_some]; exact e1, by rw [cf_X4_vary, if_pos (MT_k g.1.2.2.2.2)]; exact e2, g⟩
theorem P_pass {V : mV} (hGI : GI x Y V G) (b1 : Int32) : ∃ r V1 G1 V2, cf_X3_pass Y V G x b1 = some (r, V1, G1) ∧ cf_X4_pass Y V1 G1 (x + 103) b1 = some (r, V2) ∧ GI x Y V2 G1 := by
  obtain ⟨r, V1, G1, V2, e1, e2, g⟩ := CHG hGI (fun V G => cf_X2_passDays Y V G (x + 1) b1) (fun V G => cf_X4_doPass Y V G (x + 103) b1) (fun V G G' N a hP hM hm hs => S_pass hP hM hm hs b1)
  obtain ⟨hX, ⟨q, hq, hG, -⟩, -⟩ := id hGI
  rw [hG.1, Option.bind_some, hX.1.2.1, Option.bind_some] at e1
  exact ⟨r, V1, G1, V2, by rw [cf_X3_pass, if_pos hX.1.1, hG.1, Option.bind_some, hX.1.2.1, Option.bind_some]; exact e1, by rw [cf_X4_pass, if_pos (MT_k g.1.2.2.2.2)]; exact e2, g⟩
theorem P_set {V : mV} (hGI : GI x Y V G) (b1 b2 : Int32) : ∃ r V1 G1 V2, cf_X3_set Y V G x b1 b2 = some (r, V1, G1) ∧ cf_X4_set Y V1 G1 (x + 103) b1 b2 = some (r, V2) ∧ GI x Y V2 G1 := by
  obtain ⟨r, V1, G1, V2, e1, e2, g⟩ := CHG hGI (fun V G => cf_X2_putSetting Y V G (x + 1) b1 b2) (fun V G => cf_X4_doSet Y V G (x + 103) b1 b2) (fun V G G' N a hP hM hm hs => OK_2 (S_set hP hM hm hs b1 b2))
  obtain ⟨hX, ⟨q, hq, hG, -⟩, -⟩ := id hGI
  rw [hG.1, Option.bind_some, hX.1.2.1, Option.bind_some] at e1
  exact ⟨r, V1, G1, V2, by rw [cf_X3_set, if_pos hX.1.1, hG.1, Option.bind_some, hX.1.2.1, Option.bind_some]; exact e1, by rw [cf_X4_set, if_pos (MT_k g.1.2.2.2.2)]; exact e2, g⟩
theorem undo_lp {m : Nat} (hM : MT Y G m) {t : Nat} (ht : t < 4) (b : Nat → Int32) : ∀ (n k fuel : Nat) (V : mV), k + n = 146 → n < fuel → V m 4 = nI t → V (m + 1) = mix k (hs V m t) b → lp_X4_undo_22 Y G fuel V m (nI k) = some (nI t, va_up V (m + 1) (mix 146 (hs V m t) b))
  | 0, k, fuel, V, hk, hf, h4, hV => by
      obtain ⟨f, rfl⟩ : ∃ f, fuel = f + 1 := ⟨fuel - 1, by omega⟩
      obtain rfl : k = 146 := by omega
      rw [lp_X4_undo_22, if_pos (show (146 : Int32) ≤ nI 146 by decide), if_pos (MT_k hM), ← hV, us_, h4]
  | n + 1, k, fuel, V, hk, hf, h4, hV => by
      obtain ⟨f, rfl⟩ : ∃ f, fuel = f + 1 := ⟨fuel - 1, by omega⟩
      have lt : ¬ (146 : Int32) ≤ nI k := le_nI (a := 146) (b := k) (by omega) (by decide)
      obtain ⟨b1, b2, b3⟩ := MT_4 hM
      have i1 : ¬ (nI k < 0 ∨ Y.2 (m + 1) ≤ (nI k).toNatClampNeg) := by rw [MT_l1 hM]; exact nx_in (by omega) (by decide)
      have i2 : ¬ (nI (146 * t + k) < 0 ∨ Y.2 (m + 4) ≤ (nI (146 * t + k)).toNatClampNeg) := by rw [b3]; exact nx_in (by omega) (by decide)
      have hh : hs (up2 V (m + 1) k (V (m + 4) (146 * t + k))) m t = hs V m t := by unfold hs; rw [up2_n _ _ _ (by omega)]
      rw [lp_X4_undo_22, if_neg lt, if_pos (MT_k hM), MT_g hM, Option.bind_some, b1, Option.bind_some, if_pos b2, h4, ix_146, if_pos i2, if_pos (MT_k1 hM), if_pos i1, nI_clamp (show k < _ by omega), nI_clamp (show 146 * t + k < _ by omega), ← nI_succ, undo_lp hM ht b n (k + 1) f _ (by omega) (by omega) (by rw [up2_n _ _ _ (by omega)]; exact h4) (by rw [hh, up2_s, hV]; exact mix_step k (hs V m t) b), hh, up2, uu_]
theorem P_undo {V : mV} (hGI : GI x Y V G) : ∃ r V1 V2, cf_X3_undo Y V G x = some (r, V1) ∧ cf_X4_undo Y V1 G (x + 103) = some (r, V2) ∧ GI x Y V2 G := by
  obtain ⟨hX, ⟨q, hq, hG, t, ht, h5, h4, hH⟩, ⟨N, hm, hs'⟩, hT⟩ := id hGI
  obtain ⟨⟨a0, a1, a2, a3, a4⟩, ⟨b1, b2⟩, ⟨c1, c2, c3⟩, d1, hM⟩ := id hX
  by_cases t0 : t = 0
  · subst t0
    exact ⟨-1000002, V, V, by rw [cf_X3_undo, if_pos a0, h5, if_neg (by decide)], by rw [cf_X4_undo, if_pos (MT_k hM), h4, if_pos (by rfl)], hGI⟩
  · obtain ⟨u, rfl⟩ : ∃ u, t = u + 1 := ⟨t - 1, by omega⟩
    have gt : (0 : Int32) < nI (u + 1) := nI_lt (a := 0) (by omega) (by omega)
    have pr : nI (u + 1) - 1 = nI u := by rw [nI_succ, Int32.add_sub_cancel]
    have qu := hq.1 u (by omega)
    obtain ⟨Nj, pj, sj⟩ := hH u (by omega)
    have cB := c3 _ qu
    have blV : ∀ b, b ≠ x → up2 V x 5 (nI u) b = V b := fun b hb => up2_n _ _ _ hb
    obtain ⟨V1, e1, p1, o1⟩ := C_copy (V := up2 V x 5 (nI u)) (g := x + 1) (h := x + 33 + 14 * q u) c1 cB (by omega) sj.1 (PM_bl sj.1.1 (fun i hi => blV _ (by omega)) pj)
    have v1 : ∀ b, b ≠ x → ¬ (x + 1 ≤ b ∧ b < x + 15) → V1 b = V b := fun b h1 h2 => by rw [o1 b (by omega), blV b h1]
    have i3 : ¬ (nI u < 0 ∨ Y.2 (x + 29) ≤ (nI u).toNatClampNeg) := by rw [b2]; exact nx_in (by omega) (by decide)
    have hh : hs (up2 V1 (x + 103) 4 (nI u)) (x + 103) u = hs V (x + 103) u := by unfold hs; rw [up2_n _ _ _ (by omega), v1 _ (by omega) (by omega)]
    have lp := undo_lp hM (show u < 4 by omega) (V (x + 104)) 146 0 fuB (up2 V1 (x + 103) 4 (nI u)) (by omega) (fuB_gt (by omega)) (up2_ss _ _ _ _) (by rw [up2_n _ _ _ (by omega), mix_0, v1 _ (by omega) (by omega)])
    rw [hh] at lp
    refine ⟨nI u, V1, va_up (up2 V1 (x + 103) 4 (nI u)) (x + 104) (mix 146 (hs V (x + 103) u) (V (x + 104))), ?_, ?_, hX, ⟨q, hq, hG, u, by omega, ?_, ?_, fun j hj => ?_⟩, ⟨Nj, ?_, ?_⟩, ?_⟩
    · rw [cf_X3_undo, if_pos a0, h5, if_pos gt, a1, Option.bind_some, a3, Option.bind_some, if_pos (Or.inr b1), pr, up2_ss, if_pos i3, nI_clamp (show u < _ by omega), hG.2 u (by omega), Option.bind_some, if_pos c1.1, e1, Option.bind_some, o1 x (by omega), up2_ss]
    · have h41 : V1 (x + 103) 4 = nI (u + 1) := by rw [v1 _ (by omega) (by omega)]; exact h4
      have nz : ¬ nI (u + 1) = 0 := nI_ne0 (by omega) (by omega)
      rw [cf_X4_undo, if_pos (MT_k hM), h41, if_neg nz, pr]
      exact lp
    · rw [va_up_ne _ _ (by omega), up2_n _ _ _ (by omega), o1 x (by omega), up2_ss]
    · rw [va_up_ne _ _ (by omega), up2_ss]
    · obtain ⟨N2, p2, s2⟩ := hH j (by omega)
      have e : hs (va_up (up2 V1 (x + 103) 4 (nI u)) (x + 104) (mix 146 (hs V (x + 103) u) (V (x + 104)))) (x + 103) j = hs V (x + 103) j := by
        unfold hs; rw [va_up_ne _ _ (by omega), up2_n _ _ _ (by omega), v1 _ (by omega) (by omega)]
      have := hq.1 j (by omega)
      exact ⟨N2, by rw [e]; exact PM_bl s2.1.1 (fun i hi => by rw [va_up_ne _ _ (by omega), up2_n _ _ _ (by omega), v1 _ (by omega) (by omega)]) p2, by rw [e]; exact s2⟩
    · rw [va_up_s]
      exact PM_eq sj.1.1 (fun k hk => mix_lt _ _ _ hk) (PM_bl sj.1.1 (fun i hi => by rw [va_up_ne _ _ (by omega), up2_n _ _ _ (by omega)]) p1)
    · rw [va_up_s]; exact SI_eq (fun k hk => mix_lt _ _ _ hk) sj
    · exact TX_eq (by rw [va_up_ne _ _ (by omega), up2_n _ _ _ (by omega), v1 _ (by omega) (by omega)]) (by rw [va_up_ne _ _ (by omega), up2_sn _ _ _ (by omega), v1 _ (by omega) (by omega)]) (by rw [va_up_ne _ _ (by omega), up2_n _ _ _ (by omega), v1 _ (by omega) (by omega)]) (by rw [va_up_ne _ _ (by omega), up2_n _ _ _ (by omega), v1 _ (by omega) (by omega)]) hT
end CLS
