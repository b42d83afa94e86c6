-- a step of the law: both answer alike, and stay alike
section CLS
variable {Y : mY} {G : mG} {x y : Nat} {V : mV} {a b : Nat → Int32} {d : Nat}
set_option maxHeartbeats 4000000 in
set_option maxRecDepth 100000 in
theorem step_s (hT : TW x y Y V G a b d) (hxy : x + 103 ≤ y) (hd : d + 6 ≤ 9000) (v : Int32) : ∃ V' G' a' b' d', cf_L_isStep Y V G x y v = some (1, V', G') ∧ TW x y Y V' G' a' b' d' ∧ d' ≤ d + 6 := by
  obtain ⟨kx, ky⟩ := TW_k hT
  obtain ⟨ta, ha, tb, hb, ho, -⟩ := id hT
  have c5 : cf_X3_count Y V G x 0 = some (nI 5) := P_count ho (k := 0) (by omega)
  obtain ⟨c, hc, ec⟩ := up_s (v >>> ((4 : Int32) &&& 31)) (n := 5) (m := nI 5) rfl (by omega) (by omega)
  obtain ⟨s, hs8, es⟩ := up_s ((v >>> ((4 : Int32) &&& 31)) >>> ((4 : Int32) &&& 31)) (n := 8) (m := 8) rfl (by omega) (by omega)
  obtain ⟨k, hk, ek⟩ := up_s v (n := 12) (m := 12) rfl (by omega) (by omega)
  rw [cf_L_isStep, if_pos kx, c5, Option.bind_some, ec, Option.bind_some, there_s (N := 5) ho hc, Option.bind_some, es, Option.bind_some, ek, Option.bind_some]
  by_cases k0 : k = 0
  · subst k0
    obtain ⟨u, hu, eu⟩ := up_s (v >>> ((4 : Int32) &&& 31)) (n := 3) (m := 3) rfl (by omega) (by omega)
    obtain ⟨r, V1, G1, r2, V2, G2, a', b', e1, e2, e3, hT2⟩ := pair_begin hT hxy (u := u) (by omega)
    refine ⟨V2, G2, a', b', d, ?_, hT2, by omega⟩
    rw [if_pos (show nI 0 = 0 from rfl), eu, Option.bind_some, e1, Option.bind_some, if_pos ky]
    dsimp only
    rw [e2, Option.bind_some]
    dsimp only
    rw [e3, Option.bind_some, if_pos rfl]
  rw [if_neg (show ¬ nI k = 0 from nI_ne0 (by omega) (by omega))]
  by_cases k1 : k = 1
  · subst k1
    obtain ⟨u, hu, eu⟩ := up_s (v >>> ((4 : Int32) &&& 31)) (n := 3) (m := 3) rfl (by omega) (by omega)
    obtain ⟨r, V1, G1, V2, G2, a', b', e1, e2, hT2⟩ := pair_finish hT hxy (u := u) (by omega)
    refine ⟨V2, G2, a', b', d, ?_, hT2, by omega⟩
    rw [if_pos (show nI 1 = 1 from rfl), eu, Option.bind_some, e1, Option.bind_some, if_pos ky]
    dsimp only
    rw [e2, Option.bind_some, if_pos rfl]
  rw [if_neg (show ¬ nI k = 1 from fun q => k1 ((nI_eq (b := 1) (by omega) (by omega)).mp q))]
  by_cases k2 : k = 2
  · subst k2
    obtain ⟨r, V1, G1, V2, G2, a', b', e1, e2, hT2⟩ := pair (F := fApply (nI s)) (cf := fun V G x i => cf_X3_apply Y V G x (nI i) (nI s)) (fun x V G a t ha i ho hi => P_apply ho hi _) (fun a b r h _ => H_apply h _ r) (fun d a r h => X_apply _ a h) hT hxy hc
    refine ⟨V2, G2, a', b', d, ?_, hT2, by omega⟩
    rw [if_pos (show nI 2 = 2 from rfl), e1, Option.bind_some, if_pos ky]
    dsimp only
    rw [e2, Option.bind_some, if_pos rfl]
  rw [if_neg (show ¬ nI k = 2 from fun q => k2 ((nI_eq (b := 2) (by omega) (by omega)).mp q))]
  by_cases k3 : k = 3
  · subst k3
    obtain ⟨r, V1, G1, V2, G2, a', b', e1, e2, hT2⟩ := pair (F := fApply (nI s)) (cf := fun V G x i => cf_X3_apply Y V G x (nI i) (nI s)) (fun x V G a t ha i ho hi => P_apply ho hi _) (fun a b r h _ => H_apply h _ r) (fun d a r h => X_apply _ a h) hT hxy hc
    refine ⟨V2, G2, a', b', d, ?_, hT2, by omega⟩
    rw [if_pos (show nI 3 = 3 from rfl), e1, Option.bind_some, if_pos ky]
    dsimp only
    rw [e2, Option.bind_some, if_pos rfl]
  rw [if_neg (show ¬ nI k = 3 from fun q => k3 ((nI_eq (b := 3) (by omega) (by omega)).mp q))]
  by_cases k4 : k = 4
  · subst k4
    obtain ⟨r, V1, G1, V2, G2, a', b', e1, e2, hT2⟩ := pair (F := fDecide (nI s)) (cf := fun V G x i => cf_X3_decide Y V G x (nI i) (nI s)) (fun x V G a t ha i ho hi => P_decide ho hi _) (fun a b r _ _ => H_decide a b _ r) (fun d a r h => X_decide _ a h) hT hxy hc
    refine ⟨V2, G2, a', b', d, ?_, hT2, by omega⟩
    rw [if_pos (show nI 4 = 4 from rfl), e1, Option.bind_some, if_pos ky]
    dsimp only
    rw [e2, Option.bind_some, if_pos rfl]
  rw [if_neg (show ¬ nI k = 4 from fun q => k4 ((nI_eq (b := 4) (by omega) (by omega)).mp q))]
  by_cases k5 : k = 5
  · subst k5
    obtain ⟨r, V1, G1, V2, G2, a', b', e1, e2, hT2⟩ := pair (F := fLapse) (cf := fun V G x i => cf_X3_lapse Y V G x (nI i)) (fun x V G a t ha i ho hi => P_lapse ho hi) (fun a b r h h1 => H_lapse h h1) (fun d a r h => X_lapse a h) hT hxy hc
    refine ⟨V2, G2, a', b', d, ?_, hT2, by omega⟩
    rw [if_pos (show nI 5 = 5 from rfl), e1, Option.bind_some, if_pos ky]
    dsimp only
    rw [e2, Option.bind_some, if_pos rfl]
  rw [if_neg (show ¬ nI k = 5 from fun q => k5 ((nI_eq (b := 5) (by omega) (by omega)).mp q))]
  by_cases k6 : k = 6
  · subst k6
    obtain ⟨r, V1, G1, V2, G2, a', b', e1, e2, hT2⟩ := pair (F := fCure) (cf := fun V G x i => cf_X3_cure Y V G x (nI i)) (fun x V G a t ha i ho hi => P_cure ho hi) (fun a b r h h1 => H_cure h h1) (fun d a r h => X_cure a h) hT hxy hc
    refine ⟨V2, G2, a', b', d, ?_, hT2, by omega⟩
    rw [if_pos (show nI 6 = 6 from rfl), e1, Option.bind_some, if_pos ky]
    dsimp only
    rw [e2, Option.bind_some, if_pos rfl]
  rw [if_neg (show ¬ nI k = 6 from fun q => k6 ((nI_eq (b := 6) (by omega) (by omega)).mp q))]
  by_cases k7 : k = 7
  · subst k7
    obtain ⟨w, hw, ew⟩ := up_s ((v >>> ((4 : Int32) &&& 31)) >>> ((4 : Int32) &&& 31)) (n := 9) (m := 9) rfl (by omega) (by omega)
    obtain ⟨r, V1, G1, V2, G2, a', b', e1, e2, hT2⟩ := pair (F := fServe (1 + nI w)) (cf := fun V G x i => cf_X3_serve Y V G x (nI i) (1 + nI w)) (fun x V G a t ha i ho hi => P_serve ho hi _) (fun a b r h h1 => H_serve h _ h1) (fun d a r h => X_serve _ a h) hT hxy hc
    refine ⟨V2, G2, a', b', d, ?_, hT2, by omega⟩
    rw [if_pos (show nI 7 = 7 from rfl), ew, Option.bind_some, e1, Option.bind_some, Option.bind_some, if_pos ky]
    dsimp only
    rw [e2, Option.bind_some, if_pos rfl]
  rw [if_neg (show ¬ nI k = 7 from fun q => k7 ((nI_eq (b := 7) (by omega) (by omega)).mp q))]
  by_cases k8 : k = 8
  · subst k8
    obtain ⟨w, hw, ew⟩ := up_s ((v >>> ((4 : Int32) &&& 31)) >>> ((3 : Int32) &&& 31)) (n := 3) (m := 3) rfl (by omega) (by omega)
    obtain ⟨z, hz, ez⟩ := up_s ((v >>> ((4 : Int32) &&& 31)) >>> ((5 : Int32) &&& 31)) (n := 12) (m := 12) rfl (by omega) (by omega)
    obtain ⟨r, V1, G1, V2, G2, a', b', e1, e2, hT2⟩ := pair (F := fVary (nI w) (nI z)) (cf := fun V G x i => cf_X3_vary Y V G x (nI i) (nI w) (nI z)) (fun x V G a t ha i ho hi => P_vary ho hi _ _) (fun a b r h h1 => H_vary h _ _ h1) (fun d a r h => X_vary _ _ a h) hT hxy hc
    refine ⟨V2, G2, a', b', d, ?_, hT2, by omega⟩
    rw [if_pos (show nI 8 = 8 from rfl), ew, Option.bind_some, ez, Option.bind_some, e1, Option.bind_some, Option.bind_some, Option.bind_some, if_pos ky]
    dsimp only
    rw [e2, Option.bind_some, if_pos rfl]
  rw [if_neg (show ¬ nI k = 8 from fun q => k8 ((nI_eq (b := 8) (by omega) (by omega)).mp q))]
  by_cases k9 : k = 9
  · subst k9
    obtain ⟨w, hw, ew⟩ := up_s (v >>> ((4 : Int32) &&& 31)) (n := 2) (m := 2) rfl (by omega) (by omega)
    obtain ⟨z, hz, ez⟩ := up_s ((v >>> ((4 : Int32) &&& 31)) >>> ((3 : Int32) &&& 31)) (n := 20) (m := 20) rfl (by omega) (by omega)
    obtain ⟨V1, G1, V2, G2, b', e1, e2, hT2⟩ := pair_set hT hxy (w := w) (k := 1 + z) (by omega) (by omega) (by omega)
    rw [← nI_add] at e1 e2
    refine ⟨V2, G2, _, b', d, ?_, hT2, by omega⟩
    rw [if_pos (show nI 9 = 9 from rfl), ew, Option.bind_some, ez, Option.bind_some, show (1 : Int32) = nI 1 from rfl, e1, Option.bind_some, Option.bind_some, if_pos ky]
    dsimp only
    rw [e2, Option.bind_some, if_pos rfl]
  rw [if_neg (show ¬ nI k = 9 from fun q => k9 ((nI_eq (b := 9) (by omega) (by omega)).mp q))]
  obtain ⟨w, hw, ew⟩ := up_s (v >>> ((4 : Int32) &&& 31)) (n := 6) (m := 6) rfl (by omega) (by omega)
  obtain ⟨V', G', e1, hT2⟩ := passes_s hT hxy (D := 1 + w) (by omega) (by omega) (by omega)
  rw [← nI_add] at e1
  have e1 : cf_L_passes Y V G x y ((1 : Int32) + nI w) = some (1, V', G') := e1
  refine ⟨V', G', _, _, d + (1 + w), ?_, hT2, by omega⟩
  rw [ew, Option.bind_some, e1, Option.bind_some]
  dsimp only
  rw [if_pos (Or.inr rfl)]
end CLS
