-- the share, as bits
set_option maxRecDepth 1000000 in
theorem bc_le0 : ∀ N, N < 11 → ∀ M, M < 2 ^ N → (bc (nI M)).toNatClampNeg ≤ N ∧ bc (nI M) = nI (bc (nI M)).toNatClampNeg := by decide +kernel
set_option maxRecDepth 1000000 in
theorem sh_0 : ∀ N, N < 10 → ∀ k, k < N + 2 → (if (FP.fdiv (FP.i2f (nI k)) (FP.i2f (nI (N + 1)))) &&& 0x7fffffff ≤ 0x7f800000 then (cf_X3_bitsOf (FP.fdiv (FP.i2f (nI k)) (FP.i2f (nI (N + 1))))).bind (fun x8 => some x8) else none) = (if nI k = 0 then some 0 else (cf_X4_shareBits (nI k) (nI (N + 1))).bind (fun x10 => some x10)) ∧ (if nI k = 0 then some 0 else (cf_X4_shareBits (nI k) (nI (N + 1))).bind (fun x10 => some x10)) ≠ none := by decide +kernel
section CLS
variable {Y : mY} {G : mG} {x : Nat}
theorem P_share {V : mV} (hGI : GI x Y V G) : ∃ r, cf_X3_share Y V G x = some r ∧ cf_X4_share Y V G (x + 103) = some r := by
  obtain ⟨⟨⟨a0, a1, a2, a3, a4⟩, -, ⟨c1, -, -⟩, -, hM⟩, -, ⟨N, hm, hs'⟩, -⟩ := hGI
  obtain ⟨hN, ha1, hrow⟩ := id hs'.1
  have h1 : V (x + 103 + 1) 1 = nI N := ha1
  rcases Nat.eq_zero_or_pos N with rfl | hpos
  · exact ⟨-1000004, by rw [cf_X3_share, if_pos a0, a1, Option.bind_some, if_pos c1.1, hm.1, if_neg (by decide)], by rw [cf_X4_share, if_pos (MT_k hM), MT_g hM, Option.bind_some, if_pos (MT_k1 hM), if_pos (MT_i1 hM), tn_1, h1, if_pos (by rfl)]⟩
  · obtain ⟨n, rfl⟩ : ∃ n, N = n + 1 := ⟨N - 1, by omega⟩
    have gt : (0 : Int32) < nI (n + 1) := nI_lt (a := 0) (by omega) (by omega)
    have nz : ¬ nI (n + 1) = 0 := nI_ne0 (by omega) (by omega)
    have hlt := mN_lt (pSt (V (x + 104)) 2) (n + 1)
    have h1024 := mN_1024 (pSt (V (x + 104)) 2) hN
    have mw : cf_X4_withState Y V G (x + 103) 2 = some (nI (mN (pSt (V (x + 104)) 2) (n + 1))) := M_with hM hs'.1 2
    rw [cf_X3_share, if_pos a0, a1, Option.bind_some, if_pos c1.1, hm.1, if_pos gt, C_with c1 hs'.1 hm, Option.bind_some, bc_s, Option.bind_some, cf_X4_share, if_pos (MT_k hM), MT_g hM, Option.bind_some, if_pos (MT_k1 hM), if_pos (MT_i1 hM), tn_1, h1, if_neg nz, mw, Option.bind_some, M_bits h1024, Option.bind_some, if_pos (show ¬ ((1 : Int32) < 0 ∨ Y.2 (x + 103 + 1) ≤ 1) from MT_i1 hM)]
    obtain ⟨b1, b2⟩ := bc_le0 (n + 1) (by omega) _ hlt
    rw [b2]
    generalize (bc (nI (mN (pSt (V (x + 104)) 2) (n + 1)))).toNatClampNeg = k at b1
    obtain ⟨e1, e2⟩ := sh_0 n (by omega) k (by omega)
    rw [e1]
    cases e : (if nI k = 0 then some 0 else (cf_X4_shareBits (nI k) (nI (n + 1))).bind (fun x10 => some x10)) with
    | none => exact absurd e e2
    | some r => exact ⟨r, rfl, rfl⟩
end CLS
