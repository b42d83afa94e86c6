-- a change of the head: settings, an end
theorem SI_hd {N : Nat} {a a' : Nat → Int32} (hs : SI N a) (hr : ∀ j, rc a' j = rc a j) (h1 : a' 1 = a 1) (h2 : ∃ s, s ≤ 99 ∧ a' 2 = nI s) (h3 : ∃ s, s ≤ 365 ∧ a' 3 = nI s) (hd : ∀ d, DY N a d → ∃ d', DY N a' d') (hL : ∀ k, k < 5 → a (6 + k) ≠ -1 → a' (6 + k) ≠ -1) : SI N a' := by
  obtain ⟨⟨hN, ha1, hrow⟩, ⟨d, hdd⟩, -, -, hrs⟩ := hs
  refine ⟨⟨hN, h1.trans ha1, fun i hi => by rw [hr]; exact hrow i hi⟩, hd d hdd, h2, h3, fun i hi => ?_⟩
  rw [hr]
  refine ⟨(hrs i hi).1, fun q1 q2 => ?_⟩
  have := st_lt (hrow i hi).2.1
  exact hL _ this ((hrs i hi).2 q1 q2)
theorem PM_hd {V V' : mV} {h N : Nat} {a a' : Nat → Int32} (hm : PM V h N a) (hN : N ≤ 10) (hr : ∀ j, rc a' j = rc a j) (ho : ∀ b, h + 4 ≤ b → b < h + 14 → V' b = V b) (h3 : V' h 3 = V h 3) (h4 : V' h 4 = a' 0) (h5 : V' h 5 = a' 4) (h6 : V' h 6 = a' 5) (h7 : V' h 7 = a' 2) (h8 : V' h 8 = a' 3) (hst : stP V' h a') : PM V' h N a' := by
  obtain ⟨m3, -, -, -, -, -, -, mc⟩ := hm
  refine ⟨h3.trans m3, h4, h5, h6, h7, h8, hst, fun i hi => ?_⟩
  rw [hr, ho _ (by omega) (by omega)]
  exact mc i hi
theorem nI_sb {a b : Nat} (h : b ≤ a) : nI a - nI b = nI (a - b) := by
  have e : nI a = nI (a - b) + nI b := by rw [nI_add]; congr 1; omega
  rw [e, Int32.add_sub_cancel]
section CLS
variable {Y : mY} {G H : mG} {h m : Nat}
theorem P_b (hP : PT Y G h) {t : Nat} (ht : t < 5) : ¬ (nI t < 0 ∨ Y.2 (h + 2) ≤ (nI t).toNatClampNeg) ∧ ¬ (nI t < 0 ∨ Y.2 (h + 3) ≤ (nI t).toNatClampNeg) := by
  obtain ⟨-, -, -, -, -, -, -, l2, -, l3, -⟩ := hP
  rw [l2, l3]
  exact ⟨nx_in ht (by decide), nx_in ht (by decide)⟩
theorem hx_ix {c t : Nat} (hc : c < 100) (ht : t < 5) {cc : Int32} (e : cc = nI c) : cc + nI t = nI (c + t) := by
  subst e
  exact nI_add c t
end CLS

