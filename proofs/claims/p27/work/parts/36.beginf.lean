-- a stage is begun
def mayB (a : Nat → Int32) (t : Nat) : Bool := decide (a (6 + t) = -1) && (decide (t = 0) || !decide (a (6 + (t - 1)) = -1))
theorem nI_m1 {t : Nat} (h : t ≠ 0) : nI t - 1 = nI (t - 1) := nI_sb (b := 1) (by omega)
theorem rc_hdw (a : Nat → Int32) {k : Nat} (hk : k < 16) (v : Int32) (j : Nat) : rc (va_up a k v) j = rc a j := rc_hd a hk v j
theorem brk_step {V : mV} {h N i : Nat} {a : Nat → Int32} (hm : PM V h N a) (hs : SI N a) (hi : i < N) (e8 : rc a i 8 = 0) (e12 : rc a i 12 = 0) (hL : a (6 + (rc a i 1).toNatClampNeg) ≠ -1) : PM (up2 (up2 V (h + 4 + i) 8 1) h 5 (V h 5 + 1)) h N (so (va_up a 4 (a 4 + 1)) i (rbrk (ro a i))) ∧ SI N (so (va_up a 4 (a 4 + 1)) i (rbrk (ro a i))) := by
  obtain ⟨⟨hN, ha1, hrow⟩, -, -, -, hrs⟩ := id hs
  obtain ⟨m3, m4, m5, m6, m7, m8, mst, mc⟩ := id hm
  have hc := mc i hi
  obtain ⟨c0, c1, c2, c3, c4, c5, c6, c7, c8, c9, c10, c13, cn⟩ := id hc
  obtain ⟨f8, f12, fz⟩ := (hrow i hi).1
  obtain ⟨e9, e10⟩ := fz e8
  have n0 : V (h + 4 + i) 11 = 0 := by
    rcases cn with ⟨q, -⟩ | ⟨-, -, q⟩
    · exact q
    · rw [e10] at q; exact absurd q (by decide)
  have h2 : ∀ j, j < 16 → j ≠ 4 → j ≠ 5 → va_up a 4 (a 4 + 1) j = a j := fun j _ h4 _ => va_up_ne _ _ h4
  have h2r : ∀ j, rc (va_up a 4 (a 4 + 1)) j = rc a j := fun j => rc_hd _ (by omega) _ _
  have ht : tl (rbrk (ro a i)) (ro (va_up a 4 (a 4 + 1)) i) := by rw [ro_hd _ (by omega)]; exact tl_brk (tl_rf _)
  have hcut : cut (rbrk (ro a i)) = rbrk (rc a i) := cut_brk _
  constructor
  · refine PM_row hm hN hi h2 h2r (by rw [up2_sn _ _ _ (by omega), up2_n _ _ _ (by omega)]) (by rw [up2_sn _ _ _ (by omega), up2_n _ _ _ (by omega)]) (by rw [up2_ss, va_up_s, m5]) (by rw [up2_sn _ _ _ (by omega), up2_n _ _ _ (by omega), va_up_ne _ _ (by omega)]; exact m6) (by rw [up2_sn _ _ _ (by omega), up2_n _ _ _ (by omega)]) (by rw [up2_sn _ _ _ (by omega), up2_n _ _ _ (by omega)]) (fun b hb1 hb2 => by rw [up2_n _ _ _ hb2, up2_n _ _ _ hb1]) ?_ ht
    rw [hcut, up2_n _ _ _ (show h + 4 + i ≠ h by omega), up2_s]
    simp [CM, va_up, rbrk, c0, c1, c2, c3, c4, c5, c7, c9, c10, c13, e9, n0]; exact c6
  · refine SI_row hs hi h2 h2r ht ?_ ?_ ?_ ?_ ?_
    · rw [hcut]; simp [RF, va_up, rbrk, e12]
    · rw [hcut]; have := (hrs i hi).1; simpa [RS, va_up, rbrk] using this
    · rw [hcut]; have := (hrow i hi).2.1; simpa [va_up, rbrk] using this
    · rw [hcut]; intro _ _; simpa [va_up, rbrk] using hL
    · intro d' _; exact ⟨0, by omega, by rw [hcut]; simp [rbrk, va_up]; rfl⟩
section CLS
variable {Y : mY} {G H : mG} {h m : Nat}
theorem C_canB (hP : PT Y G h) (V : mV) {a : Nat → Int32} (hst : stP V h a) {t : Nat} (ht : t < 5) : cf_X2_canBegin Y V G h (nI t) = some (bi (mayB a t)) := by
  rw [cf_X2_canBegin, if_pos hP.1, (C_bst hP V hst ⟨t, ht, rfl⟩).1, Option.bind_some, nI_clamp (by omega)]
  unfold mayB
  by_cases q : a (6 + t) = -1
  · by_cases t0 : t = 0
    · subst t0; simp [q, bi, show nI 0 = 0 from rfl]
    · have n0 : ¬ nI t = 0 := nI_ne0 (by omega) (by omega)
      rw [nI_m1 t0, (C_bst hP V hst ⟨t - 1, by omega, rfl⟩).1, Option.bind_some, nI_clamp (by omega)]
      by_cases q2 : a (6 + (t - 1)) = -1 <;> simp [q, q2, n0, t0, bi]
  · simp [q, bi]
theorem PM_beg {V : mV} {N t : Nat} {a : Nat → Int32} (hm : PM V h N a) (hN : N ≤ 10) (ht : t < 5) : PM (up2 V (h + 2) t (a 0)) h N (va_up a (6 + t) (a 0)) := by
  obtain ⟨m3, m4, m5, m6, m7, m8, mst, mc⟩ := id hm
  refine PM_hd hm hN (rc_hd a (by omega) _) (fun b hb1 hb2 => up2_n _ _ _ (by omega)) (by rw [up2_n _ _ _ (by omega)]) (by rw [up2_n _ _ _ (by omega), un_ _ _ (by omega)]; exact m4) (by rw [up2_n _ _ _ (by omega), un_ _ _ (by omega)]; exact m5) (by rw [up2_n _ _ _ (by omega), un_ _ _ (by omega)]; exact m6) (by rw [up2_n _ _ _ (by omega), un_ _ _ (by omega)]; exact m7) (by rw [up2_n _ _ _ (by omega), un_ _ _ (by omega)]; exact m8) (fun k hk => ?_)
  rw [up2_n _ _ _ (show h + 3 ≠ h + 2 by omega), un_ _ _ (show 11 + k ≠ 6 + t by omega)]
  refine ⟨?_, (mst k hk).2⟩
  rw [up2_s]
  by_cases e : k = t
  · subst e; rw [va_up_s, va_up_s]
  · rw [un_ _ _ e, un_ _ _ (by omega)]; exact (mst k hk).1
theorem SI_beg {N t : Nat} {a : Nat → Int32} (hs : SI N a) (ht : t < 5) : SI N (va_up a (6 + t) (a 0)) := by
  obtain ⟨-, ⟨d, hd⟩, ⟨s0, hs0, e0⟩, ⟨s1, hs1, e1⟩, -⟩ := id hs
  refine SI_hd hs (rc_hd a (by omega) _) (un_ _ _ (by omega)) ⟨s0, hs0, by rw [un_ _ _ (by omega)]; exact e0⟩ ⟨s1, hs1, by rw [un_ _ _ (by omega)]; exact e1⟩ (fun d hd => ⟨d, hd.1, by rw [un_ _ _ (by omega)]; exact hd.2.1, fun k hk => ?_, fun i hi => by rw [rc_hd a (by omega)]; exact hd.2.2.2 i hi⟩) (fun k hk z => ?_)
  · by_cases e : k = t
    · subst e; rw [va_up_s]; exact Or.inr ⟨d, by omega, hd.2.1⟩
    · rw [un_ _ _ (show 6 + k ≠ 6 + t by omega), un_ _ _ (show 11 + k ≠ 6 + t by omega)]; exact hd.2.2.1 k hk
  · by_cases e : k = t
    · subst e; rw [va_up_s, hd.2.1]; exact fun q => absurd (show (0 : Int32) ≤ nI d from nI_pos' (by have := hd.1; omega)) (by rw [q]; decide)
    · rw [un_ _ _ (by omega)]; exact z
end CLS

