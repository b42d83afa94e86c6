-- what is recorded, by both
def mix (n : Nat) (a b : Nat → Int32) : Nat → Int32 := fun k => if k < n then a k else b k
theorem mix_step (n : Nat) (a b : Nat → Int32) : va_up (mix n a b) n (a n) = mix (n + 1) a b := by
  funext q
  by_cases e : q = n
  · subst e; rw [va_up_s]; simp [mix]
  · rw [un_ _ _ e]; simp only [mix]
    by_cases l : q < n
    · rw [if_pos l, if_pos (by omega)]
    · rw [if_neg l, if_neg (by omega)]
theorem mix_0 (a b : Nat → Int32) : mix 0 a b = b := by funext q; simp [mix]
theorem mix_lt (n : Nat) (a b : Nat → Int32) {k : Nat} (h : k < n) : mix n a b k = a k := by simp [mix, h]
/-- of o and behind it, n entries from another array -/
def seg (o n : Nat) (a b : Nat → Int32) : Nat → Int32 := fun k => if o ≤ k ∧ k < o + n then a (k - o) else b k
theorem seg_step (o n : Nat) (a b : Nat → Int32) : va_up (seg o n a b) (o + n) (a n) = seg o (n + 1) a b := by
  funext q
  by_cases e : q = o + n
  · subst e; rw [va_up_s]; simp only [seg]; rw [if_pos (by omega)]; congr 1; omega
  · rw [un_ _ _ e]; simp only [seg]
    by_cases l : o ≤ q ∧ q < o + n
    · rw [if_pos l, if_pos (by omega)]
    · rw [if_neg l, if_neg (by omega)]
theorem seg_0 (o : Nat) (a b : Nat → Int32) : seg o 0 a b = b := by funext q; simp only [seg]; rw [if_neg (by omega)]
theorem rc_eq {a a' : Nat → Int32} (h : ∀ k, k < 146 → a' k = a k) {i : Nat} (hi : i < 10) : rc a' i = rc a i := by
  funext k
  simp only [rc, cut, ro]
  split
  · exact h _ (by omega)
  · rfl
theorem PM_eq {V : mV} {h N : Nat} {a a' : Nat → Int32} (hN : N ≤ 10) (e : ∀ k, k < 146 → a' k = a k) (hm : PM V h N a) : PM V h N a' := by
  obtain ⟨m3, m4, m5, m6, m7, m8, mst, mc⟩ := hm
  refine ⟨m3, by rw [e 0 (by omega)]; exact m4, by rw [e 4 (by omega)]; exact m5, by rw [e 5 (by omega)]; exact m6, by rw [e 2 (by omega)]; exact m7, by rw [e 3 (by omega)]; exact m8, fun k hk => by rw [e _ (by omega), e _ (by omega)]; exact mst k hk, fun i hi => by rw [rc_eq e (by omega)]; exact mc i hi⟩
theorem SI_eq {N : Nat} {a a' : Nat → Int32} (e : ∀ k, k < 146 → a' k = a k) (hs : SI N a) : SI N a' := by
  obtain ⟨⟨hN, ha1, hrow⟩, ⟨d, d1, d2, d3, d4⟩, ⟨s0, hs0, e0⟩, ⟨s1, hs1, e1⟩, hrs⟩ := hs
  have hr : ∀ i, i < N → rc a' i = rc a i := fun i hi => rc_eq e (by omega)
  refine ⟨⟨hN, by rw [e 1 (by omega)]; exact ha1, fun i hi => by rw [hr i hi]; exact hrow i hi⟩, ⟨d, d1, by rw [e 0 (by omega)]; exact d2, fun k hk => by rw [e _ (by omega), e _ (by omega)]; exact d3 k hk, fun i hi => by rw [hr i hi]; exact d4 i hi⟩, ⟨s0, hs0, by rw [e 2 (by omega)]; exact e0⟩, ⟨s1, hs1, by rw [e 3 (by omega)]; exact e1⟩, fun i hi => ?_⟩
  rw [hr i hi]
  refine ⟨(hrs i hi).1, fun q1 q2 => ?_⟩
  have := st_lt (hrow i hi).2.1
  rw [e _ (by omega)]
  exact (hrs i hi).2 q1 q2
theorem PM_sO {V V' : mV} {h g N : Nat} {a : Nat → Int32} (hN : N ≤ 10) (hd : g + 14 ≤ h ∨ h + 14 ≤ g) (ho : sO V' V g) (hm : PM V h N a) : PM V' h N a := by
  obtain ⟨m3, m4, m5, m6, m7, m8, mst, mc⟩ := hm
  have q : ∀ j, j < 14 → V' (h + j) = V (h + j) := fun j hj => ho _ (by omega)
  have q0 : V' h = V h := q 0 (by omega)
  refine ⟨by rw [q0]; exact m3, by rw [q0]; exact m4, by rw [q0]; exact m5, by rw [q0]; exact m6, by rw [q0]; exact m7, by rw [q0]; exact m8, fun k hk => by rw [q 2 (by omega), q 3 (by omega)]; exact mst k hk, fun i hi => by have e := q (4 + i) (by omega); rw [show h + (4 + i) = h + 4 + i by omega] at e; rw [e]; exact mc i hi⟩
theorem PM_bl {V V' : mV} {h N : Nat} {a : Nat → Int32} (hN : N ≤ 10) (q : ∀ j, j < 14 → V' (h + j) = V (h + j)) (hm : PM V h N a) : PM V' h N a := by
  obtain ⟨m3, m4, m5, m6, m7, m8, mst, mc⟩ := hm
  have q0 : V' h = V h := q 0 (by omega)
  refine ⟨by rw [q0]; exact m3, by rw [q0]; exact m4, by rw [q0]; exact m5, by rw [q0]; exact m6, by rw [q0]; exact m7, by rw [q0]; exact m8, fun k hk => by rw [q 2 (by omega), q 3 (by omega)]; exact mst k hk, fun i hi => by have e := q (4 + i) (by omega); rw [show h + (4 + i) = h + 4 + i by omega] at e; rw [e]; exact mc i hi⟩
section MOD
variable {Y : mY} {G : mG} {m : Nat}
theorem copy_lp {s d : Nat} (k1 : Y.1 s = 6) (l1 : Y.2 s = 146) (k2 : Y.1 d = 6) (l2 : Y.2 d = 146) (hne : s ≠ d) (b : Nat → Int32) : ∀ (n k fuel : Nat) (V : mV), k + n = 146 → n < fuel → V d = mix k (V s) b → lp_X4_copy_2 Y G fuel V s d (nI k) = some (va_up V d (mix 146 (V s) b))
  | 0, k, fuel, V, hk, hf, hV => by
      obtain ⟨f, rfl⟩ : ∃ f, fuel = f + 1 := ⟨fuel - 1, by omega⟩
      obtain rfl : k = 146 := by omega
      rw [lp_X4_copy_2, if_pos (show (146 : Int32) ≤ nI 146 by decide), ← hV, us_]
  | n + 1, k, fuel, V, hk, hf, hV => by
      obtain ⟨f, rfl⟩ : ∃ f, fuel = f + 1 := ⟨fuel - 1, by omega⟩
      have lt : ¬ (146 : Int32) ≤ nI k := le_nI (a := 146) (b := k) (by omega) (by decide)
      have i1 : ¬ (nI k < 0 ∨ Y.2 s ≤ (nI k).toNatClampNeg) := by rw [l1]; exact nx_in (by omega) (by decide)
      have i2 : ¬ (nI k < 0 ∨ Y.2 d ≤ (nI k).toNatClampNeg) := by rw [l2]; exact nx_in (by omega) (by decide)
      rw [lp_X4_copy_2, if_neg lt, if_pos k1, if_pos i1, if_pos k2, if_pos i2, nI_clamp (show k < _ by omega), ← nI_succ, copy_lp k1 l1 k2 l2 hne b n (k + 1) f _ (by omega) (by omega) (by rw [up2_s, up2_n _ _ _ hne, hV, mix_step]), up2_n _ _ _ hne, up2, uu_]
theorem M_copy {s d : Nat} (k1 : Y.1 s = 6) (l1 : Y.2 s = 146) (k2 : Y.1 d = 6) (l2 : Y.2 d = 146) (hne : s ≠ d) (V : mV) : cf_X4_copy Y V G s d = some (va_up V d (mix 146 (V s) (V d))) :=
  copy_lp k1 l1 k2 l2 hne (V d) 146 0 fuB V (by omega) (fuB_gt (by omega)) (by rw [mix_0])
theorem MT_2 (hM : MT Y G m) : G m 1 = some (m + 2) ∧ Y.1 (m + 2) = 6 ∧ Y.2 (m + 2) = 146 := ⟨hM.2.2.1, hM.2.2.2.2.2.2.2.2.1, hM.2.2.2.2.2.2.2.2.2.2.2.2.2.2.1⟩
theorem MT_3 (hM : MT Y G m) : G m 2 = some (m + 3) ∧ Y.1 (m + 3) = 6 ∧ Y.2 (m + 3) = 146 := ⟨hM.2.2.2.1, hM.2.2.2.2.2.2.2.2.2.1, hM.2.2.2.2.2.2.2.2.2.2.2.2.2.2.2.1⟩
theorem MT_4 (hM : MT Y G m) : G m 3 = some (m + 4) ∧ Y.1 (m + 4) = 6 ∧ Y.2 (m + 4) = 584 := ⟨hM.2.2.2.2.1, hM.2.2.2.2.2.2.2.2.2.2.1, hM.2.2.2.2.2.2.2.2.2.2.2.2.2.2.2.2.1⟩
theorem ix_146 {t k : Nat} : (146 : Int32) * nI t + nI k = nI (146 * t + k) := by
  rw [show (146 : Int32) = nI 146 from rfl, pk_mul, nI_add]
theorem rec51_lp (hM : MT Y G m) {t : Nat} (ht : t < 4) (b : Nat → Int32) : ∀ (n k fuel : Nat) (V : mV), k + n = 146 → n < fuel → V m 4 = nI t → V (m + 4) = seg (146 * t) k (V (m + 2)) b → lp_X4_record_51 Y G fuel V m (nI k) = some (up2 (va_up V (m + 4) (seg (146 * t) 146 (V (m + 2)) b)) m 4 (nI (t + 1)))
  | 0, k, fuel, V, hk, hf, h4, hV => by
      obtain ⟨f, rfl⟩ : ∃ f, fuel = f + 1 := ⟨fuel - 1, by omega⟩
      obtain rfl : k = 146 := by omega
      rw [lp_X4_record_51, if_pos (show (146 : Int32) ≤ nI 146 by decide), if_pos (MT_k hM), ← hV, us_, h4, nI_succ]
  | n + 1, k, fuel, V, hk, hf, h4, hV => by
      obtain ⟨f, rfl⟩ : ∃ f, fuel = f + 1 := ⟨fuel - 1, by omega⟩
      have lt : ¬ (146 : Int32) ≤ nI k := le_nI (a := 146) (b := k) (by omega) (by decide)
      obtain ⟨a1, a2, a3⟩ := MT_2 hM
      obtain ⟨b1, b2, b3⟩ := MT_4 hM
      have i1 : ¬ (nI k < 0 ∨ Y.2 (m + 2) ≤ (nI k).toNatClampNeg) := by rw [a3]; exact nx_in (by omega) (by decide)
      have i2 : ¬ (nI (146 * t + k) < 0 ∨ Y.2 (m + 4) ≤ (nI (146 * t + k)).toNatClampNeg) := by rw [b3]; exact nx_in (by omega) (by decide)
      rw [lp_X4_record_51, if_neg lt, if_pos (MT_k hM), b1, Option.bind_some, a1, Option.bind_some, if_pos a2, if_pos i1, if_pos b2, h4, ix_146, if_pos i2, nI_clamp (show k < _ by omega), nI_clamp (show 146 * t + k < _ by omega), ← nI_succ, rec51_lp hM ht b n (k + 1) f _ (by omega) (by omega) (by rw [up2_n _ _ _ (by omega)]; exact h4) (by rw [up2_s, up2_n _ _ _ (show m + 2 ≠ m + 4 by omega), hV, seg_step]), up2_n _ _ _ (show m + 2 ≠ m + 4 by omega)]
      rw [show up2 V (m + 4) (146 * t + k) (V (m + 2) k) = va_up V (m + 4) (va_up (V (m + 4)) (146 * t + k) (V (m + 2) k)) from rfl, uu_]
theorem rec10_lp (hM : MT Y G m) (b : Nat → Int32) : ∀ (n k fuel : Nat) (V : mV), k + n = 438 → n < fuel → V m 4 = nI 4 → V (m + 4) = mix k (fun j => b (j + 146)) b → lp_X4_record_10 Y G fuel V m (nI k) = some (up2 (va_up V (m + 4) (seg (146 * 3) 146 (V (m + 2)) (mix 438 (fun j => b (j + 146)) b))) m 4 (nI 4))
  | 0, k, fuel, V, hk, hf, h4, hV => by
      obtain ⟨f, rfl⟩ : ∃ f, fuel = f + 1 := ⟨fuel - 1, by omega⟩
      obtain rfl : k = 438 := by omega
      rw [lp_X4_record_10, if_pos (show (438 : Int32) ≤ nI 438 by decide), if_pos (MT_k hM), h4, show nI 4 - 1 = nI 3 from rfl]
      have q := rec51_lp hM (show 3 < 4 by omega) (mix 438 (fun j => b (j + 146)) b) 146 0 fuB (up2 V m 4 (nI 3)) (by omega) (fuB_gt (by omega)) (up2_ss _ _ _ _) (by rw [up2_n _ _ _ (show m + 4 ≠ m by omega), seg_0]; exact hV)
      rw [show (0 : Int32) = nI 0 from rfl, q, up2_n _ _ _ (show m + 2 ≠ m by omega)]
      congr 1
      funext c
      by_cases hc : c = m
      · subst hc
        rw [up2_s, up2_s, va_up_ne _ _ (by omega), va_up_ne _ _ (by omega), up2_s, uu_]
      · rw [up2_n _ _ _ hc, up2_n _ _ _ hc]
        by_cases hc4 : c = m + 4
        · subst hc4; rw [va_up_s, va_up_s]
        · rw [va_up_ne _ _ hc4, va_up_ne _ _ hc4, up2_n _ _ _ hc]
  | n + 1, k, fuel, V, hk, hf, h4, hV => by
      obtain ⟨f, rfl⟩ : ∃ f, fuel = f + 1 := ⟨fuel - 1, by omega⟩
      have lt : ¬ (438 : Int32) ≤ nI k := le_nI (a := 438) (b := k) (by omega) (by decide)
      obtain ⟨b1, b2, b3⟩ := MT_4 hM
      have e1 : nI k + 146 = nI (k + 146) := nI_add k 146
      have i1 : ¬ (nI k < 0 ∨ Y.2 (m + 4) ≤ (nI k).toNatClampNeg) := by rw [b3]; exact nx_in (by omega) (by decide)
      have i2 : ¬ (nI (k + 146) < 0 ∨ Y.2 (m + 4) ≤ (nI (k + 146)).toNatClampNeg) := by rw [b3]; exact nx_in (by omega) (by decide)
      have rd : V (m + 4) (k + 146) = b (k + 146) := by rw [hV]; simp only [mix]; rw [if_neg (by omega)]
      rw [lp_X4_record_10, if_neg lt, if_pos (MT_k hM), b1, Option.bind_some, if_pos b2, e1, if_pos i2, if_pos i1, nI_clamp (show k < _ by omega), nI_clamp (show k + 146 < _ by omega), rd, ← nI_succ, rec10_lp hM b n (k + 1) f _ (by omega) (by omega) (by rw [up2_n _ _ _ (by omega)]; exact h4) (by rw [up2_s, hV]; exact mix_step k (fun j => b (j + 146)) b), up2_n _ _ _ (show m + 2 ≠ m + 4 by omega)]
      rw [show up2 V (m + 4) k (b (k + 146)) = va_up V (m + 4) (va_up (V (m + 4)) k (b (k + 146))) from rfl, uu_]
/-- a state of the reference's history -/
def hs (V : mV) (m j : Nat) : Nat → Int32 := fun k => V (m + 4) (146 * j + k)
theorem M_record (hM : MT Y G m) {t : Nat} (ht : t ≤ 4) {V : mV} (h4 : V m 4 = nI t) : ∃ V', cf_X4_record Y V G m = some V' ∧ V' m 4 = nI (if t < 4 then t + 1 else 4) ∧ (∀ k, k ≠ 4 → V' m k = V m k) ∧ (∀ b, b ≠ m → b ≠ m + 4 → V' b = V b) ∧ (t < 4 → (∀ k, k < 146 → hs V' m t k = V (m + 2) k) ∧ ∀ j, j < t → ∀ k, k < 146 → hs V' m j k = hs V m j k) ∧ (t = 4 → (∀ k, k < 146 → hs V' m 3 k = V (m + 2) k) ∧ ∀ j, j < 3 → ∀ k, k < 146 → hs V' m j k = hs V m (j + 1) k) := by
  by_cases t4 : t < 4
  · have ne : ¬ V m 4 = 4 := by rw [h4]; exact fun q => by have := (nI_eq (a := t) (b := 4) (by omega) (by omega)).mp q; omega
    have q := rec51_lp hM t4 (V (m + 4)) 146 0 fuB V (by omega) (fuB_gt (by omega)) h4 (by rw [seg_0])
    refine ⟨_, by rw [cf_X4_record, if_pos (MT_k hM), if_neg ne]; exact q, by rw [up2_ss, if_pos t4], fun k hk => by rw [up2_sn _ _ _ hk, va_up_ne _ _ (by omega)], fun b h1 h2 => by rw [up2_n _ _ _ h1, va_up_ne _ _ h2], fun _ => ⟨fun k hk => ?_, fun j hj k hk => ?_⟩, fun e => by omega⟩
    · simp only [hs]; rw [up2_n _ _ _ (by omega), va_up_s]; simp only [seg]; rw [if_pos (by omega)]; congr 1; omega
    · simp only [hs]; rw [up2_n _ _ _ (by omega), va_up_s]; simp only [seg]; rw [if_neg (by omega)]
  · obtain rfl : t = 4 := by omega
    have q := rec10_lp hM (V (m + 4)) 438 0 fuB V (by omega) (fuB_gt (by omega)) h4 (by rw [mix_0])
    refine ⟨_, by rw [cf_X4_record, if_pos (MT_k hM), if_pos (by rw [h4]; rfl)]; exact q, by rw [up2_ss, if_neg (by omega)], fun k hk => by rw [up2_sn _ _ _ hk, va_up_ne _ _ (by omega)], fun b h1 h2 => by rw [up2_n _ _ _ h1, va_up_ne _ _ h2], fun e => absurd e (by omega), fun _ => ⟨fun k hk => ?_, fun j hj k hk => ?_⟩⟩
    · simp only [hs]; rw [up2_n _ _ _ (by omega), va_up_s]; simp only [seg]; rw [if_pos (by omega), Nat.add_sub_cancel_left]
    · simp only [hs]; rw [up2_n _ _ _ (by omega), va_up_s]; simp only [seg, mix]; rw [if_neg (by omega), if_pos (by omega)]; congr 1; omega
end MOD
