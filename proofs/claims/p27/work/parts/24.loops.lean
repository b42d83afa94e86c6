-- loops, masks
theorem loop_gen {σ β : Type} (lp : Nat → σ → Int32 → β) (cont : σ → β) (N : Nat) (P : Nat → σ → Prop) (H0 : ∀ k s, P N s → lp (k + 1) s (nI N) = cont s) (H1 : ∀ k s i, i < N → P i s → ∃ s', lp (k + 1) s (nI i) = lp k s' (nI (i + 1)) ∧ P (i + 1) s') : ∀ (d i k : Nat) (s : σ), i + d = N → d < k → P i s → ∃ s', lp k s (nI i) = cont s' ∧ P N s' := by
  intro d
  induction d with
  | zero =>
    intro i k s hi hk hp
    obtain ⟨k', rfl⟩ : ∃ k', k = k' + 1 := ⟨k - 1, by omega⟩
    have e : i = N := by omega
    subst e
    exact ⟨s, H0 k' s hp, hp⟩
  | succ d ih =>
    intro i k s hi hk hp
    obtain ⟨k', rfl⟩ : ∃ k', k = k' + 1 := ⟨k - 1, by omega⟩
    obtain ⟨s1, e1, h1⟩ := H1 k' s i (by omega) hp
    obtain ⟨s2, e2, h2⟩ := ih (i + 1) k' s1 (by omega) (by omega) h1
    exact ⟨s2, e1.trans e2, h2⟩
theorem fuB_gt {n : Nat} (h : n < 50000) : n < fuB := by unfold fuB; omega
theorem le_nI {a b : Nat} (h : b < a) (ha : a < 2 ^ 31) : ¬ nI a ≤ nI b := nI_ge h ha
def mN (p : Nat → Bool) : Nat → Nat
  | 0 => 0
  | n + 1 => mN p n ||| (if p n then 2 ^ n else 0)
theorem mN_lt (p : Nat → Bool) : ∀ n, mN p n < 2 ^ n
  | 0 => by simp [mN]
  | n + 1 => by
    rw [mN]
    refine Nat.or_lt_two_pow (Nat.lt_trans (mN_lt p n) (Nat.pow_lt_pow_right (by omega) (by omega))) ?_
    split
    · exact Nat.pow_lt_pow_right (by omega) (by omega)
    · exact Nat.two_pow_pos _
theorem mN_1024 (p : Nat → Bool) {n : Nat} (h : n ≤ 10) : mN p n < 1024 := Nat.lt_of_lt_of_le (mN_lt p n) (Nat.pow_le_pow_right (n := 2) (by omega) h)
theorem mN_bit (p : Nat → Bool) : ∀ {n k : Nat}, k < n → (mN p n).testBit k = p k
  | 0, k, h => by omega
  | n + 1, k, h => by
    rw [mN, Nat.testBit_or]
    rcases Nat.lt_or_ge k n with q | q
    · rw [mN_bit p q]
      by_cases hp : p n
      · rw [if_pos hp, Nat.testBit_two_pow]; simp; omega
      · rw [if_neg hp]; simp
    · have e : k = n := by omega
      subst e
      rw [Nat.testBit_lt_two_pow (mN_lt p k)]
      by_cases hp : p k
      · rw [if_pos hp, Nat.testBit_two_pow_self, hp]; rfl
      · rw [if_neg hp]; simp at hp; simp [hp]
theorem mN_cong {p p' : Nat → Bool} : ∀ {n : Nat}, (∀ i, i < n → p i = p' i) → mN p n = mN p' n
  | 0, _ => rfl
  | n + 1, h => by rw [mN, mN, mN_cong (fun i hi => h i (by omega)), h n (by omega)]
theorem nI_or (a b : Nat) : nI a ||| nI b = nI (a ||| b) := by
  apply Int32.toBitVec_inj.mp
  simp only [nI, Int32.ofNat, Int32.toBitVec_or, Int32.toBitVec_ofNat', BitVec.ofNat_or]
  rfl
set_option maxRecDepth 100000 in
theorem mk_sh : ∀ i, i < 10 → ((1 : Int32) <<< (nI i &&& 31)) = nI (2 ^ i) ∧ ((0 : Int32) <<< (nI i &&& 31)) = nI 0 := by decide +kernel
set_option maxRecDepth 100000 in
theorem mk_test0 : ∀ M, M < 1024 → ∀ i, i < 10 → decide (((nI M >>> (nI i &&& 31)) &&& 1) = 1) = M.testBit i := by decide +kernel
set_option maxRecDepth 100000 in
theorem mk_and0 : ∀ M, M < 1024 → ∀ i, i < 10 → decide ((nI M &&& ((1 : Int32) <<< (nI i &&& 31))) = 0) = !M.testBit i := by decide +kernel
theorem mk_or {p : Nat → Bool} {i : Nat} (hi : i < 10) {x : Int32} (hx : x = bi (p i)) : nI (mN p i) ||| (x <<< (nI i &&& 31)) = nI (mN p (i + 1)) := by
  subst hx
  rw [mN]
  cases p i
  · rw [bi_0, (mk_sh i hi).2, nI_or]; simp
  · rw [bi_1, (mk_sh i hi).1, nI_or]; simp
theorem mk_test {p : Nat → Bool} {N i : Nat} (hN : N ≤ 10) (hi : i < N) : ((nI (mN p N) >>> (nI i &&& 31)) &&& 1) = 1 ↔ p i = true := by
  have h := mk_test0 _ (mN_1024 p hN) i (by omega)
  rw [mN_bit p hi] at h
  rw [← h]; simp
theorem mk_and {p : Nat → Bool} {N i : Nat} (hN : N ≤ 10) (hi : i < N) : (nI (mN p N) &&& ((1 : Int32) <<< (nI i &&& 31))) = 0 ↔ p i = false := by
  have h := mk_and0 _ (mN_1024 p hN) i (by omega)
  rw [mN_bit p hi] at h
  cases hp : p i
  · rw [hp] at h; simpa using h
  · rw [hp] at h; simpa using h

