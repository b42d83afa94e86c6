-- both objects, and what holds between them
def XT (x : Nat) (Y : mY) (G : mG) : Prop := (Y.1 x = 3 ∧ G x 0 = some (x + 1) ∧ G x 1 = some (x + 15) ∧ G x 2 = some (x + 29) ∧ G x 3 = some (x + 30)) ∧ (Y.1 (x + 29) = 8 ∧ Y.2 (x + 29) = 4) ∧ (PT Y G (x + 1) ∧ PT Y G (x + 15) ∧ ∀ k, k < 5 → PT Y G (x + 33 + 14 * k)) ∧ (Y.1 (x + 30) = 1 ∧ G (x + 30) 0 = some (x + 31) ∧ G (x + 30) 1 = some (x + 32) ∧ Y.1 (x + 31) = 5 ∧ Y.2 (x + 31) = 80 ∧ Y.1 (x + 32) = 6 ∧ Y.2 (x + 32) = 4) ∧ MT Y G (x + 103)
def GR (x : Nat) (G : mG) (q : Nat → Nat) : Prop := G x 4 = some (x + 33 + 14 * q 4) ∧ ∀ j, j < 4 → G (x + 29) j = some (x + 33 + 14 * q j)
def QP (q : Nat → Nat) : Prop := (∀ j, j < 5 → q j < 5) ∧ ∀ i j, i < 5 → j < 5 → q i = q j → i = j
def HX (x : Nat) (V : mV) (q : Nat → Nat) (t : Nat) : Prop := ∀ j, j < t → ∃ N, PM V (x + 33 + 14 * q j) N (hs V (x + 103) j) ∧ SI N (hs V (x + 103) j)
def TX (x : Nat) (V : mV) : Prop := ∃ L, L ≤ 80 ∧ V (x + 30) 2 = nI L ∧ V (x + 103) 6 = nI L ∧ ∀ k, k < L → ∃ c, 32 ≤ c ∧ c ≤ 126 ∧ V (x + 31) k = nI c ∧ V (x + 108) k = nI c
def GI (x : Nat) (Y : mY) (V : mV) (G : mG) : Prop := XT x Y G ∧ (∃ q, QP q ∧ GR x G q ∧ ∃ t, t ≤ 4 ∧ V x 5 = nI t ∧ V (x + 103) 4 = nI t ∧ HX x V q t) ∧ (∃ N, PM V (x + 1) N (V (x + 104)) ∧ SI N (V (x + 104))) ∧ TX x V
theorem PT_G {Y : mY} {G G' : mG} {x h : Nat} (hb : ∀ b, b ≠ x → b ≠ x + 29 → G' b = G b) (h0 : h ≠ x) (h1 : h ≠ x + 29) (h2 : h + 1 ≠ x) (h3 : h + 1 ≠ x + 29) (hP : PT Y G h) : PT Y G' h := by
  unfold PT at *
  rw [hb h h0 h1, hb (h + 1) h2 h3]
  exact hP
theorem XT_G {x : Nat} {Y : mY} {G G' : mG} (hb : ∀ b, b ≠ x → b ≠ x + 29 → G' b = G b) (hx : ∀ k, k ≠ 4 → G' x k = G x k) (h : XT x Y G) : XT x Y G' := by
  obtain ⟨⟨a0, a1, a2, a3, a4⟩, b1, ⟨c1, c2, c3⟩, d1, e1⟩ := h
  refine ⟨⟨a0, by rw [hx 0 (by omega)]; exact a1, by rw [hx 1 (by omega)]; exact a2, by rw [hx 2 (by omega)]; exact a3, by rw [hx 3 (by omega)]; exact a4⟩, b1, ⟨PT_G hb (by omega) (by omega) (by omega) (by omega) c1, PT_G hb (by omega) (by omega) (by omega) (by omega) c2, fun k hk => PT_G hb (by omega) (by omega) (by omega) (by omega) (c3 k hk)⟩, by rw [hb (x + 30) (by omega) (by omega)]; exact d1, ?_⟩
  unfold MT at *
  rw [hb (x + 103) (by omega) (by omega)]
  exact e1
theorem TX_eq {x : Nat} {V V' : mV} (h1 : V' (x + 30) 2 = V (x + 30) 2) (h2 : V' (x + 103) 6 = V (x + 103) 6) (h3 : V' (x + 31) = V (x + 31)) (h4 : V' (x + 108) = V (x + 108)) (h : TX x V) : TX x V' := by
  obtain ⟨L, a, b, c, d⟩ := h
  exact ⟨L, a, by rw [h1]; exact b, by rw [h2]; exact c, by rw [h3, h4]; exact d⟩
def qsw (q : Nat → Nat) (t : Nat) : Nat → Nat := fun j => if j = t then q 4 else if j = 4 then q t else q j
def qro (q : Nat → Nat) : Nat → Nat := fun j => if j < 4 then q (j + 1) else q 0
theorem QP_sw {q : Nat → Nat} (h : QP q) {t : Nat} (ht : t < 4) : QP (qsw q t) := by
  obtain ⟨h1, h2⟩ := h
  refine ⟨fun j hj => ?_, fun i j hi hj e => ?_⟩
  · unfold qsw; split
    · exact h1 _ (by omega)
    · split
      · exact h1 _ (by omega)
      · exact h1 _ hj
  · unfold qsw at e
    have z : ∀ a b, a < 5 → b < 5 → q a = q b → a = b := h2
    by_cases i1 : i = t <;> by_cases j1 : j = t
    · omega
    · rw [if_pos i1, if_neg j1] at e
      by_cases j2 : j = 4
      · rw [if_pos j2] at e; have := z _ _ (by omega) (by omega) e; omega
      · rw [if_neg j2] at e; have := z _ _ (by omega) (by omega) e; omega
    · rw [if_neg i1, if_pos j1] at e
      by_cases i2 : i = 4
      · rw [if_pos i2] at e; have := z _ _ (by omega) (by omega) e; omega
      · rw [if_neg i2] at e; have := z _ _ (by omega) (by omega) e; omega
    · rw [if_neg i1, if_neg j1] at e
      by_cases i2 : i = 4 <;> by_cases j2 : j = 4
      · omega
      · rw [if_pos i2, if_neg j2] at e; have := z _ _ (by omega) (by omega) e; omega
      · rw [if_neg i2, if_pos j2] at e; have := z _ _ (by omega) (by omega) e; omega
      · rw [if_neg i2, if_neg j2] at e; exact z _ _ (by omega) (by omega) e
theorem QP_ro {q : Nat → Nat} (h : QP q) : QP (qro q) := by
  obtain ⟨h1, h2⟩ := h
  refine ⟨fun j hj => ?_, fun i j hi hj e => ?_⟩
  · unfold qro; split
    · exact h1 _ (by omega)
    · exact h1 _ (by omega)
  · unfold qro at e
    by_cases i1 : i < 4 <;> by_cases j1 : j < 4
    · rw [if_pos i1, if_pos j1] at e; have := h2 _ _ (by omega) (by omega) e; omega
    · rw [if_pos i1, if_neg j1] at e; have := h2 _ _ (by omega) (by omega) e; omega
    · rw [if_neg i1, if_pos j1] at e; have := h2 _ _ (by omega) (by omega) e; omega
    · omega
section CLS
variable {Y : mY} {G : mG} {x : Nat}
theorem C_rot (hX : XT x Y G) {q : Nat → Nat} (hq : QP q) (hG : GR x G q) (V : mV) : cf_X3_rotateHistory Y V G x = some (up2 (up2 (up2 (up2 G (x + 29) 0 (some (x + 33 + 14 * q 1))) (x + 29) 1 (some (x + 33 + 14 * q 2))) (x + 29) 2 (some (x + 33 + 14 * q 3))) (x + 29) 3 (some (x + 33 + 14 * q 0))) := by
  obtain ⟨⟨a0, a1, a2, a3, a4⟩, ⟨b1, b2⟩, ⟨c1, c2, c3⟩, d1, e1⟩ := hX
  obtain ⟨g4, gj⟩ := hG
  have kk : ∀ j, j < 5 → (Y.1 (x + 29) = 7 ∧ Y.1 (x + 33 + 14 * q j) = 0) ∨ (Y.1 (x + 29) = 8 ∧ Y.1 (x + 33 + 14 * q j) = 2) := fun j hj => Or.inr ⟨b1, (c3 _ (hq.1 j hj)).1⟩
  have ki : Y.1 (x + 29) = 7 ∨ Y.1 (x + 29) = 8 := Or.inr b1
  have ix : ∀ j, j < 4 → ¬ (nI j < 0 ∨ Y.2 (x + 29) ≤ (nI j).toNatClampNeg) := fun j hj => by rw [b2]; exact nx_in hj (by decide)
  have i0 : ¬ ((0 : Int32) < 0 ∨ Y.2 (x + 29) ≤ (0 : Int32).toNatClampNeg) := ix 0 (by omega)
  have i1 : ¬ ((1 : Int32) < 0 ∨ Y.2 (x + 29) ≤ (1 : Int32).toNatClampNeg) := ix 1 (by omega)
  have i2 : ¬ ((2 : Int32) < 0 ∨ Y.2 (x + 29) ≤ (2 : Int32).toNatClampNeg) := ix 2 (by omega)
  have i3 : ¬ ((3 : Int32) < 0 ∨ Y.2 (x + 29) ≤ (3 : Int32).toNatClampNeg) := ix 3 (by omega)
  have hxr : x ≠ x + 29 := by omega
  obtain ⟨f, hf⟩ : ∃ f, fuB = f + 4 := ⟨fuB - 4, by have := fuB_gt (n := 4) (by omega); omega⟩
  rw [cf_X3_rotateHistory, if_pos a0, a3, Option.bind_some, if_pos ki, if_pos i0, show (0 : Int32).toNatClampNeg = 0 from rfl, gj 0 (by omega), Option.bind_some, hf]
  rw [lp_X3_rotateHistory_9, if_neg (by decide), if_pos a0, a3, Option.bind_some, if_pos ki, if_pos i1, show (1 : Int32).toNatClampNeg = 1 from rfl, gj 1 (by omega), Option.bind_some, if_pos (kk 1 (by omega)), show (1 : Int32) - 1 = 0 from rfl, if_pos i0, show (1 : Int32) + 1 = 2 from rfl, show (0 : Int32).toNatClampNeg = 0 from rfl]
  rw [lp_X3_rotateHistory_9, if_neg (by decide), if_pos a0, up2_n _ _ _ hxr, a3, Option.bind_some, if_pos ki, if_pos i2, show (2 : Int32).toNatClampNeg = 2 from rfl, up2_sn _ _ _ (show 2 ≠ 0 by omega), gj 2 (by omega), Option.bind_some, if_pos (kk 2 (by omega)), show (2 : Int32) - 1 = 1 from rfl, if_pos i1, show (2 : Int32) + 1 = 3 from rfl, show (1 : Int32).toNatClampNeg = 1 from rfl]
  rw [lp_X3_rotateHistory_9, if_neg (by decide), if_pos a0, up2_n _ _ _ hxr, up2_n _ _ _ hxr, a3, Option.bind_some, if_pos ki, if_pos i3, show (3 : Int32).toNatClampNeg = 3 from rfl, up2_sn _ _ _ (show 3 ≠ 1 by omega), up2_sn _ _ _ (show 3 ≠ 0 by omega), gj 3 (by omega), Option.bind_some, if_pos (kk 3 (by omega)), show (3 : Int32) - 1 = 2 from rfl, if_pos i2, show (3 : Int32) + 1 = 4 from rfl, show (2 : Int32).toNatClampNeg = 2 from rfl]
  rw [lp_X3_rotateHistory_9, if_pos (by decide), if_pos a0, up2_n _ _ _ hxr, up2_n _ _ _ hxr, up2_n _ _ _ hxr, a3, Option.bind_some, if_pos (kk 0 (by omega)), if_pos i3]
  rfl
theorem C_recorded (hX : XT x Y G) {q : Nat → Nat} (hq : QP q) (hG : GR x G q) {V : mV} {t : Nat} (ht : t ≤ 4) (h5 : V x 5 = nI t) {r : Int32} (hr : 0 ≤ r) : ∃ V' G' q', cf_X3_recorded Y V G x r = some (r, V', G') ∧ XT x Y G' ∧ GR x G' q' ∧ QP q' ∧ V' x 5 = nI (if t < 4 then t + 1 else 4) ∧ (∀ b, b ≠ x → V' b = V b) ∧ (t < 4 → q' t = q 4 ∧ ∀ j, j < t → q' j = q j) ∧ (t = 4 → ∀ j, j < 4 → q' j = q (j + 1)) := by
  obtain ⟨⟨a0, a1, a2, a3, a4⟩, ⟨b1, b2⟩, ⟨c1, c2, c3⟩, d1, e1⟩ := id hX
  obtain ⟨g4, gj⟩ := id hG
  have kk : ∀ j, j < 5 → (Y.1 (x + 29) = 7 ∧ Y.1 (x + 33 + 14 * q j) = 0) ∨ (Y.1 (x + 29) = 8 ∧ Y.1 (x + 33 + 14 * q j) = 2) := fun j hj => Or.inr ⟨b1, (c3 _ (hq.1 j hj)).1⟩
  have ki : Y.1 (x + 29) = 7 ∨ Y.1 (x + 29) = 8 := Or.inr b1
  have ix : ∀ j, j < 4 → ¬ (nI j < 0 ∨ Y.2 (x + 29) ≤ (nI j).toNatClampNeg) := fun j hj => by rw [b2]; exact nx_in hj (by decide)
  have i0 : ¬ ((0 : Int32) < 0 ∨ Y.2 (x + 29) ≤ (0 : Int32).toNatClampNeg) := ix 0 (by omega)
  have i1 : ¬ ((1 : Int32) < 0 ∨ Y.2 (x + 29) ≤ (1 : Int32).toNatClampNeg) := ix 1 (by omega)
  have i2 : ¬ ((2 : Int32) < 0 ∨ Y.2 (x + 29) ≤ (2 : Int32).toNatClampNeg) := ix 2 (by omega)
  have i3 : ¬ ((3 : Int32) < 0 ∨ Y.2 (x + 29) ≤ (3 : Int32).toNatClampNeg) := ix 3 (by omega)
  have hxr : x ≠ x + 29 := by omega
  by_cases t4 : t < 4
  · refine ⟨up2 V x 5 (V x 5 + 1), up2 (up2 G (x + 29) t (some (x + 33 + 14 * q 4))) x 4 (some (x + 33 + 14 * q t)), qsw q t, ?_, ?_, ⟨?_, fun j hj => ?_⟩, QP_sw hq t4, by rw [up2_ss, h5, if_pos t4, nI_succ], fun b hb => up2_n _ _ _ hb, fun _ => ⟨by simp [qsw], fun j hj => by unfold qsw; rw [if_neg (by omega), if_neg (by omega)]⟩, fun e => by omega⟩
    · rw [cf_X3_recorded, if_pos hr, if_pos a0, h5, if_pos (show nI t < 4 from nI_lt (b := 4) t4 (by decide)), a3, Option.bind_some, if_pos ki, if_pos (ix t t4), nI_clamp (show t < _ by omega), gj t t4, Option.bind_some, g4, Option.bind_some, if_pos (kk 4 (by omega)), if_pos (by have := ix t t4; rwa [nI_clamp (show t < _ by omega)] at this)]
    · exact XT_G (fun b h1 h2 => by rw [up2_n _ _ _ h1, up2_n _ _ _ h2]) (fun k hk => by rw [up2_sn _ _ _ hk, up2_n _ _ _ hxr]) hX
    · rw [up2_ss]; unfold qsw; rw [if_neg (by omega), if_pos rfl]
    · rw [up2_n _ _ _ (by omega), up2_s]
      unfold qsw
      by_cases e : j = t
      · subst e; rw [va_up_s, if_pos rfl]
      · rw [un_ _ _ e, if_neg e, if_neg (by omega)]; exact gj j hj
  · obtain rfl : t = 4 := by omega
    have lt : ¬ V x 5 < 4 := by rw [h5]; decide
    refine ⟨up2 (up2 V x 5 3) x 5 (3 + 1), up2 (up2 (up2 (up2 (up2 (up2 G (x + 29) 0 (some (x + 33 + 14 * q 1))) (x + 29) 1 (some (x + 33 + 14 * q 2))) (x + 29) 2 (some (x + 33 + 14 * q 3))) (x + 29) 3 (some (x + 33 + 14 * q 0))) (x + 29) 3 (some (x + 33 + 14 * q 4))) x 4 (some (x + 33 + 14 * q 0)), qro q, ?_, ?_, ⟨?_, fun j hj => ?_⟩, QP_ro hq, by rw [up2_ss]; rfl, fun b hb => by rw [up2_n _ _ _ hb, up2_n _ _ _ hb], fun e => by omega, fun _ j hj => by unfold qro; rw [if_pos hj]⟩
    · rw [cf_X3_recorded, if_pos hr, if_pos a0, if_neg lt, C_rot hX hq hG, Option.bind_some, up2_n _ _ _ hxr, up2_n _ _ _ hxr, up2_n _ _ _ hxr, up2_n _ _ _ hxr, a3, Option.bind_some, if_pos ki, up2_ss, if_pos i3, show (3 : Int32).toNatClampNeg = 3 from rfl, up2_ss, Option.bind_some, g4, Option.bind_some, if_pos (kk 4 (by omega)), if_pos (show ¬ ((3 : Int32) < 0 ∨ Y.2 (x + 29) ≤ 3) from i3)]
    · exact XT_G (fun b h1 h2 => by simp only [up2_n _ _ _ h1, up2_n _ _ _ h2]) (fun k hk => by rw [up2_sn _ _ _ hk]; simp only [up2_n _ _ _ hxr]) hX
    · rw [up2_ss]; unfold qro; rw [if_neg (by omega)]
    · rw [up2_n _ _ _ (by omega)]
      unfold qro
      rw [if_pos hj]
      rcases (show j = 0 ∨ j = 1 ∨ j = 2 ∨ j = 3 by omega) with e | e | e | e <;> subst e <;> simp [up2_s, va_up]
theorem qB {q : Nat → Nat} (hq : QP q) {i j : Nat} (hi : i < 5) (hj : j < 5) (h : i ≠ j) : x + 33 + 14 * q i + 14 ≤ x + 33 + 14 * q j ∨ x + 33 + 14 * q j + 14 ≤ x + 33 + 14 * q i := by
  have : q i ≠ q j := fun e => h (hq.2 i j hi hj e)
  omega
/-- a change, done by both -/
theorem CHG {V : mV} (hGI : GI x Y V G) (cls mdl : mV → mG → Option (Int32 × mV)) (hOK : ∀ (V : mV) (G G' : mG) (N : Nat) (a : Nat → Int32), PT Y G (x + 1) → MT Y G' (x + 103) → PM V (x + 1) N a → SI N a → OK2 V (x + 1) (x + 103) N a (cls V G) (fun W => mdl W G')) :
    ∃ r V1 G1 V2, ((G x 4).bind fun r2 => (G x 0).bind fun r3 => if Y.1 r2 = 2 then (cf_X2_copyFrom Y V G r2 r3).bind fun x5 => if Y.1 r3 = 2 then (cls x5 G).bind fun x7 => (cf_X3_recorded Y x7.2 G x x7.1).bind fun x8 => some (x8.1, x8.2.1, x8.2.2) else none else none) = some (r, V1, G1) ∧ ((G1 (x + 103) 0).bind fun r2 => (G1 (x + 103) 1).bind fun r3 => (cf_X4_copy Y V1 G1 r2 r3).bind fun x4 => (mdl x4 G1).bind fun x5 => (cf_X4_changed Y x5.2 G1 (x + 103) x5.1).bind fun x6 => some (x6.1, x6.2)) = some (r, V2) ∧ GI x Y V2 G1 := by
  obtain ⟨hX, ⟨q, hq, hG, t, ht, h5, h4, hH⟩, ⟨N, hm, hs'⟩, hT⟩ := hGI
  obtain ⟨⟨a0, a1, a2, a3, a4⟩, ⟨b1, b2⟩, ⟨c1, c2, c3⟩, d1, hM⟩ := id hX
  have hN := hs'.1.1
  have q4 := hq.1 4 (by omega)
  have cB := c3 _ q4
  obtain ⟨V1, e1, p1, o1⟩ := C_copy (g := x + 33 + 14 * q 4) (h := x + 1) cB c1 (by omega) hs'.1 hm
  have n1 : PM V1 (x + 1) N (V (x + 104)) := PM_sO hN (by omega) o1 hm
  have l1 : ∀ b, x + 103 ≤ b → V1 b = V b := fun b hb => o1 b (by omega)
  obtain ⟨r, V2, N', e2, o2, hr, hall⟩ := hOK V1 G G N _ c1 hM n1 hs'
  have l2 : ∀ b, ¬ (x + 1 ≤ b ∧ b < x + 15) → V2 b = V1 b := fun b hb => o2 b (by omega)
  -- blocks of the history
  have blk : ∀ j, j < 4 → ∀ i, i < 14 → V2 (x + 33 + 14 * q j + i) = V (x + 33 + 14 * q j + i) := by
    intro j hj i hi
    have h1 := hq.1 j (by omega)
    have h2 : q j ≠ q 4 := fun e => by have := hq.2 j 4 (by omega) (by omega) e; omega
    rw [l2 _ (by omega), o1 _ (by omega)]
  have cl0 : ((G x 4).bind fun r2 => (G x 0).bind fun r3 => if Y.1 r2 = 2 then (cf_X2_copyFrom Y V G r2 r3).bind fun x5 => if Y.1 r3 = 2 then (cls x5 G).bind fun x7 => (cf_X3_recorded Y x7.2 G x x7.1).bind fun x8 => some (x8.1, x8.2.1, x8.2.2) else none else none) = (cf_X3_recorded Y V2 G x r).bind fun x8 => some (x8.1, x8.2.1, x8.2.2) := by
    rw [hG.1, Option.bind_some, a1, Option.bind_some, if_pos cB.1, e1, Option.bind_some, if_pos c1.1, e2, Option.bind_some]
  rw [cl0]
  rcases hr with ⟨hlt, rfl⟩ | hge
  · have nge : ¬ 0 ≤ r := fun z => absurd (Int32.lt_of_lt_of_le hlt (show (-1000000 : Int32) ≤ 0 by decide)) (Int32.not_lt.mpr z)
    have nge2 : ¬ (-1000000 : Int32) ≤ r := Int32.not_le.mpr hlt
    have w1 : va_up V2 (x + 105) (mix 146 (V2 (x + 104)) (V2 (x + 105))) (x + 104) = V (x + 104) := by rw [va_up_ne _ _ (by omega), l1 _ (by omega)]
    obtain ⟨a', ma, pa, sa, ea⟩ := hall (va_up V2 (x + 105) (mix 146 (V2 (x + 104)) (V2 (x + 105)))) w1
    have ea := ea hlt
    change mdl _ G = _ at ma
    subst ea
    obtain ⟨k0, k1, k2⟩ := MT_2 hM
    refine ⟨r, V2, G, va_up V2 (x + 105) (mix 146 (V2 (x + 104)) (V2 (x + 105))), by rw [cf_X3_recorded, if_neg nge]; rfl, ?_, hX, ⟨q, hq, hG, t, ht, ?_, ?_, fun j hj => ?_⟩, ⟨N', ?_, ?_⟩, ?_⟩
    · rw [MT_g hM, Option.bind_some, k0, Option.bind_some, M_copy (MT_k1 hM) (MT_l1 hM) k1 k2 (by omega), Option.bind_some]
      have ma' : mdl (va_up V2 (x + 105) (mix 146 (V2 (x + 104)) (V2 (x + 105)))) G = some (r, va_up V2 (x + 105) (mix 146 (V2 (x + 104)) (V2 (x + 105)))) := by
        rw [ma]
        rw [show x + 103 + 1 = x + 104 from rfl]
        have := us_ (va_up V2 (x + 105) (mix 146 (V2 (x + 104)) (V2 (x + 105)))) (x + 104)
        rw [w1] at this
        rw [this]
      rw [show x + 103 + 1 = x + 104 from rfl, show x + 103 + 2 = x + 105 from rfl, ma', Option.bind_some, cf_X4_changed, cf_X4_isError, if_neg nge2, Option.bind_some, if_neg (by decide)]
      rfl
    · rw [va_up_ne _ _ (by omega), o1 _ (by omega)]; exact h5
    · rw [va_up_ne _ _ (by omega), l1 _ (by omega)]; exact h4
    · obtain ⟨Nj, pj, sj⟩ := hH j hj
      have e : hs (va_up V2 (x + 105) (mix 146 (V2 (x + 104)) (V2 (x + 105)))) (x + 103) j = hs V (x + 103) j := by
        unfold hs; rw [va_up_ne _ _ (by omega), l1 _ (by omega)]
      have := hq.1 j (by omega)
      exact ⟨Nj, by rw [e]; exact PM_bl sj.1.1 (fun i hi => by rw [va_up_ne _ _ (by omega), blk j (by omega) i hi]) pj, by rw [e]; exact sj⟩
    · rw [w1]; exact PM_bl sa.1.1 (fun i hi => va_up_ne _ _ (by omega)) pa
    · rw [w1]; exact sa
    · exact TX_eq (by rw [va_up_ne _ _ (by omega), o1 _ (by omega)]) (by rw [va_up_ne _ _ (by omega), l1 _ (by omega)]) (by rw [va_up_ne _ _ (by omega), o1 _ (by omega)]) (by rw [va_up_ne _ _ (by omega), l1 _ (by omega)]) hT
  · have h52 : V2 x 5 = nI t := by rw [l2 _ (by omega), o1 _ (by omega)]; exact h5
    obtain ⟨V3, G3, q', e3, hX3, hG3, hq3, f5, f6, f7, f8⟩ := C_recorded hX hq hG ht h52 hge
    have hM3 := hX3.2.2.2.2
    obtain ⟨r', V2', N2, e2', o2', hr', hall'⟩ := hOK V1 G G3 N _ c1 hM3 n1 hs'
    have ee := e2.symm.trans e2'
    simp only [Option.some.injEq, Prod.mk.injEq] at ee
    obtain ⟨rfl, rfl⟩ := ee
    have l3 : ∀ b, x + 103 ≤ b → V3 b = V b := fun b hb => by rw [f6 _ (by omega), l2 _ (by omega), l1 _ hb]
    have w1 : va_up V3 (x + 105) (mix 146 (V3 (x + 104)) (V3 (x + 105))) (x + 104) = V (x + 104) := by rw [va_up_ne _ _ (by omega), l3 _ (by omega)]
    obtain ⟨a', ma, pa, sa, -⟩ := hall' (va_up V3 (x + 105) (mix 146 (V3 (x + 104)) (V3 (x + 105)))) w1
    have h4W : va_up (va_up V3 (x + 105) (mix 146 (V3 (x + 104)) (V3 (x + 105)))) (x + 104) a' (x + 103) 4 = nI t := by
      rw [va_up_ne _ _ (by omega), va_up_ne _ _ (by omega), l3 _ (by omega)]; exact h4
    change mdl _ G3 = _ at ma
    obtain ⟨V4, e4, u4, u5, u6, u7, u8⟩ := M_record hM3 ht h4W
    obtain ⟨k0, k1, k2⟩ := MT_2 hM3
    have ge2 : (-1000000 : Int32) ≤ r := Int32.le_trans (by decide) hge
    have v4 : ∀ b, b ≠ x + 103 → b ≠ x + 107 → b ≠ x + 104 → b ≠ x + 105 → V4 b = V3 b := fun b h1 h2 h3 h4 => by
      rw [u6 b h1 (by omega), va_up_ne _ _ h3, va_up_ne _ _ h4]
    have v104 : V4 (x + 104) = a' := by rw [u6 _ (by omega) (by omega), va_up_s]
    have kept : ∀ k, k < 146 → va_up (va_up V3 (x + 105) (mix 146 (V3 (x + 104)) (V3 (x + 105)))) (x + 104) a' (x + 103 + 2) k = V (x + 104) k := by
      intro k hk
      rw [va_up_ne _ _ (by omega), show x + 103 + 2 = x + 105 from rfl, va_up_s, mix_lt _ _ _ hk, l3 _ (by omega)]
    have hsW : ∀ j, hs (va_up (va_up V3 (x + 105) (mix 146 (V3 (x + 104)) (V3 (x + 105)))) (x + 104) a') (x + 103) j = hs V (x + 103) j := by
      intro j; unfold hs; rw [va_up_ne _ _ (by omega), va_up_ne _ _ (by omega), l3 _ (by omega)]
    have bl4 : ∀ j, j < 4 → ∀ i, i < 14 → V4 (x + 33 + 14 * q j + i) = V (x + 33 + 14 * q j + i) := by
      intro j hj i hi
      have h1 := hq.1 j (by omega)
      rw [v4 _ (by omega) (by omega) (by omega) (by omega), f6 _ (by omega), blk j hj i hi]
    have bf4 : PM V4 (x + 33 + 14 * q 4) N (V (x + 104)) := PM_bl hN (fun i hi => by rw [v4 _ (by omega) (by omega) (by omega) (by omega), f6 _ (by omega), l2 _ (by omega)]) p1
    have newH : ∀ a2, (∀ k, k < 146 → a2 k = V (x + 104) k) → PM V4 (x + 33 + 14 * q 4) N a2 ∧ SI N a2 := fun a2 e => ⟨PM_eq hN e bf4, SI_eq e hs'⟩
    have oldH : ∀ j a2, j < t → j < 4 → (∀ k, k < 146 → a2 k = hs V (x + 103) j k) → ∃ Nj, PM V4 (x + 33 + 14 * q j) Nj a2 ∧ SI Nj a2 := fun j a2 hj hj4 e => by
      obtain ⟨Nj, pj, sj⟩ := hH j hj
      exact ⟨Nj, PM_eq sj.1.1 e (PM_bl sj.1.1 (bl4 j hj4) pj), SI_eq e sj⟩
    refine ⟨r, V3, G3, V4, by rw [e3]; rfl, ?_, hX3, ⟨q', hq3, hG3, _, ?_, ?_, u4, fun j hj => ?_⟩, ⟨N2, ?_, ?_⟩, ?_⟩
    · rw [MT_g hM3, Option.bind_some, k0, Option.bind_some, M_copy (MT_k1 hM3) (MT_l1 hM3) k1 k2 (by omega), Option.bind_some, show x + 103 + 1 = x + 104 from rfl, show x + 103 + 2 = x + 105 from rfl, ma, Option.bind_some, cf_X4_changed, cf_X4_isError, if_pos ge2, Option.bind_some, if_pos rfl, if_pos (MT_k hM3)]
      rw [show x + 103 + 1 = x + 104 from rfl, e4]
      rfl
    · split <;> omega
    · rw [v4 _ (by omega) (by omega) (by omega) (by omega)]; exact f5
    · by_cases t4 : t < 4
      · rw [if_pos t4] at hj
        obtain ⟨z1, z2⟩ := f7 t4
        obtain ⟨y1, y2⟩ := u7 t4
        by_cases e : j = t
        · subst e
          rw [z1]
          exact ⟨N, newH _ (fun k hk => by rw [y1 k hk]; exact kept k hk)⟩
        · rw [z2 j (by omega)]
          exact oldH j _ (by omega) (by omega) (fun k hk => by rw [y2 j (by omega) k hk, hsW])
      · obtain rfl : t = 4 := by omega
        rw [if_neg t4] at hj
        have z := f8 rfl
        obtain ⟨y1, y2⟩ := u8 rfl
        rw [z j hj]
        by_cases e : j = 3
        · subst e
          exact ⟨N, newH _ (fun k hk => by rw [y1 k hk]; exact kept k hk)⟩
        · exact oldH (j + 1) _ (by omega) (by omega) (fun k hk => by rw [y2 j (by omega) k hk, hsW])
    · rw [v104]
      exact PM_bl sa.1.1 (fun i hi => by rw [v4 _ (by omega) (by omega) (by omega) (by omega), f6 _ (by omega)]) pa
    · rw [v104]; exact sa
    · exact TX_eq (by rw [v4 _ (by omega) (by omega) (by omega) (by omega), f6 _ (by omega), l2 _ (by omega), o1 _ (by omega)]) (by rw [u5 _ (by omega), va_up_ne _ _ (by omega), va_up_ne _ _ (by omega), l3 _ (by omega)]) (by rw [v4 _ (by omega) (by omega) (by omega) (by omega), f6 _ (by omega), l2 _ (by omega), o1 _ (by omega)]) (by rw [v4 _ (by omega) (by omega) (by omega) (by omega), l3 _ (by omega)]) hT
end CLS
