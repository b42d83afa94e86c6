-- an object of the class, and what holds of it
def XT (x : Nat) (Y : mY) (G : mG) : Prop := (Y.1 x = 3 ∧ G x 0 = some (x + 1) ∧ G x 1 = some (x + 15) ∧ G x 2 = some (x + 29) ∧ G x 3 = some (x + 30)) ∧ (Y.1 (x + 29) = 8 ∧ Y.2 (x + 29) = 4) ∧ (PT Y G (x + 1) ∧ PT Y G (x + 15) ∧ ∀ k, k < 5 → PT Y G (x + 33 + 14 * k)) ∧ Y.1 (x + 30) = 1 ∧ True
def GR (x : Nat) (G : mG) (q : Nat → Nat) : Prop := G x 4 = some (x + 33 + 14 * q 4) ∧ ∀ j, j < 4 → G (x + 29) j = some (x + 33 + 14 * q j)
def QP (q : Nat → Nat) : Prop := (∀ j, j < 5 → q j < 5) ∧ ∀ i j, i < 5 → j < 5 → q i = q j → i = j
theorem PT_G {Y : mY} {G G' : mG} {x h : Nat} (hb : ∀ b, b ≠ x → b ≠ x + 29 → G' b = G b) (h0 : h ≠ x) (h1 : h ≠ x + 29) (h2 : h + 1 ≠ x) (h3 : h + 1 ≠ x + 29) (hP : PT Y G h) : PT Y G' h := by
  unfold PT at *
  rw [hb h h0 h1, hb (h + 1) h2 h3]
  exact hP
theorem XT_G {x : Nat} {Y : mY} {G G' : mG} (hb : ∀ b, b ≠ x → b ≠ x + 29 → G' b = G b) (hx : ∀ k, k ≠ 4 → G' x k = G x k) (h : XT x Y G) : XT x Y G' := by
  obtain ⟨⟨a0, a1, a2, a3, a4⟩, b1, ⟨c1, c2, c3⟩, d1, e1⟩ := h
  exact ⟨⟨a0, by rw [hx 0 (by omega)]; exact a1, by rw [hx 1 (by omega)]; exact a2, by rw [hx 2 (by omega)]; exact a3, by rw [hx 3 (by omega)]; exact a4⟩, b1, ⟨PT_G hb (by omega) (by omega) (by omega) (by omega) c1, PT_G hb (by omega) (by omega) (by omega) (by omega) c2, fun k hk => PT_G hb (by omega) (by omega) (by omega) (by omega) (c3 k hk)⟩, d1, e1⟩
def qsw (q : Nat → Nat) (t : Nat) : Nat → Nat := fun j => if j = t then q 4 else if j = 4 then q t else q j
def qro (q : Nat → Nat) : Nat → Nat := fun j => if j < 4 then q (j + 1) else q 0
theorem QP_sw {q : Nat → Nat} (h : QP q) {t : Nat} (ht : t < 4) : QP (qsw q t) := by
  obtain ⟨h1, h2⟩ := h
  refine ⟨fun j hj => ?_, fun i j hi hj e => ?_⟩
  · unfold qsw; split
    · exact h1 _ (by omega)
    · split
      · exact h1 _ (by omega)
      · exact h1 _ hj
  · unfold qsw at e
    have z : ∀ a b, a < 5 → b < 5 → q a = q b → a = b := h2
    by_cases i1 : i = t <;> by_cases j1 : j = t
    · omega
    · rw [if_pos i1, if_neg j1] at e
      by_cases j2 : j = 4
      · rw [if_pos j2] at e; have := z _ _ (by omega) (by omega) e; omega
      · rw [if_neg j2] at e; have := z _ _ (by omega) (by omega) e; omega
    · rw [if_neg i1, if_pos j1] at e
      by_cases i2 : i = 4
      · rw [if_pos i2] at e; have := z _ _ (by omega) (by omega) e; omega
      · rw [if_neg i2] at e; have := z _ _ (by omega) (by omega) e; omega
    · rw [if_neg i1, if_neg j1] at e
      by_cases i2 : i = 4 <;> by_cases j2 : j = 4
      · omega
      · rw [if_pos i2, if_neg j2] at e; have := z _ _ (by omega) (by omega) e; omega
      · rw [if_neg i2, if_pos j2] at e; have := z _ _ (by omega) (by omega) e; omega
      · rw [if_neg i2, if_neg j2] at e; exact z _ _ (by omega) (by omega) e
theorem QP_ro {q : Nat → Nat} (h : QP q) : QP (qro q) := by
  obtain ⟨h1, h2⟩ := h
  refine ⟨fun j hj => ?_, fun i j hi hj e => ?_⟩
  · unfold qro; split
    · exact h1 _ (by omega)
    · exact h1 _ (by omega)
  · unfold qro at e
    by_cases i1 : i < 4 <;> by_cases j1 : j < 4
    · rw [if_pos i1, if_pos j1] at e; have := h2 _ _ (by omega) (by omega) e; omega
    · rw [if_pos i1, if_neg j1] at e; have := h2 _ _ (by omega) (by omega) e; omega
    · rw [if_neg i1, if_pos j1] at e; have := h2 _ _ (by omega) (by omega) e; omega
    · omega
section CLS
variable {Y : mY} {G : mG} {x : Nat}
theorem C_rot (hX : XT x Y G) {q : Nat → Nat} (hq : QP q) (hG : GR x G q) (V : mV) : cf_X3_rotateHistory Y V G x = some (up2 (up2 (up2 (up2 G (x + 29) 0 (some (x + 33 + 14 * q 1))) (x + 29) 1 (some (x + 33 + 14 * q 2))) (x + 29) 2 (some (x + 33 + 14 * q 3))) (x + 29) 3 (some (x + 33 + 14 * q 0))) := by
  obtain ⟨⟨a0, a1, a2, a3, a4⟩, ⟨b1, b2⟩, ⟨c1, c2, c3⟩, d1, e1⟩ := hX
  obtain ⟨g4, gj⟩ := hG
  have kk : ∀ j, j < 5 → (Y.1 (x + 29) = 7 ∧ Y.1 (x + 33 + 14 * q j) = 0) ∨ (Y.1 (x + 29) = 8 ∧ Y.1 (x + 33 + 14 * q j) = 2) := fun j hj => Or.inr ⟨b1, (c3 _ (hq.1 j hj)).1⟩
  have ki : Y.1 (x + 29) = 7 ∨ Y.1 (x + 29) = 8 := Or.inr b1
  have ix : ∀ j, j < 4 → ¬ (nI j < 0 ∨ Y.2 (x + 29) ≤ (nI j).toNatClampNeg) := fun j hj => by rw [b2]; exact nx_in hj (by decide)
  have i0 : ¬ ((0 : Int32) < 0 ∨ Y.2 (x + 29) ≤ (0 : Int32).toNatClampNeg) := ix 0 (by omega)
  have i1 : ¬ ((1 : Int32) < 0 ∨ Y.2 (x + 29) ≤ (1 : Int32).toNatClampNeg) := ix 1 (by omega)
  have i2 : ¬ ((2 : Int32) < 0 ∨ Y.2 (x + 29) ≤ (2 : Int32).toNatClampNeg) := ix 2 (by omega)
  have i3 : ¬ ((3 : Int32) < 0 ∨ Y.2 (x + 29) ≤ (3 : Int32).toNatClampNeg) := ix 3 (by omega)
  have hxr : x ≠ x + 29 := by omega
  obtain ⟨f, hf⟩ : ∃ f, fuB = f + 4 := ⟨fuB - 4, by have := fuB_gt (n := 4) (by omega); omega⟩
  rw [cf_X3_rotateHistory, if_pos a0, a3, Option.bind_some, if_pos ki, if_pos i0, show (0 : Int32).toNatClampNeg = 0 from rfl, gj 0 (by omega), Option.bind_some, hf]
  rw [lp_X3_rotateHistory_9, if_neg (by decide), if_pos a0, a3, Option.bind_some, if_pos ki, if_pos i1, show (1 : Int32).toNatClampNeg = 1 from rfl, gj 1 (by omega), Option.bind_some, if_pos (kk 1 (by omega)), show (1 : Int32) - 1 = 0 from rfl, if_pos i0, show (1 : Int32) + 1 = 2 from rfl, show (0 : Int32).toNatClampNeg = 0 from rfl]
  rw [lp_X3_rotateHistory_9, if_neg (by decide), if_pos a0, up2_n _ _ _ hxr, a3, Option.bind_some, if_pos ki, if_pos i2, show (2 : Int32).toNatClampNeg = 2 from rfl, up2_sn _ _ _ (show 2 ≠ 0 by omega), gj 2 (by omega), Option.bind_some, if_pos (kk 2 (by omega)), show (2 : Int32) - 1 = 1 from rfl, if_pos i1, show (2 : Int32) + 1 = 3 from rfl, show (1 : Int32).toNatClampNeg = 1 from rfl]
  rw [lp_X3_rotateHistory_9, if_neg (by decide), if_pos a0, up2_n _ _ _ hxr, up2_n _ _ _ hxr, a3, Option.bind_some, if_pos ki, if_pos i3, show (3 : Int32).toNatClampNeg = 3 from rfl, up2_sn _ _ _ (show 3 ≠ 1 by omega), up2_sn _ _ _ (show 3 ≠ 0 by omega), gj 3 (by omega), Option.bind_some, if_pos (kk 3 (by omega)), show (3 : Int32) - 1 = 2 from rfl, if_pos i2, show (3 : Int32) + 1 = 4 from rfl, show (2 : Int32).toNatClampNeg = 2 from rfl]
  rw [lp_X3_rotateHistory_9, if_pos (by decide), if_pos a0, up2_n _ _ _ hxr, up2_n _ _ _ hxr, up2_n _ _ _ hxr, a3, Option.bind_some, if_pos (kk 0 (by omega)), if_pos i3]
  rfl
theorem C_recorded (hX : XT x Y G) {q : Nat → Nat} (hq : QP q) (hG : GR x G q) {V : mV} {t : Nat} (ht : t ≤ 4) (h5 : V x 5 = nI t) {r : Int32} (hr : 0 ≤ r) : ∃ V' G' q', cf_X3_recorded Y V G x r = some (r, V', G') ∧ XT x Y G' ∧ GR x G' q' ∧ QP q' ∧ V' x 5 = nI (if t < 4 then t + 1 else 4) ∧ (∀ b, b ≠ x → V' b = V b) ∧ (t < 4 → q' t = q 4 ∧ ∀ j, j < t → q' j = q j) ∧ (t = 4 → ∀ j, j < 4 → q' j = q (j + 1)) ∧ (∀ b, b ≠ x → b ≠ x + 29 → G' b = G b) := by
  obtain ⟨⟨a0, a1, a2, a3, a4⟩, ⟨b1, b2⟩, ⟨c1, c2, c3⟩, d1, e1⟩ := id hX
  obtain ⟨g4, gj⟩ := id hG
  have kk : ∀ j, j < 5 → (Y.1 (x + 29) = 7 ∧ Y.1 (x + 33 + 14 * q j) = 0) ∨ (Y.1 (x + 29) = 8 ∧ Y.1 (x + 33 + 14 * q j) = 2) := fun j hj => Or.inr ⟨b1, (c3 _ (hq.1 j hj)).1⟩
  have ki : Y.1 (x + 29) = 7 ∨ Y.1 (x + 29) = 8 := Or.inr b1
  have ix : ∀ j, j < 4 → ¬ (nI j < 0 ∨ Y.2 (x + 29) ≤ (nI j).toNatClampNeg) := fun j hj => by rw [b2]; exact nx_in hj (by decide)
  have i0 : ¬ ((0 : Int32) < 0 ∨ Y.2 (x + 29) ≤ (0 : Int32).toNatClampNeg) := ix 0 (by omega)
  have i1 : ¬ ((1 : Int32) < 0 ∨ Y.2 (x + 29) ≤ (1 : Int32).toNatClampNeg) := ix 1 (by omega)
  have i2 : ¬ ((2 : Int32) < 0 ∨ Y.2 (x + 29) ≤ (2 : Int32).toNatClampNeg) := ix 2 (by omega)
  have i3 : ¬ ((3 : Int32) < 0 ∨ Y.2 (x + 29) ≤ (3 : Int32).toNatClampNeg) := ix 3 (by omega)
  have hxr : x ≠ x + 29 := by omega
  by_cases t4 : t < 4
  · refine ⟨up2 V x 5 (V x 5 + 1), up2 (up2 G (x + 29) t (some (x + 33 + 14 * q 4))) x 4 (some (x + 33 + 14 * q t)), qsw q t, ?_, ?_, ⟨?_, fun j hj => ?_⟩, QP_sw hq t4, by rw [up2_ss, h5, if_pos t4, nI_succ], fun b hb => up2_n _ _ _ hb, fun _ => ⟨by simp [qsw], fun j hj => by unfold qsw; rw [if_neg (by omega), if_neg (by omega)]⟩, fun e => by omega, fun b h1 h2 => by rw [up2_n _ _ _ h1, up2_n _ _ _ h2]⟩
    · rw [cf_X3_recorded, if_pos hr, if_pos a0, h5, if_pos (show nI t < 4 from nI_lt (b := 4) t4 (by decide)), a3, Option.bind_some, if_pos ki, if_pos (ix t t4), nI_clamp (show t < _ by omega), gj t t4, Option.bind_some, g4, Option.bind_some, if_pos (kk 4 (by omega)), if_pos (by have := ix t t4; rwa [nI_clamp (show t < _ by omega)] at this)]
    · exact XT_G (fun b h1 h2 => by rw [up2_n _ _ _ h1, up2_n _ _ _ h2]) (fun k hk => by rw [up2_sn _ _ _ hk, up2_n _ _ _ hxr]) hX
    · rw [up2_ss]; unfold qsw; rw [if_neg (by omega), if_pos rfl]
    · rw [up2_n _ _ _ (by omega), up2_s]
      unfold qsw
      by_cases e : j = t
      · subst e; rw [va_up_s, if_pos rfl]
      · rw [un_ _ _ e, if_neg e, if_neg (by omega)]; exact gj j hj
  · obtain rfl : t = 4 := by omega
    have lt : ¬ V x 5 < 4 := by rw [h5]; decide
    refine ⟨up2 (up2 V x 5 3) x 5 (3 + 1), up2 (up2 (up2 (up2 (up2 (up2 G (x + 29) 0 (some (x + 33 + 14 * q 1))) (x + 29) 1 (some (x + 33 + 14 * q 2))) (x + 29) 2 (some (x + 33 + 14 * q 3))) (x + 29) 3 (some (x + 33 + 14 * q 0))) (x + 29) 3 (some (x + 33 + 14 * q 4))) x 4 (some (x + 33 + 14 * q 0)), qro q, ?_, ?_, ⟨?_, fun j hj => ?_⟩, QP_ro hq, by rw [up2_ss]; rfl, fun b hb => by rw [up2_n _ _ _ hb, up2_n _ _ _ hb], fun e => by omega, fun _ j hj => by unfold qro; rw [if_pos hj], fun b h1 h2 => by simp only [up2_n _ _ _ h1, up2_n _ _ _ h2]⟩
    · rw [cf_X3_recorded, if_pos hr, if_pos a0, if_neg lt, C_rot hX hq hG, Option.bind_some, up2_n _ _ _ hxr, up2_n _ _ _ hxr, up2_n _ _ _ hxr, up2_n _ _ _ hxr, a3, Option.bind_some, if_pos ki, up2_ss, if_pos i3, show (3 : Int32).toNatClampNeg = 3 from rfl, up2_ss, Option.bind_some, g4, Option.bind_some, if_pos (kk 4 (by omega)), if_pos (show ¬ ((3 : Int32) < 0 ∨ Y.2 (x + 29) ≤ 3) from i3)]
    · exact XT_G (fun b h1 h2 => by simp only [up2_n _ _ _ h1, up2_n _ _ _ h2]) (fun k hk => by rw [up2_sn _ _ _ hk]; simp only [up2_n _ _ _ hxr]) hX
    · rw [up2_ss]; unfold qro; rw [if_neg (by omega)]
    · rw [up2_n _ _ _ (by omega)]
      unfold qro
      rw [if_pos hj]
      rcases (show j = 0 ∨ j = 1 ∨ j = 2 ∨ j = 3 by omega) with e | e | e | e <;> subst e <;> simp [up2_s, va_up]
theorem qB {q : Nat → Nat} (hq : QP q) {i j : Nat} (hi : i < 5) (hj : j < 5) (h : i ≠ j) : x + 33 + 14 * q i + 14 ≤ x + 33 + 14 * q j ∨ x + 33 + 14 * q j + 14 ≤ x + 33 + 14 * q i := by
  have : q i ≠ q j := fun e => h (hq.2 i j hi hj e)
  omega
end CLS

def OB (x : Nat) (Y : mY) (V : mV) (G : mG) (N : Nat) (a : Nat → Int32) (t : Nat) (ha : Nat → Nat → Int32) : Prop := XT x Y G ∧ (∃ q, QP q ∧ GR x G q ∧ t ≤ 4 ∧ V x 5 = nI t ∧ ∀ j, j < t → ∃ N', PM V (x + 33 + 14 * q j) N' (ha j) ∧ SI N' (ha j)) ∧ PM V (x + 1) N a ∧ SI N a
def FRm (x : Nat) (V V' : mV) (G G' : mG) : Prop := (∀ b, ¬ (x ≤ b ∧ b < x + 103) → V' b = V b) ∧ ∀ b, ¬ (x ≤ b ∧ b < x + 103) → G' b = G b
theorem PT_same {Y : mY} {G G' : mG} {h : Nat} (g0 : G' h = G h) (g1 : G' (h + 1) = G (h + 1)) (hP : PT Y G h) : PT Y G' h := by
  unfold PT at *
  rw [g0, g1]
  exact hP
theorem OB_fr {x y : Nat} {Y : mY} {V V' : mV} {G G' : mG} {N : Nat} {a : Nat → Int32} {t : Nat} {ha : Nat → Nat → Int32} (hd : x + 103 ≤ y ∨ y + 103 ≤ x) (hf : FRm x V V' G G') (h : OB y Y V G N a t ha) : OB y Y V' G' N a t ha := by
  obtain ⟨⟨⟨a0, a1, a2, a3, a4⟩, b1, ⟨c1, c2, c3⟩, d1, e1⟩, ⟨q, hq, hG, ht, h5, hH⟩, hm, hs⟩ := h
  have gv : ∀ b, y ≤ b → b < y + 103 → V' b = V b := fun b h1 h2 => hf.1 b (by omega)
  have gg : ∀ b, y ≤ b → b < y + 103 → G' b = G b := fun b h1 h2 => hf.2 b (by omega)
  refine ⟨⟨⟨a0, by rw [gg y (by omega) (by omega)]; exact a1, by rw [gg y (by omega) (by omega)]; exact a2, by rw [gg y (by omega) (by omega)]; exact a3, by rw [gg y (by omega) (by omega)]; exact a4⟩, b1, ⟨PT_same (gg _ (by omega) (by omega)) (gg _ (by omega) (by omega)) c1, PT_same (gg _ (by omega) (by omega)) (gg _ (by omega) (by omega)) c2, fun k hk => PT_same (gg _ (by omega) (by omega)) (gg _ (by omega) (by omega)) (c3 k hk)⟩, d1, e1⟩, ⟨q, hq, ⟨by rw [gg y (by omega) (by omega)]; exact hG.1, fun j hj => by rw [gg _ (by omega) (by omega)]; exact hG.2 j hj⟩, ht, by rw [gv y (by omega) (by omega)]; exact h5, fun j hj => ?_⟩, PM_bl hs.1.1 (fun j hj => gv _ (by omega) (by omega)) hm, hs⟩
  obtain ⟨N', p, s⟩ := hH j hj
  have := hq.1 j (by omega)
  exact ⟨N', PM_bl s.1.1 (fun i hi => gv _ (by omega) (by omega)) p, s⟩
theorem FRm_tr {x : Nat} {U V W : mV} {F G H : mG} (h1 : FRm x U V F G) (h2 : FRm x V W G H) : FRm x U W F H := ⟨fun b hb => (h2.1 b hb).trans (h1.1 b hb), fun b hb => (h2.2 b hb).trans (h1.2 b hb)⟩
theorem FRm_rf (x : Nat) (V : mV) (G : mG) : FRm x V V G G := ⟨fun _ _ => rfl, fun _ _ => rfl⟩
/-- what a change leaves: the answer, the object behind it; what P says of the array; the state ahead of it on the history's top -/
def RES (x : Nat) (Y : mY) (V : mV) (G : mG) (a : Nat → Int32) (r : Int32) (P : Nat → (Nat → Int32) → Prop) (cf : Option (Int32 × mV × mG)) : Prop := ∃ V1 G1 t' ha' N' a', cf = some (r, V1, G1) ∧ OB x Y V1 G1 N' a' t' ha' ∧ FRm x V V1 G G1 ∧ P N' a' ∧ (0 ≤ r → 0 < t' ∧ ha' (t' - 1) = a)
section CLS
variable {Y : mY} {G : mG} {x : Nat}
theorem CHG {V : mV} {N : Nat} {a : Nat → Int32} {t : Nat} {ha : Nat → Nat → Int32} (hO : OB x Y V G N a t ha) (cls : mV → mG → Option (Int32 × mV)) {r : Int32} {P : Nat → (Nat → Int32) → Prop} (hcls : ∀ V : mV, PM V (x + 1) N a → ∃ V' N' a', cls V G = some (r, V') ∧ PM V' (x + 1) N' a' ∧ SI N' a' ∧ sO V' V (x + 1) ∧ ((r < -1000000 ∧ V' = V ∧ a' = a ∧ N' = N) ∨ 0 ≤ r) ∧ P N' a') :
    RES x Y V G a r P ((G x 4).bind fun r2 => (G x 0).bind fun r3 => if Y.1 r2 = 2 then (cf_X2_copyFrom Y V G r2 r3).bind fun x5 => if Y.1 r3 = 2 then (cls x5 G).bind fun x7 => (cf_X3_recorded Y x7.2 G x x7.1).bind fun x8 => some (x8.1, x8.2.1, x8.2.2) else none else none) := by
  obtain ⟨hX, ⟨q, hq, hG, ht, h5, hH⟩, hm, hs'⟩ := hO
  obtain ⟨⟨a0, a1, a2, a3, a4⟩, ⟨b1, b2⟩, ⟨c1, c2, c3⟩, d1, -⟩ := id hX
  have hN := hs'.1.1
  have q4 := hq.1 4 (by omega)
  have cB := c3 _ q4
  obtain ⟨V1, e1, p1, o1⟩ := C_copy (g := x + 33 + 14 * q 4) (h := x + 1) cB c1 (by omega) hs'.1 hm
  have n1 : PM V1 (x + 1) N a := PM_sO hN (by omega) o1 hm
  obtain ⟨V2, N', a', e2, p2, s2, o2, hr, hP⟩ := hcls V1 n1
  have l2 : ∀ b, ¬ (x + 1 ≤ b ∧ b < x + 15) → V2 b = V1 b := fun b hb => o2 b (by omega)
  have blk : ∀ j, j < 4 → ∀ i, i < 14 → V2 (x + 33 + 14 * q j + i) = V (x + 33 + 14 * q j + i) := by
    intro j hj i hi
    have h1 := hq.1 j (by omega)
    have h2 : q j ≠ q 4 := fun e => by have := hq.2 j 4 (by omega) (by omega) e; omega
    rw [l2 _ (by omega), o1 _ (by omega)]
  have cl0 : ((G x 4).bind fun r2 => (G x 0).bind fun r3 => if Y.1 r2 = 2 then (cf_X2_copyFrom Y V G r2 r3).bind fun x5 => if Y.1 r3 = 2 then (cls x5 G).bind fun x7 => (cf_X3_recorded Y x7.2 G x x7.1).bind fun x8 => some (x8.1, x8.2.1, x8.2.2) else none else none) = (cf_X3_recorded Y V2 G x r).bind fun x8 => some (x8.1, x8.2.1, x8.2.2) := by
    rw [hG.1, Option.bind_some, a1, Option.bind_some, if_pos cB.1, e1, Option.bind_some, if_pos c1.1, e2, Option.bind_some]
  rw [cl0]
  have v2 : ∀ b, ¬ (x ≤ b ∧ b < x + 103) → V2 b = V b := fun b hb => by rw [l2 _ (by omega), o1 _ (by omega)]
  have h52 : V2 x 5 = nI t := by rw [l2 _ (by omega), o1 _ (by omega)]; exact h5
  rcases hr with ⟨hlt, ev, ea, en⟩ | hge
  · subst ev ea en
    have nge : ¬ 0 ≤ r := fun z => absurd (Int32.lt_of_lt_of_le hlt (show (-1000000 : Int32) ≤ 0 by decide)) (Int32.not_lt.mpr z)
    refine ⟨V2, G, t, ha, N', a', by rw [cf_X3_recorded, if_neg nge]; rfl, ⟨hX, ⟨q, hq, hG, ht, h52, fun j hj => ?_⟩, p2, s2⟩, ⟨v2, fun _ _ => rfl⟩, hP, fun z => absurd z nge⟩
    obtain ⟨Nj, pj, sj⟩ := hH j hj
    exact ⟨Nj, PM_bl sj.1.1 (fun i hi => blk j (by omega) i hi) pj, sj⟩
  · obtain ⟨V3, G3, q', e3, hX3, hG3, hq3, f5, f6, f7, f8, f9⟩ := C_recorded hX hq hG ht h52 hge
    have bl3 : ∀ j, j < 4 → ∀ i, i < 14 → V3 (x + 33 + 14 * q j + i) = V (x + 33 + 14 * q j + i) := by
      intro j hj i hi
      have h1 := hq.1 j (by omega)
      rw [f6 _ (by omega), blk j hj i hi]
    have bf3 : PM V3 (x + 33 + 14 * q 4) N a := PM_bl hN (fun i hi => by rw [f6 _ (by omega), l2 _ (by omega)]) p1
    have now3 : PM V3 (x + 1) N' a' := PM_bl s2.1.1 (fun i hi => f6 _ (by omega)) p2
    have fr : FRm x V V3 G G3 := ⟨fun b hb => by rw [f6 b (by omega), v2 b hb], fun b hb => f9 b (by omega) (by omega)⟩
    by_cases t4 : t < 4
    · obtain ⟨z1, z2⟩ := f7 t4
      rw [if_pos t4] at f5
      refine ⟨V3, G3, t + 1, fun j => if j = t then a else ha j, N', a', by rw [e3]; rfl, ⟨hX3, ⟨q', hq3, hG3, by omega, f5, fun j hj => ?_⟩, now3, s2⟩, fr, hP, fun _ => ⟨by omega, by simp⟩⟩
      dsimp only
      by_cases e : j = t
      · rw [if_pos e, e, z1]; exact ⟨N, bf3, hs'⟩
      · rw [if_neg e, z2 j (by omega)]
        obtain ⟨Nj, pj, sj⟩ := hH j (by omega)
        exact ⟨Nj, PM_bl sj.1.1 (bl3 j (by omega)) pj, sj⟩
    · obtain rfl : t = 4 := by omega
      have z := f8 rfl
      rw [if_neg t4] at f5
      refine ⟨V3, G3, 4, fun j => if j = 3 then a else ha (j + 1), N', a', by rw [e3]; rfl, ⟨hX3, ⟨q', hq3, hG3, by omega, f5, fun j hj => ?_⟩, now3, s2⟩, fr, hP, fun _ => ⟨by omega, rfl⟩⟩
      dsimp only
      rw [z j hj]
      by_cases e : j = 3
      · rw [if_pos e, e]; exact ⟨N, bf3, hs'⟩
      · rw [if_neg e]
        obtain ⟨Nj, pj, sj⟩ := hH (j + 1) (by omega)
        exact ⟨Nj, PM_bl sj.1.1 (bl3 (j + 1) (by omega)) pj, sj⟩
theorem P_undo {V : mV} {N : Nat} {a : Nat → Int32} {t : Nat} {ha : Nat → Nat → Int32} (hO : OB x Y V G N a t ha) (ht0 : 0 < t) : ∃ V1 N', cf_X3_undo Y V G x = some (nI (t - 1), V1) ∧ OB x Y V1 G N' (ha (t - 1)) (t - 1) ha ∧ FRm x V V1 G G ∧ t - 1 < 4 := by
  obtain ⟨hX, ⟨q, hq, hG, ht, h5, hH⟩, hm, hs'⟩ := hO
  obtain ⟨⟨a0, a1, a2, a3, a4⟩, ⟨b1, b2⟩, ⟨c1, c2, c3⟩, d1, -⟩ := id hX
  obtain ⟨u, rfl⟩ : ∃ u, t = u + 1 := ⟨t - 1, by omega⟩
  rw [Nat.add_sub_cancel]
  have gt : (0 : Int32) < nI (u + 1) := nI_lt (a := 0) (by omega) (by omega)
  have pr : nI (u + 1) - 1 = nI u := by rw [nI_succ, Int32.add_sub_cancel]
  have qu := hq.1 u (by omega)
  obtain ⟨Nj, pj, sj⟩ := hH u (by omega)
  have cB := c3 _ qu
  have blV : ∀ b, b ≠ x → up2 V x 5 (nI u) b = V b := fun b hb => up2_n _ _ _ hb
  obtain ⟨V1, e1, p1, o1⟩ := C_copy (V := up2 V x 5 (nI u)) (g := x + 1) (h := x + 33 + 14 * q u) c1 cB (by omega) sj.1 (PM_bl sj.1.1 (fun i hi => blV _ (by omega)) pj)
  have v1 : ∀ b, b ≠ x → ¬ (x + 1 ≤ b ∧ b < x + 15) → V1 b = V b := fun b h1 h2 => by rw [o1 b (by omega), blV b h1]
  have i3 : ¬ (nI u < 0 ∨ Y.2 (x + 29) ≤ (nI u).toNatClampNeg) := by rw [b2]; exact nx_in (by omega) (by decide)
  refine ⟨V1, Nj, ?_, ⟨hX, ⟨q, hq, hG, by omega, by rw [o1 x (by omega), up2_ss], fun j hj => ?_⟩, p1, sj⟩, ⟨fun b hb => v1 b (by omega) (by omega), fun _ _ => rfl⟩, by omega⟩
  · rw [cf_X3_undo, if_pos a0, h5, if_pos gt, a1, Option.bind_some, a3, Option.bind_some, if_pos (Or.inr b1), pr, up2_ss, if_pos i3, nI_clamp (show u < _ by omega), hG.2 u (by omega), Option.bind_some, if_pos c1.1, e1, Option.bind_some, o1 x (by omega), up2_ss]
  · obtain ⟨N2, p2, s2⟩ := hH j (by omega)
    have := hq.1 j (by omega)
    exact ⟨N2, PM_bl s2.1.1 (fun i hi => v1 _ (by omega) (by omega)) p2, s2⟩
end CLS
