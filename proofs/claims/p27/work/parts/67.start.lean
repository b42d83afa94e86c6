-- both objects at the start; from the entry
def lnT2 (k : Nat) : Nat := if k < 103 then lnT k else lnT (k - 103)
def RAW (x : Nat) (Y : mY) (V : mV) (G : mG) : Prop := (Y.1 x = 3 ∧ G x 0 = some (x + 1) ∧ G x 1 = some (x + 15) ∧ G x 2 = some (x + 29) ∧ G x 3 = some (x + 30)) ∧ (Y.1 (x + 29) = 8 ∧ Y.2 (x + 29) = 4) ∧ (PT Y G (x + 1) ∧ PT Y G (x + 15) ∧ ∀ k, k < 5 → PT Y G (x + 33 + 14 * k)) ∧ Y.1 (x + 30) = 1 ∧ GR x G q0_ ∧ P0 V (x + 1) ∧ V x 5 = 0
theorem RAW_tr {x : Nat} {Y Y' : mY} {V V' : mV} {G G' : mG} (hy : ∀ b, b < x + 103 → Y'.1 b = Y.1 b) (hl : Y'.2 = Y.2) (hV : ∀ b, b < x + 103 → V' b = V b) (hG : ∀ b, b < x + 103 → G' b = G b) (h : RAW x Y V G) : RAW x Y' V' G' := by
  obtain ⟨⟨a0, a1, a2, a3, a4⟩, ⟨b1, b2⟩, ⟨c1, c2, c3⟩, d1, ⟨g1, g2⟩, ⟨w3, w4, w5, w6, w7, w8, ws⟩, v5⟩ := h
  have pt : ∀ h, h + 14 ≤ x + 103 → PT Y G h → PT Y' G' h := fun h hh p => PT_eq (fun j hj => hy _ (by omega)) hl (hG _ (by omega)) (hG _ (by omega)) p
  refine ⟨⟨(hy _ (by omega)).trans a0, by rw [hG x (by omega)]; exact a1, by rw [hG x (by omega)]; exact a2, by rw [hG x (by omega)]; exact a3, by rw [hG x (by omega)]; exact a4⟩, ⟨(hy _ (by omega)).trans b1, by rw [hl]; exact b2⟩, ⟨pt _ (by omega) c1, pt _ (by omega) c2, fun k hk => pt _ (by omega) (c3 k hk)⟩, (hy _ (by omega)).trans d1, ⟨by rw [hG x (by omega)]; exact g1, fun j hj => by rw [hG _ (by omega)]; exact g2 j hj⟩, ⟨?_, ?_, ?_, ?_, ?_, ?_, fun k hk => ?_⟩, by rw [hV x (by omega)]; exact v5⟩
  · rw [hV _ (by omega)]; exact w3
  · rw [hV _ (by omega)]; exact w4
  · rw [hV _ (by omega)]; exact w5
  · rw [hV _ (by omega)]; exact w6
  · rw [hV _ (by omega)]; exact w7
  · rw [hV _ (by omega)]; exact w8
  · rw [hV _ (by omega), hV _ (by omega)]; exact ws k hk
theorem RAW_OB {x : Nat} {Y : mY} {V : mV} {G : mG} (h : RAW x Y V G) : OB x Y V G 0 a0_ 0 (fun _ => a0_) := by
  obtain ⟨a, b, c, d1, g, ⟨w3, w4, w5, w6, w7, w8, ws⟩, v5⟩ := h
  have st : ∀ k, k < 5 → a0_ (6 + k) = -1 ∧ a0_ (11 + k) = -1 := fun k hk => by
    unfold a0_
    rw [if_neg (by omega), if_neg (by omega), if_pos (by omega), if_neg (by omega), if_neg (by omega), if_pos (by omega)]
    exact ⟨rfl, rfl⟩
  refine ⟨⟨a, b, c, d1, trivial⟩, ⟨q0_, q0_p, g, by omega, v5, fun j hj => absurd hj (by omega)⟩, ⟨w3, w4, w5, w6, w7, w8, fun k hk => by rw [(ws k hk).1, (ws k hk).2, (st k hk).1, (st k hk).2]; exact ⟨rfl, rfl⟩, fun i hi => absurd hi (by omega)⟩, ⟨by omega, rfl, fun i hi => absurd hi (by omega)⟩, ⟨0, by omega, rfl, fun k hk => Or.inl (st k hk), fun i hi => absurd hi (by omega)⟩, ⟨56, by omega, rfl⟩, ⟨100, by omega, rfl⟩, fun i hi => absurd hi (by omega)⟩
theorem law_one {L : Nat} {xs : Nat → Int32} (hL : L ≤ 260) {x : Nat} {Y : mY} {V : mV} {G : mG} (hl : Y.2 = fun b => lnT2 (b - x)) : cf_L_law L xs x Y V G = some 1 := by
  have hLn1 : ∀ k, k < 103 → (fun b => lnT2 (b - x)) (x + k) = lnT k := fun k hk => by
    show lnT2 (x + k - x) = lnT k
    rw [Nat.add_sub_cancel_left, lnT2, if_pos hk]
  have hLn2 : ∀ k, k < 103 → (fun b => lnT2 (b - x)) (x + 103 + k) = lnT k := fun k hk => by
    show lnT2 (x + 103 + k - x) = lnT k
    rw [lnT2, if_neg (by omega)]; congr 1; omega
  obtain ⟨Y6, V6, G6, e6, f6, kx, ⟨x0, x1, x2, x3⟩, k29, ⟨p1, p2, pk⟩, o30, gr, w, v5, -, -⟩ := I3 (x := x) (Y := (va_up Y.1 x 3, Y.2)) (V := va_up V x (fun _ => 0)) (G := va_up G x (fun _ => none)) (va_up_s _ _ _) hLn1 hl
  have hl6 : Y6.2 = fun b => lnT2 (b - x) := f6.trans hl
  have r1 : RAW x Y6 V6 G6 := ⟨⟨kx, x0, x1, x2, x3⟩, ⟨k29, ln_at hLn1 (k := 29) hl6 (by omega) (by omega) rfl⟩, ⟨p1, p2, pk⟩, o30.1, gr, w, v5⟩
  obtain ⟨Y7, V7, G7, e7, f7, kx7, ⟨z0, z1, z2, z3⟩, k297, ⟨s1, s2, sk⟩, o307, gr7, w7, v57, -, ky, kg, kv⟩ := I3 (x := x + 103) (Y := (va_up Y6.1 (x + 103) 3, Y6.2)) (V := va_up V6 (x + 103) (fun _ => 0)) (G := va_up G6 (x + 103) (fun _ => none)) (va_up_s _ _ _) hLn2 hl6
  have hl7 : Y7.2 = fun b => lnT2 (b - x) := f7.trans hl6
  have r2 : RAW (x + 103) Y7 V7 G7 := ⟨⟨kx7, z0, z1, z2, z3⟩, ⟨k297, ln_at hLn2 (k := 29) hl7 (by omega) (by omega) rfl⟩, ⟨s1, s2, sk⟩, o307.1, gr7, w7, v57⟩
  have r1' : RAW x Y7 V7 G7 := RAW_tr (fun b hb => (ky b hb).trans (va_up_ne _ _ (by omega))) f7 (fun b hb => (kv b hb).trans (va_up_ne _ _ (by omega))) (fun b hb => (kg b hb).trans (va_up_ne _ _ (by omega))) r1
  rw [cf_L_law, if_pos (show 0 + 1 ≤ 210 by omega), if_pos (show 0 + 1 + 102 ≤ 210 by omega), e6, Option.bind_some]
  dsimp only
  rw [if_pos (show 0 + 1 + 102 + 1 ≤ 210 by omega), if_pos (show 0 + 1 + 102 + 1 + 102 ≤ 210 by omega), e7, Option.bind_some]
  exact L21 hL (Nat.le_refl _) 5 0 fuB V7 G7 a0_ a0_ 0 _ 0 _ (by omega) (fuB_gt (by omega)) (RAW_OB r1') (RAW_OB r2) ⟨fun _ _ _ => rfl, fun j hj => absurd hj (by omega)⟩ ⟨fun _ _ _ => rfl, fun j hj => absurd hj (by omega)⟩
theorem En_start {s : State} {args : Array Value} (hts : ∀ w ∈ lw_tbl, w.before args s = true) : ∃ D cy, En D cy s := by
  have hA : ∀ w ∈ lw_all, w.before args s = true := fun w hw => hts w (lw_all_tbl hw)
  obtain ⟨c0, i0, k0⟩ := u_known hA inX0 (hA _ q60)
  obtain ⟨c1, i1, k1⟩ := u_known hA inX1 (hA _ q174)
  obtain ⟨c2, i2, k2⟩ := u_known hA inX2 (hA _ q53)
  obtain ⟨c3, i3, k3⟩ := u_known hA inX3 (hA _ q45)
  obtain ⟨aC, kC, pC, f1, f2, f3⟩ := Cond.arrayClass_spec (hA _ q202)
  obtain ⟨aI, kI, pI, g1, g2, g3⟩ := Cond.arrayClass_spec (hA _ q134)
  have o0 : va_AO RX0 s := va_AO.of (hts (Cond.arrayOver (.object RX0)) (by decide +kernel))
  have o2 : va_AO RX2 s := va_AO.of (hts (Cond.arrayOver (.object RX2)) (by decide +kernel))
  obtain ⟨p0, a0, b0, h1, h2, h3, h4, h5⟩ := Cond.arrayOver_spec o0
  obtain ⟨p2, a2, b2, j1, j2, j3, j4, j5⟩ := Cond.arrayOver_spec o2
  refine ⟨(fun c => match c with | 0 => c0 | 1 => c1 | 2 => c2 | _ => c3, fun c => match c with | 0 => i0 | 1 => i1 | 2 => i2 | _ => i3), fun c => match c with | 0 => aC | 1 => aI | 2 => a0 | _ => a2, ⟨fun c q hq => ?_, fun k q hq => ?_⟩, fun w hw => ?_, o0, o2⟩
  · match c, hq with
    | 0, hq => cases hq; exact k0
    | 1, hq => cases hq; exact k1
    | 2, hq => cases hq; exact k2
    | 3, hq => cases hq; exact k3
    | n + 4, hq => cases hq
  · match k, hq with
    | 0, hq => cases hq; exact ⟨fun n z => ⟨(fun k h => by cases h), kC, f2, pC, f3⟩, f1⟩
    | 1, hq => cases hq; exact ⟨fun n z => ⟨(fun k h => by cases h), kI, g2, pI, g3⟩, g1⟩
    | 2, hq => cases hq; exact ⟨fun n z => ⟨(fun k h => by cases h), b0, h3, p0, h4⟩, ⟨b0, p0, h3, h4, h1, h5⟩⟩
    | 3, hq => cases hq; exact ⟨fun n z => ⟨(fun k h => by cases h), b2, j3, p2, j4⟩, ⟨b2, p2, j3, j4, j1, j5⟩⟩
    | n + 4, hq => cases hq
  · have hb := (List.mem_filter.mp hw).2
    have ht := hts w (List.mem_filter.mp hw).1
    refine va_Nw.of ?_ ht
    cases w <;> first | rfl | (exfalso; revert hb; simp [nw_b])
theorem whole_start {p : Program} {e : Env} {s : State} {m : MethodId} {below : List Frame} {meth : Method} {c : Code} (l : Launch) (hflags : l.flags = flags0) {b L : Nat} {xs : Nat → Int32} (hL : L ≤ 260) (C0 : lw_At p s m meth c b L xs) : W p l e room_1 s m #[Value.ref b] below meth c s.heap [] 0 0 (lw_Z below #[Value.ref b] s) (entryFrame m ([Value.ref b] : List Value).toArray 7) := by
  obtain ⟨hx, hb, hr, hml, hown, hts, hX, hbl, hlocks, -⟩ := C0
  obtain ⟨D, cy, hE⟩ := En_start hts
  have he := lv_entry [Value.ref b] (n := 7) (Nat.le_of_ble_eq_true rfl)
  rw [lg_entry_eq]
  exact law_walk (D := D) (cy := cy) (z := s.heap.size) (n := s.heap.size) (Y := (fun _ => 9, fun b => lnT2 (b - s.heap.size))) (V := fun _ _ => 0) (G := fun _ _ => none) hx hb hr hml hown (fun w hw => hts w (lw_all_tbl hw)) hlocks hE hX hbl (fun h : s.heap.size ≤ b => absurd hbl (Nat.not_lt.mpr h)) (Nat.le_refl _) (Nat.le_refl _) (Drawn.sameBut.refl s.drawn lw_cs) (law_one hL rfl) ⟨rfl, fun a h => absurd (show 9 < 9 from h) (by decide)⟩ he
