-- from the entry
theorem En_start {s : State} {args : Array Value} (hts : ∀ w ∈ lw_tbl, w.before args s = true) : ∃ D cy, En D cy s := by
  have hA : ∀ w ∈ lw_all, w.before args s = true := fun w hw => hts w (lw_all_tbl hw)
  obtain ⟨c0, i0, k0⟩ := u_known hA inX0 (hA _ q108)
  obtain ⟨c1, i1, k1⟩ := u_known hA inX1 (hA _ q222)
  obtain ⟨c2, i2, k2⟩ := u_known hA inX2 (hA _ q101)
  obtain ⟨c3, i3, k3⟩ := u_known hA inX3 (hA _ q93)
  obtain ⟨c4, i4, k4⟩ := u_known hA inX4 (hA _ q603)
  obtain ⟨aC, kC, pC, f1, f2, f3⟩ := Cond.arrayClass_spec (hA _ q253)
  obtain ⟨aI, kI, pI, g1, g2, g3⟩ := Cond.arrayClass_spec (hA _ q182)
  have o0 : va_AO RX0 s := va_AO.of (hts (Cond.arrayOver (.object RX0)) (by decide +kernel))
  have o2 : va_AO RX2 s := va_AO.of (hts (Cond.arrayOver (.object RX2)) (by decide +kernel))
  obtain ⟨p0, a0, b0, h1, h2, h3, h4, h5⟩ := Cond.arrayOver_spec o0
  obtain ⟨p2, a2, b2, j1, j2, j3, j4, j5⟩ := Cond.arrayOver_spec o2
  refine ⟨(fun c => match c with | 0 => c0 | 1 => c1 | 2 => c2 | 3 => c3 | _ => c4, fun c => match c with | 0 => i0 | 1 => i1 | 2 => i2 | 3 => i3 | _ => i4), fun c => match c with | 0 => aC | 1 => aI | 2 => a0 | _ => a2, ⟨fun c q hq => ?_, fun k q hq => ?_⟩, fun w hw => ?_, o0, o2⟩
  · match c, hq with
    | 0, hq => cases hq; exact k0
    | 1, hq => cases hq; exact k1
    | 2, hq => cases hq; exact k2
    | 3, hq => cases hq; exact k3
    | 4, hq => cases hq; exact k4
    | n + 5, hq => cases hq
  · match k, hq with
    | 0, hq => cases hq; exact ⟨fun n z => ⟨(fun k h => by cases h), kC, f2, pC, f3⟩, f1⟩
    | 1, hq => cases hq; exact ⟨fun n z => ⟨(fun k h => by cases h), kI, g2, pI, g3⟩, g1⟩
    | 2, hq => cases hq; exact ⟨fun n z => ⟨(fun k h => by cases h), b0, h3, p0, h4⟩, ⟨b0, p0, h3, h4, h1, h5⟩⟩
    | 3, hq => cases hq; exact ⟨fun n z => ⟨(fun k h => by cases h), b2, j3, p2, j4⟩, ⟨b2, p2, j3, j4, j1, j5⟩⟩
    | n + 4, hq => cases hq
  · have hb := (List.mem_filter.mp hw).2
    have ht := hts w (List.mem_filter.mp hw).1
    refine va_Nw.of ?_ ht
    cases w <;> first | rfl | (exfalso; revert hb; simp [nw_b])
theorem whole_start {p : Program} {e : Env} {s : State} {m : MethodId} {below : List Frame} {meth : Method} {c : Code} (l : Launch) (hflags : l.flags = flags0) {b L : Nat} {xs : Nat → Int32} (hL : L ≤ 2560) (C0 : lw_At p s m meth c b L xs) : W p l e room_1 s m #[Value.ref b] below meth c s.heap [] 0 0 (lw_Z below #[Value.ref b] s) (entryFrame m ([Value.ref b] : List Value).toArray 4) := by
  obtain ⟨hx, hb, hr, hml, hown, hts, hX, hbl, hlocks, -⟩ := C0
  obtain ⟨D, cy, hE⟩ := En_start hts
  have he := lv_entry [Value.ref b] (n := 4) (Nat.le_of_ble_eq_true rfl)
  rw [lg_entry_eq]
  exact law_walk (D := D) (cy := cy) (z := s.heap.size) (n := s.heap.size) (Y := (fun _ => 9, fun b => lnT (b - s.heap.size))) (V := fun _ _ => 0) (G := fun _ _ => none) hx hb hr hml hown (fun w hw => hts w (lw_all_tbl hw)) hlocks hE hX hbl (fun h : s.heap.size ≤ b => absurd hbl (Nat.not_lt.mpr h)) (Nat.le_refl _) (Nat.le_refl _) (Drawn.sameBut.refl s.drawn lw_cs) (law_one hL rfl) ⟨rfl, fun a h => absurd (show 9 < 9 from h) (by decide)⟩ he
