-- small rows that the walks use
theorem og {g : Prop} [Decidable g] {α : Type} {t : Option α} {r : α} (h : (if g then t else none) = some r) : g ∧ t = some r := by
  by_cases q : g
  · rw [if_pos q] at h; exact ⟨q, h⟩
  · rw [if_neg q] at h; cases h
theorem ob {α β : Type} {o : Option α} {f : α → Option β} {r : β} (h : o.bind f = some r) : ∃ x, o = some x ∧ f x = some r := by
  cases o with
  | none => cases h
  | some x => exact ⟨x, rfl, h⟩
def fuB : Nat := 100000
def sw_off (dflt lo hi : Int) (offs : Array Int) (x : Int) : Option Int := if x < lo ∨ hi < x then some dflt else offs[(x - lo).toNat]?
section WSW
variable {p : Program} {l : Launch} {e : Env} {R : Room} {s : State} {m : MethodId} {args : Array Value} {below : List Frame} {meth : Method} {c : Code} {H : Heap} {locs : List Loc} {cells slots : Nat} {Q : State → Prop} {cc : ByteArray} {pc : Nat} {ls : Array Slot} {rest : List Value}
theorem wk_tsw (hx : p.tables.exec = Jvm.exec) (hb : c.code = cc) {dflt lo hi : Int} {offs : Array Int} {len : Nat} {x : Int32} {off : Int} {tgt : Nat} (hdg : decode cc pc = .ok (.tableswitch dflt lo hi offs, len)) (ho : sw_off dflt lo hi offs x.toInt = some off) (ht : (pc : Int) + off = (tgt : Int)) (k : W p l e R s m args below meth c H locs cells slots Q (F0 m tgt ls rest)) : W p l e R s m args below meth c H locs cells slots Q (F0 m pc ls (.int x :: rest)) := by
  unfold sw_off at ho
  by_cases h : x.toInt < lo ∨ hi < x.toInt
  · rw [if_pos h] at ho
    cases ho
    exact lv_tableOut hx hb hdg h ht k
  · rw [if_neg h] at ho
    exact lv_tableIn hx hb hdg (fun q => h (Or.inl q)) (fun q => h (Or.inr q)) ho ht k
end WSW
theorem inX0 : ∀ w ∈ u_ws RX0 TX0 14, w ∈ lw_all := by decide +kernel
theorem hfX0 : ∀ j, j < 14 → defaultValue (tyX0 j) = vp_V (fce 0 (fun _ => 0) (fun _ => none)) j := by
  intro j hj
  rcases (show j = 0 ∨ j = 1 ∨ j = 2 ∨ j = 3 ∨ j = 4 ∨ j = 5 ∨ j = 6 ∨ j = 7 ∨ j = 8 ∨ j = 9 ∨ j = 10 ∨ j = 11 ∨ j = 12 ∨ j = 13 by omega) with rfl | rfl | rfl | rfl | rfl | rfl | rfl | rfl | rfl | rfl | rfl | rfl | rfl | rfl <;> rfl
theorem inX1 : ∀ w ∈ u_ws RX1 TX1 7, w ∈ lw_all := by decide +kernel
theorem hfX1 : ∀ j, j < 7 → defaultValue (tyX1 j) = vp_V (fce 1 (fun _ => 0) (fun _ => none)) j := by
  intro j hj
  rcases (show j = 0 ∨ j = 1 ∨ j = 2 ∨ j = 3 ∨ j = 4 ∨ j = 5 ∨ j = 6 by omega) with rfl | rfl | rfl | rfl | rfl | rfl | rfl <;> rfl
theorem inX2 : ∀ w ∈ u_ws RX2 TX2 9, w ∈ lw_all := by decide +kernel
theorem hfX2 : ∀ j, j < 9 → defaultValue (tyX2 j) = vp_V (fce 2 (fun _ => 0) (fun _ => none)) j := by
  intro j hj
  rcases (show j = 0 ∨ j = 1 ∨ j = 2 ∨ j = 3 ∨ j = 4 ∨ j = 5 ∨ j = 6 ∨ j = 7 ∨ j = 8 by omega) with rfl | rfl | rfl | rfl | rfl | rfl | rfl | rfl | rfl <;> rfl
theorem inX3 : ∀ w ∈ u_ws RX3 TX3 6, w ∈ lw_all := by decide +kernel
theorem hfX3 : ∀ j, j < 6 → defaultValue (tyX3 j) = vp_V (fce 3 (fun _ => 0) (fun _ => none)) j := by
  intro j hj
  rcases (show j = 0 ∨ j = 1 ∨ j = 2 ∨ j = 3 ∨ j = 4 ∨ j = 5 by omega) with rfl | rfl | rfl | rfl | rfl | rfl <;> rfl
