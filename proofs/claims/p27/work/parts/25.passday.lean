-- the reference's day
def rowsP (i : Nat) (b a : Nat → Int32) (f : Nat → Nat → Int32) : Prop := ∀ j, j < 10 → rc b j = if j < i then f j else rc a j
theorem rowsP_0 (a : Nat → Int32) (f : Nat → Nat → Int32) : rowsP 0 a a f := fun j _ => by rw [if_neg (by omega)]
theorem rowsP_step {b b' a : Nat → Int32} {f : Nat → Nat → Int32} {i : Nat} (h : rowsP i b a f) (h' : ∀ j, j < 10 → rc b' j = if j = i then f i else rc b j) : rowsP (i + 1) b' a f := by
  intro j hj
  rw [h' j hj]
  by_cases e : j = i
  · subst e; rw [if_pos rfl, if_pos (by omega)]
  · rw [if_neg e, h j hj]
    by_cases e2 : j < i
    · rw [if_pos e2, if_pos (by omega)]
    · rw [if_neg e2, if_neg (by omega)]
theorem rowsP_stp {b b' a : Nat → Int32} {f : Nat → Nat → Int32} {i : Nat} (h : rowsP i b a f) (hi : rc b' i = f i) (ho : ∀ j, j ≠ i → rc b' j = rc b j) : rowsP (i + 1) b' a f :=
  rowsP_step h (fun j _ => by
    by_cases e : j = i
    · subst e; rw [if_pos rfl, hi]
    · rw [if_neg e, ho j e])
theorem rc_so {a r : Nat → Int32} {i : Nat} (ht : tl r (ro a i)) (j : Nat) : rc (so a i r) j = if j = i then cut r else rc a j := by
  by_cases e : j = i
  · subst e; rw [if_pos rfl, rc_same]
  · rw [if_neg e, rc_other e ht]
section MOD
variable {Y : mY} {G : mG} {m : Nat}
/-- a row behind a day -/
def rday (a r : Nat → Int32) : Nat → Int32 :=
  let r1 := rrun a (rwait (a 2) r)
  if r 8 = 1 ∧ r1 8 = 1 then rage (a 3) r1 else r1
/-- the array behind a day, of N conditions -/
def dayP (N : Nat) (a b : Nat → Int32) : Prop := b 0 = a 0 + 1 ∧ b 4 = a 4 + sm (fun j => bi (rbr a (rwait (a 2) (rc a j)))) N ∧ b 5 = a 5 + sm (fun j => wInc (a 2) (rc a j)) N ∧ (∀ j, j < 16 → j ≠ 0 → j ≠ 4 → j ≠ 5 → b j = a j) ∧ rowsP N b a (fun j => rday a (rc a j))
end MOD

