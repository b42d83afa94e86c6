-- a new condition
def zr (k : Nat) (r : Nat → Int32) : Nat → Int32 := fun q => if q < k then 0 else r q
theorem zr_step (k : Nat) (r : Nat → Int32) : va_up (zr k r) k 0 = zr (k + 1) r := by
  funext q
  by_cases e : q = k
  · subst e; rw [va_up_s]; simp [zr]
  · rw [un_ _ _ e]; simp only [zr]
    by_cases l : q < k
    · rw [if_pos l, if_pos (by omega)]
    · rw [if_neg l, if_neg (by omega)]
theorem zr_0 (r : Nat → Int32) : zr 0 r = r := by funext q; simp [zr]
def nrow (r : Nat → Int32) (b1 b2 b3 b4 : Int32) : Nat → Int32 := va_up (va_up (va_up (va_up (va_up (zr 13 r) 0 b1) 1 b2) 2 b3) 3 b4) 10 (-1)
theorem nrow_tl (r : Nat → Int32) (b1 b2 b3 b4 : Int32) : tl (nrow r b1 b2 b3 b4) r := tl_up (tl_up (tl_up (tl_up (tl_up (fun k hk => by simp [zr]; omega) (by omega) _) (by omega) _) (by omega) _) (by omega) _) (by omega) _
theorem nrow_cut (r : Nat → Int32) (b1 b2 b3 b4 : Int32) {k : Nat} (h : k < 13) : cut (nrow r b1 b2 b3 b4) k = va_up (va_up (va_up (va_up (va_up (fun _ => 0) 0 b1) 1 b2) 2 b3) 3 b4) 10 (-1) k := by
  rw [cut_lt _ h]
  unfold nrow va_up zr
  simp [h]

