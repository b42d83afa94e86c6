-- THE WORDS in one list; what of them may be handed on; the nest's links apart
def lw_all : List Cond := lw_tbl.filter goodWord
theorem lw_all_tbl {w : Cond} (h : w ∈ lw_all) : w ∈ lw_tbl := (List.mem_filter.mp h).1
theorem mq_ (i : Nat) {w : Cond} (h : lw_tbl[i]? = some w) (hg : goodWord w = true) : w ∈ lw_all := List.mem_filter.mpr ⟨List.mem_of_getElem? h, hg⟩
theorem lw_good {w : Cond} (h : w ∈ lw_all) : (w.onTables && w.keeps) = true ∨ ∃ ty, w = .arrayClass ty := good_of_word (List.mem_filter.mp h).2
theorem gi_ws {y : MethodName} {c : ByteArray} {n : Nat} {ret : Option FieldType} (h : Cond.code y c n ret ∈ lw_all) : GoodIn lw_all (Cond.code y c n ret :: lw_all) := by
  intro w hw
  rcases List.mem_cons.mp hw with rfl | hw
  · exact ⟨h, lw_good h⟩
  · exact ⟨hw, lw_good hw⟩
def nw_b : Cond → Bool
  | .fieldLinkNest .. => true
  | .methodLinkNest .. => true
  | _ => false
def nw_all : List Cond := lw_tbl.filter nw_b
theorem nq_ (i : Nat) {w : Cond} (h : lw_tbl[i]? = some w) (hg : nw_b w = true) : w ∈ nw_all := List.mem_filter.mpr ⟨List.mem_of_getElem? h, hg⟩
def En_N (U : State) : Prop := ∀ w ∈ nw_all, va_Nw w U
theorem En_N.warm {s U : State} (hW : s.WarmedH U.vm) (h : En_N s) : En_N U := by
  intro w hw
  have hb := (List.mem_filter.mp hw).2
  have h1 := h w hw
  cases w <;> first | exact va_Nw.warmF hW h1 | exact va_Nw.warmM hW h1 | (exfalso; revert hb; simp [nw_b])
theorem En_N.same {s U : State} (hv : s.vm = U.vm) (h : En_N s) : En_N U := by
  intro w hw
  have hb := (List.mem_filter.mp hw).2
  have h1 := h w hw
  cases w <;> first | exact va_Nw.same rfl hv h1 | (exfalso; revert hb; simp [nw_b])
/-- what holds of the tables wherever the walk stands: classes, array classes, the nest's links, arrays over classes -/
def En (D : va_G) (cy : Nat → ClassId) (U : State) : Prop := va_K D vwCl [(cy 0, .char), (cy 1, .int), (cy 2, .object RX0), (cy 3, .object RX2)] U ∧ En_N U ∧ va_AO RX0 U ∧ va_AO RX2 U
theorem En.warm {D : va_G} {cy : Nat → ClassId} {s U : State} (hW : s.WarmedH U.vm) (h : En D cy s) : En D cy U := ⟨va_K.moved hW.alike h.1, h.2.1.warm hW, h.2.2.1.moved hW.alike, h.2.2.2.moved hW.alike⟩
theorem En.calling {D : va_G} {cy : Nat → ClassId} {U : State} {g : JFrame} {mk : MethodId} {a : Array Value} (h : En D cy U) : En D cy (U.calling g mk a) := ⟨va_K.moved (u := U) (U := U.calling g mk a) (Vm.Alike.refl U.vm) h.1, En_N.same (s := U) (U := U.calling g mk a) rfl h.2.1, va_AO.moved (u := U) (U := U.calling g mk a) (Vm.Alike.refl U.vm) h.2.2.1, va_AO.moved (u := U) (U := U.calling g mk a) (Vm.Alike.refl U.vm) h.2.2.2⟩
-- THE MEMORY: ints by address and place, references by address and place; the kind and the length of what lies at an address
abbrev mV : Type := Nat → Nat → Int32
abbrev mG : Type := Nat → Nat → Option Nat
abbrev mY : Type := (Nat → Nat) × (Nat → Nat)
def nfd : Nat → Nat
  | 0 => 14
  | 1 => 7
  | 2 => 9
  | 3 => 6
  | _ => 13
def rfd : Nat → Nat → Bool
  | 0, _ => false
  | 1, j => decide (j < 2)
  | 2, j => decide (j < 3)
  | 3, j => decide (j < 5)
  | _, j => decide (j < 4) || decide (j = 5) || decide (j = 9)
def fce (k : Nat) (V : Nat → Int32) (G : Nat → Option Nat) : List Value := (List.range (nfd k)).map (fun j => if rfd k j then va_rf (G j) else .int (V j))
def enc (Y : mY) (cy : Nat → ClassId) (V : mV) (G : mG) (a : Nat) : va_E :=
  if Y.1 a < 5 then .inr (Y.1 a, fce (Y.1 a) (V a) (G a))
  else if Y.1 a < 7 then .inl (cy (Y.1 a - 5), Y.2 a, .inl (V a))
  else .inl (cy (Y.1 a - 5), Y.2 a, .inr (.inr (.inr (.inr (G a)))))
theorem enc_o {Y : mY} {cy : Nat → ClassId} {V : mV} {G : mG} {a ci : Nat} (h : Y.1 a = ci) (hc : ci < 5) : enc Y cy V G a = .inr (ci, fce ci (V a) (G a)) := by
  subst h; simp [enc, hc]
theorem enc_i {Y : mY} {cy : Nat → ClassId} {V : mV} {G : mG} {a ci : Nat} (h : Y.1 a = ci) (h1 : 5 ≤ ci) (h2 : ci < 7) : enc Y cy V G a = .inl (cy (ci - 5), Y.2 a, .inl (V a)) := by
  subst h; simp [enc, h2, Nat.not_lt.mpr h1]
theorem enc_q {Y : mY} {cy : Nat → ClassId} {V : mV} {G : mG} {a ci : Nat} (h : Y.1 a = ci) (h1 : 7 ≤ ci) : enc Y cy V G a = .inl (cy (ci - 5), Y.2 a, .inr (.inr (.inr (.inr (G a))))) := by
  subst h; rw [enc, if_neg (by omega), if_neg (by omega)]
theorem enc_cong {Y : mY} {cy : Nat → ClassId} {V V' : mV} {G G' : mG} {a : Nat} (h1 : V' a = V a) (h2 : G' a = G a) : enc Y cy V' G' a = enc Y cy V G a := by
  simp [enc, h1, h2]
/-- the heap holds the memory: n cells in all, those that have a kind lie from z on -/
def Wd (Y : mY) (cy : Nat → ClassId) (D : va_G) (z n : Nat) (V : mV) (G : mG) (H : Heap) : Prop := H.size = n ∧ ∀ a, Y.1 a < 9 → z ≤ a ∧ va_at D vwCl (a, enc Y cy V G a) H
abbrev zA (z : Nat) : Nat → Prop := fun q => z ≤ q
theorem wd_lt {Y : mY} {cy : Nat → ClassId} {D : va_G} {z n : Nat} {V : mV} {G : mG} {H : Heap} (h : Wd Y cy D z n V G H) {a : Nat} (ha : Y.1 a < 9) : a < n := by
  have := (h.2 a ha).2.lt
  rw [← h.1]; exact this
theorem wd_put {Y : mY} {cy : Nat → ClassId} {D : va_G} {z n : Nat} {V V' : mV} {G G' : mG} {H H1 : Heap} (h : Wd Y cy D z n V G H) {a : Nat} (hz : H1.size = H.size) (oq : ∀ q : Nat, q ≠ a → H1[q]? = H[q]?) (hV : ∀ b, b ≠ a → V' b = V b) (hG : ∀ b, b ≠ a → G' b = G b) (ha : va_at D vwCl (a, enc Y cy V' G' a) H1) : Wd Y cy D z n V' G' H1 := by
  refine ⟨hz.trans h.1, fun b hb => ?_⟩
  by_cases e : b = a
  · subst e; exact ⟨(h.2 b hb).1, ha⟩
  · refine ⟨(h.2 b hb).1, ?_⟩
    rw [enc_cong (hV b e) (hG b e)]
    exact va_at.kept (h.2 b hb).2 (oq b e)
theorem va_P1 {D : va_G} {cl : List vw_C} {q : Nat × va_E} {H : Heap} (h : va_at D cl q H) : va_P D cl [q] H := by
  intro k q' hk
  have hz : k < 1 := (List.getElem?_eq_some_iff.mp hk).1
  rw [show k = 0 by omega] at hk
  cases hk
  exact h
theorem va_up_s {α : Type} (f : Nat → α) (k : Nat) (v : α) : va_up f k v k = v := by simp [va_up]
theorem va_up_o {α : Type} (f : Nat → α) (k : Nat) (v : α) : ∀ b, b ≠ k → va_up f k v b = f b := fun b h => va_up_ne f v h
/-- one place of the memory -/
def up2 {α : Type} (f : Nat → Nat → α) (a k : Nat) (v : α) : Nat → Nat → α := va_up f a (va_up (f a) k v)
theorem up2_s {α : Type} (f : Nat → Nat → α) (a k : Nat) (v : α) : up2 f a k v a = va_up (f a) k v := va_up_s _ _ _
theorem up2_o {α : Type} (f : Nat → Nat → α) (a k : Nat) (v : α) : ∀ b, b ≠ a → up2 f a k v b = f b := va_up_o _ _ _
theorem fce_seti {ci k : Nat} {V : Nat → Int32} {G : Nat → Option Nat} (hr : rfd ci k = false) (x : Int32) : (fce ci V G).set k (.int x) = fce ci (va_up V k x) G := by
  refine List.ext_getElem? (fun j => ?_)
  rw [List.getElem?_set]
  simp only [fce, List.getElem?_map, List.getElem?_range, List.length_map, List.length_range]
  by_cases hj : k = j
  · subst hj
    by_cases hn : k < nfd ci
    · simp [hn, hr, va_up]
    · simp [hn]
  · simp only [hj, if_false]
    cases h : (List.range (nfd ci))[j]? with
    | none => rfl
    | some i =>
      have : i = j := by
        have h2 := List.getElem?_eq_some_iff.mp h
        obtain ⟨h3, h4⟩ := h2
        simpa using h4.symm
      subst this
      simp [va_up, Ne.symm hj]
theorem fce_setr {ci k : Nat} {V : Nat → Int32} {G : Nat → Option Nat} (hr : rfd ci k = true) (x : Option Nat) : (fce ci V G).set k (va_rf x) = fce ci V (va_up G k x) := by
  refine List.ext_getElem? (fun j => ?_)
  rw [List.getElem?_set]
  simp only [fce, List.getElem?_map, List.getElem?_range, List.length_map, List.length_range]
  by_cases hj : k = j
  · subst hj
    by_cases hn : k < nfd ci
    · simp [hn, hr, va_up]
    · simp [hn]
  · simp only [hj, if_false]
    cases h : (List.range (nfd ci))[j]? with
    | none => rfl
    | some i =>
      have : i = j := by
        have h2 := List.getElem?_eq_some_iff.mp h
        obtain ⟨h3, h4⟩ := h2
        simpa using h4.symm
      subst this
      simp [va_up, Ne.symm hj]
theorem fce_len (ci : Nat) (V : Nat → Int32) (G : Nat → Option Nat) : (fce ci V G).length = nfd ci := by simp [fce]
