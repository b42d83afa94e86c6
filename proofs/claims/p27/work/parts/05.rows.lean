-- ROWS over the memory: reading, writing, making
section WK
variable {p : Program} {l : Launch} {e : Env} {R : Room} {s : State} {m : MethodId} {args : Array Value} {below : List Frame} {meth : Method} {c : Code} {H : Heap} {locs : List Loc} {cells slots : Nat} {Q : State → Prop}
variable {cc : ByteArray} {pc : Nat} {ls : Array Slot} {rest : List Value} {D : va_G} {cy : Nat → ClassId} {z n a : Nat} {Y : mY} {V : mV} {G : mG} {H0 : Heap}
theorem wk_get (hx : p.tables.exec = Jvm.exec) (hb : c.code = cc) (hts : ∀ w ∈ lw_all, w.before args s = true) {own C : String} {T : u_T} {N ci k index : Nat} (hown : s.vm.findClass own = some m.cls) (hE : En D cy s) (hW : Wd Y cy D z n V G H) (hc : vwCl[ci]? = some (C, T, N)) (hin : ∀ w ∈ u_ws C T N, w ∈ lw_all) (hk : k < N) (hl : Cond.fieldLink own index C (T k).2.1 (T k).2.2.1 ∈ lw_all) (hT : (T k).1 = C) (hci : ci < 5) {v : Value} (hv : (fce ci (V a) (G a))[k]? = some v) (hK : Y.1 a = ci) (hdg : decode cc pc = .ok (.getfield index, 3))
    (kk : W p l e R s m args below meth c H locs cells slots Q (F0 m (pc + 3) ls (v :: rest))) : W p l e R s m args below meth c H locs cells slots Q (F0 m pc ls (.ref a :: rest)) := by
  have h1 := (hW.2 a (by omega)).2
  rw [enc_o hK hci] at h1
  exact va_get hx hb hts hin hown hE.1 (va_P1 h1) 0 rfl hc k hk (hts _ hl) (fun x h => by rw [hT] at h; exact h) hv hdg kk
theorem wk_getN (hx : p.tables.exec = Jvm.exec) (hb : c.code = cc) (hts : ∀ w ∈ lw_all, w.before args s = true) {own C host : String} {T : u_T} {N ci k index : Nat} (hown : s.vm.findClass own = some m.cls) (hE : En D cy s) (hW : Wd Y cy D z n V G H) (hc : vwCl[ci]? = some (C, T, N)) (hin : ∀ w ∈ u_ws C T N, w ∈ lw_all) (hk : k < N) (hl : Cond.fieldLinkNest own index C (T k).2.1 (T k).2.2.1 host ∈ nw_all) (hT : (T k).1 = C) (hci : ci < 5) {v : Value} (hv : (fce ci (V a) (G a))[k]? = some v) (hK : Y.1 a = ci) (hdg : decode cc pc = .ok (.getfield index, 3))
    (kk : W p l e R s m args below meth c H locs cells slots Q (F0 m (pc + 3) ls (v :: rest))) : W p l e R s m args below meth c H locs cells slots Q (F0 m pc ls (.ref a :: rest)) := by
  have h1 := (hW.2 a (by omega)).2
  rw [enc_o hK hci] at h1
  exact va_getN hx hb hts hin hown hE.1 (va_P1 h1) 0 rfl hc k hk (va_Nw.use rfl (hE.2.1 _ hl)) (fun x h => by rw [hT] at h; exact h) hv hdg kk
/-- behind a write into the field k of the object a -/
theorem wk_putat {C : String} {T : u_T} {N ci k : Nat} {own : String} {Ts : List Cond} (hts : ∀ w ∈ Ts, w.before args s = true) (hin : ∀ w ∈ u_ws C T N, w ∈ Ts) (ty0 : Nat → FieldType) (hty : ∀ k, k < N → parseFieldDescriptor (T k).2.2.1 = some (ty0 k)) (hnm : ∀ a, a < N → ∀ b, b < N → a ≠ b → (T a).2.1 ≠ (T b).2.1) (hK : va_K D vwCl [(cy 0, .char), (cy 1, .int), (cy 2, .object RX0), (cy 3, .object RX2)] s) (hc : vwCl[ci]? = some (C, T, N)) (hk : k < N) {fs : List Value} {v : Value} {cell : Cell} (hlen : k < fs.length) (q2 : cell.cls = D.1 ci) (q3 : cell.vm = .none) (q4 : ∀ k, k < N → cell.slots[D.2 ci k]? = some (vp_V fs k)) {H1 : Heap} (e1 : H1[a]? = some (cell.setSlot (D.2 ci k) v)) : va_at D vwCl (a, .inr (ci, fs.set k v)) H1 := by
  have hap := va_apart (own := own) hts hin ty0 hty hnm hK hc
  exact ⟨_, hc, t_OB.to (V := updV (vp_V fs) k v) ⟨_, e1, q2, q3, t_set q4 hap hk v⟩ (fun j _ => vp_updV_set hlen v j)⟩
theorem wk_put (hx : p.tables.exec = Jvm.exec) (hb : c.code = cc) (hts : ∀ w ∈ lw_all, w.before args s = true) {own C : String} {T : u_T} {N ci k index : Nat} (hown : s.vm.findClass own = some m.cls) (hE : En D cy s) (hW : Wd Y cy D z n V G H) (hS : va_S (zA z) H0 H locs) (hc : vwCl[ci]? = some (C, T, N)) (hin : ∀ w ∈ u_ws C T N, w ∈ lw_all) (hk : k < N) (hl : Cond.fieldLink own index C (T k).2.1 (T k).2.2.1 ∈ lw_all) (hT : (T k).1 = C) (hci : ci < 5) (ty0 : Nat → FieldType) (hty : ∀ k, k < N → parseFieldDescriptor (T k).2.2.1 = some (ty0 k)) (hnm : ∀ a, a < N → ∀ b, b < N → a ≠ b → (T a).2.1 ≠ (T b).2.1) (hfin : (T k).2.2.2 = false) {ty : FieldType} {v : Value} (hd : parseFieldDescriptor (T k).2.2.1 = some ty) (hn : narrow ty v = v) (hfit : fits ty v = true) (hkn : k < nfd ci)
    {V' : mV} {G' : mG} (hset : (fce ci (V a) (G a)).set k v = fce ci (V' a) (G' a)) (hV : ∀ b, b ≠ a → V' b = V b) (hG : ∀ b, b ≠ a → G' b = G b) (hK : Y.1 a = ci) (hdg : decode cc pc = .ok (.putfield index, 3))
    (kk : ∀ (H1 : Heap) (locs1 : List Loc), Wd Y cy D z n V' G' H1 → va_S (zA z) H0 H1 locs1 → W p l e R s m args below meth c H1 locs1 cells slots Q (F0 m (pc + 3) ls rest)) : W p l e R s m args below meth c H locs cells slots Q (F0 m pc ls (v :: .ref a :: rest)) := by
  have hza := (hW.2 a (by omega)).1
  have h1 := (hW.2 a (by omega)).2
  rw [enc_o hK hci] at h1
  obtain ⟨r, g1, cell, q1, q2, q3, q4⟩ := h1
  have hr : r = (C, T, N) := Option.some.inj (g1.symm.trans hc)
  subst hr
  obtain ⟨hSl, hfc, kC, hkC, hkind⟩ := hE.1.1 ci _ hc
  obtain ⟨cf, kf, fi, f, hi, hsl⟩ := hSl k hk
  have hlay := hts _ (hin _ (u_in_lay hk))
  unfold u_lay at hlay
  rw [if_neg (by rw [hfin]; decide)] at hlay
  have hst := (u_facts hfc hkC (u_lays hts hin hk) hi).1
  have h6 := u_store hfc hkC hkind hlay hi hd hn hfit
  refine W.putK hx hb (f := f) ⟨hown, hts _ hl, ⟨_, _, _, by have h := hi; rw [hT] at h; exact h⟩, hst⟩ (by rw [q2]; exact h6) q1 q3 (by rw [hsl]; exact k2_hasslot (q4 k hk)) rfl rfl hdg fun H' e1 e2 e3 => ?_
  rw [hsl] at e1 ⊢
  refine kk H' _ (wd_put hW e2 e3 hV hG ?_) (hS.put e2 e3 hza)
  rw [enc_o hK hci, ← hset]
  exact wk_putat (own := own) hts hin ty0 hty hnm hE.1 hc hk (by rw [fce_len]; exact hkn) q2 q3 q4 e1
theorem wk_putN (hx : p.tables.exec = Jvm.exec) (hb : c.code = cc) (hts : ∀ w ∈ lw_all, w.before args s = true) {own C host : String} {T : u_T} {N ci k index : Nat} (hown : s.vm.findClass own = some m.cls) (hE : En D cy s) (hW : Wd Y cy D z n V G H) (hS : va_S (zA z) H0 H locs) (hc : vwCl[ci]? = some (C, T, N)) (hin : ∀ w ∈ u_ws C T N, w ∈ lw_all) (hk : k < N) (hl : Cond.fieldLinkNest own index C (T k).2.1 (T k).2.2.1 host ∈ nw_all) (hT : (T k).1 = C) (hci : ci < 5) (ty0 : Nat → FieldType) (hty : ∀ k, k < N → parseFieldDescriptor (T k).2.2.1 = some (ty0 k)) (hnm : ∀ a, a < N → ∀ b, b < N → a ≠ b → (T a).2.1 ≠ (T b).2.1) (hfin : (T k).2.2.2 = false) {ty : FieldType} {v : Value} (hd : parseFieldDescriptor (T k).2.2.1 = some ty) (hn : narrow ty v = v) (hfit : fits ty v = true) (hkn : k < nfd ci)
    {V' : mV} {G' : mG} (hset : (fce ci (V a) (G a)).set k v = fce ci (V' a) (G' a)) (hV : ∀ b, b ≠ a → V' b = V b) (hG : ∀ b, b ≠ a → G' b = G b) (hK : Y.1 a = ci) (hdg : decode cc pc = .ok (.putfield index, 3))
    (kk : ∀ (H1 : Heap) (locs1 : List Loc), Wd Y cy D z n V' G' H1 → va_S (zA z) H0 H1 locs1 → W p l e R s m args below meth c H1 locs1 cells slots Q (F0 m (pc + 3) ls rest)) : W p l e R s m args below meth c H locs cells slots Q (F0 m pc ls (v :: .ref a :: rest)) := by
  have hza := (hW.2 a (by omega)).1
  have h1 := (hW.2 a (by omega)).2
  rw [enc_o hK hci] at h1
  obtain ⟨r, g1, cell, q1, q2, q3, q4⟩ := h1
  have hr : r = (C, T, N) := Option.some.inj (g1.symm.trans hc)
  subst hr
  obtain ⟨hSl, hfc, kC, hkC, hkind⟩ := hE.1.1 ci _ hc
  obtain ⟨cf, kf, fi, f, hi, hsl⟩ := hSl k hk
  have hlay := hts _ (hin _ (u_in_lay hk))
  unfold u_lay at hlay
  rw [if_neg (by rw [hfin]; decide)] at hlay
  have hst := (u_facts hfc hkC (u_lays hts hin hk) hi).1
  have h6 := u_store hfc hkC hkind hlay hi hd hn hfit
  refine va_WputK hx hb (f := f) hown (va_Nw.use rfl (hE.2.1 _ hl)) (by have h := hi; rw [hT] at h; exact h) hst (by rw [q2]; exact h6) q1 q3 (by rw [hsl]; exact k2_hasslot (q4 k hk)) rfl rfl hdg fun H' e1 e2 e3 => ?_
  rw [hsl] at e1 ⊢
  refine kk H' _ (wd_put hW e2 e3 hV hG ?_) (hS.put e2 e3 hza)
  rw [enc_o hK hci, ← hset]
  exact wk_putat (own := own) hts hin ty0 hty hnm hE.1 hc hk (by rw [fce_len]; exact hkn) q2 q3 q4 e1
theorem wk_putF (hx : p.tables.exec = Jvm.exec) (hb : c.code = cc) (hts : ∀ w ∈ lw_all, w.before args s = true) {own C : String} {T : u_T} {N ci k index : Nat} (hown : s.vm.findClass own = some m.cls) (hE : En D cy s) (hW : Wd Y cy D z n V G H) (hS : va_S (zA z) H0 H locs) (hc : vwCl[ci]? = some (C, T, N)) (hin : ∀ w ∈ u_ws C T N, w ∈ lw_all) (hk : k < N) (hl : Cond.fieldLink own index C (T k).2.1 (T k).2.2.1 ∈ lw_all) (hT : (T k).1 = C) (hCo : C = own) (hci : ci < 5) (ty0 : Nat → FieldType) (hty : ∀ k, k < N → parseFieldDescriptor (T k).2.2.1 = some (ty0 k)) (hnm : ∀ a, a < N → ∀ b, b < N → a ≠ b → (T a).2.1 ≠ (T b).2.1) (hfin : (T k).2.2.2 = true) {ty : FieldType} {v : Value} (hd : parseFieldDescriptor (T k).2.2.1 = some ty) (hn : narrow ty v = v) (hfit : fits ty v = true) (hkn : k < nfd ci) (hin2 : meth.name = "<init>")
    {V' : mV} {G' : mG} (hset : (fce ci (V a) (G a)).set k v = fce ci (V' a) (G' a)) (hV : ∀ b, b ≠ a → V' b = V b) (hG : ∀ b, b ≠ a → G' b = G b) (hK : Y.1 a = ci) (hdg : decode cc pc = .ok (.putfield index, 3))
    (kk : ∀ (H1 : Heap) (locs1 : List Loc), Wd Y cy D z n V' G' H1 → va_S (zA z) H0 H1 locs1 → W p l e R s m args below meth c H1 locs1 cells slots Q (F0 m (pc + 3) ls rest)) : W p l e R s m args below meth c H locs cells slots Q (F0 m pc ls (v :: .ref a :: rest)) := by
  have hza := (hW.2 a (by omega)).1
  have h1 := (hW.2 a (by omega)).2
  rw [enc_o hK hci] at h1
  obtain ⟨r, g1, cell, q1, q2, q3, q4⟩ := h1
  have hr : r = (C, T, N) := Option.some.inj (g1.symm.trans hc)
  subst hr
  obtain ⟨hSl, hfc, kC, hkC, hkind⟩ := hE.1.1 ci _ hc
  obtain ⟨cf, kf, fi, f, hi, hsl⟩ := hSl k hk
  have hlay := hts _ (hin _ (u_in_lay hk))
  unfold u_lay at hlay
  rw [if_pos hfin] at hlay
  have hst := (u_facts hfc hkC (u_lays hts hin hk) hi).1
  have hcf : m.cls = cf := by
    obtain ⟨_, _, c', _, _, _, -, -, hf', -, -, -, hown2, -⟩ := Cond.laysFinal_spec hlay
    have e1 : c' = cf := by have := hi.symm.trans hf'; simp at this; exact this.1.symm
    rw [hT, hCo] at hown2
    rw [← e1]; exact Option.some.inj (hown.symm.trans hown2)
  have h6 := u_fits hfc hkC hkind (Or.inr hlay) hi hd hn hfit
  refine W.putFinK hx hb hown (hts _ hl) (by have h := hi; rw [hT] at h; exact h) hst hcf hin2 (by rw [q2]; exact h6) q1 q3 (by rw [hsl]; exact k2_hasslot (q4 k hk)) rfl rfl hdg fun H' e1 e2 e3 => ?_
  rw [hsl] at e1 ⊢
  refine kk H' _ (wd_put hW e2 e3 hV hG ?_) (hS.put e2 e3 hza)
  rw [enc_o hK hci, ← hset]
  exact wk_putat (own := own) hts hin ty0 hty hnm hE.1 hc hk (by rw [fce_len]; exact hkn) q2 q3 q4 e1
-- arrays
theorem wk_iald (hx : p.tables.exec = Jvm.exec) (hb : c.code = cc) (hE : En D cy s) (hW : Wd Y cy D z n V G H) {i : Int32} (hK : Y.1 a = 6) (hi : ¬ (i < 0 ∨ Y.2 a ≤ i.toNatClampNeg)) (hdg : decode cc pc = .ok (.iaload, 1))
    (kk : W p l e R s m args below meth c H locs cells slots Q (F0 m (pc + 1) ls (.int (V a i.toNatClampNeg) :: rest))) : W p l e R s m args below meth c H locs cells slots Q (F0 m pc ls (.int i :: .ref a :: rest)) := by
  have h1 := (hW.2 a (by omega)).2
  rw [enc_i hK (by omega) (by omega)] at h1
  exact va_iald hx hb hE.1 (va_P1 h1) 0 1 rfl rfl hi hdg kk
theorem wk_cald (hx : p.tables.exec = Jvm.exec) (hb : c.code = cc) (hE : En D cy s) (hW : Wd Y cy D z n V G H) {i : Int32} (hK : Y.1 a = 5) (hi : ¬ (i < 0 ∨ Y.2 a ≤ i.toNatClampNeg)) (hdg : decode cc pc = .ok (.caload, 1))
    (kk : W p l e R s m args below meth c H locs cells slots Q (F0 m (pc + 1) ls (.int (V a i.toNatClampNeg) :: rest))) : W p l e R s m args below meth c H locs cells slots Q (F0 m pc ls (.int i :: .ref a :: rest)) := by
  have h1 := (hW.2 a (by omega)).2
  rw [enc_i hK (by omega) (by omega)] at h1
  exact va_cald hx hb hE.1 (va_P1 h1) 0 0 rfl rfl hi hdg kk
theorem wk_aald (hx : p.tables.exec = Jvm.exec) (hb : c.code = cc) (hE : En D cy s) (hW : Wd Y cy D z n V G H) {i : Int32} (hK : Y.1 a = 7 ∨ Y.1 a = 8) (hi : ¬ (i < 0 ∨ Y.2 a ≤ i.toNatClampNeg)) {q : Nat} (hq : G a i.toNatClampNeg = some q) (hdg : decode cc pc = .ok (.aaload, 1))
    (kk : W p l e R s m args below meth c H locs cells slots Q (F0 m (pc + 1) ls (.ref q :: rest))) : W p l e R s m args below meth c H locs cells slots Q (F0 m pc ls (.int i :: .ref a :: rest)) := by
  have h1 := (hW.2 a (by omega)).2
  have kk : W p l e R s m args below meth c H locs cells slots Q (F0 m (pc + 1) ls (va_rf (G a i.toNatClampNeg) :: rest)) := by rw [hq]; exact kk
  rcases hK with hK | hK
  · rw [enc_q hK (by omega)] at h1
    exact va_aldq hx hb hE.1 (va_P1 h1) 0 2 rfl rfl hi hdg kk
  · rw [enc_q hK (by omega)] at h1
    exact va_aldq hx hb hE.1 (va_P1 h1) 0 3 rfl rfl hi hdg kk
theorem wk_alen (hx : p.tables.exec = Jvm.exec) (hb : c.code = cc) (hE : En D cy s) (hW : Wd Y cy D z n V G H) (hK : Y.1 a = 6) (hdg : decode cc pc = .ok (.arraylength, 1))
    (kk : W p l e R s m args below meth c H locs cells slots Q (F0 m (pc + 1) ls (.int (Int32.ofNat (Y.2 a)) :: rest))) : W p l e R s m args below meth c H locs cells slots Q (F0 m pc ls (.ref a :: rest)) := by
  have h1 := (hW.2 a (by omega)).2
  rw [enc_i hK (by omega) (by omega)] at h1
  exact va_alen hx hb hE.1 (va_P1 h1) 0 1 rfl rfl rfl hdg kk
theorem updV_i (f : Nat → Int32) (k : Nat) (x : Int32) : updV (fun j => Value.int (f j)) k (.int x) = fun j => Value.int (va_up f k x j) := by
  funext q
  by_cases hq : q = k
  · subst hq; simp [updV, va_up]
  · simp [updV, va_up, hq]
theorem updV_r (f : Nat → Option Nat) (k : Nat) (x : Nat) : updV (fun j => va_rf (f j)) k (.ref x) = fun j => va_rf (va_up f k (some x) j) := by
  funext q
  by_cases hq : q = k
  · subst hq; simp [updV, va_up, va_rf]
  · simp [updV, va_up, hq]
theorem wk_iast (hx : p.tables.exec = Jvm.exec) (hb : c.code = cc) (hE : En D cy s) (hW : Wd Y cy D z n V G H) (hS : va_S (zA z) H0 H locs) {i x : Int32} (hK : Y.1 a = 6) (hi : ¬ (i < 0 ∨ Y.2 a ≤ i.toNatClampNeg)) (hdg : decode cc pc = .ok (.iastore, 1))
    (kk : ∀ (H1 : Heap) (locs1 : List Loc), Wd Y cy D z n (up2 V a i.toNatClampNeg x) G H1 → va_S (zA z) H0 H1 locs1 → W p l e R s m args below meth c H1 locs1 cells slots Q (F0 m (pc + 1) ls rest)) : W p l e R s m args below meth c H locs cells slots Q (F0 m pc ls (.int x :: .int i :: .ref a :: rest)) := by
  have hza := (hW.2 a (by omega)).1
  have h1 := (hW.2 a (by omega)).2
  rw [enc_i hK (by omega) (by omega)] at h1
  have h1 : H[a]? = some (arrV (cy 1) (Y.2 a) (fun j => .int (V a j))) := h1
  refine W.iast hx hb h1 ((hE.1.2 1 _ rfl).1 (Y.2 a) (fun j => .int (V a j))) (fun q => by cases q) (by rw [arrV_size]; exact hi) rfl rfl hdg fun H1 e z1 oq => ?_
  refine kk H1 _ (wd_put hW z1 oq (up2_o _ _ _ _) (fun _ _ => rfl) ?_) (hS.put z1 oq hza)
  rw [enc_i hK (by omega) (by omega), up2_s]
  show H1[a]? = some (arrV (cy 1) (Y.2 a) (fun j => .int (va_up (V a) i.toNatClampNeg x j)))
  rw [e, arrV_store, updV_i]
theorem wk_cast (hx : p.tables.exec = Jvm.exec) (hb : c.code = cc) (hE : En D cy s) (hW : Wd Y cy D z n V G H) (hS : va_S (zA z) H0 H locs) {i x : Int32} (hK : Y.1 a = 5) (hi : ¬ (i < 0 ∨ Y.2 a ≤ i.toNatClampNeg)) (hdg : decode cc pc = .ok (.castore, 1))
    (kk : ∀ (H1 : Heap) (locs1 : List Loc), Wd Y cy D z n (up2 V a i.toNatClampNeg (vp_nar .char x)) G H1 → va_S (zA z) H0 H1 locs1 → W p l e R s m args below meth c H1 locs1 cells slots Q (F0 m (pc + 1) ls rest)) : W p l e R s m args below meth c H locs cells slots Q (F0 m pc ls (.int x :: .int i :: .ref a :: rest)) := by
  have hza := (hW.2 a (by omega)).1
  have h1 := (hW.2 a (by omega)).2
  rw [enc_i hK (by omega) (by omega)] at h1
  have h1 : H[a]? = some (arrV (cy 0) (Y.2 a) (fun j => .int (V a j))) := h1
  refine W.cast hx hb h1 ((hE.1.2 0 _ rfl).1 (Y.2 a) (fun j => .int (V a j))) (fun q => by cases q) (by rw [arrV_size]; exact hi) rfl rfl hdg fun H1 e z1 oq => ?_
  refine kk H1 _ (wd_put hW z1 oq (up2_o _ _ _ _) (fun _ _ => rfl) ?_) (hS.put z1 oq hza)
  rw [enc_i hK (by omega) (by omega), up2_s]
  show H1[a]? = some (arrV (cy 0) (Y.2 a) (fun j => .int (va_up (V a) i.toNatClampNeg (vp_nar .char x) j)))
  rw [e, arrV_store, ← updV_i]
  rfl
theorem wk_aast (hx : p.tables.exec = Jvm.exec) (hb : c.code = cc) (hE : En D cy s) (hW : Wd Y cy D z n V G H) (hS : va_S (zA z) H0 H locs) {i : Int32} {v : Nat} (hK : (Y.1 a = 7 ∧ Y.1 v = 0) ∨ (Y.1 a = 8 ∧ Y.1 v = 2)) (hi : ¬ (i < 0 ∨ Y.2 a ≤ i.toNatClampNeg)) (hdg : decode cc pc = .ok (.aastore, 1))
    (kk : ∀ (H1 : Heap) (locs1 : List Loc), Wd Y cy D z n V (up2 G a i.toNatClampNeg (some v)) H1 → va_S (zA z) H0 H1 locs1 → W p l e R s m args below meth c H1 locs1 cells slots Q (F0 m (pc + 1) ls rest)) : W p l e R s m args below meth c H locs cells slots Q (F0 m pc ls (.ref v :: .int i :: .ref a :: rest)) := by
  have hlt : i.toNatClampNeg < Y.2 a := Nat.not_le.mp fun q => hi (Or.inr q)
  have h0 : ¬ i < 0 := fun q => hi (Or.inl q)
  have key : ∀ (t0 ci : Nat) (r : vw_C), [(cy 0, FieldType.char), (cy 1, .int), (cy 2, .object RX0), (cy 3, .object RX2)][t0]? = some (cy t0, .object r.1) → vwCl[ci]? = some r → t0 = 2 ∨ t0 = 3 → ci < 5 → Y.1 a = t0 + 5 → Y.1 v = ci → W p l e R s m args below meth c H locs cells slots Q (F0 m pc ls (.ref v :: .int i :: .ref a :: rest)) := by
    intro t0 ci r ht hc ht0 hci hKa hKv
    have hza := (hW.2 a (by omega)).1
    have h1 := (hW.2 a (by omega)).2
    rw [enc_q hKa (by omega)] at h1
    rw [show t0 + 5 - 5 = t0 by omega] at h1
    have h1 : H[a]? = some (arrV (cy t0) (Y.2 a) (fun j => va_rf (G a j))) := h1
    have h2 := (hW.2 v (by omega)).2
    rw [enc_o hKv hci] at h2
    obtain ⟨r', hr', cellV, g1, g2, g3, -⟩ := h2
    have hcls := (hE.1.1 ci r hc).2
    obtain ⟨kA, comp, k1, k2, k3, -⟩ := (hE.1.2 t0 _ ht).2
    have hcomp : comp = D.1 ci := Option.some.inj (k3.symm.trans hcls.1)
    subst hcomp
    obtain ⟨kC, hkC, -⟩ := hcls.2
    refine W.aast hx hb h1 (fun q h => by cases h) (fun h => by cases h) k1 k2 rfl hkC ⟨h0, by rw [arrV_size]; exact hlt⟩ g1 (fun q h => by rw [g3] at h; cases h) (by rw [g2]; exact hkC) (by rw [g2]; exact va_assign hcls) rfl rfl hdg fun H1 e z1 oq => ?_
    refine kk H1 _ (wd_put hW z1 oq (fun _ _ => rfl) (up2_o _ _ _ _) ?_) (hS.put z1 oq hza)
    rw [enc_q hKa (by omega), up2_s, show t0 + 5 - 5 = t0 by omega]
    show H1[a]? = some (arrV (cy t0) (Y.2 a) (fun j => va_rf (va_up (G a) i.toNatClampNeg (some v) j)))
    rw [e, arrV_store, updV_r]
  rcases hK with ⟨h1, h2⟩ | ⟨h1, h2⟩
  · exact key 2 0 (RX0, TX0, 14) rfl rfl (Or.inl rfl) (by omega) h1 h2
  · exact key 3 2 (RX2, TX2, 9) rfl rfl (Or.inr rfl) (by omega) h1 h2
end WK
