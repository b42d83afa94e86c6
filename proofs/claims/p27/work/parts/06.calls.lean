-- CONTRACTS, ends, calls, making
abbrev rmd (d : Nat) : Room := { frames := d, cells := 0, slots := 0, locals := 40 * d }
def QC (D : va_G) (cy : Nat → ClassId) (z : Nat) (Y : mY) (n : Nat) (V : mV) (G : mG) (res : Option Value) : Array Value → State → Outcome → State → Prop := fun _ st o t => (o = .returned res ∧ Wd Y cy D z n V G t.heap) ∧ va_F (zA z) st t
/-- from any state that holds the memory (Y, n, V, G) the method returns res, and leaves (Y1, n1, V1, G1) -/
def CT (l : Launch) (y : MethodName) (cc : ByteArray) (maxL : Nat) (ret : Option FieldType) (rm : Room) (D : va_G) (cy : Nat → ClassId) (z : Nat) (av : List Value) (Y : mY) (n : Nat) (V : mV) (G : mG) (res : Option Value) (Y1 : mY) (n1 : Nat) (V1 : mV) (G1 : mG) : Prop :=
  Met l y (Cond.code y cc maxL ret :: lw_all) rm (va_Pc av (fun U => Wd Y cy D z n V G U.heap ∧ En D cy U)) (QC D cy z Y1 n1 V1 G1 res) rm.cells rm.slots (zA z)
theorem ct_of {l : Launch} {y : MethodName} {cc : ByteArray} {maxL : Nat} {ret : Option FieldType} {rm : Room} {D : va_G} {cy : Nat → ClassId} {z : Nat} {av : List Value} {Y : mY} {n : Nat} {V : mV} {G : mG} {res : Option Value} {Y1 : mY} {n1 : Nat} {V1 : mV} {G1 : mG} (hy : plainName y.cls = true) (hn : (lg_sl av).length ≤ maxL)
    (body : ∀ (p : Program) (e : Env) (s : State) (m : MethodId) (args : Array Value) (below : List Frame) (meth : Method) (c : Code) (ls : Array Slot), p.tables.exec = Jvm.exec → c.code = cc → meth.sig.returnType = ret → c.maxLocals = maxL → s.vm.findClass y.cls = some m.cls → (∀ w ∈ lw_all, w.before args s = true) → meth.locks = false → meth.name = y.name → En D cy s → Wd Y cy D z n V G s.heap → lv_has ls maxL (lv_args 0 av) →
      W p l e rm s m args below meth c s.heap [] 0 0 (MQ below (QC D cy z Y1 n1 V1 G1 res) args s rm.cells rm.slots (zA z)) (F0 m 0 ls [])) : CT l y cc maxL ret rm D cy z av Y n V G res Y1 n1 V1 G1 := by
  refine Met.ofW (cc := cc) (maxL := maxL) (ret := ret) hy rfl ?_
  intro p e s m args below meth c s₁ B hml hv
  obtain ⟨rfl, hW, hE⟩ := hv
  have hts0 := atoms_spec (ws := Cond.code y cc maxL ret :: lw_all) B.pre
  have hl := lv_entry av (n := maxL) hn
  rw [lg_entry_eq]
  generalize (lg_sl av ++ List.replicate (maxL - (lg_sl av).length) Slot.unset).toArray = ls at hl ⊢
  exact body p e s m _ below meth c ls B.exec B.bytes B.returns hml (findClass_of_methodNamed B.named) (fun w h => hts0 w (List.mem_cons_of_mem _ h)) B.notSynchronized (name_of_methodNamed B.named B.method).1 hE hW hl
section WR
variable {p : Program} {l : Launch} {e : Env} {R : Room} {s : State} {m : MethodId} {args : Array Value} {below : List Frame} {meth : Method} {c : Code} {H : Heap} {locs : List Loc} {cells slots : Nat} {Q : State → Prop}
variable {cc : ByteArray} {pc : Nat} {ls : Array Slot} {rest st0 : List Value} {D : va_G} {cy : Nat → ClassId} {z n a : Nat} {Y : mY} {V : mV} {G : mG} {H0 : Heap}
theorem wk_iret {v : Int32} (hx : p.tables.exec = Jvm.exec) (hb : c.code = cc) (hr : meth.sig.returnType = some .int) (hlocks : meth.locks = false) (hW : Wd Y cy D z n V G H) (hS : va_S (zA z) s.heap H locs) (hdg : decode cc pc = .ok (.ireturn, 1)) : W p l e R s m args below meth c H locs cells slots (MQ below (QC D cy z Y n V G (some (.int v))) args s cells slots (zA z)) (F0 m pc ls [.int v]) :=
  W.iret hx hb hr (fun t ht _ => ⟨⟨rfl, by rw [ht]; exact hW⟩, hS.F ht⟩) hS.2.2 hdg hlocks
theorem wk_zret {v : Int32} (hx : p.tables.exec = Jvm.exec) (hb : c.code = cc) (hr : meth.sig.returnType = some .boolean) (hlocks : meth.locks = false) (hv : v = 0 ∨ v = 1) (hW : Wd Y cy D z n V G H) (hS : va_S (zA z) s.heap H locs) (hdg : decode cc pc = .ok (.ireturn, 1)) : W p l e R s m args below meth c H locs cells slots (MQ below (QC D cy z Y n V G (some (.int v))) args s cells slots (zA z)) (F0 m pc ls [.int v]) :=
  W.zret hx hb hr (by rcases hv with rfl | rfl <;> rfl) (fun t ht _ => ⟨⟨rfl, by rw [ht]; exact hW⟩, hS.F ht⟩) hS.2.2 hdg hlocks
theorem wk_lret {v : Int64} (hx : p.tables.exec = Jvm.exec) (hb : c.code = cc) (hr : meth.sig.returnType = some .long) (hlocks : meth.locks = false) (hW : Wd Y cy D z n V G H) (hS : va_S (zA z) s.heap H locs) (hdg : decode cc pc = .ok (.lreturn, 1)) : W p l e R s m args below meth c H locs cells slots (MQ below (QC D cy z Y n V G (some (.long v))) args s cells slots (zA z)) (F0 m pc ls [.long v]) :=
  W.lret hx hb hr (fun t ht _ => ⟨⟨rfl, by rw [ht]; exact hW⟩, hS.F ht⟩) hS.2.2 hdg hlocks
theorem wk_vret (hx : p.tables.exec = Jvm.exec) (hb : c.code = cc) (hr : meth.sig.returnType = none) (hlocks : meth.locks = false) (hW : Wd Y cy D z n V G H) (hS : va_S (zA z) s.heap H locs) (hdg : decode cc pc = .ok (.return_, 1)) : W p l e R s m args below meth c H locs cells slots (MQ below (QC D cy z Y n V G none) args s cells slots (zA z)) (F0 m pc ls []) :=
  W.vret hx hb hr (fun t ht _ => ⟨⟨rfl, by rw [ht]; exact hW⟩, hS.F ht⟩) hS.2.2 hdg hlocks
-- calls
theorem wk_call {mc ms : Nat} {Y1 : mY} {n1 : Nat} {V1 : mV} {G1 : mG} {res : Option Value} {a : Array Value} {z0 : State → Outcome → State → Prop} (hz0 : z0 = QC D cy z Y1 n1 V1 G1 res a) (hr : va_Run p l e R s m args below meth c H locs cells slots mc ms (F0 m pc ls st0) rest z0 (zA z)) (hS : va_S (zA z) H0 H locs)
    (kk : ∀ (H1 : Heap) (locs1 : List Loc), Wd Y1 cy D z n1 V1 G1 H1 → va_S (zA z) H0 H1 locs1 → W p l e R s m args below meth c H1 locs1 (cells + mc) (slots + ms) Q (F0 m (pc + 3) ls (res.toList ++ rest))) : W p l e R s m args below meth c H locs cells slots Q (F0 m pc ls st0) := by
  subst hz0
  intro T hT X
  obtain ⟨v, st₀, t, T', L, h0, X', hL, e1, e2, ⟨⟨hv, hw⟩, hz, hk⟩, st⟩ := hr T hT X
  cases hv
  rw [h0] at hz hk
  obtain ⟨t2, a1, b1⟩ := kk T'.heap (locs ++ L) (by rw [e1]; exact hw)
    ⟨Nat.le_trans hS.1 (by rw [e1]; exact hz), fun q h1 h2 => by rw [e1, hk q (Nat.lt_of_lt_of_le h1 hS.1) h2]; exact hS.2.1 q h1 h2, fun q hq => by
      rcases List.mem_append.mp hq with h | h
      · exact hS.2.2 q h
      · exact hL q h⟩ T' rfl X'
  exact ⟨t2, st t2 a1, b1⟩
theorem wk_pre {s : State} {H : Heap} {av : List Value} (hE : En D cy s) (hW : Wd Y cy D z n V G H) : PreS s H (va_Pc av (fun U => Wd Y cy D z n V G U.heap ∧ En D cy U)) av :=
  ⟨fun a U g mk q => ⟨q.1, q.2.1, q.2.2.calling⟩, fun U hU hWm => ⟨rfl, by rw [hU]; exact hW, hE.warm hWm⟩⟩
theorem wk_recv {s : State} {H : Heap} {b ci : Nat} {r : vw_C} (hE : En D cy s) (hW : Wd Y cy D z n V G H) (hK : Y.1 b = ci) (hci : ci < 5) (hc : vwCl[ci]? = some r) : ∃ cellB : Cell, H[b]? = some cellB ∧ cellB.vm.isStatics = false ∧ s.vm.findClass r.1 = some cellB.cls := by
  have h1 := (hW.2 b (by omega)).2
  rw [enc_o hK hci] at h1
  exact va_recv hE.1 (va_P1 h1) hc (q0 := 0) rfl
variable {y : MethodName} {bytes : ByteArray} {maxL nL k index : Nat} {ret : Option FieldType} {rm : Room} {own : String} {b : Nat} {As : List Value} {Y1 : mY} {n1 : Nat} {V1 : mV} {G1 : mG} {res : Option Value}
theorem wk_V (hx : p.tables.exec = Jvm.exec) (hb : c.code = cc) (hml : c.maxLocals = nL) (hown : s.vm.findClass own = some m.cls) (hts : ∀ w ∈ lw_all, w.before args s = true) (hE : En D cy s) {ci : Nat} {r : vw_C} (hci : ci < 5) (hc : vwCl[ci]? = some r) (hyc : y.cls = r.1) (hcode : Cond.code y bytes maxL ret ∈ lw_all) (hini : Cond.initialized y.cls ∈ lw_all) (hlink : Cond.methodLink own index y ∈ lw_all) (hinst : Cond.instanceMethod y ∈ lw_all) (hsel : Cond.selects y.cls y y ∈ lw_all) (hd : y.cls ≠ "java/lang/invoke/MethodHandle" ∧ y.cls ≠ "java/lang/invoke/VarHandle" ∧ (parseMethodDescriptor y.desc).map (fun d => d.parameters.length) = some k)
    (hM : CT l y bytes maxL ret rm D cy z (.ref b :: As) Y n V G res Y1 n1 V1 G1) (hW : Wd Y cy D z n V G H) (hS : va_S (zA z) H0 H locs) (hK : Y.1 b = ci) (hk : As.length = k) (hst : st0 = As.reverse ++ .ref b :: rest) (hsize : ls.size = nL) (hrest : (rest.map fun v => v.category).sum ≤ 8) (hR : rm.frames + 1 ≤ R.frames ∧ 8 + (maxL + 11) + rm.locals ≤ R.locals) (hdg : decode cc pc = .ok (.invokevirtual index, 3)) (hf : cells + rm.cells ≤ R.cells ∧ slots + rm.slots ≤ R.slots)
    (kk : ∀ (H1 : Heap) (locs1 : List Loc), Wd Y1 cy D z n1 V1 G1 H1 → va_S (zA z) H0 H1 locs1 → W p l e R s m args below meth c H1 locs1 (cells + rm.cells) (slots + rm.slots) Q (F0 m (pc + 3) ls (res.toList ++ rest))) : W p l e R s m args below meth c H locs cells slots Q (F0 m pc ls st0) := by
  subst hst
  have hrv := wk_recv hE hW hK hci hc
  rw [← hyc] at hrv
  exact wk_call rfl (va_runV (C := y.cls) (As := As) (rest := rest) ⟨hx, hb, hml, hown, hts⟩ hM ⟨callB_of k hts (gi_ws hcode) rfl rfl rfl (hts _ hini) (hts _ hlink) hd hR, hts _ hinst, hts _ hsel⟩ ⟨(wk_pre hE hW).1, hrv, (wk_pre hE hW).2⟩ rfl hk hsize rfl (lv_room hrest) hdg hf) hS kk
theorem wk_VN {host : String} (hx : p.tables.exec = Jvm.exec) (hb : c.code = cc) (hml : c.maxLocals = nL) (hown : s.vm.findClass own = some m.cls) (hts : ∀ w ∈ lw_all, w.before args s = true) (hE : En D cy s) {ci : Nat} {r : vw_C} (hci : ci < 5) (hc : vwCl[ci]? = some r) (hyc : y.cls = r.1) (hcode : Cond.code y bytes maxL ret ∈ lw_all) (hini : Cond.initialized y.cls ∈ lw_all) (hlink : Cond.methodLinkNest own index y host ∈ nw_all) (hinst : Cond.instanceMethod y ∈ lw_all) (hsel : Cond.selects y.cls y y ∈ lw_all) (hd : y.cls ≠ "java/lang/invoke/MethodHandle" ∧ y.cls ≠ "java/lang/invoke/VarHandle" ∧ (parseMethodDescriptor y.desc).map (fun d => d.parameters.length) = some k)
    (hM : CT l y bytes maxL ret rm D cy z (.ref b :: As) Y n V G res Y1 n1 V1 G1) (hW : Wd Y cy D z n V G H) (hS : va_S (zA z) H0 H locs) (hK : Y.1 b = ci) (hk : As.length = k) (hst : st0 = As.reverse ++ .ref b :: rest) (hsize : ls.size = nL) (hrest : (rest.map fun v => v.category).sum ≤ 8) (hR : rm.frames + 1 ≤ R.frames ∧ 8 + (maxL + 11) + rm.locals ≤ R.locals) (hdg : decode cc pc = .ok (.invokevirtual index, 3)) (hf : cells + rm.cells ≤ R.cells ∧ slots + rm.slots ≤ R.slots)
    (kk : ∀ (H1 : Heap) (locs1 : List Loc), Wd Y1 cy D z n1 V1 G1 H1 → va_S (zA z) H0 H1 locs1 → W p l e R s m args below meth c H1 locs1 (cells + rm.cells) (slots + rm.slots) Q (F0 m (pc + 3) ls (res.toList ++ rest))) : W p l e R s m args below meth c H locs cells slots Q (F0 m pc ls st0) := by
  subst hst
  have hrv := wk_recv hE hW hK hci hc
  rw [← hyc] at hrv
  exact wk_call rfl (va_runVN (C := y.cls) (host := host) (As := As) (rest := rest) ⟨hx, hb, hml, hown, hts⟩ hM ⟨va_cnB k hts (gi_ws hcode) rfl rfl rfl (hE.2.1 _ hlink) (hts _ hini) hd hR, hts _ hinst, hts _ hsel⟩ ⟨(wk_pre hE hW).1, hrv, (wk_pre hE hW).2⟩ rfl hk hsize rfl (lv_room hrest) hdg hf) hS kk
theorem wk_S (hx : p.tables.exec = Jvm.exec) (hb : c.code = cc) (hml : c.maxLocals = nL) (hown : s.vm.findClass own = some m.cls) (hts : ∀ w ∈ lw_all, w.before args s = true) (hE : En D cy s) (hcode : Cond.code y bytes maxL ret ∈ lw_all) (hini : Cond.initialized y.cls ∈ lw_all) (hlink : Cond.methodLink own index y ∈ lw_all) (hstat : Cond.static y ∈ lw_all) (hd : y.cls ≠ "java/lang/invoke/MethodHandle" ∧ y.cls ≠ "java/lang/invoke/VarHandle" ∧ (parseMethodDescriptor y.desc).map (fun d => d.parameters.length) = some k)
    (hM : CT l y bytes maxL ret rm D cy z As Y n V G res Y1 n1 V1 G1) (hW : Wd Y cy D z n V G H) (hS : va_S (zA z) H0 H locs) (hk : As.length = k) (hst : st0 = As.reverse ++ rest) (hsize : ls.size = nL) (hrest : (rest.map fun v => v.category).sum ≤ 8) (hR : rm.frames + 1 ≤ R.frames ∧ 8 + (maxL + 11) + rm.locals ≤ R.locals) (hdg : decode cc pc = .ok (.invokestatic index, 3)) (hf : cells + rm.cells ≤ R.cells ∧ slots + rm.slots ≤ R.slots)
    (kk : ∀ (H1 : Heap) (locs1 : List Loc), Wd Y1 cy D z n1 V1 G1 H1 → va_S (zA z) H0 H1 locs1 → W p l e R s m args below meth c H1 locs1 (cells + rm.cells) (slots + rm.slots) Q (F0 m (pc + 3) ls (res.toList ++ rest))) : W p l e R s m args below meth c H locs cells slots Q (F0 m pc ls st0) := by
  subst hst
  exact wk_call rfl (va_runS (As := As) (rest := rest) ⟨hx, hb, hml, hown, hts⟩ hM ⟨callB_of k hts (gi_ws hcode) rfl rfl rfl (hts _ hini) (hts _ hlink) hd hR, hts _ hstat⟩ (wk_pre hE hW) rfl hk hsize rfl (lv_room hrest) hdg hf) hS kk
theorem wk_SN {host : String} (hx : p.tables.exec = Jvm.exec) (hb : c.code = cc) (hml : c.maxLocals = nL) (hown : s.vm.findClass own = some m.cls) (hts : ∀ w ∈ lw_all, w.before args s = true) (hE : En D cy s) (hcode : Cond.code y bytes maxL ret ∈ lw_all) (hini : Cond.initialized y.cls ∈ lw_all) (hlink : Cond.methodLinkNest own index y host ∈ nw_all) (hstat : Cond.static y ∈ lw_all) (hd : y.cls ≠ "java/lang/invoke/MethodHandle" ∧ y.cls ≠ "java/lang/invoke/VarHandle" ∧ (parseMethodDescriptor y.desc).map (fun d => d.parameters.length) = some k)
    (hM : CT l y bytes maxL ret rm D cy z As Y n V G res Y1 n1 V1 G1) (hW : Wd Y cy D z n V G H) (hS : va_S (zA z) H0 H locs) (hk : As.length = k) (hst : st0 = As.reverse ++ rest) (hsize : ls.size = nL) (hrest : (rest.map fun v => v.category).sum ≤ 8) (hR : rm.frames + 1 ≤ R.frames ∧ 8 + (maxL + 11) + rm.locals ≤ R.locals) (hdg : decode cc pc = .ok (.invokestatic index, 3)) (hf : cells + rm.cells ≤ R.cells ∧ slots + rm.slots ≤ R.slots)
    (kk : ∀ (H1 : Heap) (locs1 : List Loc), Wd Y1 cy D z n1 V1 G1 H1 → va_S (zA z) H0 H1 locs1 → W p l e R s m args below meth c H1 locs1 (cells + rm.cells) (slots + rm.slots) Q (F0 m (pc + 3) ls (res.toList ++ rest))) : W p l e R s m args below meth c H locs cells slots Q (F0 m pc ls st0) := by
  subst hst
  exact wk_call rfl (va_runSN (host := host) (As := As) (rest := rest) ⟨hx, hb, hml, hown, hts⟩ hM ⟨va_cnB k hts (gi_ws hcode) rfl rfl rfl (hE.2.1 _ hlink) (hts _ hini) hd hR, hts _ hstat, trivial⟩ (wk_pre hE hW) rfl hk hsize rfl (lv_room hrest) hdg hf) hS kk
theorem wk_I (hx : p.tables.exec = Jvm.exec) (hb : c.code = cc) (hml : c.maxLocals = nL) (hown : s.vm.findClass own = some m.cls) (hts : ∀ w ∈ lw_all, w.before args s = true) (hE : En D cy s) (hcode : Cond.code y bytes maxL none ∈ lw_all) (hini : Cond.initialized y.cls ∈ lw_all) (hlink : Cond.methodLink own index y ∈ lw_all) (hinst : Cond.instanceMethod y ∈ lw_all) (hyn : y.name = "<init>") (hd : y.cls ≠ "java/lang/invoke/MethodHandle" ∧ y.cls ≠ "java/lang/invoke/VarHandle" ∧ (parseMethodDescriptor y.desc).map (fun d => d.parameters.length) = some k)
    (hM : CT l y bytes maxL none rm D cy z (.ref b :: As) Y n V G none Y1 n1 V1 G1) (hW : Wd Y cy D z n V G H) (hS : va_S (zA z) H0 H locs) (hk : As.length = k) (hst : st0 = As.reverse ++ .ref b :: rest) (hsize : ls.size = nL) (hrest : (rest.map fun v => v.category).sum ≤ 8) (hR : rm.frames + 1 ≤ R.frames ∧ 8 + (maxL + 11) + rm.locals ≤ R.locals) (hdg : decode cc pc = .ok (.invokespecial index, 3)) (hf : cells + rm.cells ≤ R.cells ∧ slots + rm.slots ≤ R.slots)
    (kk : ∀ (H1 : Heap) (locs1 : List Loc), Wd Y1 cy D z n1 V1 G1 H1 → va_S (zA z) H0 H1 locs1 → W p l e R s m args below meth c H1 locs1 (cells + rm.cells) (slots + rm.slots) Q (F0 m (pc + 3) ls rest)) : W p l e R s m args below meth c H locs cells slots Q (F0 m pc ls st0) := by
  subst hst
  exact wk_call rfl (va_runI (As := As) (rest := rest) ⟨hx, hb, hml, hown, hts⟩ hM ⟨callB_of k hts (gi_ws hcode) rfl rfl rfl (hts _ hini) (hts _ hlink) hd hR, hyn, hts _ hinst⟩ (wk_pre hE hW) rfl hk hsize rfl (lv_room hrest) hdg hf) hS kk
theorem wk_IN {host : String} (hx : p.tables.exec = Jvm.exec) (hb : c.code = cc) (hml : c.maxLocals = nL) (hown : s.vm.findClass own = some m.cls) (hts : ∀ w ∈ lw_all, w.before args s = true) (hE : En D cy s) (hcode : Cond.code y bytes maxL none ∈ lw_all) (hini : Cond.initialized y.cls ∈ lw_all) (hlink : Cond.methodLinkNest own index y host ∈ nw_all) (hinst : Cond.instanceMethod y ∈ lw_all) (hyn : y.name = "<init>") (hd : y.cls ≠ "java/lang/invoke/MethodHandle" ∧ y.cls ≠ "java/lang/invoke/VarHandle" ∧ (parseMethodDescriptor y.desc).map (fun d => d.parameters.length) = some k)
    (hM : CT l y bytes maxL none rm D cy z (.ref b :: As) Y n V G none Y1 n1 V1 G1) (hW : Wd Y cy D z n V G H) (hS : va_S (zA z) H0 H locs) (hk : As.length = k) (hst : st0 = As.reverse ++ .ref b :: rest) (hsize : ls.size = nL) (hrest : (rest.map fun v => v.category).sum ≤ 8) (hR : rm.frames + 1 ≤ R.frames ∧ 8 + (maxL + 11) + rm.locals ≤ R.locals) (hdg : decode cc pc = .ok (.invokespecial index, 3)) (hf : cells + rm.cells ≤ R.cells ∧ slots + rm.slots ≤ R.slots)
    (kk : ∀ (H1 : Heap) (locs1 : List Loc), Wd Y1 cy D z n1 V1 G1 H1 → va_S (zA z) H0 H1 locs1 → W p l e R s m args below meth c H1 locs1 (cells + rm.cells) (slots + rm.slots) Q (F0 m (pc + 3) ls rest)) : W p l e R s m args below meth c H locs cells slots Q (F0 m pc ls st0) := by
  subst hst
  exact wk_call rfl (va_runIN (host := host) (As := As) (rest := rest) ⟨hx, hb, hml, hown, hts⟩ hM ⟨va_cnB k hts (gi_ws hcode) rfl rfl rfl (hE.2.1 _ hlink) (hts _ hini) hd hR, hyn, hts _ hinst⟩ (wk_pre hE hW) rfl hk hsize rfl (lv_room hrest) hdg hf) hS kk
-- making
theorem wd_push {H1 : Heap} {V' : mV} {G' : mG} {k : Nat} (hW : Wd Y cy D z n V G H) (hz : z ≤ n) (z1 : H1.size = n + 1) (o1 : ∀ q, q < n → H1[q]? = H[q]?) (hV : ∀ b, b ≠ n → V' b = V b) (hG : ∀ b, b ≠ n → G' b = G b) (h : va_at D vwCl (n, enc (va_up Y.1 n k, Y.2) cy V' G' n) H1) : Wd (va_up Y.1 n k, Y.2) cy D z (n + 1) V' G' H1 := by
  refine ⟨z1, fun b hb => ?_⟩
  by_cases e : b = n
  · subst e; exact ⟨hz, h⟩
  · have hb : Y.1 b < 9 := by
      have := va_up_ne Y.1 k e
      simp only [this] at hb
      exact hb
    have h3 := hW.2 b hb
    have hlt := wd_lt hW hb
    refine ⟨h3.1, ?_⟩
    have h4 : enc (va_up Y.1 n k, Y.2) cy V' G' b = enc Y cy V G b := by
      have h5 : va_up Y.1 n k b = Y.1 b := va_up_ne _ _ e
      simp [enc, h5, hV b e, hG b e]
    rw [h4]
    exact va_at.kept h3.2 (o1 b hlt)
theorem wk_new (hx : p.tables.exec = Jvm.exec) (hb : c.code = cc) (hts : ∀ w ∈ lw_all, w.before args s = true) {C : String} {T : u_T} {N ci index : Nat} (hown : s.vm.findClass own = some m.cls) (hE : En D cy s) (hW : Wd Y cy D z n V G H) (hz : z ≤ H0.size) (hS : va_S (zA z) H0 H locs) (hc : vwCl[ci]? = some (C, T, N)) (hin : ∀ w ∈ u_ws C T N, w ∈ lw_all) (ty : Nat → FieldType) (hty : ∀ k, k < N → parseFieldDescriptor (T k).2.2.1 = some (ty k)) (hcl : Cond.classLink own index C ∈ lw_all) (hinst : Cond.instantiable C N ∈ lw_all) (hini : Cond.initialized C ∈ lw_all) (hci : ci < 5) (hfs : ∀ j, j < N → defaultValue (ty j) = vp_V (fce ci (fun _ => 0) (fun _ => none)) j) (hdg : decode cc pc = .ok (.new index, 3)) (hcells : cells + 1 ≤ R.cells) (hslots : slots + N ≤ R.slots)
    (kk : ∀ (H1 : Heap), Wd (va_up Y.1 n ci, Y.2) cy D z (n + 1) (va_up V n (fun _ => 0)) (va_up G n (fun _ => none)) H1 → va_S (zA z) H0 H1 locs → W p l e R s m args below meth c H1 locs (cells + 1) (slots + N) Q (F0 m (pc + 3) ls (.ref n :: rest))) : W p l e R s m args below meth c H locs cells slots Q (F0 m pc ls rest) := by
  have hKn := hE.1.1 ci _ hc
  have hzn : z ≤ n := by have := hS.1; rw [← hW.1]; omega
  refine W.newcK hx hb hown (hts _ hcl) (hts _ hinst) (hts _ hini) rfl hdg hcells hslots hKn.2.1 hW.1 fun H1 kC hkC e1 z1 o1 => ?_
  refine kk H1 (wd_push hW hzn z1 o1 (va_up_o _ _ _) (va_up_o _ _ _) ?_) ⟨by have := hS.1; have := hW.1; omega, fun x h1 h2 => (o1 x (by have := hS.1; have := hW.1; omega)).trans (hS.2.1 x h1 h2), hS.2.2⟩
  rw [enc_o (ci := ci) (by simp [va_up]) hci, va_up_s, va_up_s]
  exact ⟨_, hc, (u_born ty hts hin hKn hkC e1 hty).to hfs⟩
theorem wk_newI (hx : p.tables.exec = Jvm.exec) (hb : c.code = cc) (hts : ∀ w ∈ lw_all, w.before args s = true) (hE : En D cy s) (hW : Wd Y cy D z n V G H) (hz : z ≤ H0.size) (hS : va_S (zA z) H0 H locs) {atype : ArrayType} {ci : Nat} (hat : (atype = .char ∧ ci = 5) ∨ (atype = .int ∧ ci = 6)) (hac : Cond.arrayClass (newarray.typeOf atype) ∈ lw_all) {i : Int32} {N : Nat} (hi : ¬ i < 0) (hN : i.toNatClampNeg = N) (hL : Y.2 n = N) (hbytes : N * 4 ≤ 536870912) (hdg : decode cc pc = .ok (.newarray atype, 2)) (hcells : cells + 1 ≤ R.cells) (hslots : slots + N ≤ R.slots)
    (kk : ∀ (H1 : Heap), Wd (va_up Y.1 n ci, Y.2) cy D z (n + 1) (va_up V n (fun _ => 0)) G H1 → va_S (zA z) H0 H1 locs → W p l e R s m args below meth c H1 locs (cells + 1) (slots + N) Q (F0 m (pc + 2) ls (.ref n :: rest))) : W p l e R s m args below meth c H locs cells slots Q (F0 m pc ls (.int i :: rest)) := by
  have hzn : z ≤ n := by have := hS.1; rw [← hW.1]; omega
  refine va_newaK hx hb (hts _ hac) rfl hdg rfl hi hN (by rcases hat with ⟨rfl, -⟩ | ⟨rfl, -⟩ <;> simp [newarray.typeOf, componentBytes] <;> omega) hcells hslots hW.1 fun H1 cA e1 z1 o1 hAr hNm => ?_
  refine kk H1 (wd_push hW hzn z1 o1 (va_up_o _ _ _) (fun _ _ => rfl) ?_) ⟨by have := hS.1; have := hW.1; omega, fun x h1 h2 => (o1 x (by have := hS.1; have := hW.1; omega)).trans (hS.2.1 x h1 h2), hS.2.2⟩
  rcases hat with ⟨rfl, rfl⟩ | ⟨rfl, rfl⟩
  · have h2 : s.vm.findClass ("[" ++ FieldType.char.toString) = some (cy 0) := (hE.1.2 0 _ rfl).2
    have h3 : cA = cy 0 := Option.some.inj (hNm.symm.trans h2)
    rw [enc_i (ci := 5) (by simp [va_up]) (by omega) (by omega), va_up_s]
    show H1[n]? = some (arrV (cy 0) (Y.2 n) (fun _ => .int 0))
    rw [hL, ← h3]
    exact e1
  · have h2 : s.vm.findClass ("[" ++ FieldType.int.toString) = some (cy 1) := (hE.1.2 1 _ rfl).2
    have h3 : cA = cy 1 := Option.some.inj (hNm.symm.trans h2)
    rw [enc_i (ci := 6) (by simp [va_up]) (by omega) (by omega), va_up_s]
    show H1[n]? = some (arrV (cy 1) (Y.2 n) (fun _ => .int 0))
    rw [hL, ← h3]
    exact e1
theorem wk_newO (hx : p.tables.exec = Jvm.exec) (hb : c.code = cc) (hts : ∀ w ∈ lw_all, w.before args s = true) {C : String} {ci index : Nat} (hown : s.vm.findClass own = some m.cls) (hE : En D cy s) (hW : Wd Y cy D z n V G H) (hz : z ≤ H0.size) (hS : va_S (zA z) H0 H locs) (hcl : Cond.classLink own index C ∈ lw_all) (hCi : (C = RX0 ∧ ci = 7) ∨ (C = RX2 ∧ ci = 8)) {i : Int32} {N : Nat} (hi : ¬ i < 0) (hN : i.toNatClampNeg = N) (hL : Y.2 n = N) (hbytes : N * 4 ≤ 536870912) (hdg : decode cc pc = .ok (.anewarray index, 3)) (hcells : cells + 1 ≤ R.cells) (hslots : slots + N ≤ R.slots)
    (kk : ∀ (H1 : Heap), Wd (va_up Y.1 n ci, Y.2) cy D z (n + 1) V (va_up G n (fun _ => none)) H1 → va_S (zA z) H0 H1 locs → W p l e R s m args below meth c H1 locs (cells + 1) (slots + N) Q (F0 m (pc + 3) ls (.ref n :: rest))) : W p l e R s m args below meth c H locs cells slots Q (F0 m pc ls (.int i :: rest)) := by
  have hzn : z ≤ n := by have := hS.1; rw [← hW.1]; omega
  have hov : va_AO C s := by
    rcases hCi with ⟨rfl, -⟩ | ⟨rfl, -⟩
    · exact hE.2.2.1
    · exact hE.2.2.2
  subst hN
  refine W.anew hx hb hown (hts _ hcl) (va_AO.use hov) rfl hdg rfl hi hbytes hcells hslots fun cA kA comp f1 f2 f3 f4 => ?_
  generalize hH1 : H.push ({ cls := cA, slots := Array.replicate i.toNatClampNeg .null, vm := .none } : Cell) = H1
  have z1 : H1.size = n + 1 := by rw [← hH1, Array.size_push, hW.1]
  have e1 : H1[n]? = some (arrV cA i.toNatClampNeg (fun _ => .null)) := by rw [← hH1, ← hW.1, Array.getElem?_push_size, ← arrV_new]
  have o1 : ∀ q : Nat, q < n → H1[q]? = H[q]? := fun q hq => by rw [← hH1, Array.getElem?_push, if_neg (by rw [hW.1]; omega)]
  have hwd : Wd (va_up Y.1 n ci, Y.2) cy D z (n + 1) V (va_up G n (fun _ => none)) H1 := by
    refine wd_push hW hzn z1 o1 (fun _ _ => rfl) (va_up_o _ _ _) ?_
    rcases hCi with ⟨rfl, rfl⟩ | ⟨rfl, rfl⟩
    · obtain ⟨kA2, comp2, g1, g2, g3, g4⟩ := (hE.1.2 2 _ rfl).2
      have h3 : cA = cy 2 := Option.some.inj (f1.symm.trans g4)
      rw [enc_q (ci := 7) (by simp [va_up]) (by omega), va_up_s]
      show H1[n]? = some (arrV (cy 2) (Y.2 n) (fun _ => .null))
      rw [hL, ← h3]
      exact e1
    · obtain ⟨kA2, comp2, g1, g2, g3, g4⟩ := (hE.1.2 3 _ rfl).2
      have h3 : cA = cy 3 := Option.some.inj (f1.symm.trans g4)
      rw [enc_q (ci := 8) (by simp [va_up]) (by omega), va_up_s]
      show H1[n]? = some (arrV (cy 3) (Y.2 n) (fun _ => .null))
      rw [hL, ← h3]
      exact e1
  have hk := kk H1 hwd ⟨by have := hS.1; have := hW.1; omega, fun x h1 h2 => (o1 x (by have := hS.1; have := hW.1; omega)).trans (hS.2.1 x h1 h2), hS.2.2⟩
  rw [hW.1]
  exact hk
theorem wk_obj (hx : p.tables.exec = Jvm.exec) (hb : c.code = cc) (hts : ∀ w ∈ lw_all, w.before args s = true) (hown : s.vm.findClass own = some m.cls) (hml : c.maxLocals = nL) (hlink : Cond.methodLink own index Lib.objectInit ∈ lw_all) (hinst : Cond.instanceMethod Lib.objectInit ∈ lw_all) (hcode : Cond.code Lib.objectInit ⟨#[0xb1]⟩ 1 none ∈ lw_all) (hsize : ls.size = nL) (hdg : decode cc pc = .ok (.invokespecial index, 3)) (hR : 1 ≤ R.frames ∧ 12 ≤ R.locals)
    (kk : W p l e R s m args below meth c H locs cells slots Q (F0 m (pc + 3) ls [])) : W p l e R s m args below meth c H locs cells slots Q (F0 m pc ls [.ref a]) :=
  W.objInit hx hb hown (hts _ hlink) (hts _ hinst) (hts _ hcode) rfl (by rw [hml]; exact hsize) rfl hdg hR.1 hR.2 kk
end WR
