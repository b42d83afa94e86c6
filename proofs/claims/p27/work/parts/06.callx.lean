-- the law's own reading of the script: a contract that knows the script's array
def CTX (l : Launch) (y : MethodName) (cc : ByteArray) (maxL : Nat) (ret : Option FieldType) (rm : Room) (D : va_G) (cy : Nat → ClassId) (z : Nat) (av : List Value) (b L : Nat) (xs : Nat → Int32) (Y : mY) (n : Nat) (V : mV) (G : mG) (res : Option Value) (Y1 : mY) (n1 : Nat) (V1 : mV) (G1 : mG) : Prop :=
  Met l y (Cond.code y cc maxL ret :: lw_all) rm (va_Pc av (fun U => Wd Y cy D z n V G U.heap ∧ En D cy U ∧ va_X b L xs U U.heap ∧ b < U.heap.size)) (QC D cy z Y1 n1 V1 G1 res) rm.cells rm.slots (zA z)
theorem ctx_of {l : Launch} {y : MethodName} {cc : ByteArray} {maxL : Nat} {ret : Option FieldType} {rm : Room} {D : va_G} {cy : Nat → ClassId} {z : Nat} {av : List Value} {b L : Nat} {xs : Nat → Int32} {Y : mY} {n : Nat} {V : mV} {G : mG} {res : Option Value} {Y1 : mY} {n1 : Nat} {V1 : mV} {G1 : mG} (hy : plainName y.cls = true) (hn : (lg_sl av).length ≤ maxL)
    (body : ∀ (p : Program) (e : Env) (s : State) (m : MethodId) (args : Array Value) (below : List Frame) (meth : Method) (c : Code) (ls : Array Slot), p.tables.exec = Jvm.exec → c.code = cc → meth.sig.returnType = ret → c.maxLocals = maxL → s.vm.findClass y.cls = some m.cls → (∀ w ∈ lw_all, w.before args s = true) → meth.locks = false → meth.name = y.name → En D cy s → Wd Y cy D z n V G s.heap → va_X b L xs s s.heap → b < s.heap.size → lv_has ls maxL (lv_args 0 av) →
      W p l e rm s m args below meth c s.heap [] 0 0 (MQ below (QC D cy z Y1 n1 V1 G1 res) args s rm.cells rm.slots (zA z)) (F0 m 0 ls [])) : CTX l y cc maxL ret rm D cy z av b L xs Y n V G res Y1 n1 V1 G1 := by
  refine Met.ofW (cc := cc) (maxL := maxL) (ret := ret) hy rfl ?_
  intro p e s m args below meth c s₁ B hml hv
  obtain ⟨rfl, hW, hE, hX, hbl⟩ := hv
  have hts0 := atoms_spec (ws := Cond.code y cc maxL ret :: lw_all) B.pre
  have hl := lv_entry av (n := maxL) hn
  rw [lg_entry_eq]
  generalize (lg_sl av ++ List.replicate (maxL - (lg_sl av).length) Slot.unset).toArray = ls at hl ⊢
  exact body p e s m _ below meth c ls B.exec B.bytes B.returns hml (findClass_of_methodNamed B.named) (fun w h => hts0 w (List.mem_cons_of_mem _ h)) B.notSynchronized (name_of_methodNamed B.named B.method).1 hE hW hX hbl hl
section WRX
variable {p : Program} {l : Launch} {e : Env} {R : Room} {s : State} {m : MethodId} {args : Array Value} {below : List Frame} {meth : Method} {c : Code} {H : Heap} {locs : List Loc} {cells slots : Nat} {Q : State → Prop}
variable {cc : ByteArray} {pc : Nat} {ls : Array Slot} {rest st0 : List Value} {D : va_G} {cy : Nat → ClassId} {z n a : Nat} {Y : mY} {V : mV} {G : mG} {H0 : Heap}
variable {y : MethodName} {bytes : ByteArray} {maxL nL k index : Nat} {ret : Option FieldType} {rm : Room} {own : String} {b L : Nat} {xs : Nat → Int32} {As : List Value} {Y1 : mY} {n1 : Nat} {V1 : mV} {G1 : mG} {res : Option Value}
theorem wk_preX {s : State} {H H0 : Heap} {av : List Value} (hE : En D cy s) (hW : Wd Y cy D z n V G H) (hX : va_X b L xs s H0) (hbl : b < H.size) (hq : H[b]? = H0[b]?) : PreS s H (va_Pc av (fun U => Wd Y cy D z n V G U.heap ∧ En D cy U ∧ va_X b L xs U U.heap ∧ b < U.heap.size)) av :=
  ⟨fun a U g mk q => ⟨q.1, q.2.1, q.2.2.1.calling, va_X.moved (u := U) (U := U.calling g mk a) (Vm.Alike.refl U.vm) q.2.2.2.1, q.2.2.2.2⟩, fun U hU hWm => ⟨rfl, by rw [hU]; exact hW, hE.warm hWm, by rw [hU]; exact va_X.moved hWm.alike (va_X.kept hX hq), by rw [hU]; exact hbl⟩⟩
theorem wk_SX (hx : p.tables.exec = Jvm.exec) (hb : c.code = cc) (hml : c.maxLocals = nL) (hown : s.vm.findClass own = some m.cls) (hts : ∀ w ∈ lw_all, w.before args s = true) (hE : En D cy s) (hcode : Cond.code y bytes maxL ret ∈ lw_all) (hini : Cond.initialized y.cls ∈ lw_all) (hlink : Cond.methodLink own index y ∈ lw_all) (hstat : Cond.static y ∈ lw_all) (hd : y.cls ≠ "java/lang/invoke/MethodHandle" ∧ y.cls ≠ "java/lang/invoke/VarHandle" ∧ (parseMethodDescriptor y.desc).map (fun d => d.parameters.length) = some k)
    (hM : CTX l y bytes maxL ret rm D cy z As b L xs Y n V G res Y1 n1 V1 G1) (hX : va_X b L xs s H0) (hbl : b < H0.size) (hbA : ¬ zA z b) (hW : Wd Y cy D z n V G H) (hS : va_S (zA z) H0 H locs) (hk : As.length = k) (hst : st0 = As.reverse ++ rest) (hsize : ls.size = nL) (hrest : (rest.map fun v => v.category).sum ≤ 8) (hR : rm.frames + 1 ≤ R.frames ∧ 8 + (maxL + 11) + rm.locals ≤ R.locals) (hdg : decode cc pc = .ok (.invokestatic index, 3)) (hf : cells + rm.cells ≤ R.cells ∧ slots + rm.slots ≤ R.slots)
    (kk : ∀ (H1 : Heap) (locs1 : List Loc), Wd Y1 cy D z n1 V1 G1 H1 → va_S (zA z) H0 H1 locs1 → W p l e R s m args below meth c H1 locs1 (cells + rm.cells) (slots + rm.slots) Q (F0 m (pc + 3) ls (res.toList ++ rest))) : W p l e R s m args below meth c H locs cells slots Q (F0 m pc ls st0) := by
  subst hst
  exact wk_call rfl (va_runS (As := As) (rest := rest) ⟨hx, hb, hml, hown, hts⟩ hM ⟨callB_of k hts (gi_ws hcode) rfl rfl rfl (hts _ hini) (hts _ hlink) hd hR, hts _ hstat⟩ (wk_preX hE hW hX (Nat.lt_of_lt_of_le hbl hS.1) (hS.2.1 b hbl hbA)) rfl hk hsize rfl (lv_room hrest) hdg hf) hS kk
end WRX
