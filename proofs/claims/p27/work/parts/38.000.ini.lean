/-! ===== making: worlds that grow ===== -/
/-- the constructors that a nest mate calls -/
def zNst : List (String × Nat × MethodName × String) := [(RX5, 9, yX4_init, "LotSheet"), (RX5, 35, yX3_init, "LotSheet"), (RX5, 42, yX1_init, "LotSheet"), (RX1, 20, yX3_init, "LotSheet"), (RL, 113, yX6_init, "LotSheetLaw"), (RL, 133, yX7_init, "LotSheetLaw")]
def zXA : (Nat → Prop) → State → Heap → Prop := fun _ s _ => va_AO "LotSheet$Bill" s ∧ (va_AO "LotSheetLaw$Lot" s ∧ va_AO "LotSheetLaw$Bill" s ∧ va_Nw (.castable "[I" "java/lang/Cloneable") s) ∧ ∀ q ∈ zNst, va_Nw (.methodLinkNest q.1 q.2.1 q.2.2.1 q.2.2.2) s
theorem zXA_pass : zPass zXA := by
  refine ⟨fun A B s U H locs h hS hU hW hB => ⟨va_AO.moved hW.alike h.1, ⟨va_AO.moved hW.alike h.2.1.1, va_AO.moved hW.alike h.2.1.2.1, va_Nw.warmC hW h.2.1.2.2⟩, fun q hq => va_Nw.warmM hW (h.2.2 q hq)⟩, fun B U U1 hv hh h => ?_⟩
  have ha : U.vm.Alike U1.vm := by rw [hv]; exact Vm.Alike.refl _
  exact ⟨va_AO.moved ha h.1, ⟨va_AO.moved ha h.2.1.1, va_AO.moved ha h.2.1.2.1, h.2.1.2.2.same rfl hv.symm⟩, fun q hq => (h.2.2 q hq).same rfl hv.symm⟩
/-- a constructor of the object b: behind it stands the world W1 h, h 0 = b -/
def zMn (l : Launch) (y : MethodName) (ws : List Cond) (rm : Room) (D : va_G) (tys : List (ClassId × FieldType)) (b : Nat) (e0 : va_E) (W1 : (Nat → Nat) → va_W) : Prop := ∀ sz : Nat, Met l y ws rm (va_Pc [.ref b] (zPreX zXA D tys [(b, e0)] sz)) (va_Qv (fun (h : Nat → Nat) => h 0 = b) (fun h t => zAt D tys (va_A [(b, e0)] sz) (W1 h) t) (va_A [(b, e0)] sz)) rm.cells rm.slots (va_A [(b, e0)] sz)
theorem z_startn {l : Launch} {y : MethodName} {ws ws' : List Cond} {rm : Room} {D : va_G} {tys : List (ClassId × FieldType)} {b : Nat} {e0 : va_E} {W1 : (Nat → Nat) → va_W} {cc : ByteArray} {maxL : Nat} {ret : Option FieldType} (hy : plainName y.cls = true) (hy2 : y.name = "<init>") (hw : ws = Cond.code y cc maxL ret :: ws') (hle : 1 ≤ maxL)
    (body : ∀ (p : Program) (e : Env) (s : State) (m : MethodId) (args : Array Value) (below : List Frame) (meth : Method) (c : Code) (A : Nat → Prop), p.tables.exec = Jvm.exec → c.code = cc → meth.sig.returnType = ret → (∀ w ∈ ws, w.before args s = true) → s.vm.findClass y.cls = some m.cls → meth.locks = false → c.maxLocals = maxL → (∀ q, s.heap.size ≤ q → A q) → meth.name = "<init>" → zXA A s s.heap → zw D tys s A [(b, e0)] s.heap [] → ∀ ls : Array Slot, lv_has ls maxL [(0, .ref b)] →
      W p l e rm s m args below meth c s.heap [] 0 0 (MQ below (va_Qv (fun (h : Nat → Nat) => h 0 = b) (fun h t => zAt D tys A (W1 h) t) A) args s rm.cells rm.slots A) (F0 m 0 ls [])) : zMn l y ws rm D tys b e0 W1 := by
  intro sz
  refine Met.ofW (cc := cc) (maxL := maxL) (ret := ret) hy hw ?_
  intro p e s m args below meth c s₁ B hml hv
  obtain ⟨rfl, ⟨hsz, hP, hK, hD0⟩, hXA⟩ := hv
  subst hsz
  have hl := lv_entry [.ref b] (n := maxL) hle
  rw [lg_entry_eq]
  exact body p e s m _ below meth c (va_A [(b, e0)] s.heap.size) B.exec B.bytes B.returns (atoms_spec (ws := ws) B.pre) (findClass_of_methodNamed B.named) B.notSynchronized hml (fun q h => Or.inr h) ((name_of_methodNamed B.named B.method).1.trans hy2) hXA ⟨hK, hP, hD0.self, va_S.rf⟩ _ hl
section ZNR
variable {p : Program} {l : Launch} {e : Env} {R : Room} {s : State} {m : MethodId} {args : Array Value} {below : List Frame} {meth : Method} {c : Code} {H : Heap} {locs : List Loc} {cells slots : Nat} {Q : State → Prop}
variable {cc : ByteArray} {pc : Nat} {ls : Array Slot} {rest st0 : List Value} {D : va_G} {tys : List (ClassId × FieldType)} {A : Nat → Prop} {W0 : va_W} {a b : Nat}
theorem z_nret {W1 : (Nat → Nat) → va_W} (hx : p.tables.exec = Jvm.exec) (hb : c.code = cc) (hr : meth.sig.returnType = none) (hlocks : meth.locks = false) (Z : zw D tys s A W0 H locs) (h : Nat → Nat) (hh : h 0 = b) (is : List Nat) (hs : is.map (fun i => W0[i]?) = (W1 h).map some) (hn : va_nd is = true) (hdg : decode cc pc = .ok (.return_, 1)) :
    W p l e R s m args below meth c H locs cells slots (MQ below (va_Qv (fun (h : Nat → Nat) => h 0 = b) (fun h t => zAt D tys A (W1 h) t) A) args s cells slots A) (F0 m pc ls []) := by
  have hP := (z_part (A1 := A) Z.2.1 Z.2.2.1 is hs hn).1
  have hD := Z.2.2.1.sub is hn hs
  exact W.vret hx hb hr (fun t ht hW => ⟨⟨h, rfl, hh, by rw [ht]; exact hP, va_K.moved hW.alike Z.1, hD⟩, Z.2.2.2.F ht⟩) Z.2.2.2.2.2 hdg hlocks
theorem z_obj {own : String} {idx : Nat} {Ts : List Cond} (hx : p.tables.exec = Jvm.exec) (hb : c.code = cc) (hown : s.vm.findClass own = some m.cls) (hts : ∀ w ∈ Ts, w.before args s = true) (hlink : Cond.methodLink own idx Lib.objectInit ∈ Ts) (hinst : Cond.instanceMethod Lib.objectInit ∈ Ts) (hcode : Cond.code Lib.objectInit ⟨#[0xb1]⟩ 1 none ∈ Ts) (hml : c.maxLocals = ls.size)
    (hdg : decode cc pc = .ok (.invokespecial idx, 3)) (hf : 1 ≤ R.frames) (hlo : (rest.map fun v => v.category).sum + 12 ≤ R.locals) (kk : W p l e R s m args below meth c H locs cells slots Q (F0 m (pc + 3) ls rest)) : W p l e R s m args below meth c H locs cells slots Q (F0 m pc ls (.ref a :: rest)) := by
  refine W.objInit hx hb hown (hts _ hlink) (hts _ hinst) (hts _ hcode) rfl hml.symm rfl hdg hf (by show 2 * 0 + _ + 12 ≤ _; omega) ?_
  exact kk
theorem z_newa {atype : ArrayType} {ty : FieldType} {cT : ClassId} {Ts : List Cond} (t0 : Nat) (hx : p.tables.exec = Jvm.exec) (hb : c.code = cc) (hts : ∀ w ∈ Ts, w.before args s = true) (harr : Cond.arrayClass ty ∈ Ts) (hty : newarray.typeOf atype = ty) (hra : ∀ q, va_RA s q ty = (s.vm.findClass ("[" ++ ty.toString) = some q)) (ht : tys[t0]? = some (cT, ty)) (Z : zw D tys s A W0 H locs) (hA : ∀ q, s.heap.size ≤ q → A q)
    {n : Int32} {N' : Nat} {a0 : vp_A} (ha : ∀ cA : ClassId, vp_cell cA a0 = arrV cA N' (fun _ => defaultValue ty)) (hn : ¬ n < 0) (hN : n.toNatClampNeg = N') (hbytes : N' * componentBytes ty ≤ 536870912) (hcells : cells + 1 ≤ R.cells) (hslots : slots + N' ≤ R.slots) (hdg : decode cc pc = .ok (.newarray atype, 2))
    (kk : ∀ (q : Nat) (H1 : Heap), zw D tys s A (W0 ++ [(q, .inl (cT, a0))]) H1 locs → W p l e R s m args below meth c H1 locs (cells + 1) (slots + N') Q (F0 m (pc + 2) ls (.ref q :: rest))) : W p l e R s m args below meth c H locs cells slots Q (F0 m pc ls (.int n :: rest)) := by
  refine va_newa (atype := atype) (ty := ty) hx hb (by rw [hty]; exact hts _ harr) hty Z.1 Z.2.1 Z.2.2.1 Z.2.2.2 hA ha hn hN hbytes hcells hslots hdg (fun q cA H1 hK hP hD hS => ?_)
  have h1 := (Z.1.2 t0 _ ht).2
  have h2 := (hK.2 tys.length (cA, ty) (by simp)).2
  rw [hra] at h1 h2
  have h3 := h1.symm.trans h2
  cases h3
  exact kk q H1 ⟨Z.1, hP, hD, hS⟩
theorem z_new {own C : String} {T : u_T} {N ci index : Nat} {Ts : List Cond} (hx : p.tables.exec = Jvm.exec) (hb : c.code = cc) (hts : ∀ w ∈ Ts, w.before args s = true) (hin : ∀ w ∈ u_ws C T N, w ∈ Ts) (ty : Nat → FieldType) (hty : ∀ k, k < N → parseFieldDescriptor (T k).2.2.1 = some (ty k)) (hown : s.vm.findClass own = some m.cls) (hcl : Cond.classLink own index C ∈ Ts) (hinst : Cond.instantiable C N ∈ Ts) (hini : Cond.initialized C ∈ Ts)
    (Z : zw D tys s A W0 H locs) (hA : ∀ q, s.heap.size ≤ q → A q) (hc : vwCl[ci]? = some (C, T, N)) {fs : List Value} (hfs : ∀ j, j < N → defaultValue (ty j) = vp_V fs j) (hcells : cells + 1 ≤ R.cells) (hslots : slots + N ≤ R.slots) (hdg : decode cc pc = .ok (.new index, 3))
    (kk : ∀ (q : Nat) (H1 : Heap), zw D tys s A (W0 ++ [(q, .inr (ci, fs))]) H1 locs → W p l e R s m args below meth c H1 locs (cells + 1) (slots + N) Q (F0 m (pc + 3) ls (.ref q :: rest))) : W p l e R s m args below meth c H locs cells slots Q (F0 m pc ls rest) :=
  va_new hx hb hts hin ty hty hown (hts _ hcl) (hts _ hinst) (hts _ hini) Z.1 Z.2.1 Z.2.2.1 Z.2.2.2 hA hc hfs hcells hslots hdg (fun q H1 hP hD hS => kk q H1 ⟨Z.1, hP, hD, hS⟩)
theorem z_putF {W1 : va_W} {own ref C : String} {T : u_T} {N ci index : Nat} {Ts : List Cond} (hx : p.tables.exec = Jvm.exec) (hb : c.code = cc) (hts : ∀ w ∈ Ts, w.before args s = true) (hin : ∀ w ∈ u_ws C T N, w ∈ Ts) (ty0 : Nat → FieldType) (hty : ∀ k, k < N → parseFieldDescriptor (T k).2.2.1 = some (ty0 k)) (hnm : ∀ a, a < N → ∀ b, b < N → a ≠ b → (T a).2.1 ≠ (T b).2.1) (hown : s.vm.findClass own = some m.cls) (Z : zw D tys s A W0 H locs) (q0 : Nat) {fs : List Value} (he : W0[q0]? = some (a, .inr (ci, fs))) (hc : vwCl[ci]? = some (C, T, N)) (k : Nat) (hk : k < N) (hlink : (Cond.fieldLink own index ref (T k).2.1 (T k).2.2.1) ∈ Ts) (hsame : (T k).1 = ref) (hfin : (T k).2.2.2 = true) (hin2 : meth.name = "<init>") (hdecl : (T k).1 = own) {v : Value} (hn : narrow (ty0 k) v = v) (hfit : fits (ty0 k) v = true) (hl : k < fs.length)
    (hdg : decode cc pc = .ok (.putfield index, 3)) (hw : W0.set q0 (a, .inr (ci, fs.set k v)) = W1) (kk : ∀ (H1 : Heap) (locs1 : List Loc), zw D tys s A W1 H1 locs1 → W p l e R s m args below meth c H1 locs1 cells slots Q (F0 m (pc + 3) ls rest)) : W p l e R s m args below meth c H locs cells slots Q (F0 m pc ls (v :: .ref a :: rest)) :=
  va_putF (ref := ref) hx hb hts hin ty0 hty hnm hown Z.1 Z.2.1 Z.2.2.1 Z.2.2.2 q0 he hc k hk (hts _ hlink) (fun x hxx => by rw [← hsame]; exact hxx) hfin hin2 hdecl (hty k hk) hn hfit hl hdg (fun H1 locs1 hP hD hS => kk H1 locs1 ⟨Z.1, by rw [← hw]; exact hP, by rw [← hw]; exact hD, hS⟩)
theorem z_nd_range (n : Nat) : va_nd (List.range n) = true := by
  have key : ∀ (k i : Nat), va_nd (List.range' i k) = true := by
    intro k
    induction k with
    | zero => intro i; rfl
    | succ k ih =>
      intro i
      show (decide (i ∉ List.range' (i + 1) k) && va_nd (List.range' (i + 1) k)) = true
      rw [ih, Bool.and_true, decide_eq_true_eq, List.mem_range'_1]
      omega
  rw [List.range_eq_range']
  exact key n 0
theorem z_rng (Wp : va_W) (q : Nat × va_E) : (List.range Wp.length).map (fun i => (Wp ++ [q])[i]?) = Wp.map some := by
  apply List.ext_getElem?
  intro i
  rw [List.getElem?_map, List.getElem?_map]
  by_cases h : i < Wp.length
  · rw [List.getElem?_range h, Option.map_some, List.getElem?_append_left h, List.getElem?_eq_getElem h]
    rfl
  · rw [List.getElem?_eq_none (by rw [List.length_range]; omega), List.getElem?_eq_none (by omega)]
    rfl
/-- a constructor is called: its object stands last -/
theorem z_callI {y : MethodName} {bytes : ByteArray} {maxL nL index : Nat} {wsc : List Cond} {rm : Room} {Ts : List Cond} {own : String} {Wp : va_W} {e0 : va_E} {W1 : (Nat → Nat) → va_W} (hXA : zXA A s s.heap) (S : CallFix p m c cc nL s args Ts own) (hM : zMn l y wsc rm D tys b e0 W1) (cw : CallB R s args own index y bytes maxL none wsc rm rm.cells rm.slots 0 ∧ y.name = "<init>" ∧ (Cond.instanceMethod y).before args s = true) (Z : zw D tys s A (Wp ++ [(b, e0)]) H locs) (hA : ∀ q, s.heap.size ≤ q → A q)
    (hsize : ls.size = nL) (hW : (rest.map fun v => v.category).sum ≤ 8) (hdg : decode cc pc = .ok (.invokespecial index, 3)) (hf : cells + rm.cells ≤ R.cells ∧ slots + rm.slots ≤ R.slots)
    (kk : ∀ (h : Nat → Nat) (H1 : Heap) (locs1 : List Loc), h 0 = b → zw D tys s A (Wp ++ W1 h) H1 locs1 → W p l e R s m args below meth c H1 locs1 (cells + rm.cells) (slots + rm.slots) Q (F0 m (pc + 3) ls rest)) : W p l e R s m args below meth c H locs cells slots Q (F0 m pc ls (.ref b :: rest)) := by
  obtain ⟨hK, hP, hD, hS⟩ := Z
  have hC : [Wp.length].map (fun i => (Wp ++ [(b, e0)])[i]?) = [(b, e0)].map some := by simp
  obtain ⟨hPc, hDc⟩ := z_part (A1 := A) hP hD [Wp.length] hC rfl
  have hFc := va_free hD hS hA [Wp.length] hC
  refine va_callv (va_runI (As := []) (rest := rest) S (hM H.size) cw ⟨fun a' U g mk q9 => ⟨q9.1, ⟨q9.2.1.1, q9.2.1.2.1, va_K.moved (u := U) (U := U.calling g mk a') (Vm.Alike.refl U.vm) q9.2.1.2.2.1, q9.2.1.2.2.2⟩, zXA_pass.2 _ U (U.calling g mk a') rfl rfl q9.2.2⟩, fun U hU hW9 => ⟨rfl, ⟨by rw [hU], by rw [hU]; exact hPc, va_K.moved hW9.alike hK, hDc⟩, zXA_pass.1 A _ s U H locs hXA hS hU hW9 hFc⟩⟩ rfl rfl hsize rfl (lv_room hW) hdg hf) hS (fun q _ h => hFc q h) hFc (fun h t H1 locs1 ht hvm hw hB hz1 hk1 hS1 => ?_)
  obtain ⟨hP1, hK1, hD1⟩ := hB
  rw [ht] at hP1
  obtain ⟨hP2, hD2⟩ := va_join hP hD [Wp.length] (List.range Wp.length) hC (z_rng Wp (b, e0)) (z_nd_range _) (fun i hi => by rw [List.mem_range] at hi; simp; omega) hk1 hFc hP1 hD1
  exact kk h H1 locs1 hw ⟨hK, hP2, hD2, hS1⟩
/-- a private one of a nest mate -/
theorem z_callIN {y : MethodName} {bytes : ByteArray} {maxL nL index : Nat} {wsc : List Cond} {rm : Room} {Ts : List Cond} {own host : String} {Wp : va_W} {e0 : va_E} {W1 : (Nat → Nat) → va_W} (hXA : zXA A s s.heap) (S : CallFix p m c cc nL s args Ts own) (hM : zMn l y wsc rm D tys b e0 W1) (cw : va_CN R s args own index y host bytes maxL none wsc rm rm.cells rm.slots 0 ∧ y.name = "<init>" ∧ (Cond.instanceMethod y).before args s = true) (Z : zw D tys s A (Wp ++ [(b, e0)]) H locs) (hA : ∀ q, s.heap.size ≤ q → A q)
    (hsize : ls.size = nL) (hW : (rest.map fun v => v.category).sum ≤ 8) (hdg : decode cc pc = .ok (.invokespecial index, 3)) (hf : cells + rm.cells ≤ R.cells ∧ slots + rm.slots ≤ R.slots)
    (kk : ∀ (h : Nat → Nat) (H1 : Heap) (locs1 : List Loc), h 0 = b → zw D tys s A (Wp ++ W1 h) H1 locs1 → W p l e R s m args below meth c H1 locs1 (cells + rm.cells) (slots + rm.slots) Q (F0 m (pc + 3) ls rest)) : W p l e R s m args below meth c H locs cells slots Q (F0 m pc ls (.ref b :: rest)) := by
  obtain ⟨hK, hP, hD, hS⟩ := Z
  have hC : [Wp.length].map (fun i => (Wp ++ [(b, e0)])[i]?) = [(b, e0)].map some := by simp
  obtain ⟨hPc, hDc⟩ := z_part (A1 := A) hP hD [Wp.length] hC rfl
  have hFc := va_free hD hS hA [Wp.length] hC
  refine va_callv (va_runIN (As := []) (rest := rest) S (hM H.size) cw ⟨fun a' U g mk q9 => ⟨q9.1, ⟨q9.2.1.1, q9.2.1.2.1, va_K.moved (u := U) (U := U.calling g mk a') (Vm.Alike.refl U.vm) q9.2.1.2.2.1, q9.2.1.2.2.2⟩, zXA_pass.2 _ U (U.calling g mk a') rfl rfl q9.2.2⟩, fun U hU hW9 => ⟨rfl, ⟨by rw [hU], by rw [hU]; exact hPc, va_K.moved hW9.alike hK, hDc⟩, zXA_pass.1 A _ s U H locs hXA hS hU hW9 hFc⟩⟩ rfl rfl hsize rfl (lv_room hW) hdg hf) hS (fun q _ h => hFc q h) hFc (fun h t H1 locs1 ht hvm hw hB hz1 hk1 hS1 => ?_)
  obtain ⟨hP1, hK1, hD1⟩ := hB
  rw [ht] at hP1
  obtain ⟨hP2, hD2⟩ := va_join hP hD [Wp.length] (List.range Wp.length) hC (z_rng Wp (b, e0)) (z_nd_range _) (fun i hi => by rw [List.mem_range] at hi; simp; omega) hk1 hFc hP1 hD1
  exact kk h H1 locs1 hw ⟨hK, hP2, hD2, hS1⟩
theorem z_newq {own C : String} {index : Nat} {cT : ClassId} {Ts : List Cond} (t0 : Nat) (hx : p.tables.exec = Jvm.exec) (hb : c.code = cc) (hts : ∀ w ∈ Ts, w.before args s = true) (hown : s.vm.findClass own = some m.cls) (hclink : Cond.classLink own index C ∈ Ts) (hover : va_AO C s) (ht : tys[t0]? = some (cT, .object C)) (Z : zw D tys s A W0 H locs) (hA : ∀ q, s.heap.size ≤ q → A q)
    {n : Int32} {N' : Nat} (hn : ¬ n < 0) (hN : n.toNatClampNeg = N') (hbytes : N' * 4 ≤ 536870912) (hcells : cells + 1 ≤ R.cells) (hslots : slots + N' ≤ R.slots) (hdg : decode cc pc = .ok (.anewarray index, 3))
    (kk : ∀ (q : Nat) (H1 : Heap), zw D tys s A (W0 ++ [(q, .inl (cT, N', .inr (.inr (.inr (.inr (fun _ => none))))))]) H1 locs → W p l e R s m args below meth c H1 locs (cells + 1) (slots + N') Q (F0 m (pc + 3) ls (.ref q :: rest))) : W p l e R s m args below meth c H locs cells slots Q (F0 m pc ls (.int n :: rest)) := by
  refine va_newq hx hb hown (hts _ hclink) hover Z.1 Z.2.1 Z.2.2.1 Z.2.2.2 hA hn hN hbytes hcells hslots hdg (fun q cA H1 hK hP hD hS => ?_)
  obtain ⟨k1, p1, g1, g2, g3, g4⟩ := (Z.1.2 t0 _ ht).2
  obtain ⟨k2, p2, f1, f2, f3, f4⟩ := (hK.2 tys.length (cA, .object C) (by simp)).2
  have h3 := g4.symm.trans f4
  cases h3
  exact kk q H1 ⟨Z.1, hP, hD, hS⟩
theorem z_astq (hx : p.tables.exec = Jvm.exec) (hb : c.code = cc) (Z : zw D tys s A W0 H locs) (q0 t0 qk ci : Nat) {W1 : va_W} {cA : ClassId} {r : vw_C} {n v : Nat} {vs : List Value} {f : Nat → Option Nat} (ha : W0[q0]? = some (a, .inl (cA, n, .inr (.inr (.inr (.inr f)))))) (ht : tys[t0]? = some (cA, .object r.1)) (hv : W0[qk]? = some (v, .inr (ci, vs))) (hc : vwCl[ci]? = some r) {i : Int32} (hin : vp_in i n) (hdg : decode cc pc = .ok (.aastore, 1)) (hw : W0.set q0 (a, .inl (cA, n, .inr (.inr (.inr (.inr (va_up f i.toNatClampNeg (some v))))))) = W1)
    (kk : ∀ (H1 : Heap) (locs1 : List Loc), zw D tys s A W1 H1 locs1 → W p l e R s m args below meth c H1 locs1 cells slots Q (F0 m (pc + 1) ls rest)) : W p l e R s m args below meth c H locs cells slots Q (F0 m pc ls (.ref v :: .int i :: .ref a :: rest)) :=
  va_astq hx hb Z.1 Z.2.1 Z.2.2.1 Z.2.2.2 q0 t0 qk ci ha ht hv hc hin hdg (fun H1 locs1 hP hD hS => kk H1 locs1 ⟨Z.1, by rw [← hw]; exact hP, by rw [← hw]; exact hD, hS⟩)
end ZNR
