/-! ===== the law's helpers: they catch ===== -/
def zEx : List String := ["java/lang/IllegalArgumentException", "java/lang/IndexOutOfBoundsException", "java/util/NoSuchElementException", "java/lang/IllegalStateException"]
def zNo : List (String × String) := zEx.flatMap (fun a => (zEx.filter (fun b => b != a)).map (fun b => (a, b)))
def zLX : (Nat → Prop) → State → Heap → Prop := fun A s H => zE A s H ∧ (∀ E ∈ zEx, va_Nw (.castable E E) s) ∧ ∀ q ∈ zNo, va_Nc q.1 q.2 s
theorem zLX_pass : zPass zLX := by
  refine zAnd_pass zE_pass ⟨fun A B s U H locs h hS hU hW hB => ⟨fun E hE => va_Nw.warmC hW (h.1 E hE), fun q hq => va_Nc.moved hW.alike (h.2 q hq)⟩, fun B U U1 hv hh h => ⟨fun E hE => (h.1 E hE).same rfl hv.symm, fun q hq => va_Nc.moved (by rw [hv]; exact Vm.Alike.refl _) (h.2 q hq)⟩⟩
def zH (l : Launch) (y : MethodName) (ws : List Cond) (rm : Room) (D : va_G) (tys : List (ClassId × FieldType)) (av : List Value) (W0 W1 : va_W) (r : Int32) : Prop := ∀ sz : Nat, vx_Met l y ws rm (va_Pc av (zPreX zLX D tys W0 sz)) (zQi D tys (va_A W0 sz) W1 r) (vx_X (fun (_ : Unit) => False) (fun _ _ _ => True) (va_A W0 sz)) 1 6 (va_A W0 sz)
theorem z_startH {l : Launch} {y : MethodName} {ws ws' : List Cond} {rm : Room} {D : va_G} {tys : List (ClassId × FieldType)} {av : List Value} {W0 W1 : va_W} {r : Int32} {cc : ByteArray} {maxL : Nat} {ret : Option FieldType} {hh : List (Nat × Nat × Nat × Nat)} (hy : plainName y.cls = true) (hw : ws = Cond.codeWith y cc maxL ret hh :: ws') (hle : (lg_sl av).length ≤ maxL)
    (body : ∀ (p : Program) (e : Env) (s : State) (m : MethodId) (args : Array Value) (below : List Frame) (meth : Method) (c : Code) (A : Nat → Prop), p.tables.exec = Jvm.exec → c.code = cc → meth.sig.returnType = ret → (∀ w ∈ ws, w.before args s = true) → s.vm.findClass y.cls = some m.cls → meth.locks = false → c.maxLocals = maxL → (∀ q, s.heap.size ≤ q → A q) → zLX A s s.heap → c.exceptionTable.toList = tableOf hh → zw D tys s A W0 s.heap [] → ∀ ls : Array Slot, lv_has ls maxL (lv_args 0 av) →
      W p l e rm s m args below meth c s.heap [] 0 0 (vx_MQ below (zQi D tys A W1 r) (vx_X (fun (_ : Unit) => False) (fun _ _ _ => True) A) args s 1 6 A) (F0 m 0 ls [])) : zH l y ws rm D tys av W0 W1 r := by
  intro sz
  refine vx_ofWH (cc := cc) (maxL := maxL) (ret := ret) hy hw ?_
  intro p e s m args below meth c s₁ B hml hv
  have hts : ∀ w ∈ ws, w.before args s = true := atoms_spec (ws := ws) B.pre
  have hxt := vx_table (x := y) B (hts _ (by rw [hw]; exact List.mem_cons_self))
  obtain ⟨rfl, ⟨hsz, hP, hK, hD0⟩, hXA⟩ := hv
  subst hsz
  have hl := lv_entry av (n := maxL) hle
  rw [lg_entry_eq]
  exact body p e s m _ below meth c (va_A W0 s.heap.size) B.exec B.bytes B.returns hts (findClass_of_methodNamed B.named) B.notSynchronized hml (fun q h => Or.inr h) hXA hxt ⟨hK, hP, hD0.self, va_S.rf⟩ _ hl
section ZXR
variable {p : Program} {l : Launch} {e : Env} {R : Room} {s : State} {m : MethodId} {args : Array Value} {below : List Frame} {meth : Method} {c : Code} {H : Heap} {locs : List Loc} {cells slots : Nat} {Q : State → Prop}
variable {cc : ByteArray} {pc : Nat} {ls : Array Slot} {rest st0 : List Value} {D : va_G} {tys : List (ClassId × FieldType)} {A : Nat → Prop} {ws W0 W1 W2 Wc : va_W} {a b : Nat}
variable {y : MethodName} {bytes : ByteArray} {maxL nL n index : Nat} {ret : Option FieldType} {wsc : List Cond} {rm : Room} {Ts : List Cond} {own C : String} {As : List Value} {r : Int32}
theorem z_callVic {E name : String} (S : CallFix p m c cc nL s args Ts own) (hM : zMiT l y wsc rm D tys (.ref b :: As) Wc E) (cw : CallW R s args own C index y bytes maxL ret wsc rm 1 6 n) (hE : zE A s s.heap) (Z : zw D tys s A W0 H locs) (hA : ∀ q, s.heap.size ≤ q → A q) (isC : List Nat) (hC : isC.map (fun i => W0[i]?) = Wc.map some) (hnd : va_nd isC = true)
    {ci : Nat} {q : vw_C} {fs : List Value} (hc : vwCl[ci]? = some q) (he : Wc[0]? = some (b, .inr (ci, fs))) (hq : q.1 = C) (hn : As.length = n) (hsize : ls.size = nL) (hstack : st0 = As.reverse ++ .ref b :: rest) (hW : (rest.map fun v => v.category).sum ≤ 8) (hdg : decode cc pc = .ok (.invokevirtual index, 3)) (hf : cells + 1 ≤ R.cells ∧ slots + 6 ≤ R.slots) (src : List (Option Nat)) (hs : zsame src isC = true) (h2 : zpok W0 Wc W0 src 0)
    (pre : List ExceptionTableEntry) (x : ExceptionTableEntry) (suf : List ExceptionTableEntry) (hsplit : c.exceptionTable.toList = pre ++ x :: suf) (hpass : ∀ z ∈ pre, covers z pc = false ∨ (z.catchType ≠ 0 ∧ ∃ nm : String, (Cond.classLink own z.catchType nm).before args s = true ∧ va_Nc E nm s)) (hcov : covers x pc = true) (h0 : x.catchType ≠ 0) (hown : s.vm.findClass own = some m.cls)
    (hlink : (Cond.classLink own x.catchType name).before args s = true) (hcast : (Cond.castable E name).before args s = true)
    (kk : ∀ (q9 : Nat) (H1 : Heap) (locs1 : List Loc), zw D tys s A W0 H1 locs1 → W p l e R s m args below meth c H1 locs1 (cells + 1) (slots + 6) Q (F0 m x.handlerPc ls [.ref q9])) : W p l e R s m args below meth c H locs cells slots Q (F0 m pc ls st0) := by
  obtain ⟨hK, hP, hD, hS⟩ := Z
  obtain ⟨hPc, hDc⟩ := z_part (A1 := A) hP hD isC hC hnd
  have hFc := va_free hD hS hA isC hC
  refine vx_calli (vx_runV (As := As) (rest := rest) S (hM H.size) cw ⟨fun a' U g mk q9 => ⟨q9.1, ⟨q9.2.1.1, q9.2.1.2.1, va_K.moved (u := U) (U := U.calling g mk a') (Vm.Alike.refl U.vm) q9.2.1.2.2.1, q9.2.1.2.2.2⟩, zE_pass.2 _ U (U.calling g mk a') rfl rfl q9.2.2⟩, by rw [← hq]; exact va_recv hK hPc hc he, fun U hU hW9 => ⟨rfl, ⟨by rw [hU], by rw [hU]; exact hPc, va_K.moved hW9.alike hK, hDc⟩, zE_pass.1 A _ s U H locs hE hS hU hW9 hFc⟩⟩ rfl hn hsize hstack (lv_room hW) hdg hf) hS (fun q _ h => hFc q h) hFc (fun q _ h => hFc q h) (fun E1 ce q9 u t H1 locs1 ht hvm hpx hB hz1 hk1 hS1 hce hcv hcl => ?_) (fun r1 u t H1 locs1 ht hvm hw _ _ _ _ => hw.elim)
  obtain ⟨rfl, hP1, hK1, hD1⟩ := hB
  rw [ht] at hP1
  obtain ⟨hP2, hD2⟩ := zpok_join hP hD isC hC rfl src hs h2 hk1 hP1
  exact vx_catch hown pre x suf hsplit hpass hcov h0 hlink hcast hce hcv hcl (kk q9 H1 locs1 ⟨hK, hP2, hD2, hS1⟩)
theorem z_callH {hh : List (Nat × Nat × Nat × Nat)} (S : CallFix p m c cc nL s args Ts own) (hM : zH l y wsc rm D tys As Wc W1 r) (cw : vx_CSW R s args own index y bytes maxL ret hh wsc rm 1 6 n) (hF : zLX A s s.heap) (Z : zw D tys s A W0 H locs) (hA : ∀ q, s.heap.size ≤ q → A q) (isC : List Nat) (hC : isC.map (fun i => W0[i]?) = Wc.map some) (hnd : va_nd isC = true) (ha : W1.map Prod.fst = Wc.map Prod.fst)
    (hn : As.length = n) (hsize : ls.size = nL) (hstack : st0 = As.reverse ++ rest) (hW : (rest.map fun v => v.category).sum ≤ 8) (hdg : decode cc pc = .ok (.invokestatic index, 3)) (hf : cells + 1 ≤ R.cells ∧ slots + 6 ≤ R.slots) (src : List (Option Nat)) (hs : zsame src isC = true) (h2 : zpok W0 W1 W2 src 0)
    (kk : ∀ (H1 : Heap) (locs1 : List Loc), zw D tys s A W2 H1 locs1 → W p l e R s m args below meth c H1 locs1 (cells + 1) (slots + 6) Q (F0 m (pc + 3) ls (.int r :: rest))) : W p l e R s m args below meth c H locs cells slots Q (F0 m pc ls st0) := by
  obtain ⟨hK, hP, hD, hS⟩ := Z
  obtain ⟨hPc, hDc⟩ := z_part (A1 := A) hP hD isC hC hnd
  have hFc := va_free hD hS hA isC hC
  refine vx_calli (vx_runSX (As := As) (rest := rest) S (hM H.size) cw ⟨fun a' U g mk q9 => ⟨q9.1, ⟨q9.2.1.1, q9.2.1.2.1, va_K.moved (u := U) (U := U.calling g mk a') (Vm.Alike.refl U.vm) q9.2.1.2.2.1, q9.2.1.2.2.2⟩, zLX_pass.2 _ U (U.calling g mk a') rfl rfl q9.2.2⟩, fun U hU hW9 => ⟨rfl, ⟨by rw [hU], by rw [hU]; exact hPc, va_K.moved hW9.alike hK, hDc⟩, zLX_pass.1 A _ s U H locs hF hS hU hW9 hFc⟩⟩ rfl hn hsize hstack (lv_room hW) hdg hf) hS (fun q _ h => hFc q h) hFc (fun q _ h => hFc q h) (fun E1 ce q9 u t H1 locs1 ht hvm hpx hB hz1 hk1 hS1 hce hcv hcl => hpx.elim) (fun r1 u t H1 locs1 ht hvm hw hB hz1 hk1 hS1 => ?_)
  obtain ⟨hP1, hK1, hD1⟩ := hB
  rw [ht] at hP1
  obtain ⟨hP2, hD2⟩ := zpok_join hP hD isC hC ha src hs h2 hk1 hP1
  subst hw
  exact kk H1 locs1 ⟨hK, hP2, hD2, hS1⟩
theorem z_iretH {v : Int32} {XC : String → State → State → Prop} (h1 : cells ≤ 1) (h2 : slots ≤ 6) (hx : p.tables.exec = Jvm.exec) (hb : c.code = cc) (hr : meth.sig.returnType = some .int) (hlocks : meth.locks = false) (Z : zw D tys s A W0 H locs) (h0 : W0 = W1) (hv : v = r) (hdg : decode cc pc = .ok (.ireturn, 1)) :
    W p l e R s m args below meth c H locs cells slots (vx_MQ below (zQi D tys A W1 r) XC args s 1 6 A) (F0 m pc ls [.int v]) := by
  subst h0; subst hv
  refine W.widen h1 h2 (vx_ret ?_)
  exact W.iret hx hb hr (fun t ht hW => ⟨⟨v, (), rfl, rfl, by rw [ht]; exact Z.2.1, va_K.moved hW.alike Z.1, Z.2.2.1⟩, Z.2.2.2.F ht⟩) Z.2.2.2.2.2 hdg hlocks
theorem z_last (hx : p.tables.exec = Jvm.exec) (hb : c.code = cc) (Z : zw D tys s A W0 H locs) (q0 t0 : Nat) {cT : ClassId} {n : Nat} {f : Nat → Int64} (ha : W0[q0]? = some (a, .inl (cT, n, .inr (.inl f)))) (ht : tys[t0]? = some (cT, .long)) {i : Int32} {x : Int64} (hin : vp_in i n) (hdg : decode cc pc = .ok (.lastore, 1)) (hw : W0.set q0 (a, .inl (cT, n, .inr (.inl (vp_updL f i.toNatClampNeg x)))) = W1)
    (kk : ∀ (H1 : Heap) (locs1 : List Loc), zw D tys s A W1 H1 locs1 → W p l e R s m args below meth c H1 locs1 cells slots Q (F0 m (pc + 1) ls rest)) : W p l e R s m args below meth c H locs cells slots Q (F0 m pc ls (.long x :: .int i :: .ref a :: rest)) :=
  va_last hx hb Z.1 Z.2.1 Z.2.2.1 Z.2.2.2 q0 t0 ha ht hin hdg (fun H1 locs1 hP hD hS => kk H1 locs1 ⟨Z.1, by rw [← hw]; exact hP, by rw [← hw]; exact hD, hS⟩)
theorem z_lald (hx : p.tables.exec = Jvm.exec) (hb : c.code = cc) (Z : zw D tys s A W0 H locs) (q0 t0 : Nat) {cT : ClassId} {n : Nat} {f : Nat → Int64} (ha : W0[q0]? = some (a, .inl (cT, n, .inr (.inl f)))) (ht : tys[t0]? = some (cT, .long)) {i : Int32} (hin : vp_in i n) (hdg : decode cc pc = .ok (.laload, 1))
    (kk : W p l e R s m args below meth c H locs cells slots Q (F0 m (pc + 1) ls (.long (f i.toNatClampNeg) :: rest))) : W p l e R s m args below meth c H locs cells slots Q (F0 m pc ls (.int i :: .ref a :: rest)) :=
  va_lald hx hb Z.1 Z.2.1 q0 t0 ha ht hin hdg kk
end ZXR
/-! the pure side of the helpers -/
def o_cat {ρ : Type} (E : String) : List (String × ρ) → Option ρ
  | [] => none
  | q :: r => if E = q.1 then some q.2 else o_cat E r
theorem o_cat1 {ρ : Type} {E E1 : String} {r1 u : ρ} (h : o_cat E [(E1, r1)] = some u) : E = E1 ∧ r1 = u := by
  unfold o_cat at h
  split at h
  · next h1 => exact ⟨h1, Option.some.inj h⟩
  · cases h
theorem o_cat2 {ρ : Type} {E E1 E2 : String} {r1 r2 u : ρ} (h : o_cat E [(E1, r1), (E2, r2)] = some u) : (E = E1 ∧ r1 = u) ∨ (E = E2 ∧ r2 = u) := by
  unfold o_cat at h
  split at h
  · next h1 => exact Or.inl ⟨h1, Option.some.inj h⟩
  · exact Or.inr (o_cat1 h)
def o_hlp {α ρ : Type} (x : Option (String ⊕ α)) (ok : α → ρ) (ex : List (String × ρ)) : Option ρ := match x with
  | none => none
  | some (.inr a) => some (ok a)
  | some (.inl E) => o_cat E ex
theorem o_hlpE {α ρ : Type} {x : Option (String ⊕ α)} {ok : α → ρ} {ex : List (String × ρ)} {u : ρ} (h : o_hlp x ok ex = some u) : (∃ a, x = some (.inr a) ∧ ok a = u) ∨ ∃ E, x = some (.inl E) ∧ o_cat E ex = some u := by
  match x, h with
  | some (.inr a), h => exact Or.inl ⟨a, rfl, Option.some.inj h⟩
  | some (.inl E), h => exact Or.inr ⟨E, rfl, h⟩
