/-! ===== the pure side: programs that may get stuck ===== -/
def o_let {α β : Type} (a : α) (f : α → β) : β := f a
def o_bind {α β : Type} (x : Option α) (f : α → Option β) : Option β := match x with
  | none => none
  | some a => f a
def o_rd {β : Type} (n : Nat) (i : Int32) (a : Option β) : Option β := if i < 0 ∨ n ≤ i.toNatClampNeg then none else a
def o_as {β : Type} (c : Prop) [Decidable c] (a : Option β) : Option β := if c then a else none
theorem o_pos {β : Type} {c : Prop} {i : Decidable c} {a b r : Option β} (hc : c) (h : (@ite (Option β) c i a b) = r) : a = r := by rw [if_pos hc] at h; exact h
theorem o_neg {β : Type} {c : Prop} {i : Decidable c} {a b r : Option β} (hc : ¬ c) (h : (@ite (Option β) c i a b) = r) : b = r := by rw [if_neg hc] at h; exact h
theorem o_letE {α β : Type} {a x : α} {f : α → Option β} {r : Option β} (e : x = a) (h : o_let a f = r) : f x = r := by subst e; exact h
theorem o_jnE {α β : Type} {k : α} {b : α → Option β} {r : Option β} (h : o_let k b = r) : ∃ j, j = k ∧ b j = r := ⟨k, rfl, h⟩
theorem o_bindE {α β : Type} {x : Option α} {f : α → Option β} {r : β} (h : o_bind x f = some r) : ∃ u, x = some u ∧ f u = some r := by
  cases x with
  | none => cases h
  | some a => exact ⟨a, rfl, h⟩
theorem o_rdE {β : Type} {n : Nat} {i : Int32} {a : Option β} {r : β} (h : o_rd n i a = some r) : vp_in i n ∧ a = some r := by
  unfold o_rd at h
  split at h
  · cases h
  · exact ⟨‹_›, h⟩
theorem o_asE {β : Type} {c : Prop} {ic : Decidable c} {a : Option β} {r : β} (h : @o_as β c ic a = some r) : c ∧ a = some r := by
  unfold o_as at h
  split at h
  · exact ⟨‹_›, h⟩
  · cases h
theorem o_no {β : Type} {r : β} {P : Prop} (h : (none : Option β) = some r) : P := by cases h
/-! ===== worlds with their tables ===== -/
def zTY (cA : Nat → ClassId) : List (ClassId × FieldType) := [(cA 0, .int), (cA 1, .boolean), (cA 2, .byte), (cA 3, .object "LotSheet$Bill"), (cA 4, .object "LotSheetLaw$Lot"), (cA 5, .object "LotSheetLaw$Bill")]
def zw (D : va_G) (tys : List (ClassId × FieldType)) (s : State) (A : Nat → Prop) (ws : va_W) (H : Heap) (locs : List Loc) : Prop := va_K D vwCl tys s ∧ va_P D vwCl ws H ∧ va_D A ws ∧ va_S A s.heap H locs
def zAt (D : va_G) (tys : List (ClassId × FieldType)) (A : Nat → Prop) (ws : va_W) (t : State) : Prop := va_P D vwCl ws t.heap ∧ va_K D vwCl tys t ∧ va_D A ws
def zPre (D : va_G) (tys : List (ClassId × FieldType)) (ws : va_W) (sz : Nat) : State → Prop := fun U => U.heap.size = sz ∧ va_P D vwCl ws U.heap ∧ va_K D vwCl tys U ∧ va_D (fun _ => True) ws
def zQi (D : va_G) (tys : List (ClassId × FieldType)) (A : Nat → Prop) (W1 : va_W) (r : Int32) : Array Value → State → Outcome → State → Prop := va_Qi (fun x (_ : Unit) => x = r) (fun _ t => zAt D tys A W1 t) A
def zQv (D : va_G) (tys : List (ClassId × FieldType)) (A : Nat → Prop) (W1 : va_W) : Array Value → State → Outcome → State → Prop := va_Qv (fun (_ : Unit) => True) (fun _ t => zAt D tys A W1 t) A
def zMi (l : Launch) (y : MethodName) (ws : List Cond) (rm : Room) (D : va_G) (tys : List (ClassId × FieldType)) (av : List Value) (W0 W1 : va_W) (r : Int32) : Prop := ∀ sz : Nat, Met l y ws rm (va_Pc av (zPre D tys W0 sz)) (zQi D tys (va_A W0 sz) W1 r) 0 0 (va_A W0 sz)
def zMv (l : Launch) (y : MethodName) (ws : List Cond) (rm : Room) (D : va_G) (tys : List (ClassId × FieldType)) (av : List Value) (W0 W1 : va_W) : Prop := ∀ sz : Nat, Met l y ws rm (va_Pc av (zPre D tys W0 sz)) (zQv D tys (va_A W0 sz) W1) 0 0 (va_A W0 sz)
theorem z_mapat {is : List Nat} {W w : va_W} (hs : is.map (fun i => W[i]?) = w.map some) : ∀ (k : Nat) (q : Nat × va_E), w[k]? = some q → ∃ i, is[k]? = some i ∧ W[i]? = some q := by
  intro k q hq
  have h1 : (is.map (fun i => W[i]?))[k]? = some (some q) := by rw [hs, List.getElem?_map, hq]; rfl
  rw [List.getElem?_map] at h1
  cases hi : is[k]? with
  | none => rw [hi] at h1; cases h1
  | some i => rw [hi] at h1; exact ⟨i, rfl, Option.some.inj h1⟩
theorem z_part {A0 A1 : Nat → Prop} {D : va_G} {W wc : va_W} {H : Heap} (hP : va_P D vwCl W H) (hD : va_D A0 W) (isC : List Nat) (hC : isC.map (fun i => W[i]?) = wc.map some) (hn : va_nd isC = true) : va_P D vwCl wc H ∧ va_D (fun _ => True) wc := by
  refine ⟨fun k q hk => ?_, (hD.sub isC hn hC).weaken (fun _ _ _ _ => trivial)⟩
  obtain ⟨i, -, h2⟩ := z_mapat hC k q hk
  exact hP i q h2
/-- the world W2 is W0, but at the places that src names it has W1's cells: a row for each place -/
def zpok (W0 W1 W2 : va_W) : List (Option Nat) → Nat → Prop
  | [], k => W2[k]? = none
  | none :: r, k => W2[k]? = W0[k]? ∧ zpok W0 W1 W2 r (k + 1)
  | some j :: r, k => W2[k]? = W1[j]? ∧ zpok W0 W1 W2 r (k + 1)
theorem zpok_get {W0 W1 W2 : va_W} : ∀ (src : List (Option Nat)) (k0 : Nat), zpok W0 W1 W2 src k0 → ∀ (k : Nat) (q : Nat × va_E), k0 ≤ k → W2[k]? = some q → (src[k - k0]? = some none ∧ W0[k]? = some q) ∨ ∃ j : Nat, src[k - k0]? = some (some j) ∧ W1[j]? = some q
  | [], k0, h, k, q, hk, hq => by
    have h1 : W2[k0]? = none := h
    rw [List.getElem?_eq_none_iff] at h1
    have h2 := (List.getElem?_eq_some_iff.mp hq).1
    omega
  | none :: r, k0, h, k, q, hk, hq => by
    by_cases e : k = k0
    · subst e
      exact Or.inl ⟨by simp, by rw [← h.1]; exact hq⟩
    · have e2 : k - k0 = (k - (k0 + 1)) + 1 := by omega
      rcases zpok_get r (k0 + 1) h.2 k q (by omega) hq with ⟨a1, a2⟩ | ⟨j, a1, a2⟩
      · exact Or.inl ⟨by rw [e2, List.getElem?_cons_succ]; exact a1, a2⟩
      · exact Or.inr ⟨j, by rw [e2, List.getElem?_cons_succ]; exact a1, a2⟩
  | some j :: r, k0, h, k, q, hk, hq => by
    by_cases e : k = k0
    · subst e
      exact Or.inr ⟨j, by simp, by rw [← h.1]; exact hq⟩
    · have e2 : k - k0 = (k - (k0 + 1)) + 1 := by omega
      rcases zpok_get r (k0 + 1) h.2 k q (by omega) hq with ⟨a1, a2⟩ | ⟨j, a1, a2⟩
      · exact Or.inl ⟨by rw [e2, List.getElem?_cons_succ]; exact a1, a2⟩
      · exact Or.inr ⟨j, by rw [e2, List.getElem?_cons_succ]; exact a1, a2⟩
/-- src and the places isC say the same -/
def zsame (src : List (Option Nat)) (isC : List Nat) : Bool := (List.range src.length).all (fun k => match src[k]? with
  | some (some j) => isC[j]? == some k
  | some none => !(isC.contains k)
  | none => true)
theorem zsame_some {src : List (Option Nat)} {isC : List Nat} (h : zsame src isC = true) {k j : Nat} (hk : src[k]? = some (some j)) : isC[j]? = some k := by
  have hl := (List.getElem?_eq_some_iff.mp hk).1
  have h1 := List.all_eq_true.mp h k (List.mem_range.mpr hl)
  rw [hk] at h1
  simpa using h1
theorem zsame_none {src : List (Option Nat)} {isC : List Nat} (h : zsame src isC = true) {k : Nat} (hk : src[k]? = some none) : k ∉ isC := by
  have hl := (List.getElem?_eq_some_iff.mp hk).1
  have h1 := List.all_eq_true.mp h k (List.mem_range.mpr hl)
  rw [hk] at h1
  simpa using h1
theorem zpok_join {A0 : Nat → Prop} {D : va_G} {W0 wc w1 W2 : va_W} {H H1 : Heap} (hP : va_P D vwCl W0 H) (hD : va_D A0 W0) (isC : List Nat) (hC : isC.map (fun i => W0[i]?) = wc.map some) (ha : w1.map Prod.fst = wc.map Prod.fst)
    (src : List (Option Nat)) (hs : zsame src isC = true) (h2 : zpok W0 w1 W2 src 0)
    (hk : ∀ q : Nat, q < H.size → ¬ va_A wc H.size q → H1[q]? = H[q]?) (hP1 : va_P D vwCl w1 H1) : va_P D vwCl W2 H1 ∧ va_D A0 W2 := by
  have get : ∀ (k : Nat) (q : Nat × va_E), W2[k]? = some q → (k ∉ isC ∧ W0[k]? = some q) ∨ ∃ j : Nat, isC[j]? = some k ∧ w1[j]? = some q := by
    intro k q hq
    rcases zpok_get src 0 h2 k q (Nat.zero_le k) hq with ⟨a1, a2⟩ | ⟨j, a1, a2⟩
    · exact Or.inl ⟨zsame_none hs a1, a2⟩
    · exact Or.inr ⟨j, zsame_some hs a1, a2⟩
  have key : ∀ (k : Nat) (q : Nat × va_E), W2[k]? = some q → ∃ q0, W0[k]? = some q0 ∧ q0.1 = q.1 := by
    intro k q hq
    rcases get k q hq with ⟨-, h2⟩ | ⟨j, h1, h2⟩
    · exact ⟨q, h2, rfl⟩
    · have h3 : (wc.map Prod.fst)[j]? = some q.1 := by rw [← ha, List.getElem?_map, h2]; rfl
      rw [List.getElem?_map] at h3
      cases h4 : wc[j]? with
      | none => rw [h4] at h3; cases h3
      | some qc =>
        rw [h4] at h3
        obtain ⟨i, h5, h6⟩ := z_mapat hC j qc h4
        rw [h1] at h5
        cases h5
        exact ⟨qc, h6, Option.some.inj h3⟩
  refine ⟨fun k q hq => ?_, fun i j p q hi hj hpq => ?_, fun k q hq => ?_⟩
  · rcases get k q hq with ⟨h1, h2⟩ | ⟨j, h1, h2⟩
    · have hlt := (hP k q h2).lt
      refine (hP k q h2).kept (hk q.1 hlt ?_)
      rintro (⟨k2, e2, h3⟩ | h3)
      · obtain ⟨i, h4, h5⟩ := z_mapat hC k2 (q.1, e2) h3
        have : k = i := hD.1 k i q (q.1, e2) h2 h5 rfl
        subst this
        exact h1 (List.mem_of_getElem? h4)
      · omega
    · exact hP1 j q h2
  · obtain ⟨p0, a1, a2⟩ := key i p hi
    obtain ⟨q0, b1, b2⟩ := key j q hj
    exact hD.1 i j p0 q0 a1 b1 (a2.trans (hpq.trans b2.symm))
  · obtain ⟨q0, b1, b2⟩ := key k q hq
    rw [← b2]
    exact hD.2 k q0 b1
/-! ===== starts and ends ===== -/
section ZST
variable {l : Launch} {y : MethodName} {ws ws' : List Cond} {rm : Room} {D : va_G} {tys : List (ClassId × FieldType)} {av : List Value} {W0 W1 : va_W} {r : Int32} {cc : ByteArray} {maxL : Nat} {ret : Option FieldType}
theorem z_starti (hy : plainName y.cls = true) (hw : ws = Cond.code y cc maxL ret :: ws') (hle : (lg_sl av).length ≤ maxL)
    (body : ∀ (p : Program) (e : Env) (s : State) (m : MethodId) (args : Array Value) (below : List Frame) (meth : Method) (c : Code) (A : Nat → Prop), p.tables.exec = Jvm.exec → c.code = cc → meth.sig.returnType = ret → (∀ w ∈ ws, w.before args s = true) → s.vm.findClass y.cls = some m.cls → meth.locks = false → c.maxLocals = maxL → (∀ q, s.heap.size ≤ q → A q) → zw D tys s A W0 s.heap [] → ∀ ls : Array Slot, lv_has ls maxL (lv_args 0 av) →
      W p l e rm s m args below meth c s.heap [] 0 0 (MQ below (zQi D tys A W1 r) args s 0 0 A) (F0 m 0 ls [])) : zMi l y ws rm D tys av W0 W1 r := by
  intro sz
  refine Met.ofW (cc := cc) (maxL := maxL) (ret := ret) hy hw ?_
  intro p e s m args below meth c s₁ B hml hv
  obtain ⟨rfl, hsz, hP, hK, hD0⟩ := hv
  subst hsz
  have hl := lv_entry av (n := maxL) hle
  rw [lg_entry_eq]
  exact body p e s m _ below meth c (va_A W0 s.heap.size) B.exec B.bytes B.returns (atoms_spec (ws := ws) B.pre) (findClass_of_methodNamed B.named) B.notSynchronized hml (fun q h => Or.inr h) ⟨hK, hP, hD0.self, va_S.rf⟩ _ hl
theorem z_startv (hy : plainName y.cls = true) (hw : ws = Cond.code y cc maxL ret :: ws') (hle : (lg_sl av).length ≤ maxL)
    (body : ∀ (p : Program) (e : Env) (s : State) (m : MethodId) (args : Array Value) (below : List Frame) (meth : Method) (c : Code) (A : Nat → Prop), p.tables.exec = Jvm.exec → c.code = cc → meth.sig.returnType = ret → (∀ w ∈ ws, w.before args s = true) → s.vm.findClass y.cls = some m.cls → meth.locks = false → c.maxLocals = maxL → (∀ q, s.heap.size ≤ q → A q) → zw D tys s A W0 s.heap [] → ∀ ls : Array Slot, lv_has ls maxL (lv_args 0 av) →
      W p l e rm s m args below meth c s.heap [] 0 0 (MQ below (zQv D tys A W1) args s 0 0 A) (F0 m 0 ls [])) : zMv l y ws rm D tys av W0 W1 := by
  intro sz
  refine Met.ofW (cc := cc) (maxL := maxL) (ret := ret) hy hw ?_
  intro p e s m args below meth c s₁ B hml hv
  obtain ⟨rfl, hsz, hP, hK, hD0⟩ := hv
  subst hsz
  have hl := lv_entry av (n := maxL) hle
  rw [lg_entry_eq]
  exact body p e s m _ below meth c (va_A W0 s.heap.size) B.exec B.bytes B.returns (atoms_spec (ws := ws) B.pre) (findClass_of_methodNamed B.named) B.notSynchronized hml (fun q h => Or.inr h) ⟨hK, hP, hD0.self, va_S.rf⟩ _ hl
end ZST
section ZRO
variable {p : Program} {l : Launch} {e : Env} {R : Room} {s : State} {m : MethodId} {args : Array Value} {below : List Frame} {meth : Method} {c : Code} {H : Heap} {locs : List Loc} {cells slots : Nat} {Q : State → Prop}
variable {cc : ByteArray} {pc : Nat} {ls : Array Slot} {rest st0 : List Value} {D : va_G} {tys : List (ClassId × FieldType)} {A : Nat → Prop} {ws W0 W1 W2 Wc : va_W} {a b : Nat}
theorem z_iret {v r : Int32} (hx : p.tables.exec = Jvm.exec) (hb : c.code = cc) (hr : meth.sig.returnType = some .int) (hlocks : meth.locks = false) (Z : zw D tys s A W0 H locs) (h0 : W0 = W1) (hv : v = r) (hdg : decode cc pc = .ok (.ireturn, 1)) :
    W p l e R s m args below meth c H locs 0 0 (MQ below (zQi D tys A W1 r) args s 0 0 A) (F0 m pc ls [.int v]) := by
  subst h0; subst hv
  exact W.iret hx hb hr (fun t ht hW => ⟨⟨v, (), rfl, rfl, by rw [ht]; exact Z.2.1, va_K.moved hW.alike Z.1, Z.2.2.1⟩, Z.2.2.2.F ht⟩) Z.2.2.2.2.2 hdg hlocks
theorem z_zret {v r : Int32} {ty : FieldType} (hx : p.tables.exec = Jvm.exec) (hb : c.code = cc) (hr : meth.sig.returnType = some ty) (hlocks : meth.locks = false) (Z : zw D tys s A W0 H locs) (h0 : W0 = W1) (hv : v = r) (hn : narrow ty (.int v) = .int v) (hdg : decode cc pc = .ok (.ireturn, 1)) :
    W p l e R s m args below meth c H locs 0 0 (MQ below (zQi D tys A W1 r) args s 0 0 A) (F0 m pc ls [.int v]) := by
  subst h0; subst hv
  exact W.zret hx hb hr hn (fun t ht hW => ⟨⟨v, (), rfl, rfl, by rw [ht]; exact Z.2.1, va_K.moved hW.alike Z.1, Z.2.2.1⟩, Z.2.2.2.F ht⟩) Z.2.2.2.2.2 hdg hlocks
theorem z_vret (hx : p.tables.exec = Jvm.exec) (hb : c.code = cc) (hr : meth.sig.returnType = none) (hlocks : meth.locks = false) (Z : zw D tys s A W0 H locs) (h0 : W0 = W1) (hdg : decode cc pc = .ok (.return_, 1)) :
    W p l e R s m args below meth c H locs 0 0 (MQ below (zQv D tys A W1) args s 0 0 A) (F0 m pc ls []) := by
  subst h0
  exact W.vret hx hb hr (fun t ht hW => ⟨⟨(), rfl, trivial, by rw [ht]; exact Z.2.1, va_K.moved hW.alike Z.1, Z.2.2.1⟩, Z.2.2.2.F ht⟩) Z.2.2.2.2.2 hdg hlocks
/-! ===== rows over zw ===== -/
theorem z_get {own ref C : String} {T : u_T} {N ci index : Nat} {Ts : List Cond} (hx : p.tables.exec = Jvm.exec) (hb : c.code = cc) (hts : ∀ w ∈ Ts, w.before args s = true) (hin : ∀ w ∈ u_ws C T N, w ∈ Ts) (hown : s.vm.findClass own = some m.cls) (Z : zw D tys s A W0 H locs) (q0 : Nat) {fs : List Value} (he : W0[q0]? = some (a, .inr (ci, fs))) (hc : vwCl[ci]? = some (C, T, N)) (k : Nat) (hk : k < N) (hlink : (Cond.fieldLink own index ref (T k).2.1 (T k).2.2.1) ∈ Ts) (hsame : (T k).1 = ref) {v : Value} (hv : fs[k]? = some v) (hdg : decode cc pc = .ok (.getfield index, 3))
    (kk : W p l e R s m args below meth c H locs cells slots Q (F0 m (pc + 3) ls (v :: rest))) : W p l e R s m args below meth c H locs cells slots Q (F0 m pc ls (.ref a :: rest)) :=
  va_get (ref := ref) hx hb hts hin hown Z.1 Z.2.1 q0 he hc k hk (hts _ hlink) (fun x hxx => by rw [← hsame]; exact hxx) hv hdg kk
theorem z_put {own ref C : String} {T : u_T} {N ci index : Nat} {Ts : List Cond} (hx : p.tables.exec = Jvm.exec) (hb : c.code = cc) (hts : ∀ w ∈ Ts, w.before args s = true) (hin : ∀ w ∈ u_ws C T N, w ∈ Ts) (ty0 : Nat → FieldType) (hty : ∀ k, k < N → parseFieldDescriptor (T k).2.2.1 = some (ty0 k)) (hnm : ∀ a, a < N → ∀ b, b < N → a ≠ b → (T a).2.1 ≠ (T b).2.1) (hown : s.vm.findClass own = some m.cls) (Z : zw D tys s A W0 H locs) (q0 : Nat) {fs : List Value} (he : W0[q0]? = some (a, .inr (ci, fs))) (hc : vwCl[ci]? = some (C, T, N)) (k : Nat) (hk : k < N) (hlink : (Cond.fieldLink own index ref (T k).2.1 (T k).2.2.1) ∈ Ts) (hsame : (T k).1 = ref) (hfin : (T k).2.2.2 = false) {v : Value} (hn : narrow (ty0 k) v = v) (hfit : fits (ty0 k) v = true) (hl : k < fs.length)
    (hdg : decode cc pc = .ok (.putfield index, 3)) (hw : W0.set q0 (a, .inr (ci, fs.set k v)) = W1) (kk : ∀ (H1 : Heap) (locs1 : List Loc), zw D tys s A W1 H1 locs1 → W p l e R s m args below meth c H1 locs1 cells slots Q (F0 m (pc + 3) ls rest)) : W p l e R s m args below meth c H locs cells slots Q (F0 m pc ls (v :: .ref a :: rest)) :=
  va_put (ref := ref) hx hb hts hin ty0 hty hnm hown Z.1 Z.2.1 Z.2.2.1 Z.2.2.2 q0 he hc k hk (hts _ hlink) (fun x hxx => by rw [← hsame]; exact hxx) hfin (hty k hk) hn hfit hl hdg (fun H1 locs1 hP hD hS => kk H1 locs1 ⟨Z.1, by rw [← hw]; exact hP, by rw [← hw]; exact hD, hS⟩)
theorem z_iald (hx : p.tables.exec = Jvm.exec) (hb : c.code = cc) (Z : zw D tys s A W0 H locs) (q0 t0 : Nat) {cA : ClassId} {n : Nat} {f : Nat → Int32} (ha : W0[q0]? = some (a, .inl (cA, n, .inl f))) (ht : tys[t0]? = some (cA, .int)) {i : Int32} (hin : vp_in i n) (hdg : decode cc pc = .ok (.iaload, 1))
    (kk : W p l e R s m args below meth c H locs cells slots Q (F0 m (pc + 1) ls (.int (f i.toNatClampNeg) :: rest))) : W p l e R s m args below meth c H locs cells slots Q (F0 m pc ls (.int i :: .ref a :: rest)) := va_iald hx hb Z.1 Z.2.1 q0 t0 ha ht hin hdg kk
theorem z_zald (hx : p.tables.exec = Jvm.exec) (hb : c.code = cc) (Z : zw D tys s A W0 H locs) (q0 t0 : Nat) {cA : ClassId} {n : Nat} {f : Nat → Int32} (ha : W0[q0]? = some (a, .inl (cA, n, .inl f))) (ht : tys[t0]? = some (cA, .boolean)) {i : Int32} (hin : vp_in i n) (hdg : decode cc pc = .ok (.baload, 1))
    (kk : W p l e R s m args below meth c H locs cells slots Q (F0 m (pc + 1) ls (.int (f i.toNatClampNeg) :: rest))) : W p l e R s m args below meth c H locs cells slots Q (F0 m pc ls (.int i :: .ref a :: rest)) := va_zald hx hb Z.1 Z.2.1 q0 t0 ha ht hin hdg kk
theorem z_bald (hx : p.tables.exec = Jvm.exec) (hb : c.code = cc) (Z : zw D tys s A W0 H locs) (q0 t0 : Nat) {cA : ClassId} {n : Nat} {f : Nat → Int32} (ha : W0[q0]? = some (a, .inl (cA, n, .inl f))) (ht : tys[t0]? = some (cA, .byte)) {i : Int32} (hin : vp_in i n) (hdg : decode cc pc = .ok (.baload, 1))
    (kk : W p l e R s m args below meth c H locs cells slots Q (F0 m (pc + 1) ls (.int (f i.toNatClampNeg) :: rest))) : W p l e R s m args below meth c H locs cells slots Q (F0 m pc ls (.int i :: .ref a :: rest)) := va_bald hx hb Z.1 Z.2.1 q0 t0 ha ht hin hdg kk
theorem z_alen (hx : p.tables.exec = Jvm.exec) (hb : c.code = cc) (Z : zw D tys s A W0 H locs) (q0 t0 : Nat) {cA : ClassId} {x : vp_A} (ha : W0[q0]? = some (a, .inl (cA, x))) {ty : FieldType} (ht : tys[t0]? = some (cA, ty)) {v : Int32} (hv : Int32.ofNat x.1 = v) (hdg : decode cc pc = .ok (.arraylength, 1))
    (kk : W p l e R s m args below meth c H locs cells slots Q (F0 m (pc + 1) ls (.int v :: rest))) : W p l e R s m args below meth c H locs cells slots Q (F0 m pc ls (.ref a :: rest)) := va_alen hx hb Z.1 Z.2.1 q0 t0 ha ht hv hdg kk
theorem z_iast (hx : p.tables.exec = Jvm.exec) (hb : c.code = cc) (Z : zw D tys s A W0 H locs) (q0 t0 : Nat) {cA : ClassId} {n : Nat} {f : Nat → Int32} (ha : W0[q0]? = some (a, .inl (cA, n, .inl f))) (ht : tys[t0]? = some (cA, .int)) {i x : Int32} (hin : vp_in i n) (hdg : decode cc pc = .ok (.iastore, 1)) (ws' : (Nat → Int32) → va_W) (hw : ∀ g, W0.set q0 (a, .inl (cA, n, .inl g)) = ws' g)
    (kk : ∀ (g : Nat → Int32) (H1 : Heap) (locs1 : List Loc), g = upd f i.toNatClampNeg x → zw D tys s A (ws' g) H1 locs1 → W p l e R s m args below meth c H1 locs1 cells slots Q (F0 m (pc + 1) ls rest)) : W p l e R s m args below meth c H locs cells slots Q (F0 m pc ls (.int x :: .int i :: .ref a :: rest)) :=
  va_iast hx hb Z.1 Z.2.1 Z.2.2.1 Z.2.2.2 q0 t0 ha ht hin hdg (fun H1 locs1 hP hD hS => kk _ H1 locs1 rfl ⟨Z.1, by rw [← hw]; exact hP, by rw [← hw]; exact hD, hS⟩)
theorem z_zast (hx : p.tables.exec = Jvm.exec) (hb : c.code = cc) (Z : zw D tys s A W0 H locs) (q0 t0 : Nat) {cA : ClassId} {n : Nat} {f : Nat → Int32} (ha : W0[q0]? = some (a, .inl (cA, n, .inl f))) (ht : tys[t0]? = some (cA, .boolean)) {i x : Int32} (hin : vp_in i n) (hdg : decode cc pc = .ok (.bastore, 1)) (ws' : (Nat → Int32) → va_W) (hw : ∀ g, W0.set q0 (a, .inl (cA, n, .inl g)) = ws' g)
    (kk : ∀ (g : Nat → Int32) (H1 : Heap) (locs1 : List Loc), g = upd f i.toNatClampNeg (vp_nar .boolean x) → zw D tys s A (ws' g) H1 locs1 → W p l e R s m args below meth c H1 locs1 cells slots Q (F0 m (pc + 1) ls rest)) : W p l e R s m args below meth c H locs cells slots Q (F0 m pc ls (.int x :: .int i :: .ref a :: rest)) :=
  va_zast hx hb Z.1 Z.2.1 Z.2.2.1 Z.2.2.2 q0 t0 ha ht hin hdg (fun H1 locs1 hP hD hS => kk _ H1 locs1 rfl ⟨Z.1, by rw [← hw]; exact hP, by rw [← hw]; exact hD, hS⟩)
theorem z_bast (hx : p.tables.exec = Jvm.exec) (hb : c.code = cc) (Z : zw D tys s A W0 H locs) (q0 t0 : Nat) {cA : ClassId} {n : Nat} {f : Nat → Int32} (ha : W0[q0]? = some (a, .inl (cA, n, .inl f))) (ht : tys[t0]? = some (cA, .byte)) {i x : Int32} (hin : vp_in i n) (hdg : decode cc pc = .ok (.bastore, 1)) (ws' : (Nat → Int32) → va_W) (hw : ∀ g, W0.set q0 (a, .inl (cA, n, .inl g)) = ws' g)
    (kk : ∀ (g : Nat → Int32) (H1 : Heap) (locs1 : List Loc), g = upd f i.toNatClampNeg (vp_nar .byte x) → zw D tys s A (ws' g) H1 locs1 → W p l e R s m args below meth c H1 locs1 cells slots Q (F0 m (pc + 1) ls rest)) : W p l e R s m args below meth c H locs cells slots Q (F0 m pc ls (.int x :: .int i :: .ref a :: rest)) :=
  va_bast hx hb Z.1 Z.2.1 Z.2.2.1 Z.2.2.2 q0 t0 ha ht hin hdg (fun H1 locs1 hP hD hS => kk _ H1 locs1 rfl ⟨Z.1, by rw [← hw]; exact hP, by rw [← hw]; exact hD, hS⟩)
/-- System.arraycopy between two arrays of numbers, both from 0 -/
theorem z_copy {own : String} {index : Nat} {Ts : List Cond} (hx : p.tables.exec = Jvm.exec) (hb : c.code = cc) (hml : c.maxLocals = ls.size) (hown : s.vm.findClass own = some m.cls) (hts : ∀ w ∈ Ts, w.before args s = true) (hlink : Cond.methodLink own index arraycopyName ∈ Ts) (hnat : Cond.native arraycopyName ∈ Ts) (hstat : Cond.static arraycopyName ∈ Ts) (hini : Cond.initialized "java/lang/System" ∈ Ts)
    (Z : zw D tys s A W0 H locs) (q0 q1 t0 : Nat) {a0 : Nat} {c0 c1 : ClassId} {n0 n1 : Nat} {f g : Nat → Int32} {ty : FieldType} (ha0 : W0[q0]? = some (a0, .inl (c0, n0, .inl f))) (ha1 : W0[q1]? = some (a, .inl (c1, n1, .inl g))) (ht0 : tys[t0]? = some (c0, ty)) (ht1 : tys[t0]? = some (c1, ty)) (hprim : refKind ty = false)
    {sp dp n : Int32} (h1 : ¬ sp < 0) (h2 : ¬ dp < 0) (h3 : ¬ n < 0) (h4 : sp.toNatClampNeg + n.toNatClampNeg ≤ n0) (h5 : dp.toNatClampNeg + n.toNatClampNeg ≤ n1) (hfit : ∀ i, i < n.toNatClampNeg → fits ty (.int (f (sp.toNatClampNeg + i))) = true)
    (hframes : 1 ≤ R.frames) (hlocals : (rest.map fun v => v.category).sum + (nativeFrameWords "java/lang/System" "arraycopy" 5 + 11) ≤ R.locals) (hdg : decode cc pc = .ok (.invokestatic index, 3)) (ws' : (Nat → Int32) → va_W) (hw : ∀ g, W0.set q1 (a, .inl (c1, n1, .inl g)) = ws' g)
    (kk : ∀ (g1 : Nat → Int32) (H1 : Heap) (locs1 : List Loc), g1 = va_cpy f g sp.toNatClampNeg dp.toNatClampNeg n.toNatClampNeg → zw D tys s A (ws' g1) H1 locs1 → W p l e R s m args below meth c H1 locs1 cells slots Q (F0 m (pc + 3) ls rest)) : W p l e R s m args below meth c H locs cells slots Q (F0 m pc ls (.int n :: .int dp :: .ref a :: .int sp :: .ref a0 :: rest)) :=
  va_copyi hx hb hml hown (hts _ hlink) (hts _ hnat) (hts _ hstat) (hts _ hini) Z.1 Z.2.1 Z.2.2.1 Z.2.2.2 q0 q1 t0 t0 ha0 ha1 ht0 ht1 hprim h1 h2 h3 h4 h5 hfit hframes hlocals hdg (fun H1 locs1 hP hD hS => kk _ H1 locs1 rfl ⟨Z.1, by rw [← hw]; exact hP, by rw [← hw]; exact hD, hS⟩)
/-! ===== calls over zw ===== -/
section ZCA
variable {y : MethodName} {bytes : ByteArray} {maxL nL n index : Nat} {ret : Option FieldType} {wsc : List Cond} {rm : Room} {Ts : List Cond} {own C : String} {As : List Value} {r : Int32}
theorem z_callVi (S : CallFix p m c cc nL s args Ts own) (hM : zMi l y wsc rm D tys (.ref b :: As) Wc W1 r) (cw : CallW R s args own C index y bytes maxL ret wsc rm 0 0 n) (Z : zw D tys s A W0 H locs) (hA : ∀ q, s.heap.size ≤ q → A q) (isC : List Nat) (hC : isC.map (fun i => W0[i]?) = Wc.map some) (hnd : va_nd isC = true) (ha : W1.map Prod.fst = Wc.map Prod.fst)
    {ci : Nat} {q : vw_C} {fs : List Value} (hc : vwCl[ci]? = some q) (he : Wc[0]? = some (b, .inr (ci, fs))) (hq : q.1 = C) (hn : As.length = n) (hsize : ls.size = nL) (hstack : st0 = As.reverse ++ .ref b :: rest) (hW : (rest.map fun v => v.category).sum ≤ 8) (hdg : decode cc pc = .ok (.invokevirtual index, 3)) (hf : cells ≤ R.cells ∧ slots ≤ R.slots) (src : List (Option Nat)) (hs : zsame src isC = true) (h2 : zpok W0 W1 W2 src 0)
    (kk : ∀ (H1 : Heap) (locs1 : List Loc), zw D tys s A W2 H1 locs1 → W p l e R s m args below meth c H1 locs1 cells slots Q (F0 m (pc + 3) ls (.int r :: rest))) : W p l e R s m args below meth c H locs cells slots Q (F0 m pc ls st0) := by
  obtain ⟨hK, hP, hD, hS⟩ := Z
  obtain ⟨hPc, hDc⟩ := z_part (A1 := A) hP hD isC hC hnd
  have hFc := va_free hD hS hA isC hC
  refine va_calli (va_runV (As := As) (rest := rest) S (hM H.size) cw ⟨fun a' U g mk q9 => ⟨q9.1, q9.2.1, q9.2.2.1, va_K.moved (u := U) (U := U.calling g mk a') (Vm.Alike.refl U.vm) q9.2.2.2.1, q9.2.2.2.2⟩, by rw [← hq]; exact va_recv hK hPc hc he, fun U hU hW9 => ⟨rfl, by rw [hU], by rw [hU]; exact hPc, va_K.moved hW9.alike hK, hDc⟩⟩ rfl hn hsize hstack (lv_room hW) hdg hf) hS (fun q _ h => hFc q h) hFc (fun r1 u t H1 locs1 ht hvm hw hB hz1 hk1 hS1 => ?_)
  obtain ⟨hP1, hK1, hD1⟩ := hB
  rw [ht] at hP1
  obtain ⟨hP2, hD2⟩ := zpok_join hP hD isC hC ha src hs h2 hk1 hP1
  subst hw
  exact kk H1 locs1 ⟨hK, hP2, hD2, hS1⟩
theorem z_callVv (S : CallFix p m c cc nL s args Ts own) (hM : zMv l y wsc rm D tys (.ref b :: As) Wc W1) (cw : CallW R s args own C index y bytes maxL ret wsc rm 0 0 n) (Z : zw D tys s A W0 H locs) (hA : ∀ q, s.heap.size ≤ q → A q) (isC : List Nat) (hC : isC.map (fun i => W0[i]?) = Wc.map some) (hnd : va_nd isC = true) (ha : W1.map Prod.fst = Wc.map Prod.fst)
    {ci : Nat} {q : vw_C} {fs : List Value} (hc : vwCl[ci]? = some q) (he : Wc[0]? = some (b, .inr (ci, fs))) (hq : q.1 = C) (hn : As.length = n) (hsize : ls.size = nL) (hstack : st0 = As.reverse ++ .ref b :: rest) (hW : (rest.map fun v => v.category).sum ≤ 8) (hdg : decode cc pc = .ok (.invokevirtual index, 3)) (hf : cells ≤ R.cells ∧ slots ≤ R.slots) (src : List (Option Nat)) (hs : zsame src isC = true) (h2 : zpok W0 W1 W2 src 0)
    (kk : ∀ (H1 : Heap) (locs1 : List Loc), zw D tys s A W2 H1 locs1 → W p l e R s m args below meth c H1 locs1 cells slots Q (F0 m (pc + 3) ls rest)) : W p l e R s m args below meth c H locs cells slots Q (F0 m pc ls st0) := by
  obtain ⟨hK, hP, hD, hS⟩ := Z
  obtain ⟨hPc, hDc⟩ := z_part (A1 := A) hP hD isC hC hnd
  have hFc := va_free hD hS hA isC hC
  refine va_callv (va_runV (As := As) (rest := rest) S (hM H.size) cw ⟨fun a' U g mk q9 => ⟨q9.1, q9.2.1, q9.2.2.1, va_K.moved (u := U) (U := U.calling g mk a') (Vm.Alike.refl U.vm) q9.2.2.2.1, q9.2.2.2.2⟩, by rw [← hq]; exact va_recv hK hPc hc he, fun U hU hW9 => ⟨rfl, by rw [hU], by rw [hU]; exact hPc, va_K.moved hW9.alike hK, hDc⟩⟩ rfl hn hsize hstack (lv_room hW) hdg hf) hS (fun q _ h => hFc q h) hFc (fun u t H1 locs1 ht hvm hw hB hz1 hk1 hS1 => ?_)
  obtain ⟨hP1, hK1, hD1⟩ := hB
  rw [ht] at hP1
  obtain ⟨hP2, hD2⟩ := zpok_join hP hD isC hC ha src hs h2 hk1 hP1
  exact kk H1 locs1 ⟨hK, hP2, hD2, hS1⟩
theorem z_callSi (S : CallFix p m c cc nL s args Ts own) (hM : zMi l y wsc rm D tys As Wc W1 r) (cw : CallB R s args own index y bytes maxL ret wsc rm 0 0 n ∧ (Cond.static y).before args s = true) (Z : zw D tys s A W0 H locs) (hA : ∀ q, s.heap.size ≤ q → A q) (isC : List Nat) (hC : isC.map (fun i => W0[i]?) = Wc.map some) (hnd : va_nd isC = true) (ha : W1.map Prod.fst = Wc.map Prod.fst)
    (hn : As.length = n) (hsize : ls.size = nL) (hstack : st0 = As.reverse ++ rest) (hW : (rest.map fun v => v.category).sum ≤ 8) (hdg : decode cc pc = .ok (.invokestatic index, 3)) (hf : cells ≤ R.cells ∧ slots ≤ R.slots) (src : List (Option Nat)) (hs : zsame src isC = true) (h2 : zpok W0 W1 W2 src 0)
    (kk : ∀ (H1 : Heap) (locs1 : List Loc), zw D tys s A W2 H1 locs1 → W p l e R s m args below meth c H1 locs1 cells slots Q (F0 m (pc + 3) ls (.int r :: rest))) : W p l e R s m args below meth c H locs cells slots Q (F0 m pc ls st0) := by
  obtain ⟨hK, hP, hD, hS⟩ := Z
  obtain ⟨hPc, hDc⟩ := z_part (A1 := A) hP hD isC hC hnd
  have hFc := va_free hD hS hA isC hC
  refine va_calli (va_runS (As := As) (rest := rest) S (hM H.size) cw ⟨fun a' U g mk q9 => ⟨q9.1, q9.2.1, q9.2.2.1, va_K.moved (u := U) (U := U.calling g mk a') (Vm.Alike.refl U.vm) q9.2.2.2.1, q9.2.2.2.2⟩, fun U hU hW9 => ⟨rfl, by rw [hU], by rw [hU]; exact hPc, va_K.moved hW9.alike hK, hDc⟩⟩ rfl hn hsize hstack (lv_room hW) hdg hf) hS (fun q _ h => hFc q h) hFc (fun r1 u t H1 locs1 ht hvm hw hB hz1 hk1 hS1 => ?_)
  obtain ⟨hP1, hK1, hD1⟩ := hB
  rw [ht] at hP1
  obtain ⟨hP2, hD2⟩ := zpok_join hP hD isC hC ha src hs h2 hk1 hP1
  subst hw
  exact kk H1 locs1 ⟨hK, hP2, hD2, hS1⟩
theorem z_callSv (S : CallFix p m c cc nL s args Ts own) (hM : zMv l y wsc rm D tys As Wc W1) (cw : CallB R s args own index y bytes maxL ret wsc rm 0 0 n ∧ (Cond.static y).before args s = true) (Z : zw D tys s A W0 H locs) (hA : ∀ q, s.heap.size ≤ q → A q) (isC : List Nat) (hC : isC.map (fun i => W0[i]?) = Wc.map some) (hnd : va_nd isC = true) (ha : W1.map Prod.fst = Wc.map Prod.fst)
    (hn : As.length = n) (hsize : ls.size = nL) (hstack : st0 = As.reverse ++ rest) (hW : (rest.map fun v => v.category).sum ≤ 8) (hdg : decode cc pc = .ok (.invokestatic index, 3)) (hf : cells ≤ R.cells ∧ slots ≤ R.slots) (src : List (Option Nat)) (hs : zsame src isC = true) (h2 : zpok W0 W1 W2 src 0)
    (kk : ∀ (H1 : Heap) (locs1 : List Loc), zw D tys s A W2 H1 locs1 → W p l e R s m args below meth c H1 locs1 cells slots Q (F0 m (pc + 3) ls rest)) : W p l e R s m args below meth c H locs cells slots Q (F0 m pc ls st0) := by
  obtain ⟨hK, hP, hD, hS⟩ := Z
  obtain ⟨hPc, hDc⟩ := z_part (A1 := A) hP hD isC hC hnd
  have hFc := va_free hD hS hA isC hC
  refine va_callv (va_runS (As := As) (rest := rest) S (hM H.size) cw ⟨fun a' U g mk q9 => ⟨q9.1, q9.2.1, q9.2.2.1, va_K.moved (u := U) (U := U.calling g mk a') (Vm.Alike.refl U.vm) q9.2.2.2.1, q9.2.2.2.2⟩, fun U hU hW9 => ⟨rfl, by rw [hU], by rw [hU]; exact hPc, va_K.moved hW9.alike hK, hDc⟩⟩ rfl hn hsize hstack (lv_room hW) hdg hf) hS (fun q _ h => hFc q h) hFc (fun u t H1 locs1 ht hvm hw hB hz1 hk1 hS1 => ?_)
  obtain ⟨hP1, hK1, hD1⟩ := hB
  rw [ht] at hP1
  obtain ⟨hP2, hD2⟩ := zpok_join hP hD isC hC ha src hs h2 hk1 hP1
  exact kk H1 locs1 ⟨hK, hP2, hD2, hS1⟩
end ZCA
end ZRO
theorem z_inr {big ws : List Cond} (ps : List Nat) (hp : ws = ps.filterMap (fun i => big[i]?)) : ∀ w ∈ ws, w ∈ big := by
  intro w hw
  rw [hp] at hw
  obtain ⟨i, -, hi⟩ := List.mem_filterMap.mp hw
  exact List.mem_of_getElem? hi
section ZAA
variable {p : Program} {l : Launch} {e : Env} {R : Room} {s : State} {m : MethodId} {args : Array Value} {below : List Frame} {meth : Method} {c : Code} {H : Heap} {locs : List Loc} {cells slots : Nat} {Q : State → Prop}
variable {cc : ByteArray} {pc : Nat} {ls : Array Slot} {rest st0 : List Value} {D : va_G} {tys : List (ClassId × FieldType)} {A : Nat → Prop} {W0 : va_W} {a : Nat}
theorem z_aald {b : Nat} (hx : p.tables.exec = Jvm.exec) (hb : c.code = cc) (Z : zw D tys s A W0 H locs) (q0 t0 : Nat) {cA : ClassId} {n : Nat} {f : Nat → Option Nat} {ty : FieldType} (ha : W0[q0]? = some (a, .inl (cA, n, .inr (.inr (.inr (.inr f)))))) (ht : tys[t0]? = some (cA, ty)) (hty : ty.isReference = true) {i : Int32} (hin : ¬ (i < 0 ∨ n ≤ i.toNatClampNeg)) (hv : va_rf (f i.toNatClampNeg) = .ref b) (hdg : decode cc pc = .ok (.aaload, 1))
    (kk : W p l e R s m args below meth c H locs cells slots Q (F0 m (pc + 1) ls (.ref b :: rest))) : W p l e R s m args below meth c H locs cells slots Q (F0 m pc ls (.int i :: .ref a :: rest)) := by
  have hlt : i.toNatClampNeg < n := Nat.not_le.mp fun q => hin (Or.inr q)
  have hk2 : W p l e R s m args below meth c H locs cells slots Q (F0 m (pc + 1) ls (va_rf (f i.toNatClampNeg) :: rest)) := by rw [hv]; exact kk
  exact W.aald (v := va_rf (f i.toNatClampNeg)) (ty := ty) hx hb (Z.2.1 q0 _ ha) ((Z.1.2 t0 _ ht).1 n (fun j => va_rf (f j))) hty (fun q => by cases q) (by show ¬ (i < 0 ∨ (arrV _ _ _).slots.size ≤ _); rw [arrV_size]; exact hin) (by show (arrV _ _ _).slots[_]? = _; rw [arrV_read _ _ hlt]) rfl rfl hdg hk2
end ZAA
theorem z_out3 {x : Int32} (c0 : ¬ x = (0 : Int32)) (c1 : ¬ x = (1 : Int32)) (c2 : ¬ x = (2 : Int32)) : x.toInt < 0 ∨ 2 < x.toInt := by
  have h0 := lv_neT (a := 0) c0 (by decide)
  have h1 := lv_neT (a := 1) c1 (by decide)
  have h2 := lv_neT (a := 2) c2 (by decide)
  omega
theorem z_out4 {x : Int32} (c0 : ¬ x = (0 : Int32)) (c1 : ¬ x = (1 : Int32)) (c2 : ¬ x = (2 : Int32)) (c3 : ¬ x = (3 : Int32)) : x.toInt < 0 ∨ 3 < x.toInt := by
  have h3 := lv_neT (a := 3) c3 (by decide)
  rcases z_out3 c0 c1 c2 with h | h
  · exact Or.inl h
  · omega
theorem z_out9 {x : Int32} (c0 : ¬ x = (0 : Int32)) (c1 : ¬ x = (1 : Int32)) (c2 : ¬ x = (2 : Int32)) (c3 : ¬ x = (3 : Int32)) (c4 : ¬ x = (4 : Int32)) (c5 : ¬ x = (5 : Int32)) (c6 : ¬ x = (6 : Int32)) (c7 : ¬ x = (7 : Int32)) (c8 : ¬ x = (8 : Int32)) : x.toInt < 0 ∨ 8 < x.toInt := by
  have h4 := lv_neT (a := 4) c4 (by decide)
  have h5 := lv_neT (a := 5) c5 (by decide)
  have h6 := lv_neT (a := 6) c6 (by decide)
  have h7 := lv_neT (a := 7) c7 (by decide)
  have h8 := lv_neT (a := 8) c8 (by decide)
  rcases z_out4 c0 c1 c2 c3 with h | h
  · exact Or.inl h
  · omega
theorem z_out11 {x : Int32} (c0 : ¬ x = (0 : Int32)) (c1 : ¬ x = (1 : Int32)) (c2 : ¬ x = (2 : Int32)) (c3 : ¬ x = (3 : Int32)) (c4 : ¬ x = (4 : Int32)) (c5 : ¬ x = (5 : Int32)) (c6 : ¬ x = (6 : Int32)) (c7 : ¬ x = (7 : Int32)) (c8 : ¬ x = (8 : Int32)) (c9 : ¬ x = (9 : Int32)) (c10 : ¬ x = (10 : Int32)) : x.toInt < 0 ∨ 10 < x.toInt := by
  have h9 := lv_neT (a := 9) c9 (by decide)
  have h10 := lv_neT (a := 10) c10 (by decide)
  rcases z_out9 c0 c1 c2 c3 c4 c5 c6 c7 c8 with h | h
  · exact Or.inl h
  · omega
theorem z_out12 {x : Int32} (c0 : ¬ x = (0 : Int32)) (c1 : ¬ x = (1 : Int32)) (c2 : ¬ x = (2 : Int32)) (c3 : ¬ x = (3 : Int32)) (c4 : ¬ x = (4 : Int32)) (c5 : ¬ x = (5 : Int32)) (c6 : ¬ x = (6 : Int32)) (c7 : ¬ x = (7 : Int32)) (c8 : ¬ x = (8 : Int32)) (c9 : ¬ x = (9 : Int32)) (c10 : ¬ x = (10 : Int32)) (c11 : ¬ x = (11 : Int32)) : x.toInt < 0 ∨ 11 < x.toInt := by
  have h11 := lv_neT (a := 11) c11 (by decide)
  rcases z_out11 c0 c1 c2 c3 c4 c5 c6 c7 c8 c9 c10 with h | h
  · exact Or.inl h
  · omega
/-- the first n places of a row of booleans hold 0 or 1 -/
def o_bo (n : Nat) (f : Nat → Int32) : Prop := ((List.range n).all (fun i => f i == 0 || f i == 1)) = true
abbrev o_boD (n : Nat) (f : Nat → Int32) : Decidable (o_bo n f) := (inferInstance : Decidable (((List.range n).all (fun i => f i == 0 || f i == 1)) = true))
theorem o_boE {n : Nat} {f : Nat → Int32} (h : o_bo n f) : ∀ i, i < n → fits .boolean (.int (f (0 + i))) = true := by
  intro i hi
  rw [Nat.zero_add]
  have h1 := List.all_eq_true.mp h i (List.mem_range.mpr hi)
  simpa [fits] using h1
/-- a row of eight references -/
def zq8 (a0 a1 a2 a3 a4 a5 a6 a7 : Nat) : Nat → Option Nat := fun k => [some a0, some a1, some a2, some a3, some a4, some a5, some a6, some a7].getD k none
