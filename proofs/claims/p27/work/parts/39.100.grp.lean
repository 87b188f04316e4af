/-! ===== worlds as groups of cells ===== -/
def zU (L : List va_W) : va_W := L.flatten
def zpos : List va_W → Nat → Nat → Nat
  | [], _, x => x
  | _ :: _, 0, x => x
  | G :: L, a + 1, x => G.length + zpos L a x
theorem zU_at : ∀ (L : List va_W) (a x : Nat) (G : va_W) (c : Nat × va_E), L[a]? = some G → G[x]? = some c → (zU L)[zpos L a x]? = some c
  | [], a, x, G, c, h, _ => by simp at h
  | G0 :: L, 0, x, G, c, h, hx => by
    have e : G0 = G := by simpa using h
    subst e
    show (G0 ++ zU L)[x]? = some c
    rw [List.getElem?_append_left (List.getElem?_eq_some_iff.mp hx).1]
    exact hx
  | G0 :: L, a + 1, x, G, c, h, hx => by
    show (G0 ++ zU L)[G0.length + zpos L a x]? = some c
    rw [List.getElem?_append_right (Nat.le_add_right _ _), Nat.add_sub_cancel_left]
    exact zU_at L a x G c (by simpa using h) hx
theorem zU_pos : ∀ (L : List va_W) (k : Nat) (c : Nat × va_E), (zU L)[k]? = some c → ∃ a x G, L[a]? = some G ∧ G[x]? = some c ∧ k = zpos L a x
  | [], k, c, h => by
    have h1 : ([] : va_W)[k]? = some c := h
    simp at h1
  | G0 :: L, k, c, h => by
    have h1 : (G0 ++ zU L)[k]? = some c := h
    by_cases hk : k < G0.length
    · rw [List.getElem?_append_left hk] at h1
      exact ⟨0, k, G0, by simp, h1, rfl⟩
    · rw [List.getElem?_append_right (by omega)] at h1
      obtain ⟨a, x, G, e1, e2, e3⟩ := zU_pos L _ c h1
      refine ⟨a + 1, x, G, by simpa using e1, e2, ?_⟩
      show k = G0.length + zpos L a x
      omega
theorem zpos_inj : ∀ (L : List va_W) (a x b y : Nat) (G G' : va_W), L[a]? = some G → x < G.length → L[b]? = some G' → y < G'.length → zpos L a x = zpos L b y → a = b ∧ x = y
  | [], a, x, b, y, G, G', h, _, _, _, _ => by simp at h
  | G0 :: L, 0, x, 0, y, G, G', _, _, _, _, e => ⟨rfl, e⟩
  | G0 :: L, 0, x, b + 1, y, G, G', h, hx, _, _, e => by
    have e0 : G0 = G := by simpa using h
    subst e0
    have e1 : x = G0.length + zpos L b y := e
    omega
  | G0 :: L, a + 1, x, 0, y, G, G', _, _, h', hy, e => by
    have e0 : G0 = G' := by simpa using h'
    subst e0
    have e1 : G0.length + zpos L a x = y := e
    omega
  | G0 :: L, a + 1, x, b + 1, y, G, G', h, hx, h', hy, e => by
    have e1 : G0.length + zpos L a x = G0.length + zpos L b y := e
    obtain ⟨e2, e3⟩ := zpos_inj L a x b y G G' (by simpa using h) hx (by simpa using h') hy (by omega)
    exact ⟨by omega, e3⟩
theorem zU_set : ∀ (L : List va_W) (a x : Nat) (G : va_W) (c : Nat × va_E), L[a]? = some G → x < G.length → (zU L).set (zpos L a x) c = zU (L.set a (G.set x c))
  | [], a, x, G, c, h, _ => by simp at h
  | G0 :: L, 0, x, G, c, h, hx => by
    have e : G0 = G := by simpa using h
    subst e
    show (G0 ++ zU L).set x c = G0.set x c ++ zU L
    rw [List.set_append_left _ _ hx]
  | G0 :: L, a + 1, x, G, c, h, hx => by
    show (G0 ++ zU L).set (G0.length + zpos L a x) c = G0 ++ zU (L.set a (G.set x c))
    rw [List.set_append_right _ _ (Nat.le_add_right _ _), Nat.add_sub_cancel_left, zU_set L a x G c (by simpa using h) hx]
theorem zU_app (L L' : List va_W) : zU (L ++ L') = zU L ++ zU L' := List.flatten_append
theorem z_mapG {is : List Nat} {L L' : List va_W} (hs : is.map (fun i => L[i]?) = L'.map some) (k : Nat) (G : va_W) (hG : L'[k]? = some G) : ∃ i, is[k]? = some i ∧ L[i]? = some G := by
  have h1 : (is.map (fun i => L[i]?))[k]? = some (some G) := by rw [hs, List.getElem?_map, hG]; rfl
  rw [List.getElem?_map] at h1
  cases hi : is[k]? with
  | none => rw [hi] at h1; cases h1
  | some i => rw [hi] at h1; exact ⟨i, rfl, Option.some.inj h1⟩
theorem zU_sub {A : Nat → Prop} {D : va_G} {L L' : List va_W} {H : Heap} (hP : va_P D vwCl (zU L) H) (hD : va_D A (zU L)) (is : List Nat) (hs : is.map (fun i => L[i]?) = L'.map some) (hn : va_nd is = true) : va_P D vwCl (zU L') H ∧ va_D A (zU L') := by
  refine ⟨fun k c hk => ?_, fun k1 k2 p q h1 h2 e => ?_, fun k c hk => ?_⟩
  · obtain ⟨a, x, G, e1, e2, rfl⟩ := zU_pos L' k c hk
    obtain ⟨i, -, e4⟩ := z_mapG hs a G e1
    exact hP _ c (zU_at L i x G c e4 e2)
  · obtain ⟨a, x, G, e1, e2, rfl⟩ := zU_pos L' k1 p h1
    obtain ⟨b, y, G', f1, f2, rfl⟩ := zU_pos L' k2 q h2
    obtain ⟨i, e3, e4⟩ := z_mapG hs a G e1
    obtain ⟨j, f3, f4⟩ := z_mapG hs b G' f1
    have h9 := hD.1 _ _ p q (zU_at L i x G p e4 e2) (zU_at L j y G' q f4 f2) e
    obtain ⟨rfl, rfl⟩ := zpos_inj L i x j y G G' e4 (List.getElem?_eq_some_iff.mp e2).1 f4 (List.getElem?_eq_some_iff.mp f2).1 h9
    have hab := va_nd_inj is hn a b i e3 f3
    subst hab
    rfl
  · obtain ⟨a, x, G, e1, e2, rfl⟩ := zU_pos L' k c hk
    obtain ⟨i, -, e4⟩ := z_mapG hs a G e1
    exact hD.2 _ c (zU_at L i x G c e4 e2)
/-- a world by another one's places -/
theorem zw_map {A : Nat → Prop} {D : va_G} {W W' : va_W} {H : Heap} (hP : va_P D vwCl W H) (hD : va_D A W) (σ : Nat → Nat) (h1 : ∀ (k : Nat) (q : Nat × va_E), W'[k]? = some q → W[σ k]? = some q) (h2 : ∀ i j, i < W'.length → j < W'.length → σ i = σ j → i = j) : va_P D vwCl W' H ∧ va_D A W' := by
  refine ⟨fun k c hk => hP _ c (h1 k c hk), fun i j p q hi hj e => ?_, fun k c hk => hD.2 _ c (h1 k c hk)⟩
  exact h2 i j (List.getElem?_eq_some_iff.mp hi).1 (List.getElem?_eq_some_iff.mp hj).1 (hD.1 _ _ p q (h1 i p hi) (h1 j q hj) e)
/-! ===== lots in any number ===== -/
abbrev ZL : Type := Int32 × Int32 × Int32 × Int32 × Int32 × Int32
def zLf (v : ZL) : List Value := [.int v.1, .int v.2.1, .int v.2.2.1, .int v.2.2.2.1, .int v.2.2.2.2.1, .int v.2.2.2.2.2]
def zLot (a : Nat) (v : ZL) : Nat × va_E := (a, .inr (7, zLf v))
def zLs (g : Nat → Nat) (n : Nat) (v : Nat → ZL) : va_W := (List.range n).map (fun i => zLot (g i) (v i))
theorem zLs_len {g : Nat → Nat} {n : Nat} {v : Nat → ZL} : (zLs g n v).length = n := by unfold zLs; simp
theorem zLs_at {g : Nat → Nat} {n : Nat} {v : Nat → ZL} {i : Nat} (hi : i < n) : (zLs g n v)[i]? = some (zLot (g i) (v i)) := by
  unfold zLs
  rw [List.getElem?_map, List.getElem?_range hi]
  rfl
theorem zLs_no {g : Nat → Nat} {n : Nat} {v : Nat → ZL} {i : Nat} (hi : ¬ i < n) : (zLs g n v)[i]? = none := by
  rw [List.getElem?_eq_none_iff, zLs_len]
  omega
theorem zLs_set {g : Nat → Nat} {n : Nat} {v : Nat → ZL} {i : Nat} {w : ZL} (hi : i < n) : (zLs g n v).set i (zLot (g i) w) = zLs g n (va_up v i w) := by
  apply List.ext_getElem?
  intro j
  by_cases hj : j < n
  · by_cases e : j = i
    · subst e
      rw [List.getElem?_set_self (by rw [zLs_len]; exact hj), zLs_at hj]
      unfold va_up
      rw [if_pos rfl]
    · rw [List.getElem?_set_ne (fun h => e h.symm), zLs_at hj, zLs_at hj]
      unfold va_up
      rw [if_neg e]
  · rw [zLs_no hj, List.getElem?_eq_none_iff, List.length_set, zLs_len]
    omega
theorem zLs_snoc {g : Nat → Nat} {n : Nat} {v : Nat → ZL} {q : Nat} {w : ZL} : zLs g n v ++ [zLot q w] = zLs (va_up g n q) (n + 1) (va_up v n w) := by
  apply List.ext_getElem?
  intro j
  by_cases hj : j < n
  · rw [List.getElem?_append_left (by rw [zLs_len]; exact hj), zLs_at hj, zLs_at (by omega)]
    unfold va_up
    rw [if_neg (by omega), if_neg (by omega)]
  · by_cases e : j = n
    · subst e
      rw [List.getElem?_append_right (by rw [zLs_len]; omega), zLs_len, Nat.sub_self, zLs_at (by omega)]
      unfold va_up
      rw [if_pos rfl, if_pos rfl]
      rfl
    · rw [zLs_no (by omega), List.getElem?_eq_none_iff, List.length_append, zLs_len]
      show n + 1 ≤ j
      omega
theorem zLs_ext {g g' : Nat → Nat} {n : Nat} {v v' : Nat → ZL} (h1 : ∀ i, i < n → g i = g' i) (h2 : ∀ i, i < n → v i = v' i) : zLs g n v = zLs g' n v' := by
  apply List.ext_getElem?
  intro j
  by_cases hj : j < n
  · rw [zLs_at hj, zLs_at hj, h1 j hj, h2 j hj]
  · rw [zLs_no hj, zLs_no hj]
/-! ===== the law's methods' contracts: a world of groups, cells may be made ===== -/
def zJ (A : Nat → Prop) (s : State) (H : Heap) : Prop := zLX A s H ∧ zXA A s H
theorem zJ_pass : zPass zJ := zAnd_pass zLX_pass zXA_pass
def zJS (a : Nat) (w : List Int32) (A : Nat → Prop) (s : State) (H : Heap) : Prop := zJ A s H ∧ zStr a w A s H
theorem zJS_pass (a : Nat) (w : List Int32) : zPass (zJS a w) := zAnd_pass zJ_pass (zStr_pass a w)
def zQG (D : va_G) (tys : List (ClassId × FieldType)) (A : Nat → Prop) (Ok : Option Value → (Nat → Nat) → Prop) (W1 : (Nat → Nat) → va_W) : Array Value → State → Outcome → State → Prop := fun _ st oc t => (∃ (v : Option Value) (h : Nat → Nat), oc = .returned v ∧ Ok v h ∧ zAt D tys A (W1 h) t) ∧ va_F A st t
def zG (X : (Nat → Prop) → State → Heap → Prop) (l : Launch) (y : MethodName) (ws : List Cond) (rm : Room) (D : va_G) (tys : List (ClassId × FieldType)) (av : List Value) (W0 : va_W) (Ok : Option Value → (Nat → Nat) → Prop) (W1 : (Nat → Nat) → va_W) : Prop := ∀ sz : Nat, Met l y ws rm (va_Pc av (zPreX X D tys W0 sz)) (zQG D tys (va_A W0 sz) Ok W1) rm.cells rm.slots (va_A W0 sz)
theorem z_startG {X : (Nat → Prop) → State → Heap → Prop} {l : Launch} {y : MethodName} {ws ws' : List Cond} {rm : Room} {D : va_G} {tys : List (ClassId × FieldType)} {av : List Value} {W0 : va_W} {Ok : Option Value → (Nat → Nat) → Prop} {W1 : (Nat → Nat) → va_W} {cc : ByteArray} {maxL : Nat} {ret : Option FieldType} (hy : plainName y.cls = true) (hw : ws = Cond.code y cc maxL ret :: ws') (hle : (lg_sl av).length ≤ maxL)
    (body : ∀ (p : Program) (e : Env) (s : State) (m : MethodId) (args : Array Value) (below : List Frame) (meth : Method) (c : Code) (A : Nat → Prop), p.tables.exec = Jvm.exec → c.code = cc → meth.sig.returnType = ret → (∀ w ∈ ws, w.before args s = true) → s.vm.findClass y.cls = some m.cls → meth.locks = false → c.maxLocals = maxL → (∀ q, s.heap.size ≤ q → A q) → meth.name = y.name → X A s s.heap → zw D tys s A W0 s.heap [] → ∀ ls : Array Slot, lv_has ls maxL (lv_args 0 av) →
      W p l e rm s m args below meth c s.heap [] 0 0 (MQ below (zQG D tys A Ok W1) args s rm.cells rm.slots A) (F0 m 0 ls [])) : zG X l y ws rm D tys av W0 Ok W1 := by
  intro sz
  refine Met.ofW (cc := cc) (maxL := maxL) (ret := ret) hy hw ?_
  intro p e s m args below meth c s₁ B hml hv
  obtain ⟨rfl, ⟨hsz, hP, hK, hD0⟩, hXA⟩ := hv
  subst hsz
  have hl := lv_entry av (n := maxL) hle
  rw [lg_entry_eq]
  exact body p e s m _ below meth c (va_A W0 s.heap.size) B.exec B.bytes B.returns (atoms_spec (ws := ws) B.pre) (findClass_of_methodNamed B.named) B.notSynchronized hml (fun q h => Or.inr h) (name_of_methodNamed B.named B.method).1 hXA ⟨hK, hP, hD0.self, va_S.rf⟩ _ hl
section ZGR
variable {p : Program} {l : Launch} {e : Env} {R : Room} {s : State} {m : MethodId} {args : Array Value} {below : List Frame} {meth : Method} {c : Code} {H : Heap} {locs : List Loc} {cells slots : Nat} {Q : State → Prop}
variable {cc : ByteArray} {pc : Nat} {ls : Array Slot} {rest st0 : List Value} {D : va_G} {tys : List (ClassId × FieldType)} {A : Nat → Prop} {L L' : List va_W} {a b : Nat}
theorem zu_sub (Z : zw D tys s A (zU L) H locs) (is : List Nat) (hs : is.map (fun i => L[i]?) = L'.map some) (hn : va_nd is = true) : zw D tys s A (zU L') H locs := by
  obtain ⟨h1, h2⟩ := zU_sub Z.2.1 Z.2.2.1 is hs hn
  exact ⟨Z.1, h1, h2, Z.2.2.2⟩
theorem zu_map {W W' : va_W} (Z : zw D tys s A W H locs) (σ : Nat → Nat) (h1 : ∀ (k : Nat) (q : Nat × va_E), W'[k]? = some q → W[σ k]? = some q) (h2 : ∀ i j, i < W'.length → j < W'.length → σ i = σ j → i = j) : zw D tys s A W' H locs := by
  obtain ⟨g1, g2⟩ := zw_map Z.2.1 Z.2.2.1 σ h1 h2
  exact ⟨Z.1, g1, g2, Z.2.2.2⟩
/-! ends -/
theorem zg_iret {C S : Nat} {v : Int32} {Ok : Option Value → (Nat → Nat) → Prop} {W1 : (Nat → Nat) → va_W} (h : Nat → Nat) (hc : cells ≤ C) (hs : slots ≤ S) (hx : p.tables.exec = Jvm.exec) (hb : c.code = cc) (hr : meth.sig.returnType = some .int) (hlocks : meth.locks = false) (Z : zw D tys s A (zU L) H locs) (is : List Nat) (hi : is.map (fun i => L[i]?) = L'.map some) (hn : va_nd is = true) (hW : W1 h = zU L') (hok : Ok (some (.int v)) h) (hdg : decode cc pc = .ok (.ireturn, 1)) :
    W p l e R s m args below meth c H locs cells slots (MQ below (zQG D tys A Ok W1) args s C S A) (F0 m pc ls [.int v]) := by
  have Z1 := zu_sub Z is hi hn
  rw [← hW] at Z1
  exact W.widen hc hs (W.iret hx hb hr (fun t ht hW => ⟨⟨_, h, rfl, hok, by rw [ht]; exact Z1.2.1, va_K.moved hW.alike Z1.1, Z1.2.2.1⟩, Z1.2.2.2.F ht⟩) Z1.2.2.2.2.2 hdg hlocks)
theorem zg_zret {C S : Nat} {v : Int32} {ty : FieldType} {Ok : Option Value → (Nat → Nat) → Prop} {W1 : (Nat → Nat) → va_W} (h : Nat → Nat) (hc : cells ≤ C) (hs : slots ≤ S) (hx : p.tables.exec = Jvm.exec) (hb : c.code = cc) (hr : meth.sig.returnType = some ty) (hlocks : meth.locks = false) (Z : zw D tys s A (zU L) H locs) (is : List Nat) (hi : is.map (fun i => L[i]?) = L'.map some) (hn : va_nd is = true) (hW : W1 h = zU L') (hok : Ok (some (.int v)) h) (hnr : narrow ty (.int v) = .int v) (hdg : decode cc pc = .ok (.ireturn, 1)) :
    W p l e R s m args below meth c H locs cells slots (MQ below (zQG D tys A Ok W1) args s C S A) (F0 m pc ls [.int v]) := by
  have Z1 := zu_sub Z is hi hn
  rw [← hW] at Z1
  exact W.widen hc hs (W.zret hx hb hr hnr (fun t ht hW => ⟨⟨_, h, rfl, hok, by rw [ht]; exact Z1.2.1, va_K.moved hW.alike Z1.1, Z1.2.2.1⟩, Z1.2.2.2.F ht⟩) Z1.2.2.2.2.2 hdg hlocks)
theorem zg_lret {C S : Nat} {v : Int64} {Ok : Option Value → (Nat → Nat) → Prop} {W1 : (Nat → Nat) → va_W} (h : Nat → Nat) (hc : cells ≤ C) (hs : slots ≤ S) (hx : p.tables.exec = Jvm.exec) (hb : c.code = cc) (hr : meth.sig.returnType = some .long) (hlocks : meth.locks = false) (Z : zw D tys s A (zU L) H locs) (is : List Nat) (hi : is.map (fun i => L[i]?) = L'.map some) (hn : va_nd is = true) (hW : W1 h = zU L') (hok : Ok (some (.long v)) h) (hdg : decode cc pc = .ok (.lreturn, 1)) :
    W p l e R s m args below meth c H locs cells slots (MQ below (zQG D tys A Ok W1) args s C S A) (F0 m pc ls [.long v]) := by
  have Z1 := zu_sub Z is hi hn
  rw [← hW] at Z1
  exact W.widen hc hs (W.lret hx hb hr (fun t ht hW => ⟨⟨_, h, rfl, hok, by rw [ht]; exact Z1.2.1, va_K.moved hW.alike Z1.1, Z1.2.2.1⟩, Z1.2.2.2.F ht⟩) Z1.2.2.2.2.2 hdg hlocks)
theorem zg_vret {C S : Nat} {Ok : Option Value → (Nat → Nat) → Prop} {W1 : (Nat → Nat) → va_W} (h : Nat → Nat) (hc : cells ≤ C) (hs : slots ≤ S) (hx : p.tables.exec = Jvm.exec) (hb : c.code = cc) (hr : meth.sig.returnType = none) (hlocks : meth.locks = false) (Z : zw D tys s A (zU L) H locs) (is : List Nat) (hi : is.map (fun i => L[i]?) = L'.map some) (hn : va_nd is = true) (hW : W1 h = zU L') (hok : Ok none h) (hdg : decode cc pc = .ok (.return_, 1)) :
    W p l e R s m args below meth c H locs cells slots (MQ below (zQG D tys A Ok W1) args s C S A) (F0 m pc ls []) := by
  have Z1 := zu_sub Z is hi hn
  rw [← hW] at Z1
  exact W.widen hc hs (W.vret hx hb hr (fun t ht hW => ⟨⟨_, h, rfl, hok, by rw [ht]; exact Z1.2.1, va_K.moved hW.alike Z1.1, Z1.2.2.1⟩, Z1.2.2.2.F ht⟩) Z1.2.2.2.2.2 hdg hlocks)
theorem zg_aret {C S : Nat} {v : Value} {rt : FieldType} {Ok : Option Value → (Nat → Nat) → Prop} {W1 : (Nat → Nat) → va_W} (h : Nat → Nat) (hc : cells ≤ C) (hs : slots ≤ S) (hx : p.tables.exec = Jvm.exec) (hb : c.code = cc) (hr : meth.sig.returnType = some rt) (hrt : (∃ n, rt = .object n) ∨ ∃ t, rt = .array t) (hv : v = .null ∨ ∃ a, v = .ref a) (hlocks : meth.locks = false) (Z : zw D tys s A (zU L) H locs) (is : List Nat) (hi : is.map (fun i => L[i]?) = L'.map some) (hn : va_nd is = true) (hW : W1 h = zU L') (hok : Ok (some v) h) (hdg : decode cc pc = .ok (.areturn, 1)) :
    W p l e R s m args below meth c H locs cells slots (MQ below (zQG D tys A Ok W1) args s C S A) (F0 m pc ls [v]) := by
  have Z1 := zu_sub Z is hi hn
  rw [← hW] at Z1
  exact W.widen hc hs (W.aret hx hb hr hrt hv (fun t ht hW => ⟨⟨_, h, rfl, hok, by rw [ht]; exact Z1.2.1, va_K.moved hW.alike Z1.1, Z1.2.2.1⟩, Z1.2.2.2.F ht⟩) Z1.2.2.2.2.2 hdg hlocks)
/-! rows -/
theorem zu_get {own ref C : String} {T : u_T} {N ci index : Nat} {Ts : List Cond} (hx : p.tables.exec = Jvm.exec) (hb : c.code = cc) (hts : ∀ w ∈ Ts, w.before args s = true) (hin : ∀ w ∈ u_ws C T N, w ∈ Ts) (hown : s.vm.findClass own = some m.cls) (Z : zw D tys s A (zU L) H locs) (q : Nat) {fs : List Value} (he : L[q]? = some [(a, .inr (ci, fs))]) (hc : vwCl[ci]? = some (C, T, N)) (k : Nat) (hk : k < N) (hlink : (Cond.fieldLink own index ref (T k).2.1 (T k).2.2.1) ∈ Ts) (hsame : (T k).1 = ref) {v : Value} (hv : fs[k]? = some v) (hdg : decode cc pc = .ok (.getfield index, 3))
    (kk : W p l e R s m args below meth c H locs cells slots Q (F0 m (pc + 3) ls (v :: rest))) : W p l e R s m args below meth c H locs cells slots Q (F0 m pc ls (.ref a :: rest)) :=
  z_get (ref := ref) hx hb hts hin hown Z (zpos L q 0) (zU_at L q 0 _ _ he rfl) hc k hk hlink hsame hv hdg kk
theorem zu_getL {own ref : String} {index i n : Nat} {g : Nat → Nat} {v : Nat → ZL} {Ts : List Cond} (hx : p.tables.exec = Jvm.exec) (hb : c.code = cc) (hts : ∀ w ∈ Ts, w.before args s = true) (hin : ∀ w ∈ u_ws RX7 TX7 6, w ∈ Ts) (hown : s.vm.findClass own = some m.cls) (Z : zw D tys s A (zU L) H locs) (q : Nat) (he : L[q]? = some (zLs g n v)) (hi : i < n) (hga : g i = a) (k : Nat) (hk : k < 6) (hlink : (Cond.fieldLink own index ref (TX7 k).2.1 (TX7 k).2.2.1) ∈ Ts) (hsame : (TX7 k).1 = ref) {w : Value} (hv : (zLf (v i))[k]? = some w) (hdg : decode cc pc = .ok (.getfield index, 3))
    (kk : W p l e R s m args below meth c H locs cells slots Q (F0 m (pc + 3) ls (w :: rest))) : W p l e R s m args below meth c H locs cells slots Q (F0 m pc ls (.ref a :: rest)) := by
  subst hga
  exact z_get (ref := ref) (ci := 7) (fs := zLf (v i)) hx hb hts hin hown Z (zpos L q i) (zU_at L q i _ _ he (zLs_at hi)) rfl k hk hlink hsame hv hdg kk
theorem zu_put {own ref C : String} {T : u_T} {N ci index : Nat} {Ts : List Cond} (hx : p.tables.exec = Jvm.exec) (hb : c.code = cc) (hts : ∀ w ∈ Ts, w.before args s = true) (hin : ∀ w ∈ u_ws C T N, w ∈ Ts) (ty0 : Nat → FieldType) (hty : ∀ k, k < N → parseFieldDescriptor (T k).2.2.1 = some (ty0 k)) (hnm : ∀ a, a < N → ∀ b, b < N → a ≠ b → (T a).2.1 ≠ (T b).2.1) (hown : s.vm.findClass own = some m.cls) (Z : zw D tys s A (zU L) H locs) (q : Nat) {fs : List Value} (he : L[q]? = some [(a, .inr (ci, fs))]) (hc : vwCl[ci]? = some (C, T, N)) (k : Nat) (hk : k < N) (hlink : (Cond.fieldLink own index ref (T k).2.1 (T k).2.2.1) ∈ Ts) (hsame : (T k).1 = ref) (hfin : (T k).2.2.2 = false) {v : Value} (hn : narrow (ty0 k) v = v) (hfit : fits (ty0 k) v = true) (hl : k < fs.length)
    (hdg : decode cc pc = .ok (.putfield index, 3)) (hw : L.set q [(a, .inr (ci, fs.set k v))] = L') (kk : ∀ (H1 : Heap) (locs1 : List Loc), zw D tys s A (zU L') H1 locs1 → W p l e R s m args below meth c H1 locs1 cells slots Q (F0 m (pc + 3) ls rest)) : W p l e R s m args below meth c H locs cells slots Q (F0 m pc ls (v :: .ref a :: rest)) :=
  z_put (ref := ref) hx hb hts hin ty0 hty hnm hown Z (zpos L q 0) (zU_at L q 0 _ _ he rfl) hc k hk hlink hsame hfin hn hfit hl hdg ((zU_set L q 0 _ _ he Nat.zero_lt_one).trans (congrArg zU hw)) kk
theorem zu_putL {own ref : String} {index i n : Nat} {g : Nat → Nat} {v : Nat → ZL} {w : ZL} {Ts : List Cond} (hx : p.tables.exec = Jvm.exec) (hb : c.code = cc) (hts : ∀ w ∈ Ts, w.before args s = true) (hin : ∀ w ∈ u_ws RX7 TX7 6, w ∈ Ts) (ty0 : Nat → FieldType) (hty : ∀ k, k < 6 → parseFieldDescriptor (TX7 k).2.2.1 = some (ty0 k)) (hnm : ∀ a, a < 6 → ∀ b, b < 6 → a ≠ b → (TX7 a).2.1 ≠ (TX7 b).2.1) (hown : s.vm.findClass own = some m.cls) (Z : zw D tys s A (zU L) H locs) (q : Nat) (he : L[q]? = some (zLs g n v)) (hi : i < n) (hga : g i = a) (k : Nat) (hk : k < 6) (hlink : (Cond.fieldLink own index ref (TX7 k).2.1 (TX7 k).2.2.1) ∈ Ts) (hsame : (TX7 k).1 = ref) (hfin : (TX7 k).2.2.2 = false) {x : Value} (hn : narrow (ty0 k) x = x) (hfit : fits (ty0 k) x = true)
    (hdg : decode cc pc = .ok (.putfield index, 3)) (hwf : (zLf (v i)).set k x = zLf w) (hw : L.set q (zLs g n (va_up v i w)) = L') (kk : ∀ (H1 : Heap) (locs1 : List Loc), zw D tys s A (zU L') H1 locs1 → W p l e R s m args below meth c H1 locs1 cells slots Q (F0 m (pc + 3) ls rest)) : W p l e R s m args below meth c H locs cells slots Q (F0 m pc ls (x :: .ref a :: rest)) := by
  subst hga
  exact z_put (ref := ref) (ci := 7) (fs := zLf (v i)) hx hb hts hin ty0 hty hnm hown Z (zpos L q i) (zU_at L q i _ _ he (zLs_at hi)) rfl k hk hlink hsame hfin hn hfit hk hdg ((zU_set L q i _ _ he (by rw [zLs_len]; exact hi)).trans (by rw [hwf]; exact (congrArg (fun z => zU (L.set q z)) (zLs_set hi)).trans (congrArg zU hw))) kk
theorem zu_iald (hx : p.tables.exec = Jvm.exec) (hb : c.code = cc) (Z : zw D tys s A (zU L) H locs) (q t0 : Nat) {cA : ClassId} {n : Nat} {f : Nat → Int32} (ha : L[q]? = some [(a, .inl (cA, n, .inl f))]) (ht : tys[t0]? = some (cA, .int)) {i : Int32} (hin : vp_in i n) (hdg : decode cc pc = .ok (.iaload, 1))
    (kk : W p l e R s m args below meth c H locs cells slots Q (F0 m (pc + 1) ls (.int (f i.toNatClampNeg) :: rest))) : W p l e R s m args below meth c H locs cells slots Q (F0 m pc ls (.int i :: .ref a :: rest)) :=
  z_iald hx hb Z (zpos L q 0) t0 (zU_at L q 0 _ _ ha rfl) ht hin hdg kk
theorem zu_iast (hx : p.tables.exec = Jvm.exec) (hb : c.code = cc) (Z : zw D tys s A (zU L) H locs) (q t0 : Nat) {cA : ClassId} {n : Nat} {f : Nat → Int32} (ha : L[q]? = some [(a, .inl (cA, n, .inl f))]) (ht : tys[t0]? = some (cA, .int)) {i x : Int32} (hin : vp_in i n) (hdg : decode cc pc = .ok (.iastore, 1)) (ws' : (Nat → Int32) → List va_W) (hw : ∀ g, L.set q [(a, .inl (cA, n, .inl g))] = ws' g)
    (kk : ∀ (g : Nat → Int32) (H1 : Heap) (locs1 : List Loc), g = upd f i.toNatClampNeg x → zw D tys s A (zU (ws' g)) H1 locs1 → W p l e R s m args below meth c H1 locs1 cells slots Q (F0 m (pc + 1) ls rest)) : W p l e R s m args below meth c H locs cells slots Q (F0 m pc ls (.int x :: .int i :: .ref a :: rest)) :=
  z_iast hx hb Z (zpos L q 0) t0 (zU_at L q 0 _ _ ha rfl) ht hin hdg (fun g => zU (ws' g)) (fun g => (zU_set L q 0 _ _ ha Nat.zero_lt_one).trans (congrArg zU (hw g))) kk
theorem zu_alen (hx : p.tables.exec = Jvm.exec) (hb : c.code = cc) (Z : zw D tys s A (zU L) H locs) (q t0 : Nat) {cA : ClassId} {x : vp_A} (ha : L[q]? = some [(a, .inl (cA, x))]) {ty : FieldType} (ht : tys[t0]? = some (cA, ty)) {v : Int32} (hv : Int32.ofNat x.1 = v) (hdg : decode cc pc = .ok (.arraylength, 1))
    (kk : W p l e R s m args below meth c H locs cells slots Q (F0 m (pc + 1) ls (.int v :: rest))) : W p l e R s m args below meth c H locs cells slots Q (F0 m pc ls (.ref a :: rest)) :=
  z_alen hx hb Z (zpos L q 0) t0 (zU_at L q 0 _ _ ha rfl) ht hv hdg kk
theorem zu_aald {b : Nat} (hx : p.tables.exec = Jvm.exec) (hb : c.code = cc) (Z : zw D tys s A (zU L) H locs) (q t0 : Nat) {cA : ClassId} {n : Nat} {f : Nat → Option Nat} {ty : FieldType} (ha : L[q]? = some [(a, .inl (cA, n, .inr (.inr (.inr (.inr f)))))]) (ht : tys[t0]? = some (cA, ty)) (hty : ty.isReference = true) {i : Int32} (hin : ¬ (i < 0 ∨ n ≤ i.toNatClampNeg)) (hv : va_rf (f i.toNatClampNeg) = .ref b) (hdg : decode cc pc = .ok (.aaload, 1))
    (kk : W p l e R s m args below meth c H locs cells slots Q (F0 m (pc + 1) ls (.ref b :: rest))) : W p l e R s m args below meth c H locs cells slots Q (F0 m pc ls (.int i :: .ref a :: rest)) :=
  z_aald hx hb Z (zpos L q 0) t0 (zU_at L q 0 _ _ ha rfl) ht hty hin hv hdg kk
theorem zu_newa {atype : ArrayType} {ty : FieldType} {cT : ClassId} {Ts : List Cond} (t0 : Nat) (hx : p.tables.exec = Jvm.exec) (hb : c.code = cc) (hts : ∀ w ∈ Ts, w.before args s = true) (harr : Cond.arrayClass ty ∈ Ts) (hty : newarray.typeOf atype = ty) (hra : ∀ q, va_RA s q ty = (s.vm.findClass ("[" ++ ty.toString) = some q)) (ht : tys[t0]? = some (cT, ty)) (Z : zw D tys s A (zU L) H locs) (hA : ∀ q, s.heap.size ≤ q → A q)
    {n : Int32} {N' : Nat} {a0 : vp_A} (ha : ∀ cA : ClassId, vp_cell cA a0 = arrV cA N' (fun _ => defaultValue ty)) (hn : ¬ n < 0) (hN : n.toNatClampNeg = N') (hbytes : N' * componentBytes ty ≤ 536870912) (hcells : cells + 1 ≤ R.cells) (hslots : slots + N' ≤ R.slots) (hdg : decode cc pc = .ok (.newarray atype, 2))
    (kk : ∀ (q : Nat) (H1 : Heap), zw D tys s A (zU (L ++ [[(q, .inl (cT, a0))]])) H1 locs → W p l e R s m args below meth c H1 locs (cells + 1) (slots + N') Q (F0 m (pc + 2) ls (.ref q :: rest))) : W p l e R s m args below meth c H locs cells slots Q (F0 m pc ls (.int n :: rest)) :=
  z_newa t0 hx hb hts harr hty hra ht Z hA ha hn hN hbytes hcells hslots hdg (fun q H1 Z1 => kk q H1 (by rw [zU_app]; exact Z1))
theorem zu_new {own C : String} {T : u_T} {N ci index : Nat} {Ts : List Cond} (hx : p.tables.exec = Jvm.exec) (hb : c.code = cc) (hts : ∀ w ∈ Ts, w.before args s = true) (hin : ∀ w ∈ u_ws C T N, w ∈ Ts) (ty : Nat → FieldType) (hty : ∀ k, k < N → parseFieldDescriptor (T k).2.2.1 = some (ty k)) (hown : s.vm.findClass own = some m.cls) (hcl : Cond.classLink own index C ∈ Ts) (hinst : Cond.instantiable C N ∈ Ts) (hini : Cond.initialized C ∈ Ts)
    (Z : zw D tys s A (zU L) H locs) (hA : ∀ q, s.heap.size ≤ q → A q) (hc : vwCl[ci]? = some (C, T, N)) {fs : List Value} (hfs : ∀ j, j < N → defaultValue (ty j) = vp_V fs j) (hcells : cells + 1 ≤ R.cells) (hslots : slots + N ≤ R.slots) (hdg : decode cc pc = .ok (.new index, 3))
    (kk : ∀ (q : Nat) (H1 : Heap), zw D tys s A (zU (L ++ [[(q, .inr (ci, fs))]])) H1 locs → W p l e R s m args below meth c H1 locs (cells + 1) (slots + N) Q (F0 m (pc + 3) ls (.ref q :: rest))) : W p l e R s m args below meth c H locs cells slots Q (F0 m pc ls rest) :=
  z_new hx hb hts hin ty hty hown hcl hinst hini Z hA hc hfs hcells hslots hdg (fun q H1 Z1 => kk q H1 (by rw [zU_app]; exact Z1))
theorem zu_newq {own C : String} {index : Nat} {cT : ClassId} {Ts : List Cond} (t0 : Nat) (hx : p.tables.exec = Jvm.exec) (hb : c.code = cc) (hts : ∀ w ∈ Ts, w.before args s = true) (hown : s.vm.findClass own = some m.cls) (hclink : Cond.classLink own index C ∈ Ts) (hover : va_AO C s) (ht : tys[t0]? = some (cT, .object C)) (Z : zw D tys s A (zU L) H locs) (hA : ∀ q, s.heap.size ≤ q → A q)
    {n : Int32} {N' : Nat} (hn : ¬ n < 0) (hN : n.toNatClampNeg = N') (hbytes : N' * 4 ≤ 536870912) (hcells : cells + 1 ≤ R.cells) (hslots : slots + N' ≤ R.slots) (hdg : decode cc pc = .ok (.anewarray index, 3))
    (kk : ∀ (q : Nat) (H1 : Heap), zw D tys s A (zU (L ++ [[(q, .inl (cT, N', .inr (.inr (.inr (.inr (fun _ => none))))))]])) H1 locs → W p l e R s m args below meth c H1 locs (cells + 1) (slots + N') Q (F0 m (pc + 3) ls (.ref q :: rest))) : W p l e R s m args below meth c H locs cells slots Q (F0 m pc ls (.int n :: rest)) :=
  z_newq t0 hx hb hts hown hclink hover ht Z hA hn hN hbytes hcells hslots hdg (fun q H1 Z1 => kk q H1 (by rw [zU_app]; exact Z1))
theorem zu_astq (hx : p.tables.exec = Jvm.exec) (hb : c.code = cc) (Z : zw D tys s A (zU L) H locs) (q t0 qk xk ci : Nat) {cA : ClassId} {r : vw_C} {n v : Nat} {vs : List Value} {f : Nat → Option Nat} {G : va_W} (ha : L[q]? = some [(a, .inl (cA, n, .inr (.inr (.inr (.inr f)))))]) (ht : tys[t0]? = some (cA, .object r.1)) (hG : L[qk]? = some G) (hv : G[xk]? = some (v, .inr (ci, vs))) (hc : vwCl[ci]? = some r) {i : Int32} (hin : vp_in i n) (hdg : decode cc pc = .ok (.aastore, 1)) (hw : L.set q [(a, .inl (cA, n, .inr (.inr (.inr (.inr (va_up f i.toNatClampNeg (some v)))))))] = L')
    (kk : ∀ (H1 : Heap) (locs1 : List Loc), zw D tys s A (zU L') H1 locs1 → W p l e R s m args below meth c H1 locs1 cells slots Q (F0 m (pc + 1) ls rest)) : W p l e R s m args below meth c H locs cells slots Q (F0 m pc ls (.ref v :: .int i :: .ref a :: rest)) :=
  z_astq hx hb Z (zpos L q 0) t0 (zpos L qk xk) ci (zU_at L q 0 _ _ ha rfl) ht (zU_at L qk xk _ _ hG hv) hc hin hdg ((zU_set L q 0 _ _ ha Nat.zero_lt_one).trans (congrArg zU hw)) kk
end ZGR
