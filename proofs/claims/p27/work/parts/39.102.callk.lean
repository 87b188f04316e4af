/-- addresses: some by name, then a row of them -/
def zhl : List Nat → (Nat → Nat) → Nat → Nat
  | [], g, k => g k
  | a :: _, _, 0 => a
  | _ :: l, g, k + 1 => zhl l g k
section ZGK
variable {p : Program} {l : Launch} {e : Env} {R : Room} {s : State} {m : MethodId} {args : Array Value} {below : List Frame} {meth : Method} {c : Code} {H : Heap} {locs : List Loc} {cells slots : Nat} {Q : State → Prop}
variable {cc : ByteArray} {pc : Nat} {ls : Array Slot} {rest st0 : List Value} {D : va_G} {tys : List (ClassId × FieldType)} {A : Nat → Prop} {L Lc LF : List va_W} {wc wf w1 : va_W} {a b : Nat}
variable {y : MethodName} {bytes : ByteArray} {maxL nL n index : Nat} {ret : Option FieldType} {wsc : List Cond} {rm : Room} {Ts : List Cond} {own C : String} {As : List Value} {r : Int32} {X : (Nat → Prop) → State → Heap → Prop}
theorem zg_callVi {r : Int32} {L1 : (Nat → Nat) → List va_W} (hXp : zPass X) (hXA : X A s s.heap) (S : CallFix p m c cc nL s args Ts own) (hM : zG X l y wsc rm D tys (.ref b :: As) (zU Lc) (fun v _ => v = some (.int r)) (fun h => zU (L1 h))) (cw : CallW R s args own C index y bytes maxL ret wsc rm rm.cells rm.slots n) (Z : zw D tys s A (zU L) H locs) (hA : ∀ q, s.heap.size ≤ q → A q) (is : List Nat) (his : is.map (fun i => L[i]?) = (Lc ++ LF).map some) (hnd : va_nd is = true)
    {ci : Nat} {q : vw_C} {fs : List Value} {G : va_W} (hc : vwCl[ci]? = some q) (qx xk : Nat) (hG : Lc[qx]? = some G) (he : G[xk]? = some (b, .inr (ci, fs))) (hq : q.1 = C) (hn : As.length = n) (hsize : ls.size = nL) (hstack : st0 = As.reverse ++ .ref b :: rest) (hW : (rest.map fun v => v.category).sum ≤ 8) (hdg : decode cc pc = .ok (.invokevirtual index, 3)) (hf : cells + rm.cells ≤ R.cells ∧ slots + rm.slots ≤ R.slots)
    (kk : ∀ (h : Nat → Nat) (H1 : Heap) (locs1 : List Loc), zw D tys s A (zU (LF ++ L1 h)) H1 locs1 → W p l e R s m args below meth c H1 locs1 (cells + rm.cells) (slots + rm.slots) Q (F0 m (pc + 3) ls (.int r :: rest))) : W p l e R s m args below meth c H locs cells slots Q (F0 m pc ls st0) :=
  zg_callV hXp hXA S hM cw Z hA is his hnd hc qx xk hG he hq hn hsize hstack hW hdg hf (fun v h H1 locs1 e9 Z9 => by subst e9; rw [← zU_app] at Z9; exact kk h H1 locs1 Z9)
theorem zg_callVl {r : Int64} {L1 : (Nat → Nat) → List va_W} (hXp : zPass X) (hXA : X A s s.heap) (S : CallFix p m c cc nL s args Ts own) (hM : zG X l y wsc rm D tys (.ref b :: As) (zU Lc) (fun v _ => v = some (.long r)) (fun h => zU (L1 h))) (cw : CallW R s args own C index y bytes maxL ret wsc rm rm.cells rm.slots n) (Z : zw D tys s A (zU L) H locs) (hA : ∀ q, s.heap.size ≤ q → A q) (is : List Nat) (his : is.map (fun i => L[i]?) = (Lc ++ LF).map some) (hnd : va_nd is = true)
    {ci : Nat} {q : vw_C} {fs : List Value} {G : va_W} (hc : vwCl[ci]? = some q) (qx xk : Nat) (hG : Lc[qx]? = some G) (he : G[xk]? = some (b, .inr (ci, fs))) (hq : q.1 = C) (hn : As.length = n) (hsize : ls.size = nL) (hstack : st0 = As.reverse ++ .ref b :: rest) (hW : (rest.map fun v => v.category).sum ≤ 8) (hdg : decode cc pc = .ok (.invokevirtual index, 3)) (hf : cells + rm.cells ≤ R.cells ∧ slots + rm.slots ≤ R.slots)
    (kk : ∀ (h : Nat → Nat) (H1 : Heap) (locs1 : List Loc), zw D tys s A (zU (LF ++ L1 h)) H1 locs1 → W p l e R s m args below meth c H1 locs1 (cells + rm.cells) (slots + rm.slots) Q (F0 m (pc + 3) ls (.long r :: rest))) : W p l e R s m args below meth c H locs cells slots Q (F0 m pc ls st0) :=
  zg_callV hXp hXA S hM cw Z hA is his hnd hc qx xk hG he hq hn hsize hstack hW hdg hf (fun v h H1 locs1 e9 Z9 => by subst e9; rw [← zU_app] at Z9; exact kk h H1 locs1 Z9)
theorem zg_callVr {L1 : (Nat → Nat) → List va_W} (hXp : zPass X) (hXA : X A s s.heap) (S : CallFix p m c cc nL s args Ts own) (hM : zG X l y wsc rm D tys (.ref b :: As) (zU Lc) (fun v h => v = some (.ref (h 0))) (fun h => zU (L1 h))) (cw : CallW R s args own C index y bytes maxL ret wsc rm rm.cells rm.slots n) (Z : zw D tys s A (zU L) H locs) (hA : ∀ q, s.heap.size ≤ q → A q) (is : List Nat) (his : is.map (fun i => L[i]?) = (Lc ++ LF).map some) (hnd : va_nd is = true)
    {ci : Nat} {q : vw_C} {fs : List Value} {G : va_W} (hc : vwCl[ci]? = some q) (qx xk : Nat) (hG : Lc[qx]? = some G) (he : G[xk]? = some (b, .inr (ci, fs))) (hq : q.1 = C) (hn : As.length = n) (hsize : ls.size = nL) (hstack : st0 = As.reverse ++ .ref b :: rest) (hW : (rest.map fun v => v.category).sum ≤ 8) (hdg : decode cc pc = .ok (.invokevirtual index, 3)) (hf : cells + rm.cells ≤ R.cells ∧ slots + rm.slots ≤ R.slots)
    (kk : ∀ (h : Nat → Nat) (H1 : Heap) (locs1 : List Loc), zw D tys s A (zU (LF ++ L1 h)) H1 locs1 → W p l e R s m args below meth c H1 locs1 (cells + rm.cells) (slots + rm.slots) Q (F0 m (pc + 3) ls (.ref (h 0) :: rest))) : W p l e R s m args below meth c H locs cells slots Q (F0 m pc ls st0) :=
  zg_callV hXp hXA S hM cw Z hA is his hnd hc qx xk hG he hq hn hsize hstack hW hdg hf (fun v h H1 locs1 e9 Z9 => by subst e9; rw [← zU_app] at Z9; exact kk h H1 locs1 Z9)
theorem zg_callVv {L1 : (Nat → Nat) → List va_W} (hXp : zPass X) (hXA : X A s s.heap) (S : CallFix p m c cc nL s args Ts own) (hM : zG X l y wsc rm D tys (.ref b :: As) (zU Lc) (fun v _ => v = none) (fun h => zU (L1 h))) (cw : CallW R s args own C index y bytes maxL ret wsc rm rm.cells rm.slots n) (Z : zw D tys s A (zU L) H locs) (hA : ∀ q, s.heap.size ≤ q → A q) (is : List Nat) (his : is.map (fun i => L[i]?) = (Lc ++ LF).map some) (hnd : va_nd is = true)
    {ci : Nat} {q : vw_C} {fs : List Value} {G : va_W} (hc : vwCl[ci]? = some q) (qx xk : Nat) (hG : Lc[qx]? = some G) (he : G[xk]? = some (b, .inr (ci, fs))) (hq : q.1 = C) (hn : As.length = n) (hsize : ls.size = nL) (hstack : st0 = As.reverse ++ .ref b :: rest) (hW : (rest.map fun v => v.category).sum ≤ 8) (hdg : decode cc pc = .ok (.invokevirtual index, 3)) (hf : cells + rm.cells ≤ R.cells ∧ slots + rm.slots ≤ R.slots)
    (kk : ∀ (h : Nat → Nat) (H1 : Heap) (locs1 : List Loc), zw D tys s A (zU (LF ++ L1 h)) H1 locs1 → W p l e R s m args below meth c H1 locs1 (cells + rm.cells) (slots + rm.slots) Q (F0 m (pc + 3) ls (rest))) : W p l e R s m args below meth c H locs cells slots Q (F0 m pc ls st0) :=
  zg_callV hXp hXA S hM cw Z hA is his hnd hc qx xk hG he hq hn hsize hstack hW hdg hf (fun v h H1 locs1 e9 Z9 => by subst e9; rw [← zU_app] at Z9; exact kk h H1 locs1 Z9)
theorem zg_callSi {r : Int32} {L1 : (Nat → Nat) → List va_W} (hXp : zPass X) (hXA : X A s s.heap) (S : CallFix p m c cc nL s args Ts own) (hM : zG X l y wsc rm D tys As (zU Lc) (fun v _ => v = some (.int r)) (fun h => zU (L1 h))) (cw : CallB R s args own index y bytes maxL ret wsc rm rm.cells rm.slots n ∧ (Cond.static y).before args s = true) (Z : zw D tys s A (zU L) H locs) (hA : ∀ q, s.heap.size ≤ q → A q) (is : List Nat) (his : is.map (fun i => L[i]?) = (Lc ++ LF).map some) (hnd : va_nd is = true)
    (hn : As.length = n) (hsize : ls.size = nL) (hstack : st0 = As.reverse ++ rest) (hW : (rest.map fun v => v.category).sum ≤ 8) (hdg : decode cc pc = .ok (.invokestatic index, 3)) (hf : cells + rm.cells ≤ R.cells ∧ slots + rm.slots ≤ R.slots)
    (kk : ∀ (h : Nat → Nat) (H1 : Heap) (locs1 : List Loc), zw D tys s A (zU (LF ++ L1 h)) H1 locs1 → W p l e R s m args below meth c H1 locs1 (cells + rm.cells) (slots + rm.slots) Q (F0 m (pc + 3) ls (.int r :: rest))) : W p l e R s m args below meth c H locs cells slots Q (F0 m pc ls st0) :=
  zg_callS hXp hXA S hM cw Z hA is his hnd hn hsize hstack hW hdg hf (fun v h H1 locs1 e9 Z9 => by subst e9; rw [← zU_app] at Z9; exact kk h H1 locs1 Z9)
theorem zg_callSv {L1 : (Nat → Nat) → List va_W} (hXp : zPass X) (hXA : X A s s.heap) (S : CallFix p m c cc nL s args Ts own) (hM : zG X l y wsc rm D tys As (zU Lc) (fun v _ => v = none) (fun h => zU (L1 h))) (cw : CallB R s args own index y bytes maxL ret wsc rm rm.cells rm.slots n ∧ (Cond.static y).before args s = true) (Z : zw D tys s A (zU L) H locs) (hA : ∀ q, s.heap.size ≤ q → A q) (is : List Nat) (his : is.map (fun i => L[i]?) = (Lc ++ LF).map some) (hnd : va_nd is = true)
    (hn : As.length = n) (hsize : ls.size = nL) (hstack : st0 = As.reverse ++ rest) (hW : (rest.map fun v => v.category).sum ≤ 8) (hdg : decode cc pc = .ok (.invokestatic index, 3)) (hf : cells + rm.cells ≤ R.cells ∧ slots + rm.slots ≤ R.slots)
    (kk : ∀ (h : Nat → Nat) (H1 : Heap) (locs1 : List Loc), zw D tys s A (zU (LF ++ L1 h)) H1 locs1 → W p l e R s m args below meth c H1 locs1 (cells + rm.cells) (slots + rm.slots) Q (F0 m (pc + 3) ls (rest))) : W p l e R s m args below meth c H locs cells slots Q (F0 m pc ls st0) :=
  zg_callS hXp hXA S hM cw Z hA is his hnd hn hsize hstack hW hdg hf (fun v h H1 locs1 e9 Z9 => by subst e9; rw [← zU_app] at Z9; exact kk h H1 locs1 Z9)
theorem zg_callSr {L1 : (Nat → Nat) → List va_W} (hXp : zPass X) (hXA : X A s s.heap) (S : CallFix p m c cc nL s args Ts own) (hM : zG X l y wsc rm D tys As (zU Lc) (fun v h => v = some (.ref (h 0))) (fun h => zU (L1 h))) (cw : CallB R s args own index y bytes maxL ret wsc rm rm.cells rm.slots n ∧ (Cond.static y).before args s = true) (Z : zw D tys s A (zU L) H locs) (hA : ∀ q, s.heap.size ≤ q → A q) (is : List Nat) (his : is.map (fun i => L[i]?) = (Lc ++ LF).map some) (hnd : va_nd is = true)
    (hn : As.length = n) (hsize : ls.size = nL) (hstack : st0 = As.reverse ++ rest) (hW : (rest.map fun v => v.category).sum ≤ 8) (hdg : decode cc pc = .ok (.invokestatic index, 3)) (hf : cells + rm.cells ≤ R.cells ∧ slots + rm.slots ≤ R.slots)
    (kk : ∀ (h : Nat → Nat) (H1 : Heap) (locs1 : List Loc), zw D tys s A (zU (LF ++ L1 h)) H1 locs1 → W p l e R s m args below meth c H1 locs1 (cells + rm.cells) (slots + rm.slots) Q (F0 m (pc + 3) ls (.ref (h 0) :: rest))) : W p l e R s m args below meth c H locs cells slots Q (F0 m pc ls st0) :=
  zg_callS hXp hXA S hM cw Z hA is his hnd hn hsize hstack hW hdg hf (fun v h H1 locs1 e9 Z9 => by subst e9; rw [← zU_app] at Z9; exact kk h H1 locs1 Z9)
theorem zg_callIv {L1 : (Nat → Nat) → List va_W} (hXp : zPass X) (hXA : X A s s.heap) (S : CallFix p m c cc nL s args Ts own) (hM : zG X l y wsc rm D tys (.ref b :: As) (zU Lc) (fun v _ => v = none) (fun h => zU (L1 h))) (cw : CallB R s args own index y bytes maxL none wsc rm rm.cells rm.slots n ∧ y.name = "<init>" ∧ (Cond.instanceMethod y).before args s = true) (Z : zw D tys s A (zU L) H locs) (hA : ∀ q, s.heap.size ≤ q → A q) (is : List Nat) (his : is.map (fun i => L[i]?) = (Lc ++ LF).map some) (hnd : va_nd is = true)
    (hn : As.length = n) (hsize : ls.size = nL) (hstack : st0 = As.reverse ++ .ref b :: rest) (hW : (rest.map fun v => v.category).sum ≤ 8) (hdg : decode cc pc = .ok (.invokespecial index, 3)) (hf : cells + rm.cells ≤ R.cells ∧ slots + rm.slots ≤ R.slots)
    (kk : ∀ (h : Nat → Nat) (H1 : Heap) (locs1 : List Loc), zw D tys s A (zU (LF ++ L1 h)) H1 locs1 → W p l e R s m args below meth c H1 locs1 (cells + rm.cells) (slots + rm.slots) Q (F0 m (pc + 3) ls (rest))) : W p l e R s m args below meth c H locs cells slots Q (F0 m pc ls st0) :=
  zg_callI hXp hXA S hM cw Z hA is his hnd hn hsize hstack hW hdg hf (fun v h H1 locs1 e9 Z9 => by subst e9; rw [← zU_app] at Z9; exact kk h H1 locs1 Z9)
theorem zg_callINv {L1 : (Nat → Nat) → List va_W} {host : String} (hXp : zPass X) (hXA : X A s s.heap) (S : CallFix p m c cc nL s args Ts own) (hM : zG X l y wsc rm D tys (.ref b :: As) (zU Lc) (fun v _ => v = none) (fun h => zU (L1 h))) (cw : va_CN R s args own index y host bytes maxL none wsc rm rm.cells rm.slots n ∧ y.name = "<init>" ∧ (Cond.instanceMethod y).before args s = true) (Z : zw D tys s A (zU L) H locs) (hA : ∀ q, s.heap.size ≤ q → A q) (is : List Nat) (his : is.map (fun i => L[i]?) = (Lc ++ LF).map some) (hnd : va_nd is = true)
    (hn : As.length = n) (hsize : ls.size = nL) (hstack : st0 = As.reverse ++ .ref b :: rest) (hW : (rest.map fun v => v.category).sum ≤ 8) (hdg : decode cc pc = .ok (.invokespecial index, 3)) (hf : cells + rm.cells ≤ R.cells ∧ slots + rm.slots ≤ R.slots)
    (kk : ∀ (h : Nat → Nat) (H1 : Heap) (locs1 : List Loc), zw D tys s A (zU (LF ++ L1 h)) H1 locs1 → W p l e R s m args below meth c H1 locs1 (cells + rm.cells) (slots + rm.slots) Q (F0 m (pc + 3) ls (rest))) : W p l e R s m args below meth c H locs cells slots Q (F0 m pc ls st0) :=
  zg_callIN hXp hXA S hM cw Z hA is his hnd hn hsize hstack hW hdg hf (fun v h H1 locs1 e9 Z9 => by subst e9; rw [← zU_app] at Z9; exact kk h H1 locs1 Z9)
theorem zg_callHi {L2 : List va_W} {hh : List (Nat × Nat × Nat × Nat)} (hXA : zJ A s s.heap) (S : CallFix p m c cc nL s args Ts own) (hM : zH l y wsc rm D tys As (zU Lc) (zU L2) r) (cw : vx_CSW R s args own index y bytes maxL ret hh wsc rm 1 6 n) (Z : zw D tys s A (zU L) H locs) (hA : ∀ q, s.heap.size ≤ q → A q) (is : List Nat) (his : is.map (fun i => L[i]?) = (Lc ++ LF).map some) (hnd : va_nd is = true)
    (hn : As.length = n) (hsize : ls.size = nL) (hstack : st0 = As.reverse ++ rest) (hW : (rest.map fun v => v.category).sum ≤ 8) (hdg : decode cc pc = .ok (.invokestatic index, 3)) (hf : cells + 1 ≤ R.cells ∧ slots + 6 ≤ R.slots)
    (kk : ∀ (H1 : Heap) (locs1 : List Loc), zw D tys s A (zU (LF ++ L2)) H1 locs1 → W p l e R s m args below meth c H1 locs1 (cells + 1) (slots + 6) Q (F0 m (pc + 3) ls (.int r :: rest))) : W p l e R s m args below meth c H locs cells slots Q (F0 m pc ls st0) :=
  zg_callH hXA S hM cw Z hA is his hnd hn hsize hstack hW hdg hf (fun H1 locs1 Z9 => by rw [← zU_app] at Z9; exact kk H1 locs1 Z9)
/-! rows that the law's own objects want -/
theorem z_atQ {D : va_G} {cl : List vw_C} {a n : Nat} {cA : ClassId} {f f' : Nat → Option Nat} {H : Heap} (h : ∀ i, i < n → f i = f' i) (hP : va_at D cl (a, .inl (cA, n, .inr (.inr (.inr (.inr f))))) H) : va_at D cl (a, .inl (cA, n, .inr (.inr (.inr (.inr f'))))) H := by
  have h1 : H[a]? = some (vp_cell cA (n, .inr (.inr (.inr (.inr f))))) := hP
  show H[a]? = some (vp_cell cA (n, .inr (.inr (.inr (.inr f')))))
  rw [h1]
  rw [vp_cell_q, vp_cell_q]
  unfold arrV
  congr 3
  funext j
  show va_rf (f j.val) = va_rf (f' j.val)
  rw [h j.val j.isLt]
theorem zw_same {W : va_W} {k a : Nat} {e0 e1 : va_E} (Z : zw D tys s A W H locs) (hk : W[k]? = some (a, e0)) (h : va_at D vwCl (a, e0) H → va_at D vwCl (a, e1) H) : zw D tys s A (W.set k (a, e1)) H locs := by
  have hlt := (List.getElem?_eq_some_iff.mp hk).1
  have key : ∀ (j : Nat) (q : Nat × va_E), (W.set k (a, e1))[j]? = some q → (j = k ∧ q = (a, e1)) ∨ (j ≠ k ∧ W[j]? = some q) := by
    intro j q hq
    by_cases ej : j = k
    · subst ej
      rw [List.getElem?_set_self hlt] at hq
      exact Or.inl ⟨rfl, (Option.some.inj hq).symm⟩
    · rw [List.getElem?_set_ne (fun h => ej h.symm)] at hq
      exact Or.inr ⟨ej, hq⟩
  have keyA : ∀ (j : Nat) (q : Nat × va_E), (W.set k (a, e1))[j]? = some q → ∃ q', W[j]? = some q' ∧ q'.1 = q.1 := by
    intro j q hq
    rcases key j q hq with ⟨rfl, rfl⟩ | ⟨_, h2⟩
    · exact ⟨_, hk, rfl⟩
    · exact ⟨q, h2, rfl⟩
  refine ⟨Z.1, fun j q hq => ?_, ⟨fun i j p q hi hj hpq => ?_, fun j q hq => ?_⟩, Z.2.2.2⟩
  · rcases key j q hq with ⟨rfl, rfl⟩ | ⟨_, h2⟩
    · exact h (Z.2.1 _ _ hk)
    · exact Z.2.1 j q h2
  · obtain ⟨p', a1, a2⟩ := keyA i p hi
    obtain ⟨q', b1, b2⟩ := keyA j q hj
    exact Z.2.2.1.1 i j p' q' a1 b1 (a2.trans (hpq.trans b2.symm))
  · obtain ⟨q', b1, b2⟩ := keyA j q hq
    rw [← b2]
    exact Z.2.2.1.2 j q' b1
theorem zu_qext {L L' : List va_W} {n : Nat} {cA : ClassId} {f f' : Nat → Option Nat} (Z : zw D tys s A (zU L) H locs) (q : Nat) (ha : L[q]? = some [(a, .inl (cA, n, .inr (.inr (.inr (.inr f)))))]) (hf : ∀ i, i < n → f i = f' i) (hw : L.set q [(a, .inl (cA, n, .inr (.inr (.inr (.inr f')))))] = L') : zw D tys s A (zU L') H locs := by
  have h1 := zw_same (e1 := .inl (cA, n, .inr (.inr (.inr (.inr f'))))) Z (zU_at L q 0 _ _ ha rfl) (fun h => z_atQ hf h)
  rw [zU_set L q 0 _ _ ha Nat.zero_lt_one] at h1
  rw [← hw]
  exact h1
theorem z_ofN {n : Nat} (h : n ≤ 64) : (¬ Int32.ofNat n < 0) ∧ (Int32.ofNat n).toNatClampNeg = n := by
  have e : (Int32.ofNat n).toInt = n := Int32.toInt_ofNat_of_lt (by omega)
  constructor
  · rw [Int32.lt_iff_toInt_lt, e]
    have : (0 : Int32).toInt = 0 := rfl
    omega
  · show (Int32.ofNat n).toInt.toNat = n
    rw [e]; rfl
theorem z_b01 {x : Int32} (h : x = 0 ∨ x = 1) : narrow .boolean (.int x) = .int x := by rcases h with h | h <;> rw [h] <;> rfl
theorem z_f01 {x : Int32} (h : x = 0 ∨ x = 1) : fits .boolean (.int x) = true := by rcases h with h | h <;> rw [h] <;> rfl
theorem zfitI {cA : ClassId} {n : Nat} {f : Nat → Int32} : ∀ (i : Nat) (v : Value), (vp_cell cA (n, .inl f)).slots[i]? = some v → fits .int v = true := by
  intro i v h
  have h1 : (arrV cA n (fun j => .int (f j))).slots[i]? = some v := h
  by_cases hi : i < n
  · rw [arrV_read _ _ hi] at h1
    cases h1
    rfl
  · rw [Array.getElem?_eq_none (by rw [arrV_size]; omega)] at h1
    cases h1
theorem zu_clone {own : String} {index n : Nat} {f : Nat → Int32} {cA : ClassId} {L : List va_W} {Ts : List Cond} (hx : p.tables.exec = Jvm.exec) (hb : c.code = cc) (hml : c.maxLocals = ls.size) (hown : s.vm.findClass own = some m.cls) (hts : ∀ w ∈ Ts, w.before args s = true) (hlink : Cond.methodLink own index ⟨"[I", "clone", "()Ljava/lang/Object;"⟩ ∈ Ts) (hsame : Cond.sameMethod "[I" "java/lang/Object" "clone" "()Ljava/lang/Object;" ∈ Ts) (hnat : Cond.native ⟨"java/lang/Object", "clone", "()Ljava/lang/Object;"⟩ ∈ Ts) (hinst : Cond.instanceMethod ⟨"java/lang/Object", "clone", "()Ljava/lang/Object;"⟩ ∈ Ts)
    (hsel : Cond.selects "[I" ⟨"[I", "clone", "()Ljava/lang/Object;"⟩ ⟨"java/lang/Object", "clone", "()Ljava/lang/Object;"⟩ ∈ Ts) (hcl : va_Nw (.castable "[I" "java/lang/Cloneable") s) (Z : zw D tys s A (zU L) H locs) (hA : ∀ q, s.heap.size ≤ q → A q) (q t0 : Nat) (ha : L[q]? = some [(a, .inl (cA, n, .inl f))]) (ht : tys[t0]? = some (cA, .int)) (hframes : 1 ≤ R.frames) (hlocals : (rest.map fun v => v.category).sum + 14 ≤ R.locals) (hcells : cells + 1 ≤ R.cells) (hslots : slots + n ≤ R.slots) (hdg : decode cc pc = .ok (.invokevirtual index, 3))
    (kk : ∀ (q' : Nat) (H1 : Heap), zw D tys s A (zU (L ++ [[(q', .inl (cA, n, .inl f))]])) H1 locs → W p l e R s m args below meth c H1 locs (cells + 1) (slots + n) Q (F0 m (pc + 3) ls (.ref q' :: rest))) : W p l e R s m args below meth c H locs cells slots Q (F0 m pc ls (.ref a :: rest)) := by
  have h1 : s.vm.findClass ("[" ++ FieldType.int.toString) = some cA := (Z.1.2 t0 _ ht).2
  rw [show ("[" ++ FieldType.int.toString) = "[I" from by decide +kernel] at h1
  exact va_clone hx hb hml hown (hts _ hlink) (hts _ hsame) (hts _ hnat) (hts _ hinst) (hts _ hsel) hcl Z.1 Z.2.1 Z.2.2.1 Z.2.2.2 hA (zpos L q 0) t0 (zU_at L q 0 _ _ ha rfl) ht h1 zfitI hframes hlocals hcells hslots hdg (fun q' H1 hK hP hD hS => kk q' H1 ⟨Z.1, by rw [zU_app]; exact hP, by rw [zU_app]; exact hD, hS⟩)
theorem zu_castI {own : String} {index n : Nat} {f : Nat → Int32} {cA : ClassId} {L : List va_W} {Ts : List Cond} (hx : p.tables.exec = Jvm.exec) (hb : c.code = cc) (hown : s.vm.findClass own = some m.cls) (hts : ∀ w ∈ Ts, w.before args s = true) (hlink : Cond.classLink own index "[I" ∈ Ts) (Z : zw D tys s A (zU L) H locs) (q t0 : Nat) (ha : L[q]? = some [(a, .inl (cA, n, .inl f))]) (ht : tys[t0]? = some (cA, .int)) (hdg : decode cc pc = .ok (.checkcast index, 3))
    (kk : W p l e R s m args below meth c H locs cells slots Q (F0 m (pc + 3) ls (.ref a :: rest))) : W p l e R s m args below meth c H locs cells slots Q (F0 m pc ls (.ref a :: rest)) := by
  have h1 : s.vm.findClass ("[" ++ FieldType.int.toString) = some cA := (Z.1.2 t0 _ ht).2
  rw [show ("[" ++ FieldType.int.toString) = "[I" from by decide +kernel] at h1
  exact va_castA hx hb hown (hts _ hlink) Z.2.1 (zpos L q 0) (zU_at L q 0 _ _ ha rfl) h1 hdg kk
def zins {α : Type} (f : Nat → α) (k : Nat) (x : α) : Nat → α := fun i => if i < k then f i else if i = k then x else f (i - 1)
theorem zu_ins {L : List va_W} {g : Nat → Nat} {n ka q : Nat} {v : Nat → ZL} {w : ZL} (Z : zw D tys s A (zU (L ++ [zLs g n v, [zLot q w]])) H locs) (hat : ka ≤ n) : zw D tys s A (zU (L ++ [zLs (zins g ka q) (n + 1) (zins v ka w)])) H locs := by
  have e1 : zU (L ++ [zLs g n v, [zLot q w]]) = zU L ++ (zLs g n v ++ [zLot q w]) := by rw [zU_app]; unfold zU; simp
  have e2 : zU (L ++ [zLs (zins g ka q) (n + 1) (zins v ka w)]) = zU L ++ zLs (zins g ka q) (n + 1) (zins v ka w) := by rw [zU_app]; unfold zU; simp
  rw [e1] at Z
  rw [e2]
  refine zu_map Z (fun k => if k < (zU L).length then k else if k - (zU L).length < ka then k else if k - (zU L).length = ka then (zU L).length + n else k - 1) (fun k c hk => ?_) (fun i j hi hj e => ?_)
  · show (zU L ++ (zLs g n v ++ [zLot q w]))[if k < (zU L).length then k else if k - (zU L).length < ka then k else if k - (zU L).length = ka then (zU L).length + n else k - 1]? = some c
    by_cases h1 : k < (zU L).length
    · rw [if_pos h1, List.getElem?_append_left h1]
      rw [List.getElem?_append_left h1] at hk
      exact hk
    · rw [if_neg h1]
      rw [List.getElem?_append_right (by omega)] at hk
      have hj : k - (zU L).length < n + 1 := by
        have := (List.getElem?_eq_some_iff.mp hk).1
        rw [zLs_len] at this
        exact this
      rw [zLs_at hj] at hk
      have hk := Option.some.inj hk
      by_cases h2 : k - (zU L).length < ka
      · rw [if_pos h2, List.getElem?_append_right (by omega), List.getElem?_append_left (by rw [zLs_len]; omega), zLs_at (by omega), ← hk]
        unfold zins
        rw [if_pos h2, if_pos h2]
      · rw [if_neg h2]
        by_cases h3 : k - (zU L).length = ka
        · rw [if_pos h3, List.getElem?_append_right (by omega), Nat.add_sub_cancel_left, List.getElem?_append_right (by rw [zLs_len]; omega), zLs_len, Nat.sub_self, ← hk]
          unfold zins
          rw [if_neg h2, if_pos h3, if_neg h2, if_pos h3]
          rfl
        · rw [if_neg h3, List.getElem?_append_right (by omega), List.getElem?_append_left (by rw [zLs_len]; omega), show k - 1 - (zU L).length = k - (zU L).length - 1 by omega, zLs_at (by omega), ← hk]
          unfold zins
          rw [if_neg h2, if_neg h3, if_neg h2, if_neg h3]
  · have li : i < (zU L).length + (n + 1) := by rw [List.length_append, zLs_len] at hi; exact hi
    have lj : j < (zU L).length + (n + 1) := by rw [List.length_append, zLs_len] at hj; exact hj
    have e9 : (if i < (zU L).length then i else if i - (zU L).length < ka then i else if i - (zU L).length = ka then (zU L).length + n else i - 1) = (if j < (zU L).length then j else if j - (zU L).length < ka then j else if j - (zU L).length = ka then (zU L).length + n else j - 1) := e
    clear e
    (repeat' split at e9) <;> omega
theorem zcl_ofN {x : Int32} (h : ¬ x < 0) : x = Int32.ofNat x.toNatClampNeg := by
  rw [Int32.lt_iff_toInt_lt] at h
  have h0 : (0 : Int32).toInt = 0 := rfl
  have h1 := x.toInt_lt
  apply Int32.toInt_inj.mp
  rw [Int32.toInt_ofNat_of_lt (by show x.toInt.toNat < _; omega)]
  show x.toInt = ((x.toInt.toNat : Nat) : Int)
  omega
theorem zu_aaldN {L : List va_W} (hx : p.tables.exec = Jvm.exec) (hb : c.code = cc) (Z : zw D tys s A (zU L) H locs) (q t0 : Nat) {cA : ClassId} {n : Nat} {f : Nat → Option Nat} {ty : FieldType} (ha : L[q]? = some [(a, .inl (cA, n, .inr (.inr (.inr (.inr f)))))]) (ht : tys[t0]? = some (cA, ty)) (hty : ty.isReference = true) {i : Int32} (hin : ¬ (i < 0 ∨ n ≤ i.toNatClampNeg)) (hv : f i.toNatClampNeg = none) (hdg : decode cc pc = .ok (.aaload, 1))
    (kk : W p l e R s m args below meth c H locs cells slots Q (F0 m (pc + 1) ls (.null :: rest))) : W p l e R s m args below meth c H locs cells slots Q (F0 m pc ls (.int i :: .ref a :: rest)) := by
  have hlt : i.toNatClampNeg < n := Nat.not_le.mp fun q => hin (Or.inr q)
  have hk2 : W p l e R s m args below meth c H locs cells slots Q (F0 m (pc + 1) ls (va_rf (f i.toNatClampNeg) :: rest)) := by rw [hv]; exact kk
  exact W.aald (v := va_rf (f i.toNatClampNeg)) (ty := ty) hx hb (Z.2.1 (zpos L q 0) _ (zU_at L q 0 _ _ ha rfl)) ((Z.1.2 t0 _ ht).1 n (fun j => va_rf (f j))) hty (fun q => by cases q) (by show ¬ (i < 0 ∨ (arrV _ _ _).slots.size ≤ _); rw [arrV_size]; exact hin) (by show (arrV _ _ _).slots[_]? = _; rw [arrV_read _ _ hlt]) rfl rfl hdg hk2
theorem zu_astqN {L L' : List va_W} (hx : p.tables.exec = Jvm.exec) (hb : c.code = cc) (Z : zw D tys s A (zU L) H locs) (q t0 : Nat) {cA : ClassId} {C : String} {n : Nat} {f : Nat → Option Nat} (ha : L[q]? = some [(a, .inl (cA, n, .inr (.inr (.inr (.inr f)))))]) (ht : tys[t0]? = some (cA, .object C)) {i : Int32} (hin : vp_in i n) (hdg : decode cc pc = .ok (.aastore, 1)) (hw : L.set q [(a, .inl (cA, n, .inr (.inr (.inr (.inr (va_up f i.toNatClampNeg none))))))] = L')
    (kk : ∀ (H1 : Heap) (locs1 : List Loc), zw D tys s A (zU L') H1 locs1 → W p l e R s m args below meth c H1 locs1 cells slots Q (F0 m (pc + 1) ls rest)) : W p l e R s m args below meth c H locs cells slots Q (F0 m pc ls (.null :: .int i :: .ref a :: rest)) := by
  have e9 := (zU_set L q 0 _ ((a, .inl (cA, n, .inr (.inr (.inr (.inr (va_up f i.toNatClampNeg none)))))) : Nat × va_E) ha Nat.zero_lt_one).trans (congrArg zU hw)
  exact va_astqN hx hb Z.1 Z.2.1 Z.2.2.1 Z.2.2.2 (zpos L q 0) t0 (zU_at L q 0 _ _ ha rfl) ht hin hdg (fun H1 locs1 hP hD hS => kk H1 locs1 ⟨Z.1, by rw [← e9]; exact hP, by rw [← e9]; exact hD, hS⟩)
theorem z_sT (k : Nat) : Int32.ofNat k + 1 = Int32.ofNat (k + 1) := (Int32.ofNat_add k 1).symm
theorem z_leN {a b : Nat} (ha : a ≤ 64) (hb : b ≤ 64) : (Int32.ofNat a ≤ Int32.ofNat b) ↔ a ≤ b := by
  rw [Int32.le_iff_toInt_le, Int32.toInt_ofNat_of_lt (by omega), Int32.toInt_ofNat_of_lt (by omega)]
  omega
theorem z_ltN {a b : Nat} (ha : a ≤ 64) (hb : b ≤ 64) : (Int32.ofNat a < Int32.ofNat b) ↔ a < b := by
  rw [Int32.lt_iff_toInt_lt, Int32.toInt_ofNat_of_lt (by omega), Int32.toInt_ofNat_of_lt (by omega)]
  omega
theorem z_eqN {a b : Nat} (ha : a ≤ 64) (hb : b ≤ 64) : (Int32.ofNat a = Int32.ofNat b) ↔ a = b := by
  constructor
  · intro h
    have h1 := congrArg Int32.toInt h
    rw [Int32.toInt_ofNat_of_lt (by omega), Int32.toInt_ofNat_of_lt (by omega)] at h1
    omega
  · rintro rfl; rfl
theorem z_inK {a b : Nat} (ha : a ≤ 64) (h : a < b) : vp_in (Int32.ofNat a) b := by
  have h1 := z_ofN ha
  show ¬ (Int32.ofNat a < 0 ∨ b ≤ (Int32.ofNat a).toNatClampNeg)
  rw [h1.2]
  rintro (h2 | h2)
  · exact h1.1 h2
  · omega
end ZGK
