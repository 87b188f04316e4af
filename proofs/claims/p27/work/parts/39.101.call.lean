/-! ===== a contract over a part of a world is one over the world ===== -/
section ZLI
variable {D : va_G} {tys : List (ClassId × FieldType)} {W0 Wc W1 W2 : va_W}
theorem z_inA {isC : List Nat} {sz : Nat} (hC : isC.map (fun i => W0[i]?) = Wc.map some) : ∀ q, va_A Wc sz q → va_A W0 sz q := by
  intro q h
  rcases h with ⟨k, e, h⟩ | h
  · obtain ⟨i, -, h2⟩ := z_mapat hC k (q, e) h
    exact Or.inl ⟨i, e, h2⟩
  · exact Or.inr h
theorem z_preL {s : State} {sz : Nat} {isC : List Nat} (hC : isC.map (fun i => W0[i]?) = Wc.map some) (hnd : va_nd isC = true) (h : zPre D tys W0 sz s) : zPre D tys Wc sz s := by
  obtain ⟨h1, h2, h3, h4⟩ := h
  obtain ⟨g1, g2⟩ := z_part (A1 := fun _ => True) h2 h4 isC hC hnd
  exact ⟨h1, g1, h3, g2⟩
theorem z_preX {X : (Nat → Prop) → State → Heap → Prop} (hX : zPass X) {s : State} {sz : Nat} {isC : List Nat} (hC : isC.map (fun i => W0[i]?) = Wc.map some) (hnd : va_nd isC = true) (h : zPreX X D tys W0 sz s) : zPreX X D tys Wc sz s :=
  ⟨z_preL hC hnd h.1, hX.1 _ _ s s s.heap [] h.2 va_S.rf rfl (State.WarmedH.refl s) (z_inA hC)⟩
theorem z_postL {s t : State} {sz : Nat} {isC : List Nat} (hC : isC.map (fun i => W0[i]?) = Wc.map some) (hnd : va_nd isC = true) (ha : W1.map Prod.fst = Wc.map Prod.fst) (src : List (Option Nat)) (hs : zsame src isC = true) (h2 : zpok W0 W1 W2 src 0) (h : zPre D tys W0 sz s) (h1 : zAt D tys (va_A Wc sz) W1 t) (hF : va_F (va_A Wc sz) s t) : zAt D tys (va_A W0 sz) W2 t ∧ va_F (va_A W0 sz) s t := by
  obtain ⟨e1, e2, e3, e4⟩ := h
  subst e1
  obtain ⟨g1, g2⟩ := zpok_join e2 (e4.self (sz := s.heap.size)) isC hC ha src hs h2 hF.2 h1.1
  exact ⟨⟨g1, h1.2.1, g2⟩, hF.1, fun q hq hn => hF.2 q hq (fun z => hn (z_inA hC q z))⟩
variable {l : Launch} {y : MethodName} {ws : List Cond} {rm : Room} {av : List Value} {isC : List Nat}
theorem zH_lift {r : Int32} (hM : zH l y ws rm D tys av Wc W1 r) (hC : isC.map (fun i => W0[i]?) = Wc.map some) (hnd : va_nd isC = true) (ha : W1.map Prod.fst = Wc.map Prod.fst) (src : List (Option Nat)) (hs : zsame src isC = true) (h2 : zpok W0 W1 W2 src 0) : zH l y ws rm D tys av W0 W2 r := by
  intro sz
  refine MetFree.mono (hM sz) (fun a s hp => ⟨hp.1, z_preX zLX_pass hC hnd hp.2⟩) (fun _ _ _ _ _ h => h) (fun a s o t hp hq => ?_)
  rcases hq with ⟨⟨⟨r1, u, e1, e2, e3⟩, hF⟩, ⟨Lw, f1, f2⟩⟩ | ⟨q, -, E, ce, Lw, ⟨u, hu, -⟩, -⟩
  · obtain ⟨g1, g2⟩ := z_postL hC hnd ha src hs h2 hp.2.1 e3 hF
    exact Or.inl ⟨⟨⟨r1, u, e1, e2, g1⟩, g2⟩, Lw, f1, fun q hq => z_inA hC _ (f2 q hq)⟩
  · exact hu.elim
theorem zG_ofi {X : (Nat → Prop) → State → Heap → Prop} {r : Int32} (h0 : rm.cells = 0) (h9 : rm.slots = 0) (hM : zMi l y ws rm D tys av Wc W1 r) (hC : isC.map (fun i => W0[i]?) = Wc.map some) (hnd : va_nd isC = true) (ha : W1.map Prod.fst = Wc.map Prod.fst) (src : List (Option Nat)) (hs : zsame src isC = true) (h2 : zpok W0 W1 W2 src 0) : zG X l y ws rm D tys av W0 (fun v _ => v = some (.int r)) (fun _ => W2) := by
  intro sz
  rw [h0, h9]
  refine MetFree.mono (hM sz) (fun a s hp => ⟨hp.1, z_preL hC hnd hp.2.1⟩) (fun _ _ _ _ _ h => h) (fun a s o t hp hq => ?_)
  obtain ⟨⟨⟨r1, u, e1, e2, e3⟩, hF⟩, ⟨Lw, f1, f2⟩⟩ := hq
  obtain ⟨g1, g2⟩ := z_postL hC hnd ha src hs h2 hp.2.1 e3 hF
  exact ⟨⟨⟨some (.int r1), fun _ => 0, e1, by rw [e2], g1⟩, g2⟩, Lw, f1, fun q hq => z_inA hC _ (f2 q hq)⟩
theorem zG_ofl {X : (Nat → Prop) → State → Heap → Prop} {r : Int64} (h0 : rm.cells = 0) (h9 : rm.slots = 0) (hM : zMl l y ws rm D tys av Wc W1 r) (hC : isC.map (fun i => W0[i]?) = Wc.map some) (hnd : va_nd isC = true) (ha : W1.map Prod.fst = Wc.map Prod.fst) (src : List (Option Nat)) (hs : zsame src isC = true) (h2 : zpok W0 W1 W2 src 0) : zG X l y ws rm D tys av W0 (fun v _ => v = some (.long r)) (fun _ => W2) := by
  intro sz
  rw [h0, h9]
  refine MetFree.mono (hM sz) (fun a s hp => ⟨hp.1, z_preL hC hnd hp.2.1⟩) (fun _ _ _ _ _ h => h) (fun a s o t hp hq => ?_)
  obtain ⟨⟨⟨r1, u, e1, e2, e3⟩, hF⟩, ⟨Lw, f1, f2⟩⟩ := hq
  obtain ⟨g1, g2⟩ := z_postL hC hnd ha src hs h2 hp.2.1 e3 hF
  exact ⟨⟨⟨some (.long r1), fun _ => 0, e1, by rw [e2], g1⟩, g2⟩, Lw, f1, fun q hq => z_inA hC _ (f2 q hq)⟩
end ZLI
/-! ===== calls in a world of groups ===== -/
theorem z_rngA (wc wf : va_W) : (List.range wc.length).map (fun i => (wc ++ wf)[i]?) = wc.map some := by
  apply List.ext_getElem?
  intro i
  rw [List.getElem?_map, List.getElem?_map]
  by_cases h : i < wc.length
  · rw [List.getElem?_range h, Option.map_some, List.getElem?_append_left h, List.getElem?_eq_getElem h]
    rfl
  · rw [List.getElem?_eq_none (by rw [List.length_range]; omega), List.getElem?_eq_none (by omega)]
    rfl
theorem z_rngB (wc wf : va_W) : ((List.range wf.length).map (fun i => wc.length + i)).map (fun i => (wc ++ wf)[i]?) = wf.map some := by
  apply List.ext_getElem?
  intro i
  rw [List.getElem?_map, List.getElem?_map, List.getElem?_map]
  by_cases h : i < wf.length
  · rw [List.getElem?_range h, Option.map_some, Option.map_some, List.getElem?_append_right (Nat.le_add_right _ _), Nat.add_sub_cancel_left, List.getElem?_eq_getElem h]
    rfl
  · rw [List.getElem?_eq_none (by rw [List.length_range]; omega), List.getElem?_eq_none (by omega)]
    rfl
theorem z_ndM (k : Nat) : ∀ (l : List Nat), va_nd l = true → va_nd (l.map (fun i => k + i)) = true
  | [], _ => rfl
  | a :: l, h => by
    have h1 : (decide (a ∉ l) && va_nd l) = true := h
    rw [Bool.and_eq_true, decide_eq_true_eq] at h1
    show (decide (k + a ∉ l.map (fun i => k + i)) && va_nd (l.map (fun i => k + i))) = true
    rw [z_ndM k l h1.2, Bool.and_true, decide_eq_true_eq, List.mem_map]
    rintro ⟨x, hx, e⟩
    have : x = a := by omega
    subst this
    exact h1.1 hx
section ZGC
variable {p : Program} {l : Launch} {e : Env} {R : Room} {s : State} {m : MethodId} {args : Array Value} {below : List Frame} {meth : Method} {c : Code} {H : Heap} {locs : List Loc} {cells slots : Nat} {Q : State → Prop}
variable {cc : ByteArray} {pc : Nat} {ls : Array Slot} {rest st0 : List Value} {D : va_G} {tys : List (ClassId × FieldType)} {A : Nat → Prop} {L Lc LF : List va_W} {wc wf w1 : va_W} {a b : Nat}
variable {y : MethodName} {bytes : ByteArray} {maxL nL n index : Nat} {ret : Option FieldType} {wsc : List Cond} {rm : Room} {Ts : List Cond} {own C : String} {As : List Value} {r : Int32} {Ok : Option Value → (Nat → Nat) → Prop} {W1 : (Nat → Nat) → va_W} {X : (Nat → Prop) → State → Heap → Prop}
theorem zg_done {mc ms : Nat} {free : Addr → Prop} {A1 A0 : Nat → Prop} {H0 : Heap} {aa : Array Value} (hr : va_Run p l e R s m args below meth c H locs cells slots mc ms (F0 m pc ls st0) rest (zQG D tys A1 Ok W1 aa) free) (hS : va_S A0 H0 H locs) (hA : ∀ q, q < H.size → A1 q → A0 q) (hf : ∀ q, free q → A0 q)
    (kk : ∀ (v : Option Value) (h : Nat → Nat) (t : State) (H1 : Heap) (locs1 : List Loc), t.heap = H1 → s.vm.Alike t.vm → Ok v h → zAt D tys A1 (W1 h) t → H.size ≤ H1.size → (∀ q : Nat, q < H.size → ¬ A1 q → H1[q]? = H[q]?) → va_S A0 H0 H1 locs1 → W p l e R s m args below meth c H1 locs1 (cells + mc) (slots + ms) Q (F0 m (pc + 3) ls (v.toList ++ rest))) : W p l e R s m args below meth c H locs cells slots Q (F0 m pc ls st0) := by
  intro T hT X
  obtain ⟨v, st₀, t, T', L, h0, X', hL, e1, e2, ⟨⟨v', h, hv, hp, hb⟩, hz, hk⟩, st⟩ := hr T hT X
  cases hv
  rw [h0] at hz hk
  obtain ⟨t2, a1, b1⟩ := kk v h t T'.heap (locs ++ L) e1.symm (by rw [← e2]; exact X'.warmed.alike) hp hb (by rw [e1]; exact hz) (fun q h1 h2 => by rw [e1]; exact hk q h1 h2)
    ⟨Nat.le_trans hS.1 (by rw [e1]; exact hz), fun q h1 h2 => by rw [e1, hk q (Nat.lt_of_lt_of_le h1 hS.1) (fun z => h2 (hA q (Nat.lt_of_lt_of_le h1 hS.1) z))]; exact hS.2.1 q h1 h2, fun q hq => by
      rcases List.mem_append.mp hq with h | h
      · exact hS.2.2 q h
      · exact hf _ (hL q h)⟩ T' rfl X'
  exact ⟨t2, st t2 a1, b1⟩
theorem zcut (Z : zw D tys s A (wc ++ wf) H locs) (hA : ∀ q, s.heap.size ≤ q → A q) : va_P D vwCl wc H ∧ va_D (fun _ => True) wc ∧ ∀ q, va_A wc H.size q → A q := by
  obtain ⟨h1, h2⟩ := z_part (A1 := fun _ => True) Z.2.1 Z.2.2.1 _ (z_rngA wc wf) (z_nd_range _)
  exact ⟨h1, h2, va_free Z.2.2.1 Z.2.2.2 hA _ (z_rngA wc wf)⟩
theorem zglue {H1 : Heap} (Z : zw D tys s A (wc ++ wf) H locs) (hA : ∀ q, s.heap.size ≤ q → A q) (hk : ∀ q : Nat, q < H.size → ¬ va_A wc H.size q → H1[q]? = H[q]?) (hP1 : va_P D vwCl w1 H1) (hD1 : va_D (va_A wc H.size) w1) : va_P D vwCl (wf ++ w1) H1 ∧ va_D A (wf ++ w1) :=
  va_join Z.2.1 Z.2.2.1 (List.range wc.length) ((List.range wf.length).map (fun i => wc.length + i)) (z_rngA wc wf) (z_rngB wc wf) (z_ndM _ _ (z_nd_range _)) (fun i hi hc => by
    obtain ⟨x, -, e⟩ := List.mem_map.mp hi
    rw [List.mem_range] at hc
    omega) hk (zcut Z hA).2.2 hP1 hD1
theorem zg_callV (hXp : zPass X) (hXA : X A s s.heap) (S : CallFix p m c cc nL s args Ts own) (hM : zG X l y wsc rm D tys (.ref b :: As) (zU Lc) Ok W1) (cw : CallW R s args own C index y bytes maxL ret wsc rm rm.cells rm.slots n) (Z : zw D tys s A (zU L) H locs) (hA : ∀ q, s.heap.size ≤ q → A q) (is : List Nat) (his : is.map (fun i => L[i]?) = (Lc ++ LF).map some) (hnd : va_nd is = true)
    {ci : Nat} {q : vw_C} {fs : List Value} {G : va_W} (hc : vwCl[ci]? = some q) (qx xk : Nat) (hG : Lc[qx]? = some G) (he : G[xk]? = some (b, .inr (ci, fs))) (hq : q.1 = C) (hn : As.length = n) (hsize : ls.size = nL) (hstack : st0 = As.reverse ++ .ref b :: rest) (hW : (rest.map fun v => v.category).sum ≤ 8) (hdg : decode cc pc = .ok (.invokevirtual index, 3)) (hf : cells + rm.cells ≤ R.cells ∧ slots + rm.slots ≤ R.slots)
    (kk : ∀ (v : Option Value) (h : Nat → Nat) (H1 : Heap) (locs1 : List Loc), Ok v h → zw D tys s A (zU LF ++ W1 h) H1 locs1 → W p l e R s m args below meth c H1 locs1 (cells + rm.cells) (slots + rm.slots) Q (F0 m (pc + 3) ls (v.toList ++ rest))) : W p l e R s m args below meth c H locs cells slots Q (F0 m pc ls st0) := by
  have Z1 := zu_sub Z is his hnd
  rw [zU_app] at Z1
  obtain ⟨hPc, hDc, hFc⟩ := zcut Z1 hA
  obtain ⟨hK, hP, hD, hS⟩ := id Z1
  refine zg_done (va_runV (As := As) (rest := rest) S (hM H.size) cw ⟨fun a' U g mk q9 => ⟨q9.1, ⟨q9.2.1.1, q9.2.1.2.1, va_K.moved (u := U) (U := U.calling g mk a') (Vm.Alike.refl U.vm) q9.2.1.2.2.1, q9.2.1.2.2.2⟩, hXp.2 _ U (U.calling g mk a') rfl rfl q9.2.2⟩, by rw [← hq]; exact va_recv hK hPc hc (zU_at Lc qx xk G _ hG he), fun U hU hW9 => ⟨rfl, ⟨by rw [hU], by rw [hU]; exact hPc, va_K.moved hW9.alike hK, hDc⟩, hXp.1 A _ s U H locs hXA hS hU hW9 hFc⟩⟩ rfl hn hsize hstack (lv_room hW) hdg hf) hS (fun q _ h => hFc q h) hFc (fun v h t H1 locs1 ht hvm hok hB hz1 hk1 hS1 => ?_)
  obtain ⟨hP1, hK1, hD1⟩ := hB
  rw [ht] at hP1
  obtain ⟨hP2, hD2⟩ := zglue Z1 hA hk1 hP1 hD1
  exact kk v h H1 locs1 hok ⟨hK, hP2, hD2, hS1⟩
theorem zg_callS (hXp : zPass X) (hXA : X A s s.heap) (S : CallFix p m c cc nL s args Ts own) (hM : zG X l y wsc rm D tys As (zU Lc) Ok W1) (cw : CallB R s args own index y bytes maxL ret wsc rm rm.cells rm.slots n ∧ (Cond.static y).before args s = true) (Z : zw D tys s A (zU L) H locs) (hA : ∀ q, s.heap.size ≤ q → A q) (is : List Nat) (his : is.map (fun i => L[i]?) = (Lc ++ LF).map some) (hnd : va_nd is = true)
    (hn : As.length = n) (hsize : ls.size = nL) (hstack : st0 = As.reverse ++ rest) (hW : (rest.map fun v => v.category).sum ≤ 8) (hdg : decode cc pc = .ok (.invokestatic index, 3)) (hf : cells + rm.cells ≤ R.cells ∧ slots + rm.slots ≤ R.slots)
    (kk : ∀ (v : Option Value) (h : Nat → Nat) (H1 : Heap) (locs1 : List Loc), Ok v h → zw D tys s A (zU LF ++ W1 h) H1 locs1 → W p l e R s m args below meth c H1 locs1 (cells + rm.cells) (slots + rm.slots) Q (F0 m (pc + 3) ls (v.toList ++ rest))) : W p l e R s m args below meth c H locs cells slots Q (F0 m pc ls st0) := by
  have Z1 := zu_sub Z is his hnd
  rw [zU_app] at Z1
  obtain ⟨hPc, hDc, hFc⟩ := zcut Z1 hA
  obtain ⟨hK, hP, hD, hS⟩ := id Z1
  refine zg_done (va_runS (As := As) (rest := rest) S (hM H.size) cw ⟨fun a' U g mk q9 => ⟨q9.1, ⟨q9.2.1.1, q9.2.1.2.1, va_K.moved (u := U) (U := U.calling g mk a') (Vm.Alike.refl U.vm) q9.2.1.2.2.1, q9.2.1.2.2.2⟩, hXp.2 _ U (U.calling g mk a') rfl rfl q9.2.2⟩, fun U hU hW9 => ⟨rfl, ⟨by rw [hU], by rw [hU]; exact hPc, va_K.moved hW9.alike hK, hDc⟩, hXp.1 A _ s U H locs hXA hS hU hW9 hFc⟩⟩ rfl hn hsize hstack (lv_room hW) hdg hf) hS (fun q _ h => hFc q h) hFc (fun v h t H1 locs1 ht hvm hok hB hz1 hk1 hS1 => ?_)
  obtain ⟨hP1, hK1, hD1⟩ := hB
  rw [ht] at hP1
  obtain ⟨hP2, hD2⟩ := zglue Z1 hA hk1 hP1 hD1
  exact kk v h H1 locs1 hok ⟨hK, hP2, hD2, hS1⟩
theorem zg_callI (hXp : zPass X) (hXA : X A s s.heap) (S : CallFix p m c cc nL s args Ts own) (hM : zG X l y wsc rm D tys (.ref b :: As) (zU Lc) Ok W1) (cw : CallB R s args own index y bytes maxL none wsc rm rm.cells rm.slots n ∧ y.name = "<init>" ∧ (Cond.instanceMethod y).before args s = true) (Z : zw D tys s A (zU L) H locs) (hA : ∀ q, s.heap.size ≤ q → A q) (is : List Nat) (his : is.map (fun i => L[i]?) = (Lc ++ LF).map some) (hnd : va_nd is = true)
    (hn : As.length = n) (hsize : ls.size = nL) (hstack : st0 = As.reverse ++ .ref b :: rest) (hW : (rest.map fun v => v.category).sum ≤ 8) (hdg : decode cc pc = .ok (.invokespecial index, 3)) (hf : cells + rm.cells ≤ R.cells ∧ slots + rm.slots ≤ R.slots)
    (kk : ∀ (v : Option Value) (h : Nat → Nat) (H1 : Heap) (locs1 : List Loc), Ok v h → zw D tys s A (zU LF ++ W1 h) H1 locs1 → W p l e R s m args below meth c H1 locs1 (cells + rm.cells) (slots + rm.slots) Q (F0 m (pc + 3) ls (v.toList ++ rest))) : W p l e R s m args below meth c H locs cells slots Q (F0 m pc ls st0) := by
  have Z1 := zu_sub Z is his hnd
  rw [zU_app] at Z1
  obtain ⟨hPc, hDc, hFc⟩ := zcut Z1 hA
  obtain ⟨hK, hP, hD, hS⟩ := id Z1
  refine zg_done (va_runI (As := As) (rest := rest) S (hM H.size) cw ⟨fun a' U g mk q9 => ⟨q9.1, ⟨q9.2.1.1, q9.2.1.2.1, va_K.moved (u := U) (U := U.calling g mk a') (Vm.Alike.refl U.vm) q9.2.1.2.2.1, q9.2.1.2.2.2⟩, hXp.2 _ U (U.calling g mk a') rfl rfl q9.2.2⟩, fun U hU hW9 => ⟨rfl, ⟨by rw [hU], by rw [hU]; exact hPc, va_K.moved hW9.alike hK, hDc⟩, hXp.1 A _ s U H locs hXA hS hU hW9 hFc⟩⟩ rfl hn hsize hstack (lv_room hW) hdg hf) hS (fun q _ h => hFc q h) hFc (fun v h t H1 locs1 ht hvm hok hB hz1 hk1 hS1 => ?_)
  obtain ⟨hP1, hK1, hD1⟩ := hB
  rw [ht] at hP1
  obtain ⟨hP2, hD2⟩ := zglue Z1 hA hk1 hP1 hD1
  exact kk v h H1 locs1 hok ⟨hK, hP2, hD2, hS1⟩
theorem zg_callIN {host : String} (hXp : zPass X) (hXA : X A s s.heap) (S : CallFix p m c cc nL s args Ts own) (hM : zG X l y wsc rm D tys (.ref b :: As) (zU Lc) Ok W1) (cw : va_CN R s args own index y host bytes maxL none wsc rm rm.cells rm.slots n ∧ y.name = "<init>" ∧ (Cond.instanceMethod y).before args s = true) (Z : zw D tys s A (zU L) H locs) (hA : ∀ q, s.heap.size ≤ q → A q) (is : List Nat) (his : is.map (fun i => L[i]?) = (Lc ++ LF).map some) (hnd : va_nd is = true)
    (hn : As.length = n) (hsize : ls.size = nL) (hstack : st0 = As.reverse ++ .ref b :: rest) (hW : (rest.map fun v => v.category).sum ≤ 8) (hdg : decode cc pc = .ok (.invokespecial index, 3)) (hf : cells + rm.cells ≤ R.cells ∧ slots + rm.slots ≤ R.slots)
    (kk : ∀ (v : Option Value) (h : Nat → Nat) (H1 : Heap) (locs1 : List Loc), Ok v h → zw D tys s A (zU LF ++ W1 h) H1 locs1 → W p l e R s m args below meth c H1 locs1 (cells + rm.cells) (slots + rm.slots) Q (F0 m (pc + 3) ls (v.toList ++ rest))) : W p l e R s m args below meth c H locs cells slots Q (F0 m pc ls st0) := by
  have Z1 := zu_sub Z is his hnd
  rw [zU_app] at Z1
  obtain ⟨hPc, hDc, hFc⟩ := zcut Z1 hA
  obtain ⟨hK, hP, hD, hS⟩ := id Z1
  refine zg_done (va_runIN (As := As) (rest := rest) S (hM H.size) cw ⟨fun a' U g mk q9 => ⟨q9.1, ⟨q9.2.1.1, q9.2.1.2.1, va_K.moved (u := U) (U := U.calling g mk a') (Vm.Alike.refl U.vm) q9.2.1.2.2.1, q9.2.1.2.2.2⟩, hXp.2 _ U (U.calling g mk a') rfl rfl q9.2.2⟩, fun U hU hW9 => ⟨rfl, ⟨by rw [hU], by rw [hU]; exact hPc, va_K.moved hW9.alike hK, hDc⟩, hXp.1 A _ s U H locs hXA hS hU hW9 hFc⟩⟩ rfl hn hsize hstack (lv_room hW) hdg hf) hS (fun q _ h => hFc q h) hFc (fun v h t H1 locs1 ht hvm hok hB hz1 hk1 hS1 => ?_)
  obtain ⟨hP1, hK1, hD1⟩ := hB
  rw [ht] at hP1
  obtain ⟨hP2, hD2⟩ := zglue Z1 hA hk1 hP1 hD1
  exact kk v h H1 locs1 hok ⟨hK, hP2, hD2, hS1⟩
/-- a call of one of the law's methods that catch -/
theorem zg_callH {w2 : va_W} {hh : List (Nat × Nat × Nat × Nat)} (hXA : zJ A s s.heap) (S : CallFix p m c cc nL s args Ts own) (hM : zH l y wsc rm D tys As (zU Lc) w2 r) (cw : vx_CSW R s args own index y bytes maxL ret hh wsc rm 1 6 n) (Z : zw D tys s A (zU L) H locs) (hA : ∀ q, s.heap.size ≤ q → A q) (is : List Nat) (his : is.map (fun i => L[i]?) = (Lc ++ LF).map some) (hnd : va_nd is = true)
    (hn : As.length = n) (hsize : ls.size = nL) (hstack : st0 = As.reverse ++ rest) (hW : (rest.map fun v => v.category).sum ≤ 8) (hdg : decode cc pc = .ok (.invokestatic index, 3)) (hf : cells + 1 ≤ R.cells ∧ slots + 6 ≤ R.slots)
    (kk : ∀ (H1 : Heap) (locs1 : List Loc), zw D tys s A (zU LF ++ w2) H1 locs1 → W p l e R s m args below meth c H1 locs1 (cells + 1) (slots + 6) Q (F0 m (pc + 3) ls (.int r :: rest))) : W p l e R s m args below meth c H locs cells slots Q (F0 m pc ls st0) := by
  have Z1 := zu_sub Z is his hnd
  rw [zU_app] at Z1
  obtain ⟨hPc, hDc, hFc⟩ := zcut Z1 hA
  obtain ⟨hK, hP, hD, hS⟩ := id Z1
  refine vx_calli (vx_runSX (As := As) (rest := rest) S (hM H.size) cw ⟨fun a' U g mk q9 => ⟨q9.1, ⟨q9.2.1.1, q9.2.1.2.1, va_K.moved (u := U) (U := U.calling g mk a') (Vm.Alike.refl U.vm) q9.2.1.2.2.1, q9.2.1.2.2.2⟩, zLX_pass.2 _ U (U.calling g mk a') rfl rfl q9.2.2⟩, fun U hU hW9 => ⟨rfl, ⟨by rw [hU], by rw [hU]; exact hPc, va_K.moved hW9.alike hK, hDc⟩, zLX_pass.1 A _ s U H locs hXA.1 hS hU hW9 hFc⟩⟩ rfl hn hsize hstack (lv_room hW) hdg hf) hS (fun q _ h => hFc q h) hFc (fun q _ h => hFc q h) (fun E1 ce q9 u t H1 locs1 ht hvm hpx hB hz1 hk1 hS1 hce hcv hcl => hpx.elim) (fun r1 u t H1 locs1 ht hvm hw hB hz1 hk1 hS1 => ?_)
  obtain ⟨hP1, hK1, hD1⟩ := hB
  rw [ht] at hP1
  obtain ⟨hP2, hD2⟩ := zglue Z1 hA hk1 hP1 hD1
  subst hw
  exact kk H1 locs1 ⟨hK, hP2, hD2, hS1⟩
end ZGC
