section ZRO
variable {p : Program} {l : Launch} {e : Env} {R : Room} {s : State} {m : MethodId} {args : Array Value} {below : List Frame} {meth : Method} {c : Code} {H : Heap} {locs : List Loc} {cells slots : Nat} {Q : State → Prop}
variable {cc : ByteArray} {pc : Nat} {ls : Array Slot} {rest st0 : List Value} {D : va_G} {tys : List (ClassId × FieldType)} {A : Nat → Prop} {ws W0 W1 W2 Wc : va_W} {a b : Nat}
section ZCA
variable {y : MethodName} {bytes : ByteArray} {maxL nL n index : Nat} {ret : Option FieldType} {wsc : List Cond} {rm : Room} {Ts : List Cond} {own C : String} {As : List Value} 
theorem z_callVd {r : UInt64} (S : CallFix p m c cc nL s args Ts own) (hM : zMd l y wsc rm D tys (.ref b :: As) Wc W1 r) (cw : CallW R s args own C index y bytes maxL ret wsc rm 0 0 n) (Z : zw D tys s A W0 H locs) (hA : ∀ q, s.heap.size ≤ q → A q) (isC : List Nat) (hC : isC.map (fun i => W0[i]?) = Wc.map some) (hnd : va_nd isC = true) (ha : W1.map Prod.fst = Wc.map Prod.fst)
    {ci : Nat} {q : vw_C} {fs : List Value} (hc : vwCl[ci]? = some q) (he : Wc[0]? = some (b, .inr (ci, fs))) (hq : q.1 = C) (hn : As.length = n) (hsize : ls.size = nL) (hstack : st0 = As.reverse ++ .ref b :: rest) (hW : (rest.map fun v => v.category).sum ≤ 8) (hdg : decode cc pc = .ok (.invokevirtual index, 3)) (hf : cells ≤ R.cells ∧ slots ≤ R.slots) (src : List (Option Nat)) (hs : zsame src isC = true) (h2 : zpok W0 W1 W2 src 0)
    (kk : ∀ (H1 : Heap) (locs1 : List Loc), zw D tys s A W2 H1 locs1 → W p l e R s m args below meth c H1 locs1 cells slots Q (F0 m (pc + 3) ls (.double r :: rest))) : W p l e R s m args below meth c H locs cells slots Q (F0 m pc ls st0) := by
  obtain ⟨hK, hP, hD, hS⟩ := Z
  obtain ⟨hPc, hDc⟩ := z_part (A1 := A) hP hD isC hC hnd
  have hFc := va_free hD hS hA isC hC
  refine va_calld (va_runV (As := As) (rest := rest) S (hM H.size) cw ⟨fun a' U g mk q9 => ⟨q9.1, q9.2.1, q9.2.2.1, va_K.moved (u := U) (U := U.calling g mk a') (Vm.Alike.refl U.vm) q9.2.2.2.1, q9.2.2.2.2⟩, by rw [← hq]; exact va_recv hK hPc hc he, fun U hU hW9 => ⟨rfl, by rw [hU], by rw [hU]; exact hPc, va_K.moved hW9.alike hK, hDc⟩⟩ rfl hn hsize hstack (lv_room hW) hdg hf) hS (fun q _ h => hFc q h) hFc (fun r1 u t H1 locs1 ht hvm hw hB hz1 hk1 hS1 => ?_)
  obtain ⟨hP1, hK1, hD1⟩ := hB
  rw [ht] at hP1
  obtain ⟨hP2, hD2⟩ := zpok_join hP hD isC hC ha src hs h2 hk1 hP1
  subst hw
  exact kk H1 locs1 ⟨hK, hP2, hD2, hS1⟩
theorem z_callVl {r : Int64} (S : CallFix p m c cc nL s args Ts own) (hM : zMl l y wsc rm D tys (.ref b :: As) Wc W1 r) (cw : CallW R s args own C index y bytes maxL ret wsc rm 0 0 n) (Z : zw D tys s A W0 H locs) (hA : ∀ q, s.heap.size ≤ q → A q) (isC : List Nat) (hC : isC.map (fun i => W0[i]?) = Wc.map some) (hnd : va_nd isC = true) (ha : W1.map Prod.fst = Wc.map Prod.fst)
    {ci : Nat} {q : vw_C} {fs : List Value} (hc : vwCl[ci]? = some q) (he : Wc[0]? = some (b, .inr (ci, fs))) (hq : q.1 = C) (hn : As.length = n) (hsize : ls.size = nL) (hstack : st0 = As.reverse ++ .ref b :: rest) (hW : (rest.map fun v => v.category).sum ≤ 8) (hdg : decode cc pc = .ok (.invokevirtual index, 3)) (hf : cells ≤ R.cells ∧ slots ≤ R.slots) (src : List (Option Nat)) (hs : zsame src isC = true) (h2 : zpok W0 W1 W2 src 0)
    (kk : ∀ (H1 : Heap) (locs1 : List Loc), zw D tys s A W2 H1 locs1 → W p l e R s m args below meth c H1 locs1 cells slots Q (F0 m (pc + 3) ls (.long r :: rest))) : W p l e R s m args below meth c H locs cells slots Q (F0 m pc ls st0) := by
  obtain ⟨hK, hP, hD, hS⟩ := Z
  obtain ⟨hPc, hDc⟩ := z_part (A1 := A) hP hD isC hC hnd
  have hFc := va_free hD hS hA isC hC
  refine va_calll (va_runV (As := As) (rest := rest) S (hM H.size) cw ⟨fun a' U g mk q9 => ⟨q9.1, q9.2.1, q9.2.2.1, va_K.moved (u := U) (U := U.calling g mk a') (Vm.Alike.refl U.vm) q9.2.2.2.1, q9.2.2.2.2⟩, by rw [← hq]; exact va_recv hK hPc hc he, fun U hU hW9 => ⟨rfl, by rw [hU], by rw [hU]; exact hPc, va_K.moved hW9.alike hK, hDc⟩⟩ rfl hn hsize hstack (lv_room hW) hdg hf) hS (fun q _ h => hFc q h) hFc (fun r1 u t H1 locs1 ht hvm hw hB hz1 hk1 hS1 => ?_)
  obtain ⟨hP1, hK1, hD1⟩ := hB
  rw [ht] at hP1
  obtain ⟨hP2, hD2⟩ := zpok_join hP hD isC hC ha src hs h2 hk1 hP1
  subst hw
  exact kk H1 locs1 ⟨hK, hP2, hD2, hS1⟩
end ZCA
end ZRO
