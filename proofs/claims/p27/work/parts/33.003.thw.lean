section ZXR
variable {p : Program} {l : Launch} {e : Env} {R : Room} {s : State} {m : MethodId} {args : Array Value} {below : List Frame} {meth : Method} {c : Code} {H : Heap} {locs : List Loc} {cells slots : Nat} {Q : State → Prop}
variable {cc : ByteArray} {pc : Nat} {ls : Array Slot} {rest st0 : List Value} {D : va_G} {tys : List (ClassId × FieldType)} {A : Nat → Prop} {ws W0 W1 W2 Wc : va_W} {a b : Nat}
variable {y : MethodName} {bytes : ByteArray} {maxL nL n index : Nat} {ret : Option FieldType} {wsc : List Cond} {rm : Room} {Ts : List Cond} {own C : String} {As : List Value} {r : Int32}
theorem z_throwEW {Qc : Array Value → State → Outcome → State → Prop} {cls text : String} {ik is ic : Nat} (hx : p.tables.exec = Jvm.exec) (hb : c.code = cc) (hfl : l.stackTraces = false) (hown : s.vm.findClass RX5 = some m.cls) (hts : ∀ w ∈ Ts, w.before args s = true) (hcls : Bundle.fit cls = true) (hk : Cond.classLink RX5 ik cls ∈ Ts) (hini : Cond.initialized cls ∈ Ts)
    (hin : ∀ w ∈ vx_atS RX5 ic cls zNm, w ∈ zTW) (htx : (RX5, is, text) ∈ zTexts) (hE : zE A s s.heap) (Z : zw D tys s A W0 H locs) (hsize : ls.size = c.maxLocals)
    (d0 : decode cc pc = .ok (.new ik, 3)) (d3 : decode cc (pc + 3) = .ok (.dup, 1)) (d4 : decode cc (pc + 4) = .ok (.ldc_w is, 3)) (d6 : decode cc (pc + 7) = .ok (.invokespecial ic, 3)) (d9 : decode cc (pc + 10) = .ok (.athrow, 1))
    (hout : ∀ x ∈ c.exceptionTable.toList, False) (hRf : 5 < R.frames) (hRl : (rest.map fun v => v.category).sum + 82 ≤ R.locals) (hRc : 0 + 1 ≤ R.cells) (hRs : 0 + 6 ≤ R.slots) (hlocks : meth.locks = false) :
    W p l e R s m args below meth c H locs 0 0 (vx_MQ below Qc (zXC D tys A W0 cls) args s 1 6 A) (F0 m pc ls rest) := by
  obtain ⟨sa, hsa⟩ := hE.2.2.2.2.1 _ htx
  exact vx_throwSW hx hb hfl hown hcls zNm_fit (hts _ hk) (hts _ hini) hsa (z_hat hin hE) (z_good hin) hE.2.1 hE.2.2.1 Z.2.2.2 hsize d0 d3 d4 d6 d9 (fun x h => (hout x h).elim) hRf (by simp only [zNm, List.length_cons, List.length_nil]; omega) hRc hRs hlocks (zXC_of Z) Z.2.2.2.2.2 (Nat.le_refl _) (Nat.le_refl _)
end ZXR
