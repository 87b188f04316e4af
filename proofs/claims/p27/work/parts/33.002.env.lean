def zTexts : List (String × Nat × String) := [("LotSheet", 64, "no such length of the input buffer"), ("LotSheet", 122, "no such state"), ("LotSheet", 156, "no such fact of a lot"), ("LotSheet", 173, "no such fact of a page"), ("LotSheet", 175, "no such line of a page"), ("LotSheet", 179, "no lot has this number"), ("LotSheet", 182, "there are not so many different lots"), ("LotSheet", 194, "no such figure of a choice"), ("LotSheet", 212, "there are not so many wanted lots"), ("LotSheet", 214, "no such seller"), ("LotSheet", 225, "no such fact of a seller"), ("LotSheet", 227, "no such line of a bill"), ("LotSheet", 229, "there are not so many lines"), ("LotSheet", 236, "the lot is not wanted"), ("LotSheet", 242, "the lot is wanted"), ("LotSheet", 247, "no lot can be like this"), ("LotSheet", 249, "there is no room for one more lot"), ("LotSheet", 261, "no such cost"), ("LotSheet", 284, "no such lot"), ("LotSheet", 287, "no such page"), ("LotSheet", 292, "no set of different lots"), ("LotSheet", 304, "there would be too many different lots")]
def zWords : List (String × Nat × String × List Int32) := [("LotSheet$SetupText", 67, "bill", [98, 105, 108, 108]), ("LotSheet$SetupText", 82, "lot", [108, 111, 116]), ("LotSheet$SetupText", 87, "costs", [99, 111, 115, 116, 115]), ("LotSheet$SetupText", 92, "slip", [115, 108, 105, 112]), ("LotSheet$SetupText", 103, "out", [111, 117, 116]), ("LotSheet$SetupText", 105, "in", [105, 110]), ("LotSheetLaw", 106, " ", [32]), ("LotSheetLaw", 123, "bill", [98, 105, 108, 108]), ("LotSheetLaw", 129, ";", [59]), ("LotSheetLaw", 162, "lot", [108, 111, 116]), ("LotSheetLaw", 163, " in;", [32, 105, 110, 59]), ("LotSheetLaw", 165, " out;", [32, 111, 117, 116, 59]), ("LotSheetLaw", 171, "costs", [99, 111, 115, 116, 115]), ("LotSheetLaw", 175, "slip", [115, 108, 105, 112])]

def zNm : List String := ["java/lang/RuntimeException", "java/lang/Exception"]
def z13 : ByteArray := ⟨#[0x2a, 0x2b, 0xb7, 0x00, 0x0d, 0xb1]⟩
theorem z13_0 : decode z13 0 = .ok (.aload_n 0, 1) := by decide +kernel
theorem z13_1 : decode z13 1 = .ok (.aload_n 1, 1) := by decide +kernel
theorem z13_2 : decode z13 2 = .ok (.invokespecial 13, 3) := by decide +kernel
theorem z13_5 : decode z13 5 = .ok (.return_, 1) := by decide +kernel
def zTI : List Cond := vx_atS RX5 66 "java/lang/IllegalArgumentException" zNm
def zTX : List Cond := vx_atS RX5 286 "java/lang/IndexOutOfBoundsException" zNm
def zTS : List Cond := vx_atS RX5 238 "java/lang/IllegalStateException" zNm
def zTN : List Cond := (zOwn RX5 181 "java/util/NoSuchElementException" 13 z13 "java/lang/RuntimeException" ["java/lang/Exception"]).filter vx_no
/-- the words of the throws -/
def zTW : List Cond := zTI ++ (zTX ++ (zTS ++ zTN))
def zdc : Cond → Bool
  | .declares _ => true
  | .castable _ _ => true
  | _ => false
def zwok (w : Cond) : Bool := w.onTables && (goodWord w || zdc w)
theorem zTW_ok : ∀ w ∈ zTW, zwok w = true := by decide +kernel
theorem zNw_pass {s U : State} {w : Cond} (hW : s.WarmedH U.vm) (hw : zwok w = true) (h : va_Nw w s) : va_Nw w U := by
  unfold zwok at hw
  rw [Bool.and_eq_true, Bool.or_eq_true] at hw
  obtain ⟨h1, h2 | h2⟩ := hw
  · exact word_at (args := #[]) (a' := #[]) hW (good_of_word h2) h
  · unfold zdc at h2
    split at h2
    · exact va_Nw.warmD hW h
    · exact va_tabs rfl (rfl : (s.setVm U.vm).vm = U.vm) (by rw [Cond.castable_setVm hW.alike]; exact h)
    · cases h2
/-- a String constant at a, its bytes w -/
def zStr (a : Nat) (w : List Int32) (A : Nat → Prop) (s : State) (H : Heap) : Prop := va_O "java/lang/String" a A s H ∧ va_OF "java/lang/String" "coder" "B" (.int 0) a A s H ∧ ∃ v : Nat, va_OF "java/lang/String" "value" "[B" (.ref v) a A s H ∧ va_T .byte v w.length (fun j => .int (w.getD j 0)) A s H
def zC (A : Nat → Prop) (s : State) (H : Heap) : Prop := va_Z "java/lang/String" "COMPACT_STRINGS" "Z" (.int 1) A s H ∧ va_Zq "jdk/internal/util/Preconditions" "SIOOBE_FORMATTER" "Ljava/util/function/BiFunction;" A s H
def zE (A : Nat → Prop) (s : State) (H : Heap) : Prop := zC A s H ∧ vx_Zq Bundle.tN "UNASSIGNED_STACK" Bundle.steD A s H ∧ vx_Zq Bundle.tN "SUPPRESSED_SENTINEL" Bundle.listD A s H ∧ (∀ w ∈ zTW, va_Nw w s) ∧ (∀ q ∈ zTexts, ∃ a : Nat, vk_R q.1 q.2.1 q.2.2 a s) ∧ ∀ q ∈ zWords, ∃ a : Nat, vk_R q.1 q.2.1 q.2.2.1 a s ∧ zStr a q.2.2.2 A s H
/-- what can be handed to a callee, and is blind to frames -/
def zPass (X : (Nat → Prop) → State → Heap → Prop) : Prop :=
  (∀ (A B : Nat → Prop) (s U : State) (H : Heap) (locs : List Loc), X A s s.heap → va_S A s.heap H locs → U.heap = H → s.WarmedH U.vm → (∀ q, B q → A q) → X B U U.heap) ∧ ∀ (B : Nat → Prop) (U U1 : State), U1.vm = U.vm → U1.heap = U.heap → X B U U.heap → X B U1 U1.heap
theorem zStr_pass (a : Nat) (w : List Int32) : zPass (zStr a w) := by
  refine ⟨fun A B s U H locs h hS hU hW hB => ?_, fun B U U1 hv hh h => ?_⟩
  · subst hU
    obtain ⟨h1, h2, v, h3, h4⟩ := h
    exact ⟨((h1.kept hS.2.1).moved hW.alike).narrow hB, ((h2.kept hS.2.1).moved hW.alike).narrow hB, v, ((h3.kept hS.2.1).moved hW.alike).narrow hB, ((h4.kept hS.2.1).moved hW.alike).narrow hB⟩
  · obtain ⟨h1, h2, v, h3, h4⟩ := h
    have ha : U.vm.Alike U1.vm := by rw [hv]; exact Vm.Alike.refl _
    rw [hh]
    exact ⟨h1.moved ha, h2.moved ha, v, h3.moved ha, h4.moved ha⟩
theorem zC_pass : zPass zC := by
  refine ⟨fun A B s U H locs h hS hU hW hB => ?_, fun B U U1 hv hh h => ?_⟩
  · subst hU
    exact ⟨((h.1.kept hS.2.1).moved hW.alike).narrow hB, ((h.2.kept hS.2.1).moved hW.alike).narrow hB⟩
  · have ha : U.vm.Alike U1.vm := by rw [hv]; exact Vm.Alike.refl _
    rw [hh]
    exact ⟨h.1.moved ha, h.2.moved ha⟩
theorem zE_pass : zPass zE := by
  refine ⟨fun A B s U H locs h hS hU hW hB => ?_, fun B U U1 hv hh h => ?_⟩
  · obtain ⟨h0, h3, h4, h5, h6, h7⟩ := h
    refine ⟨zC_pass.1 A B s U H locs h0 hS hU hW hB, ?_, ?_, fun w hw => zNw_pass hW (zTW_ok w hw) (h5 w hw), fun q hq => ?_, fun q hq => ?_⟩
    · subst hU; exact ((h3.kept hS.2.1).moved hW.alike).narrow hB
    · subst hU; exact ((h4.kept hS.2.1).moved hW.alike).narrow hB
    · obtain ⟨a, ha⟩ := h6 q hq
      exact ⟨a, vk_R.warm hW ha⟩
    · obtain ⟨a, ha, hb⟩ := h7 q hq
      exact ⟨a, vk_R.warm hW ha, (zStr_pass a q.2.2.2).1 A B s U H locs hb hS hU hW hB⟩
  · obtain ⟨h0, h3, h4, h5, h6, h7⟩ := h
    have ha : U.vm.Alike U1.vm := by rw [hv]; exact Vm.Alike.refl _
    refine ⟨zC_pass.2 B U U1 hv hh h0, ?_, ?_, fun w hw => (h5 w hw).same (by have := zTW_ok w hw; unfold zwok at this; rw [Bool.and_eq_true] at this; exact this.1) hv.symm, fun q hq => ?_, fun q hq => ?_⟩
    · rw [hh]; exact h3.moved ha
    · rw [hh]; exact h4.moved ha
    · obtain ⟨a, hr⟩ := h6 q hq
      exact ⟨a, vk_R.same hv hr⟩
    · obtain ⟨a, hr, hs⟩ := h7 q hq
      exact ⟨a, vk_R.same hv hr, (zStr_pass a q.2.2.2).2 B U U1 hv hh hs⟩
theorem zAnd_pass {X Y : (Nat → Prop) → State → Heap → Prop} (hX : zPass X) (hY : zPass Y) : zPass (fun A s H => X A s H ∧ Y A s H) :=
  ⟨fun A B s U H locs h hS hU hW hB => ⟨hX.1 A B s U H locs h.1 hS hU hW hB, hY.1 A B s U H locs h.2 hS hU hW hB⟩, fun B U U1 hv hh h => ⟨hX.2 B U U1 hv hh h.1, hY.2 B U U1 hv hh h.2⟩⟩
/-! ===== contracts that rest on such facts ===== -/
def zPreX (X : (Nat → Prop) → State → Heap → Prop) (D : va_G) (tys : List (ClassId × FieldType)) (ws : va_W) (sz : Nat) : State → Prop := fun U => zPre D tys ws sz U ∧ X (va_A ws sz) U U.heap
def zMiX (X : (Nat → Prop) → State → Heap → Prop) (l : Launch) (y : MethodName) (ws : List Cond) (rm : Room) (D : va_G) (tys : List (ClassId × FieldType)) (av : List Value) (W0 W1 : va_W) (r : Int32) : Prop := ∀ sz : Nat, Met l y ws rm (va_Pc av (zPreX X D tys W0 sz)) (zQi D tys (va_A W0 sz) W1 r) 0 0 (va_A W0 sz)
def zMvX (X : (Nat → Prop) → State → Heap → Prop) (l : Launch) (y : MethodName) (ws : List Cond) (rm : Room) (D : va_G) (tys : List (ClassId × FieldType)) (av : List Value) (W0 W1 : va_W) : Prop := ∀ sz : Nat, Met l y ws rm (va_Pc av (zPreX X D tys W0 sz)) (zQv D tys (va_A W0 sz) W1) 0 0 (va_A W0 sz)
/-- it throws E, and the world is as it was -/
def zXC (D : va_G) (tys : List (ClassId × FieldType)) (A : Nat → Prop) (W0 : va_W) (E : String) : String → State → State → Prop := vx_X (fun (_ : Unit) => True) (fun E1 _ t => E1 = E ∧ zAt D tys A W0 t) A
def zMiT (l : Launch) (y : MethodName) (ws : List Cond) (rm : Room) (D : va_G) (tys : List (ClassId × FieldType)) (av : List Value) (W0 : va_W) (E : String) : Prop := ∀ sz : Nat, vx_Met l y ws rm (va_Pc av (zPreX zE D tys W0 sz)) (va_Qi (fun _ (_ : Unit) => False) (fun _ _ => True) (va_A W0 sz)) (zXC D tys (va_A W0 sz) W0 E) 1 6 (va_A W0 sz)
def zMvT (l : Launch) (y : MethodName) (ws : List Cond) (rm : Room) (D : va_G) (tys : List (ClassId × FieldType)) (av : List Value) (W0 : va_W) (E : String) : Prop := ∀ sz : Nat, vx_Met l y ws rm (va_Pc av (zPreX zE D tys W0 sz)) (va_Qv (fun (_ : Unit) => False) (fun _ _ => True) (va_A W0 sz)) (zXC D tys (va_A W0 sz) W0 E) 1 6 (va_A W0 sz)
section ZSX
variable {X : (Nat → Prop) → State → Heap → Prop} {l : Launch} {y : MethodName} {ws ws' : List Cond} {rm : Room} {D : va_G} {tys : List (ClassId × FieldType)} {av : List Value} {W0 W1 : va_W} {r : Int32} {cc : ByteArray} {maxL : Nat} {ret : Option FieldType} {E : String}
theorem z_startiX (hy : plainName y.cls = true) (hw : ws = Cond.code y cc maxL ret :: ws') (hle : (lg_sl av).length ≤ maxL)
    (body : ∀ (p : Program) (e : Env) (s : State) (m : MethodId) (args : Array Value) (below : List Frame) (meth : Method) (c : Code) (A : Nat → Prop), p.tables.exec = Jvm.exec → c.code = cc → meth.sig.returnType = ret → (∀ w ∈ ws, w.before args s = true) → s.vm.findClass y.cls = some m.cls → meth.locks = false → c.maxLocals = maxL → (∀ q, s.heap.size ≤ q → A q) → X A s s.heap → zw D tys s A W0 s.heap [] → ∀ ls : Array Slot, lv_has ls maxL (lv_args 0 av) →
      W p l e rm s m args below meth c s.heap [] 0 0 (MQ below (zQi D tys A W1 r) args s 0 0 A) (F0 m 0 ls [])) : zMiX X l y ws rm D tys av W0 W1 r := by
  intro sz
  refine Met.ofW (cc := cc) (maxL := maxL) (ret := ret) hy hw ?_
  intro p e s m args below meth c s₁ B hml hv
  obtain ⟨rfl, ⟨hsz, hP, hK, hD0⟩, hXA⟩ := hv
  subst hsz
  have hl := lv_entry av (n := maxL) hle
  rw [lg_entry_eq]
  exact body p e s m _ below meth c (va_A W0 s.heap.size) B.exec B.bytes B.returns (atoms_spec (ws := ws) B.pre) (findClass_of_methodNamed B.named) B.notSynchronized hml (fun q h => Or.inr h) hXA ⟨hK, hP, hD0.self, va_S.rf⟩ _ hl
theorem z_startvX (hy : plainName y.cls = true) (hw : ws = Cond.code y cc maxL ret :: ws') (hle : (lg_sl av).length ≤ maxL)
    (body : ∀ (p : Program) (e : Env) (s : State) (m : MethodId) (args : Array Value) (below : List Frame) (meth : Method) (c : Code) (A : Nat → Prop), p.tables.exec = Jvm.exec → c.code = cc → meth.sig.returnType = ret → (∀ w ∈ ws, w.before args s = true) → s.vm.findClass y.cls = some m.cls → meth.locks = false → c.maxLocals = maxL → (∀ q, s.heap.size ≤ q → A q) → X A s s.heap → zw D tys s A W0 s.heap [] → ∀ ls : Array Slot, lv_has ls maxL (lv_args 0 av) →
      W p l e rm s m args below meth c s.heap [] 0 0 (MQ below (zQv D tys A W1) args s 0 0 A) (F0 m 0 ls [])) : zMvX X l y ws rm D tys av W0 W1 := by
  intro sz
  refine Met.ofW (cc := cc) (maxL := maxL) (ret := ret) hy hw ?_
  intro p e s m args below meth c s₁ B hml hv
  obtain ⟨rfl, ⟨hsz, hP, hK, hD0⟩, hXA⟩ := hv
  subst hsz
  have hl := lv_entry av (n := maxL) hle
  rw [lg_entry_eq]
  exact body p e s m _ below meth c (va_A W0 s.heap.size) B.exec B.bytes B.returns (atoms_spec (ws := ws) B.pre) (findClass_of_methodNamed B.named) B.notSynchronized hml (fun q h => Or.inr h) hXA ⟨hK, hP, hD0.self, va_S.rf⟩ _ hl
theorem z_startiT (hy : plainName y.cls = true) (hw : ws = Cond.code y cc maxL ret :: ws') (hle : (lg_sl av).length ≤ maxL)
    (body : ∀ (p : Program) (e : Env) (s : State) (m : MethodId) (args : Array Value) (below : List Frame) (meth : Method) (c : Code) (A : Nat → Prop), p.tables.exec = Jvm.exec → c.code = cc → meth.sig.returnType = ret → (∀ w ∈ ws, w.before args s = true) → s.vm.findClass y.cls = some m.cls → meth.locks = false → c.maxLocals = maxL → (∀ q, s.heap.size ≤ q → A q) → zE A s s.heap → (∀ x ∈ c.exceptionTable.toList, False) → zw D tys s A W0 s.heap [] → ∀ ls : Array Slot, lv_has ls maxL (lv_args 0 av) →
      W p l e rm s m args below meth c s.heap [] 0 0 (vx_MQ below (va_Qi (fun _ (_ : Unit) => False) (fun _ _ => True) A) (zXC D tys A W0 E) args s 1 6 A) (F0 m 0 ls [])) : zMiT l y ws rm D tys av W0 E := by
  intro sz
  refine vx_ofW (cc := cc) (maxL := maxL) (ret := ret) hy hw ?_
  intro p e s m args below meth c s₁ B hml hxt hv
  obtain ⟨rfl, ⟨hsz, hP, hK, hD0⟩, hXA⟩ := hv
  subst hsz
  have hl := lv_entry av (n := maxL) hle
  rw [lg_entry_eq]
  exact body p e s m _ below meth c (va_A W0 s.heap.size) B.exec B.bytes B.returns (atoms_spec (ws := ws) B.pre) (findClass_of_methodNamed B.named) B.notSynchronized hml (fun q h => Or.inr h) hXA hxt ⟨hK, hP, hD0.self, va_S.rf⟩ _ hl
theorem z_startvT (hy : plainName y.cls = true) (hw : ws = Cond.code y cc maxL ret :: ws') (hle : (lg_sl av).length ≤ maxL)
    (body : ∀ (p : Program) (e : Env) (s : State) (m : MethodId) (args : Array Value) (below : List Frame) (meth : Method) (c : Code) (A : Nat → Prop), p.tables.exec = Jvm.exec → c.code = cc → meth.sig.returnType = ret → (∀ w ∈ ws, w.before args s = true) → s.vm.findClass y.cls = some m.cls → meth.locks = false → c.maxLocals = maxL → (∀ q, s.heap.size ≤ q → A q) → zE A s s.heap → (∀ x ∈ c.exceptionTable.toList, False) → zw D tys s A W0 s.heap [] → ∀ ls : Array Slot, lv_has ls maxL (lv_args 0 av) →
      W p l e rm s m args below meth c s.heap [] 0 0 (vx_MQ below (va_Qv (fun (_ : Unit) => False) (fun _ _ => True) A) (zXC D tys A W0 E) args s 1 6 A) (F0 m 0 ls [])) : zMvT l y ws rm D tys av W0 E := by
  intro sz
  refine vx_ofW (cc := cc) (maxL := maxL) (ret := ret) hy hw ?_
  intro p e s m args below meth c s₁ B hml hxt hv
  obtain ⟨rfl, ⟨hsz, hP, hK, hD0⟩, hXA⟩ := hv
  subst hsz
  have hl := lv_entry av (n := maxL) hle
  rw [lg_entry_eq]
  exact body p e s m _ below meth c (va_A W0 s.heap.size) B.exec B.bytes B.returns (atoms_spec (ws := ws) B.pre) (findClass_of_methodNamed B.named) B.notSynchronized hml (fun q h => Or.inr h) hXA hxt ⟨hK, hP, hD0.self, va_S.rf⟩ _ hl
end ZSX
section ZXR
variable {p : Program} {l : Launch} {e : Env} {R : Room} {s : State} {m : MethodId} {args : Array Value} {below : List Frame} {meth : Method} {c : Code} {H : Heap} {locs : List Loc} {cells slots : Nat} {Q : State → Prop}
variable {cc : ByteArray} {pc : Nat} {ls : Array Slot} {rest st0 : List Value} {D : va_G} {tys : List (ClassId × FieldType)} {A : Nat → Prop} {ws W0 W1 W2 Wc : va_W} {a b : Nat}
variable {y : MethodName} {bytes : ByteArray} {maxL nL n index : Nat} {ret : Option FieldType} {wsc : List Cond} {rm : Room} {Ts : List Cond} {own C : String} {As : List Value} {r : Int32}
/-- what a throw leaves: the world as it was -/
theorem zXC_of {cls : String} (Z : zw D tys s A W0 H locs) : ∀ t : State, s.vm.Alike t.vm → H.size ≤ t.heap.size → (∀ q : Nat, q < H.size → t.heap[q]? = H[q]?) → zXC D tys A W0 cls cls s t := by
  intro t hvm hz hk
  refine ⟨(), trivial, ⟨rfl, Z.2.1.kept (fun k q hq => hk q.1 (Z.2.1 k q hq).lt), Z.1.moved hvm, Z.2.2.1⟩, Nat.le_trans Z.2.2.2.1 hz, fun q h1 h2 => ?_⟩
  rw [hk q (Nat.lt_of_lt_of_le h1 Z.2.2.2.1)]
  exact Z.2.2.2.2.1 q h1 h2
theorem z_hat {L : List Cond} (hL : ∀ w ∈ L, w ∈ zTW) (hE : zE A s s.heap) : ∀ w ∈ L, w.before args s = true := fun w hw => va_Nw.use (by have := zTW_ok w (hL w hw); unfold zwok at this; rw [Bool.and_eq_true] at this; exact this.1) (hE.2.2.2.1 w (hL w hw))
theorem z_good {L : List Cond} {ik : Nat} {own cls : String} (hL : ∀ w ∈ L, w ∈ zTW) : ∀ w ∈ Cond.classLink own ik cls :: Cond.initialized cls :: L, vx_ot w = true := by
  intro w hw
  rcases List.mem_cons.mp hw with rfl | hw
  · rfl
  · rcases List.mem_cons.mp hw with rfl | hw
    · rfl
    · have := zTW_ok w (hL w hw)
      unfold zwok at this
      rw [Bool.and_eq_true] at this
      unfold vx_ot
      rw [this.1]
      rfl
theorem z_inI : ∀ w ∈ zTI, w ∈ zTW := fun w h => List.mem_append_left _ h
theorem z_inX : ∀ w ∈ zTX, w ∈ zTW := fun w h => List.mem_append_right _ (List.mem_append_left _ h)
theorem z_inS : ∀ w ∈ zTS, w ∈ zTW := fun w h => List.mem_append_right _ (List.mem_append_right _ (List.mem_append_left _ h))
theorem z_inN : ∀ w ∈ zTN, w ∈ zTW := fun w h => List.mem_append_right _ (List.mem_append_right _ (List.mem_append_right _ h))
theorem zNm_fit : ∀ n ∈ zNm, Bundle.fit n = true := by decide +kernel
/-- 'throw new E("text")' of a class of LotSheet: three of the four exceptions -/
theorem z_throwE {Qc : Array Value → State → Outcome → State → Prop} {cls text : String} {ik is ic : Nat} (hx : p.tables.exec = Jvm.exec) (hb : c.code = cc) (hfl : l.stackTraces = false) (hown : s.vm.findClass RX5 = some m.cls) (hts : ∀ w ∈ Ts, w.before args s = true) (hcls : Bundle.fit cls = true) (hk : Cond.classLink RX5 ik cls ∈ Ts) (hini : Cond.initialized cls ∈ Ts)
    (hin : ∀ w ∈ vx_atS RX5 ic cls zNm, w ∈ zTW) (htx : (RX5, is, text) ∈ zTexts) (hE : zE A s s.heap) (Z : zw D tys s A W0 H locs) (hsize : ls.size = c.maxLocals)
    (d0 : decode cc pc = .ok (.new ik, 3)) (d3 : decode cc (pc + 3) = .ok (.dup, 1)) (d4 : decode cc (pc + 4) = .ok (.ldc is, 2)) (d6 : decode cc (pc + 6) = .ok (.invokespecial ic, 3)) (d9 : decode cc (pc + 9) = .ok (.athrow, 1))
    (hout : ∀ x ∈ c.exceptionTable.toList, False) (hRf : 5 < R.frames) (hRl : (rest.map fun v => v.category).sum + 82 ≤ R.locals) (hRc : 0 + 1 ≤ R.cells) (hRs : 0 + 6 ≤ R.slots) (hlocks : meth.locks = false) :
    W p l e R s m args below meth c H locs 0 0 (vx_MQ below Qc (zXC D tys A W0 cls) args s 1 6 A) (F0 m pc ls rest) := by
  obtain ⟨sa, hsa⟩ := hE.2.2.2.2.1 _ htx
  exact vx_throwS hx hb hfl hown hcls zNm_fit (hts _ hk) (hts _ hini) hsa (z_hat hin hE) (z_good hin) hE.2.1 hE.2.2.1 Z.2.2.2 hsize d0 d3 d4 d6 d9 (fun x h => (hout x h).elim) hRf (by simp only [zNm, List.length_cons, List.length_nil]; omega) hRc hRs hlocks (zXC_of Z) Z.2.2.2.2.2 (Nat.le_refl _) (Nat.le_refl _)
theorem z_throwNS {Qc : Array Value → State → Outcome → State → Prop} {text : String} {ik is : Nat} (hx : p.tables.exec = Jvm.exec) (hb : c.code = cc) (hfl : l.stackTraces = false) (hown : s.vm.findClass RX5 = some m.cls) (hts : ∀ w ∈ Ts, w.before args s = true) (hk : Cond.classLink RX5 ik "java/util/NoSuchElementException" ∈ Ts) (hini : Cond.initialized "java/util/NoSuchElementException" ∈ Ts)
    (htx : (RX5, is, text) ∈ zTexts) (hE : zE A s s.heap) (Z : zw D tys s A W0 H locs) (hsize : ls.size = c.maxLocals)
    (d0 : decode cc pc = .ok (.new ik, 3)) (d3 : decode cc (pc + 3) = .ok (.dup, 1)) (d4 : decode cc (pc + 4) = .ok (.ldc is, 2)) (d6 : decode cc (pc + 6) = .ok (.invokespecial 181, 3)) (d9 : decode cc (pc + 9) = .ok (.athrow, 1))
    (hout : ∀ x ∈ c.exceptionTable.toList, False) (hRf : 5 < R.frames) (hRl : (rest.map fun v => v.category).sum + 82 ≤ R.locals) (hRc : 0 + 1 ≤ R.cells) (hRs : 0 + 6 ≤ R.slots) (hlocks : meth.locks = false) :
    W p l e R s m args below meth c H locs 0 0 (vx_MQ below Qc (zXC D tys A W0 "java/util/NoSuchElementException") args s 1 6 A) (F0 m pc ls rest) := by
  obtain ⟨sa, hsa⟩ := hE.2.2.2.2.1 _ htx
  exact z_throwN z13_0 z13_1 z13_2 z13_5 (Y0 := "java/lang/RuntimeException") (r0 := ["java/lang/Exception"]) hx hb hfl hown (by decide +kernel) (by decide +kernel) (hts _ hk) (hts _ hini) hsa (z_hat z_inN hE) (z_good z_inN) hE.2.1 hE.2.2.1 Z.2.2.2 hsize d0 d3 d4 d6 d9 (fun x h => (hout x h).elim) hRf (by simp only [List.length_cons, List.length_nil]; omega) hRc hRs hlocks (zXC_of Z) Z.2.2.2.2.2 (Nat.le_refl _) (Nat.le_refl _)
/-- a call of a method that throws: it goes on to the caller -/
theorem z_callVit {Qc : Array Value → State → Outcome → State → Prop} {E : String} (S : CallFix p m c cc nL s args Ts own) (hM : zMiT l y wsc rm D tys (.ref b :: As) Wc E) (cw : CallW R s args own C index y bytes maxL ret wsc rm 1 6 n) (hE : zE A s s.heap) (Z : zw D tys s A W0 H locs) (hA : ∀ q, s.heap.size ≤ q → A q) (isC : List Nat) (hC : isC.map (fun i => W0[i]?) = Wc.map some) (hnd : va_nd isC = true)
    {ci : Nat} {q : vw_C} {fs : List Value} (hc : vwCl[ci]? = some q) (he : Wc[0]? = some (b, .inr (ci, fs))) (hq : q.1 = C) (hn : As.length = n) (hsize : ls.size = nL) (hstack : st0 = As.reverse ++ .ref b :: rest) (hW : (rest.map fun v => v.category).sum ≤ 8) (hdg : decode cc pc = .ok (.invokevirtual index, 3)) (hf : 0 + 1 ≤ R.cells ∧ 0 + 6 ≤ R.slots) (src : List (Option Nat)) (hs : zsame src isC = true) (h2 : zpok W0 Wc W0 src 0)
    (hout : ∀ x ∈ c.exceptionTable.toList, False) (hlocks : meth.locks = false) : W p l e R s m args below meth c H locs 0 0 (vx_MQ below Qc (zXC D tys A W0 E) args s 1 6 A) (F0 m pc ls st0) := by
  obtain ⟨hK, hP, hD, hS⟩ := Z
  obtain ⟨hPc, hDc⟩ := z_part (A1 := A) hP hD isC hC hnd
  have hFc := va_free hD hS hA isC hC
  refine vx_calli (vx_runV (As := As) (rest := rest) S (hM H.size) cw ⟨fun a' U g mk q9 => ⟨q9.1, ⟨q9.2.1.1, q9.2.1.2.1, va_K.moved (u := U) (U := U.calling g mk a') (Vm.Alike.refl U.vm) q9.2.1.2.2.1, q9.2.1.2.2.2⟩, zE_pass.2 _ U (U.calling g mk a') rfl rfl q9.2.2⟩, by rw [← hq]; exact va_recv hK hPc hc he, fun U hU hW9 => ⟨rfl, ⟨by rw [hU], by rw [hU]; exact hPc, va_K.moved hW9.alike hK, hDc⟩, zE_pass.1 A _ s U H locs hE hS hU hW9 hFc⟩⟩ rfl hn hsize hstack (lv_room hW) hdg hf) hS (fun q _ h => hFc q h) hFc (fun q _ h => hFc q h) (fun E1 ce q9 u t H1 locs1 ht hvm hpx hB hz1 hk1 hS1 hce hcv hcl => ?_) (fun r1 u t H1 locs1 ht hvm hw _ _ _ _ => hw.elim)
  obtain ⟨rfl, hP1, hK1, hD1⟩ := hB
  rw [ht] at hP1
  obtain ⟨hP2, hD2⟩ := zpok_join hP hD isC hC rfl src hs h2 hk1 hP1
  exact vx_out (fun x h => (hout x h).elim) hlocks hce hcv hcl (fun t1 h1 h3 => ⟨(), trivial, ⟨rfl, by rw [h1]; exact hP2, hK.moved h3, hD2⟩, hS1.F h1⟩) hS1.2.2 (Nat.le_refl _) (Nat.le_refl _)
theorem z_callVvt {Qc : Array Value → State → Outcome → State → Prop} {E : String} (S : CallFix p m c cc nL s args Ts own) (hM : zMvT l y wsc rm D tys (.ref b :: As) Wc E) (cw : CallW R s args own C index y bytes maxL ret wsc rm 1 6 n) (hE : zE A s s.heap) (Z : zw D tys s A W0 H locs) (hA : ∀ q, s.heap.size ≤ q → A q) (isC : List Nat) (hC : isC.map (fun i => W0[i]?) = Wc.map some) (hnd : va_nd isC = true)
    {ci : Nat} {q : vw_C} {fs : List Value} (hc : vwCl[ci]? = some q) (he : Wc[0]? = some (b, .inr (ci, fs))) (hq : q.1 = C) (hn : As.length = n) (hsize : ls.size = nL) (hstack : st0 = As.reverse ++ .ref b :: rest) (hW : (rest.map fun v => v.category).sum ≤ 8) (hdg : decode cc pc = .ok (.invokevirtual index, 3)) (hf : 0 + 1 ≤ R.cells ∧ 0 + 6 ≤ R.slots) (src : List (Option Nat)) (hs : zsame src isC = true) (h2 : zpok W0 Wc W0 src 0)
    (hout : ∀ x ∈ c.exceptionTable.toList, False) (hlocks : meth.locks = false) : W p l e R s m args below meth c H locs 0 0 (vx_MQ below Qc (zXC D tys A W0 E) args s 1 6 A) (F0 m pc ls st0) := by
  obtain ⟨hK, hP, hD, hS⟩ := Z
  obtain ⟨hPc, hDc⟩ := z_part (A1 := A) hP hD isC hC hnd
  have hFc := va_free hD hS hA isC hC
  refine vx_callv (vx_runV (As := As) (rest := rest) S (hM H.size) cw ⟨fun a' U g mk q9 => ⟨q9.1, ⟨q9.2.1.1, q9.2.1.2.1, va_K.moved (u := U) (U := U.calling g mk a') (Vm.Alike.refl U.vm) q9.2.1.2.2.1, q9.2.1.2.2.2⟩, zE_pass.2 _ U (U.calling g mk a') rfl rfl q9.2.2⟩, by rw [← hq]; exact va_recv hK hPc hc he, fun U hU hW9 => ⟨rfl, ⟨by rw [hU], by rw [hU]; exact hPc, va_K.moved hW9.alike hK, hDc⟩, zE_pass.1 A _ s U H locs hE hS hU hW9 hFc⟩⟩ rfl hn hsize hstack (lv_room hW) hdg hf) hS (fun q _ h => hFc q h) hFc (fun q _ h => hFc q h) (fun E1 ce q9 u t H1 locs1 ht hvm hpx hB hz1 hk1 hS1 hce hcv hcl => ?_) (fun u t H1 locs1 ht hvm hw _ _ _ _ => hw.elim)
  obtain ⟨rfl, hP1, hK1, hD1⟩ := hB
  rw [ht] at hP1
  obtain ⟨hP2, hD2⟩ := zpok_join hP hD isC hC rfl src hs h2 hk1 hP1
  exact vx_out (fun x h => (hout x h).elim) hlocks hce hcv hcl (fun t1 h1 h3 => ⟨(), trivial, ⟨rfl, by rw [h1]; exact hP2, hK.moved h3, hD2⟩, hS1.F h1⟩) hS1.2.2 (Nat.le_refl _) (Nat.le_refl _)
/-! calls of methods that rest on more -/
theorem z_callViX {X : (Nat → Prop) → State → Heap → Prop} (hXp : zPass X) (hXA : X A s s.heap) (S : CallFix p m c cc nL s args Ts own) (hM : zMiX X l y wsc rm D tys (.ref b :: As) Wc W1 r) (cw : CallW R s args own C index y bytes maxL ret wsc rm 0 0 n) (Z : zw D tys s A W0 H locs) (hA : ∀ q, s.heap.size ≤ q → A q) (isC : List Nat) (hC : isC.map (fun i => W0[i]?) = Wc.map some) (hnd : va_nd isC = true) (ha : W1.map Prod.fst = Wc.map Prod.fst)
    {ci : Nat} {q : vw_C} {fs : List Value} (hc : vwCl[ci]? = some q) (he : Wc[0]? = some (b, .inr (ci, fs))) (hq : q.1 = C) (hn : As.length = n) (hsize : ls.size = nL) (hstack : st0 = As.reverse ++ .ref b :: rest) (hW : (rest.map fun v => v.category).sum ≤ 8) (hdg : decode cc pc = .ok (.invokevirtual index, 3)) (hf : cells ≤ R.cells ∧ slots ≤ R.slots) (src : List (Option Nat)) (hs : zsame src isC = true) (h2 : zpok W0 W1 W2 src 0)
    (kk : ∀ (H1 : Heap) (locs1 : List Loc), zw D tys s A W2 H1 locs1 → W p l e R s m args below meth c H1 locs1 cells slots Q (F0 m (pc + 3) ls (.int r :: rest))) : W p l e R s m args below meth c H locs cells slots Q (F0 m pc ls st0) := by
  obtain ⟨hK, hP, hD, hS⟩ := Z
  obtain ⟨hPc, hDc⟩ := z_part (A1 := A) hP hD isC hC hnd
  have hFc := va_free hD hS hA isC hC
  refine va_calli (va_runV (As := As) (rest := rest) S (hM H.size) cw ⟨fun a' U g mk q9 => ⟨q9.1, ⟨q9.2.1.1, q9.2.1.2.1, va_K.moved (u := U) (U := U.calling g mk a') (Vm.Alike.refl U.vm) q9.2.1.2.2.1, q9.2.1.2.2.2⟩, hXp.2 _ U (U.calling g mk a') rfl rfl q9.2.2⟩, by rw [← hq]; exact va_recv hK hPc hc he, fun U hU hW9 => ⟨rfl, ⟨by rw [hU], by rw [hU]; exact hPc, va_K.moved hW9.alike hK, hDc⟩, hXp.1 A _ s U H locs hXA hS hU hW9 hFc⟩⟩ rfl hn hsize hstack (lv_room hW) hdg hf) hS (fun q _ h => hFc q h) hFc (fun r1 u t H1 locs1 ht hvm hw hB hz1 hk1 hS1 => ?_)
  obtain ⟨hP1, hK1, hD1⟩ := hB
  rw [ht] at hP1
  obtain ⟨hP2, hD2⟩ := zpok_join hP hD isC hC ha src hs h2 hk1 hP1
  subst hw
  exact kk H1 locs1 ⟨hK, hP2, hD2, hS1⟩
theorem z_callVvX {X : (Nat → Prop) → State → Heap → Prop} (hXp : zPass X) (hXA : X A s s.heap) (S : CallFix p m c cc nL s args Ts own) (hM : zMvX X l y wsc rm D tys (.ref b :: As) Wc W1) (cw : CallW R s args own C index y bytes maxL ret wsc rm 0 0 n) (Z : zw D tys s A W0 H locs) (hA : ∀ q, s.heap.size ≤ q → A q) (isC : List Nat) (hC : isC.map (fun i => W0[i]?) = Wc.map some) (hnd : va_nd isC = true) (ha : W1.map Prod.fst = Wc.map Prod.fst)
    {ci : Nat} {q : vw_C} {fs : List Value} (hc : vwCl[ci]? = some q) (he : Wc[0]? = some (b, .inr (ci, fs))) (hq : q.1 = C) (hn : As.length = n) (hsize : ls.size = nL) (hstack : st0 = As.reverse ++ .ref b :: rest) (hW : (rest.map fun v => v.category).sum ≤ 8) (hdg : decode cc pc = .ok (.invokevirtual index, 3)) (hf : cells ≤ R.cells ∧ slots ≤ R.slots) (src : List (Option Nat)) (hs : zsame src isC = true) (h2 : zpok W0 W1 W2 src 0)
    (kk : ∀ (H1 : Heap) (locs1 : List Loc), zw D tys s A W2 H1 locs1 → W p l e R s m args below meth c H1 locs1 cells slots Q (F0 m (pc + 3) ls rest)) : W p l e R s m args below meth c H locs cells slots Q (F0 m pc ls st0) := by
  obtain ⟨hK, hP, hD, hS⟩ := Z
  obtain ⟨hPc, hDc⟩ := z_part (A1 := A) hP hD isC hC hnd
  have hFc := va_free hD hS hA isC hC
  refine va_callv (va_runV (As := As) (rest := rest) S (hM H.size) cw ⟨fun a' U g mk q9 => ⟨q9.1, ⟨q9.2.1.1, q9.2.1.2.1, va_K.moved (u := U) (U := U.calling g mk a') (Vm.Alike.refl U.vm) q9.2.1.2.2.1, q9.2.1.2.2.2⟩, hXp.2 _ U (U.calling g mk a') rfl rfl q9.2.2⟩, by rw [← hq]; exact va_recv hK hPc hc he, fun U hU hW9 => ⟨rfl, ⟨by rw [hU], by rw [hU]; exact hPc, va_K.moved hW9.alike hK, hDc⟩, hXp.1 A _ s U H locs hXA hS hU hW9 hFc⟩⟩ rfl hn hsize hstack (lv_room hW) hdg hf) hS (fun q _ h => hFc q h) hFc (fun u t H1 locs1 ht hvm hw hB hz1 hk1 hS1 => ?_)
  obtain ⟨hP1, hK1, hD1⟩ := hB
  rw [ht] at hP1
  obtain ⟨hP2, hD2⟩ := zpok_join hP hD isC hC ha src hs h2 hk1 hP1
  exact kk H1 locs1 ⟨hK, hP2, hD2, hS1⟩
end ZXR
/-! the pure side of throws -/
def o_try {α β : Type} (x : Option (String ⊕ α)) (k : α → Option (String ⊕ β)) : Option (String ⊕ β) := match x with
  | none => none
  | some (.inl E) => some (.inl E)
  | some (.inr a) => k a
def o_run {α β : Type} (x : Option (String ⊕ α)) (k : α → Option β) : Option β := match x with
  | some (.inr a) => k a
  | _ => none
theorem o_tryOk {α β : Type} {x : Option (String ⊕ α)} {k : α → Option (String ⊕ β)} {r : β} (h : o_try x k = some (.inr r)) : ∃ a, x = some (.inr a) ∧ k a = some (.inr r) := by
  match x, h with
  | some (.inr a), h => exact ⟨a, rfl, h⟩
theorem o_tryX {α β : Type} {x : Option (String ⊕ α)} {k : α → Option (String ⊕ β)} {E : String} (h : o_try x k = some (.inl E)) : x = some (.inl E) ∨ ∃ a, x = some (.inr a) ∧ k a = some (.inl E) := by
  match x, h with
  | some (.inl E1), h => cases h; exact Or.inl rfl
  | some (.inr a), h => exact Or.inr ⟨a, rfl, h⟩
theorem o_runE {α β : Type} {x : Option (String ⊕ α)} {k : α → Option β} {r : β} (h : o_run x k = some r) : ∃ a, x = some (.inr a) ∧ k a = some r := by
  match x, h with
  | some (.inr a), h => exact ⟨a, rfl, h⟩
