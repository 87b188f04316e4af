/-! ===== the JDK's String: what the words of the program ask of it ===== -/
def zch (x : Int32) : Int32 := ((x &&& 255).toUInt32 % 65536).toInt32
def zXS (a : Nat) (w : List Int32) : (Nat → Prop) → State → Heap → Prop := fun A s H => zC A s H ∧ zStr a w A s H
theorem zXS_pass (a : Nat) (w : List Int32) : zPass (zXS a w) := zAnd_pass zC_pass (zStr_pass a w)
def zX0 : (Nat → Prop) → State → Heap → Prop := fun _ _ _ => True
theorem zX0_pass : zPass zX0 := ⟨fun _ _ _ _ _ _ _ _ _ _ _ => trivial, fun _ _ _ _ _ _ => trivial⟩
def zXB (v n : Nat) (w : List Int32) : (Nat → Prop) → State → Heap → Prop := fun A s H => zC A s H ∧ va_T .byte v n (fun j => .int (w.getD j 0)) A s H
theorem zXB_pass (v n : Nat) (w : List Int32) : zPass (zXB v n w) := by
  refine zAnd_pass zC_pass ⟨fun A B s U H locs h hS hU hW hB => ?_, fun B U U1 hv hh h => ?_⟩
  · subst hU
    exact ((h.kept hS.2.1).moved hW.alike).narrow hB
  · have ha : U.vm.Alike U1.vm := by rw [hv]; exact Vm.Alike.refl _
    rw [hh]
    exact h.moved ha
section ZJC
variable {p : Program} {l : Launch} {e : Env} {R : Room} {s : State} {m : MethodId} {args : Array Value} {below : List Frame} {meth : Method} {c : Code} {H : Heap} {locs : List Loc} {cells slots : Nat} {Q : State → Prop}
variable {cc : ByteArray} {pc : Nat} {ls : Array Slot} {rest st0 : List Value} {D : va_G} {tys : List (ClassId × FieldType)} {A : Nat → Prop} {W0 : va_W} {a b : Nat}
variable {y : MethodName} {bytes : ByteArray} {maxL nL n index : Nat} {ret : Option FieldType} {wsc : List Cond} {rm : Room} {Ts : List Cond} {own C : String} {As : List Value} {r : Int32} {X : (Nat → Prop) → State → Heap → Prop}
theorem z_empty {H1 : Heap} (Z : zw D tys s A W0 H locs) (hk : ∀ q : Nat, q < H.size → ¬ va_A [] H.size q → H1[q]? = H[q]?) : va_P D vwCl W0 H1 :=
  Z.2.1.kept (fun k q hq => hk q.1 (Z.2.1 k q hq).lt (by
    have h1 := (Z.2.1 k q hq).lt
    rintro (⟨k2, e2, h3⟩ | h3)
    · cases h3
    · omega))
theorem z_cSi (hXp : zPass X) (hXA : X A s s.heap) (S : CallFix p m c cc nL s args Ts own) (hM : zMiX X l y wsc rm D tys As [] [] r) (cw : CallB R s args own index y bytes maxL ret wsc rm 0 0 n ∧ (Cond.static y).before args s = true) (Z : zw D tys s A W0 H locs) (hA : ∀ q, s.heap.size ≤ q → A q)
    (hn : As.length = n) (hsize : ls.size = nL) (hstack : st0 = As.reverse ++ rest) (hW : (rest.map fun v => v.category).sum ≤ 8) (hdg : decode cc pc = .ok (.invokestatic index, 3)) (hf : cells ≤ R.cells ∧ slots ≤ R.slots)
    (kk : ∀ (H1 : Heap) (locs1 : List Loc), zw D tys s A W0 H1 locs1 → W p l e R s m args below meth c H1 locs1 cells slots Q (F0 m (pc + 3) ls (.int r :: rest))) : W p l e R s m args below meth c H locs cells slots Q (F0 m pc ls st0) := by
  have Z0 := Z
  obtain ⟨hK, hP, hD, hS⟩ := Z
  obtain ⟨hPc, hDc⟩ := z_part (wc := []) (A1 := A) hP hD [] rfl (by decide)
  have hFc := va_free (wc := []) hD hS hA [] rfl
  refine va_calli (va_runS (As := As) (rest := rest) S (hM H.size) cw ⟨fun a' U g mk q9 => ⟨q9.1, ⟨q9.2.1.1, q9.2.1.2.1, va_K.moved (u := U) (U := U.calling g mk a') (Vm.Alike.refl U.vm) q9.2.1.2.2.1, q9.2.1.2.2.2⟩, hXp.2 _ U (U.calling g mk a') rfl rfl q9.2.2⟩, fun U hU hW9 => ⟨rfl, ⟨by rw [hU], by rw [hU]; exact hPc, va_K.moved hW9.alike hK, hDc⟩, hXp.1 A _ s U H locs hXA hS hU hW9 hFc⟩⟩ rfl hn hsize hstack (lv_room hW) hdg hf) hS (fun q _ h => hFc q h) hFc (fun r1 u t H1 locs1 ht hvm hw hB hz1 hk1 hS1 => ?_)
  subst hw
  exact kk H1 locs1 ⟨hK, z_empty Z0 hk1, hD, hS1⟩
theorem z_cSv (hXp : zPass X) (hXA : X A s s.heap) (S : CallFix p m c cc nL s args Ts own) (hM : zMvX X l y wsc rm D tys As [] []) (cw : CallB R s args own index y bytes maxL ret wsc rm 0 0 n ∧ (Cond.static y).before args s = true) (Z : zw D tys s A W0 H locs) (hA : ∀ q, s.heap.size ≤ q → A q)
    (hn : As.length = n) (hsize : ls.size = nL) (hstack : st0 = As.reverse ++ rest) (hW : (rest.map fun v => v.category).sum ≤ 8) (hdg : decode cc pc = .ok (.invokestatic index, 3)) (hf : cells ≤ R.cells ∧ slots ≤ R.slots)
    (kk : ∀ (H1 : Heap) (locs1 : List Loc), zw D tys s A W0 H1 locs1 → W p l e R s m args below meth c H1 locs1 cells slots Q (F0 m (pc + 3) ls rest)) : W p l e R s m args below meth c H locs cells slots Q (F0 m pc ls st0) := by
  have Z0 := Z
  obtain ⟨hK, hP, hD, hS⟩ := Z
  obtain ⟨hPc, hDc⟩ := z_part (wc := []) (A1 := A) hP hD [] rfl (by decide)
  have hFc := va_free (wc := []) hD hS hA [] rfl
  refine va_callv (va_runS (As := As) (rest := rest) S (hM H.size) cw ⟨fun a' U g mk q9 => ⟨q9.1, ⟨q9.2.1.1, q9.2.1.2.1, va_K.moved (u := U) (U := U.calling g mk a') (Vm.Alike.refl U.vm) q9.2.1.2.2.1, q9.2.1.2.2.2⟩, hXp.2 _ U (U.calling g mk a') rfl rfl q9.2.2⟩, fun U hU hW9 => ⟨rfl, ⟨by rw [hU], by rw [hU]; exact hPc, va_K.moved hW9.alike hK, hDc⟩, hXp.1 A _ s U H locs hXA hS hU hW9 hFc⟩⟩ rfl hn hsize hstack (lv_room hW) hdg hf) hS (fun q _ h => hFc q h) hFc (fun u t H1 locs1 ht hvm hw hB hz1 hk1 hS1 => ?_)
  exact kk H1 locs1 ⟨hK, z_empty Z0 hk1, hD, hS1⟩
/-- a call on an object outside the world: a String -/
theorem z_cTi (hXp : zPass X) (hXA : X A s s.heap) (S : CallFix p m c cc nL s args Ts own) (hM : zMiX X l y wsc rm D tys (.ref b :: As) [] [] r) (cw : CallW R s args own C index y bytes maxL ret wsc rm 0 0 n) (ho : va_O C b A s s.heap) (Z : zw D tys s A W0 H locs) (hA : ∀ q, s.heap.size ≤ q → A q)
    (hn : As.length = n) (hsize : ls.size = nL) (hstack : st0 = As.reverse ++ .ref b :: rest) (hW : (rest.map fun v => v.category).sum ≤ 8) (hdg : decode cc pc = .ok (.invokevirtual index, 3)) (hf : cells ≤ R.cells ∧ slots ≤ R.slots)
    (kk : ∀ (H1 : Heap) (locs1 : List Loc), zw D tys s A W0 H1 locs1 → W p l e R s m args below meth c H1 locs1 cells slots Q (F0 m (pc + 3) ls (.int r :: rest))) : W p l e R s m args below meth c H locs cells slots Q (F0 m pc ls st0) := by
  have Z0 := Z
  obtain ⟨hK, hP, hD, hS⟩ := Z
  obtain ⟨hPc, hDc⟩ := z_part (wc := []) (A1 := A) hP hD [] rfl (by decide)
  have hFc := va_free (wc := []) hD hS hA [] rfl
  refine va_calli (va_runV (As := As) (rest := rest) S (hM H.size) cw ⟨fun a' U g mk q9 => ⟨q9.1, ⟨q9.2.1.1, q9.2.1.2.1, va_K.moved (u := U) (U := U.calling g mk a') (Vm.Alike.refl U.vm) q9.2.1.2.2.1, q9.2.1.2.2.2⟩, hXp.2 _ U (U.calling g mk a') rfl rfl q9.2.2⟩, va_Orecv ho hS, fun U hU hW9 => ⟨rfl, ⟨by rw [hU], by rw [hU]; exact hPc, va_K.moved hW9.alike hK, hDc⟩, hXp.1 A _ s U H locs hXA hS hU hW9 hFc⟩⟩ rfl hn hsize hstack (lv_room hW) hdg hf) hS (fun q _ h => hFc q h) hFc (fun r1 u t H1 locs1 ht hvm hw hB hz1 hk1 hS1 => ?_)
  subst hw
  exact kk H1 locs1 ⟨hK, z_empty Z0 hk1, hD, hS1⟩
end ZJC
theorem kJ0_coder (l : Launch) (D : va_G) (tys : List (ClassId × FieldType)) (a : Nat) (w : List Int32) : zMiX (zXS a w) l yJ0_coder_7d493 wsJ0_coder_7d493 ({ frames := 0, cells := 0, slots := 0, locals := 0 } : Room) D tys [.ref a] [] [] 0 := by
  refine z_startiX (cc := cJ0_coder_7d493) (maxL := 1) (ret := some .byte) (by decide) rfl (Nat.le_of_ble_eq_true rfl) ?_
  intro p e s m args below meth c A hx hb hr hts hown hlocks hml hA hX Z ls hl
  replace hown : s.vm.findClass RJ0 = some m.cls := hown
  replace hl : lv_has ls 1 [(0, .ref a)] := hl
  obtain ⟨⟨hcs, hfm⟩, ho, hco, v, hv, hT⟩ := hX
  refine va_gets (pc := 0) hx hb hcs Z.2.2.2 hown (hts _ (List.mem_of_getElem? (i := 1) rfl)) (fun x h => h) dJ0_coder_7d493_0 ?_
  refine lv_if_eq (pc := 3) (tgt := 13) hx hb dJ0_coder_7d493_3 (by decide) (fun c => absurd c (by decide)) (fun _ => ?_)
  refine lv_aload_n (pc := 6) hx hb dJ0_coder_7d493_6 rfl (lv_at hl 0 rfl) ?_
  refine vk_getf (pc := 7) hx hb hco Z.2.2.2 hown (hts _ (List.mem_of_getElem? (i := 2) rfl)) (fun x h => h) dJ0_coder_7d493_7 ?_
  refine lv_goto (pc := 10) (tgt := 14) hx hb dJ0_coder_7d493_10 (by decide) ?_
  exact z_zret (pc := 14) hx hb hr hlocks Z rfl rfl (by decide) dJ0_coder_7d493_14
theorem kJ0_isLatin1 (l : Launch) (D : va_G) (tys : List (ClassId × FieldType)) (a : Nat) (w : List Int32) : zMiX (zXS a w) l yJ0_isLatin1_aae02 wsJ0_isLatin1_aae02 ({ frames := 0, cells := 0, slots := 0, locals := 0 } : Room) D tys [.ref a] [] [] 1 := by
  refine z_startiX (cc := cJ0_isLatin1_aae02) (maxL := 1) (ret := some .boolean) (by decide) rfl (Nat.le_of_ble_eq_true rfl) ?_
  intro p e s m args below meth c A hx hb hr hts hown hlocks hml hA hX Z ls hl
  replace hown : s.vm.findClass RJ0 = some m.cls := hown
  replace hl : lv_has ls 1 [(0, .ref a)] := hl
  obtain ⟨⟨hcs, hfm⟩, ho, hco, v, hv, hT⟩ := hX
  refine va_gets (pc := 0) hx hb hcs Z.2.2.2 hown (hts _ (List.mem_of_getElem? (i := 1) rfl)) (fun x h => h) dJ0_isLatin1_aae02_0 ?_
  refine lv_if_eq (pc := 3) (tgt := 17) hx hb dJ0_isLatin1_aae02_3 (by decide) (fun c => absurd c (by decide)) (fun _ => ?_)
  refine lv_aload_n (pc := 6) hx hb dJ0_isLatin1_aae02_6 rfl (lv_at hl 0 rfl) ?_
  refine vk_getf (pc := 7) hx hb hco Z.2.2.2 hown (hts _ (List.mem_of_getElem? (i := 2) rfl)) (fun x h => h) dJ0_isLatin1_aae02_7 ?_
  refine lv_if_ne (pc := 10) (tgt := 17) hx hb dJ0_isLatin1_aae02_10 (by decide) (fun c => absurd rfl c) (fun _ => ?_)
  refine lv_iconst (v := (1 : Int32)) (pc := 13) hx hb dJ0_isLatin1_aae02_13 (by decide) ?_
  refine lv_goto (pc := 14) (tgt := 18) hx hb dJ0_isLatin1_aae02_14 (by decide) ?_
  exact z_zret (pc := 18) hx hb hr hlocks Z rfl rfl (by decide) dJ0_isLatin1_aae02_18
theorem kJ0_length (l : Launch) (D : va_G) (tys : List (ClassId × FieldType)) (a : Nat) (w : List Int32) : zMiX (zXS a w) l yJ0_length_8abf5 wsJ0_length_8abf5 ({ frames := 1, cells := 0, slots := 0, locals := 20 } : Room) D tys [.ref a] [] [] (Int32.ofNat w.length) := by
  refine z_startiX (cc := cJ0_length_8abf5) (maxL := 1) (ret := some .int) (by decide) rfl (Nat.le_of_ble_eq_true rfl) ?_
  intro p e s m args below meth c A hx hb hr hts hown hlocks hml hA hX Z ls hl
  replace hown : s.vm.findClass RJ0 = some m.cls := hown
  replace hl : lv_has ls 1 [(0, .ref a)] := hl
  have hX0 := hX
  obtain ⟨⟨hcs, hfm⟩, ho, hco, v, hv, hT⟩ := hX
  refine lv_aload_n (pc := 0) hx hb dJ0_length_8abf5_0 rfl (lv_at hl 0 rfl) ?_
  refine vk_getf (pc := 1) hx hb hv Z.2.2.2 hown (hts _ (List.mem_of_getElem? (i := 1) rfl)) (fun x h => h) dJ0_length_8abf5_1 ?_
  refine va_tlen (pc := 4) hx hb hT Z.2.2.2 rfl dJ0_length_8abf5_4 ?_
  refine lv_aload_n (pc := 5) hx hb dJ0_length_8abf5_5 rfl (lv_at hl 0 rfl) ?_
  refine z_cTi (pc := 6) (As := []) (rest := [.int (Int32.ofNat w.length)]) (zXS_pass a w) hX0 ⟨hx, hb, hml, hown, hts⟩ (kJ0_coder l D tys a w) (cwV 0 hts gJ0_length_8abf5_J0_coder_7d493 rfl rfl rfl (by decide +kernel) ⟨Nat.le_of_ble_eq_true rfl, Nat.le_of_ble_eq_true rfl⟩) ho Z hA rfl hl.1 rfl (Nat.le_of_ble_eq_true rfl) dJ0_length_8abf5_6 ⟨Nat.zero_le _, Nat.zero_le _⟩ (fun H locs Z => ?_)
  refine lv_ishr (pc := 9) hx hb dJ0_length_8abf5_9 ?_
  exact z_iret (pc := 10) hx hb hr hlocks Z rfl (by simp) dJ0_length_8abf5_10
theorem kJ3_checkIndex (l : Launch) (D : va_G) (tys : List (ClassId × FieldType)) (i n : Int32) (f : Value) (hf : f = .null ∨ ∃ t : Nat, f = .ref t) (h0 : ¬ i < 0) (h1 : i < n) : zMiX zX0 l yJ3_checkIndex_8e157 wsJ3_checkIndex_8e157 ({ frames := 0, cells := 0, slots := 0, locals := 0 } : Room) D tys [.int i, .int n, f] [] [] i := by
  rcases hf with rfl | ⟨t, rfl⟩
  · refine z_startiX (cc := cJ3_checkIndex_8e157) (maxL := 3) (ret := some .int) (by decide) rfl (Nat.le_of_ble_eq_true rfl) ?_
    intro p e s m args below meth c A hx hb hr hts hown hlocks hml hA hX Z ls hl
    replace hl : lv_has ls 3 [(0, .int i), (1, .int n), (2, .null)] := hl
    refine lv_iload_n (pc := 0) hx hb dJ3_checkIndex_8e157_0 rfl (lv_at hl 0 rfl) ?_
    refine lv_if_lt (pc := 1) (tgt := 9) hx hb dJ3_checkIndex_8e157_1 (by decide) (fun c => absurd c h0) (fun _ => ?_)
    refine lv_iload_n (pc := 4) hx hb dJ3_checkIndex_8e157_4 rfl (lv_at hl 0 rfl) ?_
    refine lv_iload_n (pc := 5) hx hb dJ3_checkIndex_8e157_5 rfl (lv_at hl 1 rfl) ?_
    refine lv_icmp_lt (pc := 6) (tgt := 16) hx hb dJ3_checkIndex_8e157_6 (by decide) (fun _ => ?_) (fun c => absurd h1 c)
    refine lv_iload_n (pc := 16) hx hb dJ3_checkIndex_8e157_16 rfl (lv_at hl 0 rfl) ?_
    exact z_iret (pc := 17) hx hb hr hlocks Z rfl rfl dJ3_checkIndex_8e157_17
  · refine z_startiX (cc := cJ3_checkIndex_8e157) (maxL := 3) (ret := some .int) (by decide) rfl (Nat.le_of_ble_eq_true rfl) ?_
    intro p e s m args below meth c A hx hb hr hts hown hlocks hml hA hX Z ls hl
    replace hl : lv_has ls 3 [(0, .int i), (1, .int n), (2, .ref t)] := hl
    refine lv_iload_n (pc := 0) hx hb dJ3_checkIndex_8e157_0 rfl (lv_at hl 0 rfl) ?_
    refine lv_if_lt (pc := 1) (tgt := 9) hx hb dJ3_checkIndex_8e157_1 (by decide) (fun c => absurd c h0) (fun _ => ?_)
    refine lv_iload_n (pc := 4) hx hb dJ3_checkIndex_8e157_4 rfl (lv_at hl 0 rfl) ?_
    refine lv_iload_n (pc := 5) hx hb dJ3_checkIndex_8e157_5 rfl (lv_at hl 1 rfl) ?_
    refine lv_icmp_lt (pc := 6) (tgt := 16) hx hb dJ3_checkIndex_8e157_6 (by decide) (fun _ => ?_) (fun c => absurd h1 c)
    refine lv_iload_n (pc := 16) hx hb dJ3_checkIndex_8e157_16 rfl (lv_at hl 0 rfl) ?_
    exact z_iret (pc := 17) hx hb hr hlocks Z rfl rfl dJ3_checkIndex_8e157_17
theorem kJ0_checkIndex (l : Launch) (D : va_G) (tys : List (ClassId × FieldType)) (i n : Int32) (h0 : ¬ i < 0) (h1 : i < n) : zMvX zC l yJ0_checkIndex_df160 wsJ0_checkIndex_df160 ({ frames := 1, cells := 0, slots := 0, locals := 22 } : Room) D tys [.int i, .int n] [] [] := by
  refine z_startvX (cc := cJ0_checkIndex_df160) (maxL := 2) (ret := none) (by decide) rfl (Nat.le_of_ble_eq_true rfl) ?_
  intro p e s m args below meth c A hx hb hr hts hown hlocks hml hA hX Z ls hl
  replace hown : s.vm.findClass RJ0 = some m.cls := hown
  replace hl : lv_has ls 2 [(0, .int i), (1, .int n)] := hl
  obtain ⟨f, hf, hz⟩ : ∃ f : Value, (f = .null ∨ ∃ t : Nat, f = .ref t) ∧ va_Z "jdk/internal/util/Preconditions" "SIOOBE_FORMATTER" "Ljava/util/function/BiFunction;" f A s s.heap := by
    rcases hX.2 with h | ⟨t, h⟩
    · exact ⟨_, Or.inl rfl, h⟩
    · exact ⟨_, Or.inr ⟨t, rfl⟩, h⟩
  refine lv_iload_n (pc := 0) hx hb dJ0_checkIndex_df160_0 rfl (lv_at hl 0 rfl) ?_
  refine lv_iload_n (pc := 1) hx hb dJ0_checkIndex_df160_1 rfl (lv_at hl 1 rfl) ?_
  refine va_gets (pc := 2) hx hb hz Z.2.2.2 hown (hts _ (List.mem_of_getElem? (i := 1) rfl)) (fun x h => h) dJ0_checkIndex_df160_2 ?_
  refine z_cSi (pc := 5) (As := [.int i, .int n, f]) (rest := []) zX0_pass trivial ⟨hx, hb, hml, hown, hts⟩ (kJ3_checkIndex l D tys i n f hf h0 h1) (va_cwS 3 hts gJ0_checkIndex_df160_J3_checkIndex_8e157 rfl rfl rfl (by decide +kernel) ⟨Nat.le_of_ble_eq_true rfl, Nat.le_of_ble_eq_true rfl⟩) Z hA rfl hl.1 rfl (Nat.le_of_ble_eq_true rfl) dJ0_checkIndex_df160_5 ⟨Nat.zero_le _, Nat.zero_le _⟩ (fun H locs Z => ?_)
  refine lv_pop (pc := 8) hx hb dJ0_checkIndex_df160_8 rfl ?_
  exact z_vret (pc := 9) hx hb hr hlocks Z rfl dJ0_checkIndex_df160_9
theorem zch_nar (x : Int32) : narrow .char (.int (zch x)) = .int (zch x) := by
  have h : ((zch x).toUInt32 % 65536).toInt32 = zch x := by
    unfold zch
    have := (x &&& 255).toUInt32
    apply Int32.toBitVec_inj.mp
    show ((((x &&& 255).toUInt32 % 65536)) % 65536).toBitVec = ((x &&& 255).toUInt32 % 65536).toBitVec
    apply BitVec.eq_of_toNat_eq
    simp [UInt32.toBitVec_mod]
  unfold narrow
  simpa using h
theorem kJ1_charAt (l : Launch) (D : va_G) (tys : List (ClassId × FieldType)) (v n : Nat) (w : List Int32) (i : Int32) (h0 : ¬ i < 0) (h1 : i < Int32.ofNat n) (h2 : vp_in i n) : zMiX (zXB v n w) l yJ1_charAt_3b067 wsJ1_charAt_3b067 ({ frames := 2, cells := 0, slots := 0, locals := 43 } : Room) D tys [.ref v, .int i] [] [] (zch (w.getD i.toNatClampNeg 0)) := by
  refine z_startiX (cc := cJ1_charAt_3b067) (maxL := 2) (ret := some .char) (by decide) rfl (Nat.le_of_ble_eq_true rfl) ?_
  intro p e s m args below meth c A hx hb hr hts hown hlocks hml hA hX Z ls hl
  replace hown : s.vm.findClass RJ1 = some m.cls := hown
  replace hl : lv_has ls 2 [(0, .ref v), (1, .int i)] := hl
  refine lv_iload_n (pc := 0) hx hb dJ1_charAt_3b067_0 rfl (lv_at hl 1 rfl) ?_
  refine lv_aload_n (pc := 1) hx hb dJ1_charAt_3b067_1 rfl (lv_at hl 0 rfl) ?_
  refine va_tlen (pc := 2) hx hb hX.2 Z.2.2.2 rfl dJ1_charAt_3b067_2 ?_
  refine z_cSv (pc := 3) (As := [.int i, .int (Int32.ofNat n)]) (rest := []) zC_pass hX.1 ⟨hx, hb, hml, hown, hts⟩ (kJ0_checkIndex l D tys i (Int32.ofNat n) h0 h1) (va_cwS 2 hts gJ1_charAt_3b067_J0_checkIndex_df160 rfl rfl rfl (by decide +kernel) ⟨Nat.le_of_ble_eq_true rfl, Nat.le_of_ble_eq_true rfl⟩) Z hA rfl hl.1 rfl (Nat.le_of_ble_eq_true rfl) dJ1_charAt_3b067_3 ⟨Nat.zero_le _, Nat.zero_le _⟩ (fun H locs Z => ?_)
  refine lv_aload_n (pc := 6) hx hb dJ1_charAt_3b067_6 rfl (lv_at hl 0 rfl) ?_
  refine lv_iload_n (pc := 7) hx hb dJ1_charAt_3b067_7 rfl (lv_at hl 1 rfl) ?_
  refine va_tb (pc := 8) hx hb hX.2 Z.2.2.2 h2 rfl dJ1_charAt_3b067_8 ?_
  refine lv_sipush (v := (255 : Int32)) (pc := 9) hx hb dJ1_charAt_3b067_9 (by decide) ?_
  refine lv_iand (pc := 12) hx hb dJ1_charAt_3b067_12 ?_
  refine lv_i2c (pc := 13) hx hb dJ1_charAt_3b067_13 rfl ?_
  exact z_zret (pc := 14) hx hb hr hlocks Z rfl rfl (zch_nar _) dJ1_charAt_3b067_14
theorem kJ0_charAt (l : Launch) (D : va_G) (tys : List (ClassId × FieldType)) (a : Nat) (w : List Int32) (i : Int32) (hw : w.length < 2147483648) (h2 : vp_in i w.length) : zMiX (zXS a w) l yJ0_charAt_5068e wsJ0_charAt_5068e ({ frames := 3, cells := 0, slots := 0, locals := 64 } : Room) D tys [.ref a, .int i] [] [] (zch (w.getD i.toNatClampNeg 0)) := by
  refine z_startiX (cc := cJ0_charAt_5068e) (maxL := 2) (ret := some .char) (by decide) rfl (Nat.le_of_ble_eq_true rfl) ?_
  intro p e s m args below meth c A hx hb hr hts hown hlocks hml hA hX Z ls hl
  replace hown : s.vm.findClass RJ0 = some m.cls := hown
  replace hl : lv_has ls 2 [(0, .ref a), (1, .int i)] := hl
  have hX0 := hX
  obtain ⟨hC, ho, hco, v, hv, hT⟩ := hX
  refine lv_aload_n (pc := 0) hx hb dJ0_charAt_5068e_0 rfl (lv_at hl 0 rfl) ?_
  refine z_cTi (pc := 1) (As := []) (rest := []) (zXS_pass a w) hX0 ⟨hx, hb, hml, hown, hts⟩ (kJ0_isLatin1 l D tys a w) (cwV 0 hts gJ0_charAt_5068e_J0_isLatin1_aae02 rfl rfl rfl (by decide +kernel) ⟨Nat.le_of_ble_eq_true rfl, Nat.le_of_ble_eq_true rfl⟩) ho Z hA rfl hl.1 rfl (Nat.le_of_ble_eq_true rfl) dJ0_charAt_5068e_1 ⟨Nat.zero_le _, Nat.zero_le _⟩ (fun H locs Z => ?_)
  refine lv_if_eq (pc := 4) (tgt := 16) hx hb dJ0_charAt_5068e_4 (by decide) (fun c => absurd c (by decide)) (fun _ => ?_)
  refine lv_aload_n (pc := 7) hx hb dJ0_charAt_5068e_7 rfl (lv_at hl 0 rfl) ?_
  refine vk_getf (pc := 8) hx hb hv Z.2.2.2 hown (hts _ (List.mem_of_getElem? (i := 1) rfl)) (fun x h => h) dJ0_charAt_5068e_8 ?_
  refine lv_iload_n (pc := 11) hx hb dJ0_charAt_5068e_11 rfl (lv_at hl 1 rfl) ?_
  refine z_cSi (pc := 12) (As := [.ref v, .int i]) (rest := []) (zXB_pass v w.length w) ⟨hC, hT⟩ ⟨hx, hb, hml, hown, hts⟩ (kJ1_charAt l D tys v w.length w i (fun h => h2 (Or.inl h)) ?_ h2) (va_cwS 2 hts gJ0_charAt_5068e_J1_charAt_3b067 rfl rfl rfl (by decide +kernel) ⟨Nat.le_of_ble_eq_true rfl, Nat.le_of_ble_eq_true rfl⟩) Z hA rfl hl.1 rfl (Nat.le_of_ble_eq_true rfl) dJ0_charAt_5068e_12 ⟨Nat.zero_le _, Nat.zero_le _⟩ (fun H locs Z => ?_)
  · have h3 : ¬ i < 0 := fun h => h2 (Or.inl h)
    have h4 : i.toNatClampNeg < w.length := Nat.not_le.mp fun h => h2 (Or.inr h)
    rw [Int32.lt_iff_toInt_lt] at h3 ⊢
    rw [Int32.toInt_ofNat_of_lt hw]
    have : i.toNatClampNeg = i.toInt.toNat := rfl
    have h5 : (0 : Int32).toInt = 0 := rfl
    omega
  · exact z_zret (pc := 15) hx hb hr hlocks Z rfl rfl (zch_nar _) dJ0_charAt_5068e_15
