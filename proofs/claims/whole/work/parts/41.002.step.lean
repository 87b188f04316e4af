set_option maxHeartbeats 8000000 in
set_option maxRecDepth 100000 in
theorem z_step {p : Program} {l : Launch} {e : Env} {s : State} {m : MethodId} {args : Array Value} {below : List Frame} {meth : Method} {c : Code} {H : Heap} {locs : List Loc} {cells slots : Nat} {Q : State → Prop} {A : Nat → Prop} {ls : Array Slot} {b L : Nat} {xs : Nat → Int32} (D : va_G) (cA : Nat → ClassId) (h : Nat → Nat) (i : Int32) (S S1 : ZS) (hf : fStep (xs i.toNatClampNeg) (xs (i + (1 : Int32)).toNatClampNeg) (xs (i + (2 : Int32)).toNatClampNeg) (xs (i + (3 : Int32)).toNatClampNeg) (xs (i + (4 : Int32)).toNatClampNeg) (xs (i + (5 : Int32)).toNatClampNeg) S = some S1) (hx : p.tables.exec = Jvm.exec) (hb : c.code = code) (hml : c.maxLocals = 9) (hown : s.vm.findClass RL = some m.cls) (hts : ∀ w ∈ lw_tbl, w.before args s = true) (hfl : l.stackTraces = false) (hA : ∀ q, s.heap.size ≤ q → A q) (hF : zLX A s s.heap) (hXs : va_X b L xs s s.heap) (hbl : b < s.heap.size) (hbA : ¬ A b) (hi0 : vp_in i L) (hi1 : vp_in (i + (1 : Int32)) L) (hi2 : vp_in (i + (2 : Int32)) L) (hi3 : vp_in (i + (3 : Int32)) L) (hi4 : vp_in (i + (4 : Int32)) L) (hi5 : vp_in (i + (5 : Int32)) L) (hcs : cells + 1 ≤ room_1.cells ∧ slots + 6 ≤ room_1.slots) (Z : zw D (zTY cA) s A (WS cA h S) H locs) (hl : lv_has ls 9 [(0, .ref b), (1, .ref (h 0)), (2, .ref (h 105)), (3, .ref (h 125)), (4, .int i)])
    (kk : ∀ (H1 : Heap) (locs1 : List Loc) (ls1 : Array Slot), zw D (zTY cA) s A (WS cA h S1) H1 locs1 → lv_has ls1 9 [(0, .ref b), (1, .ref (h 0)), (2, .ref (h 105)), (3, .ref (h 125)), (4, .int i)] → W p l e room_1 s m args below meth c H1 locs1 (cells + 1) (slots + 6) Q (F0 m 1392 ls1 [])) : W p l e room_1 s m args below meth c H locs cells slots Q (F0 m 33 ls []) := by
  replace hb : c.code = cL_law := hb
  refine lv_aload_n (pc := 33) hx hb dL_law_33 rfl (lv_at hl 0 rfl) ?_
  refine lv_iload (pc := 34) hx hb dL_law_34 (lv_at hl 4 rfl) ?_
  refine va_sld (pc := 36) hx hb hXs hbl hbA Z.2.2.2 hi0 dL_law_36 ?_
  refine lv_bipush (v := (31 : Int32)) (pc := 37) hx hb dL_law_37 (by decide) ?_
  refine lv_iand (pc := 39) hx hb dL_law_39 ?_
  unfold fStep at hf
  by_cases c0 : (xs i.toNatClampNeg) &&& 31 = (0 : Int32)
  · replace hf := o_pos c0 hf
    refine lv_tableIn (tgt := 152) (pc := 40) hx hb dL_law_40 (by rw [c0]; decide) (by rw [c0]; decide) (by rw [c0]; rfl) (by decide) ?_
    exact r0 D cA h i S S1 hf hx hb hml hown hts hfl hA hF hXs hbl hbA hi0 hi1 hi2 hi3 hi4 hi5 hcs Z hl kk
  replace hf := o_neg c0 hf
  by_cases c1 : (xs i.toNatClampNeg) &&& 31 = (1 : Int32)
  · replace hf := o_pos c1 hf
    refine lv_tableIn (tgt := 225) (pc := 40) hx hb dL_law_40 (by rw [c1]; decide) (by rw [c1]; decide) (by rw [c1]; rfl) (by decide) ?_
    exact r1 D cA h i S S1 hf hx hb hml hown hts hfl hA hF hXs hbl hbA hi0 hi1 hi2 hi3 hi4 hi5 hcs Z hl kk
  replace hf := o_neg c1 hf
  by_cases c2 : (xs i.toNatClampNeg) &&& 31 = (2 : Int32)
  · replace hf := o_pos c2 hf
    refine lv_tableIn (tgt := 281) (pc := 40) hx hb dL_law_40 (by rw [c2]; decide) (by rw [c2]; decide) (by rw [c2]; rfl) (by decide) ?_
    exact r2 D cA h i S S1 hf hx hb hml hown hts hfl hA hF hXs hbl hbA hi0 hi1 hi2 hi3 hi4 hi5 hcs Z hl kk
  replace hf := o_neg c2 hf
  by_cases c3 : (xs i.toNatClampNeg) &&& 31 = (3 : Int32)
  · replace hf := o_pos c3 hf
    refine lv_tableIn (tgt := 294) (pc := 40) hx hb dL_law_40 (by rw [c3]; decide) (by rw [c3]; decide) (by rw [c3]; rfl) (by decide) ?_
    exact r3 D cA h i S S1 hf hx hb hml hown hts hfl hA hF hXs hbl hbA hi0 hi1 hi2 hi3 hi4 hi5 hcs Z hl kk
  replace hf := o_neg c3 hf
  by_cases c4 : (xs i.toNatClampNeg) &&& 31 = (4 : Int32)
  · replace hf := o_pos c4 hf
    refine lv_tableIn (tgt := 350) (pc := 40) hx hb dL_law_40 (by rw [c4]; decide) (by rw [c4]; decide) (by rw [c4]; rfl) (by decide) ?_
    exact r4 D cA h i S S1 hf hx hb hml hown hts hfl hA hF hXs hbl hbA hi0 hi1 hi2 hi3 hi4 hi5 hcs Z hl kk
  replace hf := o_neg c4 hf
  by_cases c5 : (xs i.toNatClampNeg) &&& 31 = (5 : Int32)
  · replace hf := o_pos c5 hf
    refine lv_tableIn (tgt := 418) (pc := 40) hx hb dL_law_40 (by rw [c5]; decide) (by rw [c5]; decide) (by rw [c5]; rfl) (by decide) ?_
    exact r5 D cA h i S S1 hf hx hb hml hown hts hfl hA hF hXs hbl hbA hi0 hi1 hi2 hi3 hi4 hi5 hcs Z hl kk
  replace hf := o_neg c5 hf
  by_cases c6 : (xs i.toNatClampNeg) &&& 31 = (6 : Int32)
  · replace hf := o_pos c6 hf
    refine lv_tableIn (tgt := 486) (pc := 40) hx hb dL_law_40 (by rw [c6]; decide) (by rw [c6]; decide) (by rw [c6]; rfl) (by decide) ?_
    exact r6 D cA h i S S1 hf hx hb hml hown hts hfl hA hF hXs hbl hbA hi0 hi1 hi2 hi3 hi4 hi5 hcs Z hl kk
  replace hf := o_neg c6 hf
  by_cases c7 : (xs i.toNatClampNeg) &&& 31 = (7 : Int32)
  · replace hf := o_pos c7 hf
    refine lv_tableIn (tgt := 554) (pc := 40) hx hb dL_law_40 (by rw [c7]; decide) (by rw [c7]; decide) (by rw [c7]; rfl) (by decide) ?_
    exact r7 D cA h i S S1 hf hx hb hml hown hts hfl hA hF hXs hbl hbA hi0 hi1 hi2 hi3 hi4 hi5 hcs Z hl kk
  replace hf := o_neg c7 hf
  by_cases c8 : (xs i.toNatClampNeg) &&& 31 = (8 : Int32)
  · replace hf := o_pos c8 hf
    refine lv_tableIn (tgt := 610) (pc := 40) hx hb dL_law_40 (by rw [c8]; decide) (by rw [c8]; decide) (by rw [c8]; rfl) (by decide) ?_
    exact r8 D cA h i S S1 hf hx hb hml hown hts hfl hA hF hXs hbl hbA hi0 hi1 hi2 hi3 hi4 hi5 hcs Z hl kk
  replace hf := o_neg c8 hf
  by_cases c9 : (xs i.toNatClampNeg) &&& 31 = (9 : Int32)
  · replace hf := o_pos c9 hf
    refine lv_tableIn (tgt := 666) (pc := 40) hx hb dL_law_40 (by rw [c9]; decide) (by rw [c9]; decide) (by rw [c9]; rfl) (by decide) ?_
    exact r9 D cA h i S S1 hf hx hb hml hown hts hfl hA hF hXs hbl hbA hi0 hi1 hi2 hi3 hi4 hi5 hcs Z hl kk
  replace hf := o_neg c9 hf
  by_cases c10 : (xs i.toNatClampNeg) &&& 31 = (10 : Int32)
  · replace hf := o_pos c10 hf
    refine lv_tableIn (tgt := 679) (pc := 40) hx hb dL_law_40 (by rw [c10]; decide) (by rw [c10]; decide) (by rw [c10]; rfl) (by decide) ?_
    exact r10 D cA h i S S1 hf hx hb hml hown hts hfl hA hF hXs hbl hbA hi0 hi1 hi2 hi3 hi4 hi5 hcs Z hl kk
  replace hf := o_neg c10 hf
  by_cases c11 : (xs i.toNatClampNeg) &&& 31 = (11 : Int32)
  · replace hf := o_pos c11 hf
    refine lv_tableIn (tgt := 747) (pc := 40) hx hb dL_law_40 (by rw [c11]; decide) (by rw [c11]; decide) (by rw [c11]; rfl) (by decide) ?_
    exact r11 D cA h i S S1 hf hx hb hml hown hts hfl hA hF hXs hbl hbA hi0 hi1 hi2 hi3 hi4 hi5 hcs Z hl kk
  replace hf := o_neg c11 hf
  by_cases c12 : (xs i.toNatClampNeg) &&& 31 = (12 : Int32)
  · replace hf := o_pos c12 hf
    refine lv_tableIn (tgt := 803) (pc := 40) hx hb dL_law_40 (by rw [c12]; decide) (by rw [c12]; decide) (by rw [c12]; rfl) (by decide) ?_
    exact r12 D cA h i S S1 hf hx hb hml hown hts hfl hA hF hXs hbl hbA hi0 hi1 hi2 hi3 hi4 hi5 hcs Z hl kk
  replace hf := o_neg c12 hf
  by_cases c13 : (xs i.toNatClampNeg) &&& 31 = (13 : Int32)
  · replace hf := o_pos c13 hf
    refine lv_tableIn (tgt := 859) (pc := 40) hx hb dL_law_40 (by rw [c13]; decide) (by rw [c13]; decide) (by rw [c13]; rfl) (by decide) ?_
    exact r13 D cA h i S S1 hf hx hb hml hown hts hfl hA hF hXs hbl hbA hi0 hi1 hi2 hi3 hi4 hi5 hcs Z hl kk
  replace hf := o_neg c13 hf
  by_cases c14 : (xs i.toNatClampNeg) &&& 31 = (14 : Int32)
  · replace hf := o_pos c14 hf
    refine lv_tableIn (tgt := 927) (pc := 40) hx hb dL_law_40 (by rw [c14]; decide) (by rw [c14]; decide) (by rw [c14]; rfl) (by decide) ?_
    exact r14 D cA h i S S1 hf hx hb hml hown hts hfl hA hF hXs hbl hbA hi0 hi1 hi2 hi3 hi4 hi5 hcs Z hl kk
  replace hf := o_neg c14 hf
  by_cases c15 : (xs i.toNatClampNeg) &&& 31 = (15 : Int32)
  · replace hf := o_pos c15 hf
    refine lv_tableIn (tgt := 983) (pc := 40) hx hb dL_law_40 (by rw [c15]; decide) (by rw [c15]; decide) (by rw [c15]; rfl) (by decide) ?_
    exact r15 D cA h i S S1 hf hx hb hml hown hts hfl hA hF hXs hbl hbA hi0 hi1 hi2 hi3 hi4 hi5 hcs Z hl kk
  replace hf := o_neg c15 hf
  by_cases c16 : (xs i.toNatClampNeg) &&& 31 = (16 : Int32)
  · replace hf := o_pos c16 hf
    refine lv_tableIn (tgt := 1024) (pc := 40) hx hb dL_law_40 (by rw [c16]; decide) (by rw [c16]; decide) (by rw [c16]; rfl) (by decide) ?_
    exact r16 D cA h i S S1 hf hx hb hml hown hts hfl hA hF hXs hbl hbA hi0 hi1 hi2 hi3 hi4 hi5 hcs Z hl kk
  replace hf := o_neg c16 hf
  by_cases c17 : (xs i.toNatClampNeg) &&& 31 = (17 : Int32)
  · replace hf := o_pos c17 hf
    refine lv_tableIn (tgt := 1080) (pc := 40) hx hb dL_law_40 (by rw [c17]; decide) (by rw [c17]; decide) (by rw [c17]; rfl) (by decide) ?_
    exact r17 D cA h i S S1 hf hx hb hml hown hts hfl hA hF hXs hbl hbA hi0 hi1 hi2 hi3 hi4 hi5 hcs Z hl kk
  replace hf := o_neg c17 hf
  by_cases c18 : (xs i.toNatClampNeg) &&& 31 = (18 : Int32)
  · replace hf := o_pos c18 hf
    refine lv_tableIn (tgt := 1136) (pc := 40) hx hb dL_law_40 (by rw [c18]; decide) (by rw [c18]; decide) (by rw [c18]; rfl) (by decide) ?_
    exact r18 D cA h i S S1 hf hx hb hml hown hts hfl hA hF hXs hbl hbA hi0 hi1 hi2 hi3 hi4 hi5 hcs Z hl kk
  replace hf := o_neg c18 hf
  by_cases c19 : (xs i.toNatClampNeg) &&& 31 = (19 : Int32)
  · replace hf := o_pos c19 hf
    refine lv_tableIn (tgt := 1228) (pc := 40) hx hb dL_law_40 (by rw [c19]; decide) (by rw [c19]; decide) (by rw [c19]; rfl) (by decide) ?_
    exact r19 D cA h i S S1 hf hx hb hml hown hts hfl hA hF hXs hbl hbA hi0 hi1 hi2 hi3 hi4 hi5 hcs Z hl kk
  replace hf := o_neg c19 hf
  by_cases c20 : (xs i.toNatClampNeg) &&& 31 = (20 : Int32)
  · replace hf := o_pos c20 hf
    refine lv_tableIn (tgt := 1284) (pc := 40) hx hb dL_law_40 (by rw [c20]; decide) (by rw [c20]; decide) (by rw [c20]; rfl) (by decide) ?_
    exact r20 D cA h i S S1 hf hx hb hml hown hts hfl hA hF hXs hbl hbA hi0 hi1 hi2 hi3 hi4 hi5 hcs Z hl kk
  replace hf := o_neg c20 hf
  by_cases c21 : (xs i.toNatClampNeg) &&& 31 = (21 : Int32)
  · replace hf := o_pos c21 hf
    refine lv_tableIn (tgt := 1297) (pc := 40) hx hb dL_law_40 (by rw [c21]; decide) (by rw [c21]; decide) (by rw [c21]; rfl) (by decide) ?_
    exact r21 D cA h i S S1 hf hx hb hml hown hts hfl hA hF hXs hbl hbA hi0 hi1 hi2 hi3 hi4 hi5 hcs Z hl kk
  replace hf := o_neg c21 hf
  by_cases c22 : (xs i.toNatClampNeg) &&& 31 = (22 : Int32)
  · replace hf := o_pos c22 hf
    refine lv_tableIn (tgt := 1365) (pc := 40) hx hb dL_law_40 (by rw [c22]; decide) (by rw [c22]; decide) (by rw [c22]; rfl) (by decide) ?_
    exact r22 D cA h i S S1 hf hx hb hml hown hts hfl hA hF hXs hbl hbA hi0 hi1 hi2 hi3 hi4 hi5 hcs Z hl kk
  replace hf := o_neg c22 hf
  by_cases c23 : (xs i.toNatClampNeg) &&& 31 = (23 : Int32)
  · replace hf := o_pos c23 hf
    refine lv_tableIn (tgt := 1378) (pc := 40) hx hb dL_law_40 (by rw [c23]; decide) (by rw [c23]; decide) (by rw [c23]; rfl) (by decide) ?_
    exact r23 D cA h i S S1 hf hx hb hml hown hts hfl hA hF hXs hbl hbA hi0 hi1 hi2 hi3 hi4 hi5 hcs Z hl kk
  replace hf := o_neg c23 hf
  refine lv_tableOut (tgt := 1392) (pc := 40) hx hb dL_law_40 (z_out24 c0 c1 c2 c3 c4 c5 c6 c7 c8 c9 c10 c11 c12 c13 c14 c15 c16 c17 c18 c19 c20 c21 c22 c23) (by decide) ?_
  cases hf
  exact W.widen (k := cells + 1) (n := slots + 6) (by omega) (by omega) (kk H locs ls Z hl)
