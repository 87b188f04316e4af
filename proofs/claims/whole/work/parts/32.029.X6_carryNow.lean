def W_X6_carryNow (cA : Nat → ClassId) (h : Nat → Nat) (m_thrown : Int32) (m_bufferLength : Int32) (m_textLength : Int32) (m_position : Int32) (m_error : Int32) (m_errorAt : Int32) (m_errorOffset : Int32) (m_data : Nat → Int32) (m_undoDepth : Int32) (m_numberStart : Int32) (m_seen : Int32) (m_numberOf : Nat → Int32) (m_pageOf : Nat → Int32) (m_lineOf : Nat → Int32) (m_stands : Nat → Int32) (m_pages : Int32) (m_before : Nat → Int32) (m_told : Nat → Int32) (m_wasPrinted : Nat → Int32) : va_W := [(h 0, .inr (6, [.int m_thrown, .ref (h 1), .int m_bufferLength, .int m_textLength, .int m_position, .int m_error, .int m_errorAt, .int m_errorOffset, .ref (h 2), .ref (h 3), .ref (h 4), .int m_undoDepth, .int m_numberStart, .int m_seen, .ref (h 13), .ref (h 14), .ref (h 15), .ref (h 16), .int m_pages, .ref (h 17), .ref (h 18), .ref (h 19)])), (h 2, .inl (cA 0, 153, .inl m_data)), (h 13, .inl (cA 0, 24, .inl m_numberOf)), (h 14, .inl (cA 0, 24, .inl m_pageOf)), (h 15, .inl (cA 0, 24, .inl m_lineOf)), (h 16, .inl (cA 0, 960, .inl m_stands)), (h 17, .inl (cA 0, 960, .inl m_before)), (h 18, .inl (cA 0, 7, .inl m_told)), (h 19, .inl (cA 0, 24, .inl m_wasPrinted))]
def fX6_carryNow_L52 (j137_15 : (Nat → Int32) → Option (Int32 × (Nat → Int32) × (Nat → Int32) × (Nat → Int32) × (Nat → Int32) × (Nat → Int32) × Int32 × (Nat → Int32) × (Nat → Int32) × (Nat → Int32))) (x12 : Int32) : Nat → Int32 → (Nat → Int32) → Option (Int32 × (Nat → Int32) × (Nat → Int32) × (Nat → Int32) × (Nat → Int32) × (Nat → Int32) × Int32 × (Nat → Int32) × (Nat → Int32) × (Nat → Int32))
  | 0, _, _ => none
  | n0 + 1, x17, a18 => (if (a18 (1 : Int32).toNatClampNeg) ≤ x17 then (j137_15 a18) else o_bind (fX6_differs x17 a18) (fun x20 => (if x20 = 0 then o_let (x17 + (1 : Int32)) (fun x38 => (fX6_carryNow_L52 j137_15 x12 n0 x38 a18)) else o_let (fun (x24 : Int32) => o_let (fun (x27 : Int32) => o_bind (fX6_set x17 (5 : Int32) x27 a18) (fun a29 => (if x24 = 0 then o_let (x17 + (1 : Int32)) (fun x32 => (fX6_carryNow_L52 j137_15 x12 n0 x32 a29)) else o_bind (fX6_of x17 (4 : Int32) a29) (fun x33 => o_bind (fX6_set x17 (3 : Int32) x33 a29) (fun a35 => o_let (x17 + (1 : Int32)) (fun x37 => (fX6_carryNow_L52 j137_15 x12 n0 x37 a35))))))) (fun (j109_28 : Int32 → Option (Int32 × (Nat → Int32) × (Nat → Int32) × (Nat → Int32) × (Nat → Int32) × (Nat → Int32) × Int32 × (Nat → Int32) × (Nat → Int32) × (Nat → Int32))) => (if x24 = 0 then (j109_28 (1 : Int32)) else (j109_28 (0 : Int32))))) (fun (j93_25 : Int32 → Option (Int32 × (Nat → Int32) × (Nat → Int32) × (Nat → Int32) × (Nat → Int32) × (Nat → Int32) × Int32 × (Nat → Int32) × (Nat → Int32) × (Nat → Int32))) => (if ((x12 >>> (x17 &&& 31)) &&& (1 : Int32)) = (1 : Int32) then (j93_25 (1 : Int32)) else (j93_25 (0 : Int32)))))))
def fX6_carryNow_L11 (a2 : Nat → Int32) (j49_13 : Int32 → Option (Int32 × (Nat → Int32) × (Nat → Int32) × (Nat → Int32) × (Nat → Int32) × (Nat → Int32) × Int32 × (Nat → Int32) × (Nat → Int32) × (Nat → Int32))) (p1 : Int32) : Nat → Int32 → Int32 → Option (Int32 × (Nat → Int32) × (Nat → Int32) × (Nat → Int32) × (Nat → Int32) × (Nat → Int32) × Int32 × (Nat → Int32) × (Nat → Int32) × (Nat → Int32))
  | 0, _, _ => none
  | n0 + 1, x39, x40 => (if (a2 (1 : Int32).toNatClampNeg) ≤ x40 then (j49_13 x39) else o_bind (fX6_isChosen p1 x40 a2) (fun x42 => (if x42 = 0 then o_let (x39 ||| (0 : Int32)) (fun x45 => o_let (x40 + (1 : Int32)) (fun x46 => (fX6_carryNow_L11 a2 j49_13 p1 n0 x45 x46))) else o_let (x39 ||| ((1 : Int32) <<< (x40 &&& 31))) (fun x47 => o_let (x40 + (1 : Int32)) (fun x48 => (fX6_carryNow_L11 a2 j49_13 p1 n0 x47 x48))))))
def fX6_carryNow (p1 : Int32) (m_data : Nat → Int32) (m_numberOf : Nat → Int32) (m_pageOf : Nat → Int32) (m_lineOf : Nat → Int32) (m_stands : Nat → Int32) (m_pages : Int32) (m_before : Nat → Int32) (m_told : Nat → Int32) (m_wasPrinted : Nat → Int32) : Option (Int32 × (Nat → Int32) × (Nat → Int32) × (Nat → Int32) × (Nat → Int32) × (Nat → Int32) × Int32 × (Nat → Int32) × (Nat → Int32) × (Nat → Int32)) := o_bind (fX6_costsOf p1 m_data m_numberOf m_pageOf m_lineOf m_stands m_pages m_before m_told m_wasPrinted) (fun (x1, a2, a3, a4, a5, a6, x7, a8, a9, a10) => o_let (fun (x12 : Int32) => o_let (fun (a14 : Nat → Int32) => o_let (upd a14 (2 : Int32).toNatClampNeg ((a14 (2 : Int32).toNatClampNeg) + x1)) (fun a16 => some (x1, a16, a3, a4, a5, a6, x7, a8, a9, a10))) (fun (j137_15 : (Nat → Int32) → Option (Int32 × (Nat → Int32) × (Nat → Int32) × (Nat → Int32) × (Nat → Int32) × (Nat → Int32) × Int32 × (Nat → Int32) × (Nat → Int32) × (Nat → Int32))) => (fX6_carryNow_L52 j137_15 x12 1024 (0 : Int32) a2))) (fun (j49_13 : Int32 → Option (Int32 × (Nat → Int32) × (Nat → Int32) × (Nat → Int32) × (Nat → Int32) × (Nat → Int32) × Int32 × (Nat → Int32) × (Nat → Int32) × (Nat → Int32))) => (fX6_carryNow_L11 a2 j49_13 p1 1024 (0 : Int32) (0 : Int32))))
theorem iw_X6_carryNow_X6 : ∀ w ∈ u_ws RX6 TX6 22, w ∈ wsX6_carryNow := z_inr [57, 58, 59, 60, 61, 62, 63, 64, 65, 66, 67, 68, 69, 70, 71, 72, 73, 74, 75, 76, 77, 78] rfl
set_option maxHeartbeats 4000000 in
set_option maxRecDepth 100000 in
theorem kX6_carryNow (l : Launch) (D : va_G) (cA : Nat → ClassId) (h : Nat → Nat) (p1 : Int32) (m_thrown : Int32) (m_bufferLength : Int32) (m_textLength : Int32) (m_position : Int32) (m_error : Int32) (m_errorAt : Int32) (m_errorOffset : Int32) (m_data : Nat → Int32) (m_undoDepth : Int32) (m_numberStart : Int32) (m_seen : Int32) (m_numberOf : Nat → Int32) (m_pageOf : Nat → Int32) (m_lineOf : Nat → Int32) (m_stands : Nat → Int32) (m_pages : Int32) (m_before : Nat → Int32) (m_told : Nat → Int32) (m_wasPrinted : Nat → Int32) (u : Int32 × (Nat → Int32) × (Nat → Int32) × (Nat → Int32) × (Nat → Int32) × (Nat → Int32) × Int32 × (Nat → Int32) × (Nat → Int32) × (Nat → Int32)) (hf : fX6_carryNow p1 m_data m_numberOf m_pageOf m_lineOf m_stands m_pages m_before m_told m_wasPrinted = some u) : zMi l yX6_carryNow wsX6_carryNow ({ frames := 7, cells := 0, slots := 0, locals := 161 } : Room) D (zTY cA) [.ref (h 0), .int p1] (W_X6_carryNow cA h m_thrown m_bufferLength m_textLength m_position m_error m_errorAt m_errorOffset m_data m_undoDepth m_numberStart m_seen m_numberOf m_pageOf m_lineOf m_stands m_pages m_before m_told m_wasPrinted) (W_X6_carryNow cA h m_thrown m_bufferLength m_textLength m_position m_error m_errorAt m_errorOffset (u.2.1) m_undoDepth m_numberStart m_seen (u.2.2.1) (u.2.2.2.1) (u.2.2.2.2.1) (u.2.2.2.2.2.1) (u.2.2.2.2.2.2.1) (u.2.2.2.2.2.2.2.1) (u.2.2.2.2.2.2.2.2.1) (u.2.2.2.2.2.2.2.2.2)) u.1 := by
  refine z_starti (cc := cX6_carryNow) (maxL := 6) (ret := (some .int)) (by decide) rfl (Nat.le_of_ble_eq_true rfl) ?_
  intro p e s m args below meth c A hx hb hr hts hown hlocks hml hA Z ls hl
  replace hown : s.vm.findClass RX6 = some m.cls := hown
  replace hl : lv_has ls 6 [(0, .ref (h 0)), (1, .int p1)] := hl
  obtain ⟨H, hH⟩ : ∃ H, H = s.heap := ⟨_, rfl⟩
  rw [← hH] at Z ⊢
  clear hH
  obtain ⟨locs, hlc⟩ : ∃ q : List Loc, q = [] := ⟨_, rfl⟩
  rw [← hlc] at Z ⊢
  clear hlc
  refine lv_aload_n (pc := 0) hx hb dX6_carryNow_0 rfl (lv_at hl 0 rfl) ?_
  refine lv_iload_n (pc := 1) hx hb dX6_carryNow_1 rfl (lv_at hl 1 rfl) ?_
  obtain ⟨⟨x1, a2, a3, a4, a5, a6, x7, a8, a9, a10⟩, q11, hf⟩ := o_bindE hf
  refine z_callVi (pc := 2) (As := [.int p1]) (rest := []) (Wc := (W_X6_costsOf cA (fun k => h ([0, 1, 2, 3, 4, 5, 6, 7, 8, 9, 10, 11, 12, 13, 14, 15, 16, 17, 18, 19].getD k 0)) m_thrown m_bufferLength m_textLength m_position m_error m_errorAt m_errorOffset m_data m_undoDepth m_numberStart m_seen m_numberOf m_pageOf m_lineOf m_stands m_pages m_before m_told m_wasPrinted)) (W1 := (W_X6_costsOf cA (fun k => h ([0, 1, 2, 3, 4, 5, 6, 7, 8, 9, 10, 11, 12, 13, 14, 15, 16, 17, 18, 19].getD k 0)) m_thrown m_bufferLength m_textLength m_position m_error m_errorAt m_errorOffset a2 m_undoDepth m_numberStart m_seen a3 a4 a5 a6 x7 a8 a9 a10)) (W2 := (W_X6_carryNow cA h m_thrown m_bufferLength m_textLength m_position m_error m_errorAt m_errorOffset a2 m_undoDepth m_numberStart m_seen a3 a4 a5 a6 x7 a8 a9 a10)) ⟨hx, hb, hml, hown, hts⟩ (kX6_costsOf l D cA (fun k => h ([0, 1, 2, 3, 4, 5, 6, 7, 8, 9, 10, 11, 12, 13, 14, 15, 16, 17, 18, 19].getD k 0)) p1 m_thrown m_bufferLength m_textLength m_position m_error m_errorAt m_errorOffset m_data m_undoDepth m_numberStart m_seen m_numberOf m_pageOf m_lineOf m_stands m_pages m_before m_told m_wasPrinted _ q11) (cwV 1 hts gX6_carryNow_X6_costsOf rfl rfl rfl (by decide +kernel) ⟨Nat.le_of_ble_eq_true rfl, Nat.le_of_ble_eq_true rfl⟩) Z hA [0, 1, 2, 3, 4, 5, 6, 7, 8] rfl (by decide) rfl (ci := 6) rfl rfl rfl rfl hl.1 rfl (Nat.le_of_ble_eq_true rfl) dX6_carryNow_2 ⟨Nat.zero_le _, Nat.zero_le _⟩ [some 0, some 1, some 2, some 3, some 4, some 5, some 6, some 7, some 8] rfl ⟨rfl, rfl, rfl, rfl, rfl, rfl, rfl, rfl, rfl, rfl⟩ (fun H locs Z => ?_)
  refine lv_istore_n (pc := 5) (lv' := [(2, .int x1), (0, .ref (h 0)), (1, .int p1)]) hx hb dX6_carryNow_5 rfl hl (by decide) rfl (fun ls hl => ?_)
  refine lv_iconst (pc := 6) (v := (0 : Int32)) hx hb dX6_carryNow_6 (by decide) ?_
  refine lv_istore_n (pc := 7) (lv' := [(3, .int (0 : Int32)), (2, .int x1), (0, .ref (h 0)), (1, .int p1)]) hx hb dX6_carryNow_7 rfl hl (by decide) rfl (fun ls hl => ?_)
  refine lv_iconst (pc := 8) (v := (0 : Int32)) hx hb dX6_carryNow_8 (by decide) ?_
  refine lv_istore (pc := 9) (lv' := [(4, .int (0 : Int32)), (3, .int (0 : Int32)), (2, .int x1), (0, .ref (h 0)), (1, .int p1)]) hx hb dX6_carryNow_9 hl (by decide) rfl (fun ls hl => ?_)
  obtain ⟨j49_13, ej49_13, hf⟩ := o_jnE hf
  have hj49_13 : ∀ (x12 : Int32) (H : Heap) (locs : List Loc) (ls : Array Slot), zw D (zTY cA) s A (W_X6_carryNow cA h m_thrown m_bufferLength m_textLength m_position m_error m_errorAt m_errorOffset a2 m_undoDepth m_numberStart m_seen a3 a4 a5 a6 x7 a8 a9 a10) H locs → lv_has ls 6 [(0, .ref (h 0)), (2, .int x1), (3, .int x12)] → j49_13 x12 = some u → W p l e ({ frames := 7, cells := 0, slots := 0, locals := 161 } : Room) s m args below meth c H locs 0 0 (MQ below (zQi D (zTY cA) A (W_X6_carryNow cA h m_thrown m_bufferLength m_textLength m_position m_error m_errorAt m_errorOffset (u.2.1) m_undoDepth m_numberStart m_seen (u.2.2.1) (u.2.2.2.1) (u.2.2.2.2.1) (u.2.2.2.2.2.1) (u.2.2.2.2.2.2.1) (u.2.2.2.2.2.2.2.1) (u.2.2.2.2.2.2.2.2.1) (u.2.2.2.2.2.2.2.2.2)) u.1) args s 0 0 A) (F0 m 49 ls []) := by
    intro x12 H locs ls Z hl hf
    rw [ej49_13] at hf
    refine lv_iconst (pc := 49) (v := (0 : Int32)) hx hb dX6_carryNow_49 (by decide) ?_
    refine lv_istore (pc := 50) (lv' := [(4, .int (0 : Int32)), (0, .ref (h 0)), (2, .int x1), (3, .int x12)]) hx hb dX6_carryNow_50 hl (by decide) rfl (fun ls hl => ?_)
    obtain ⟨j137_15, ej137_15, hf⟩ := o_jnE hf
    have hj137_15 : ∀ (a14 : Nat → Int32) (H : Heap) (locs : List Loc) (ls : Array Slot), zw D (zTY cA) s A (W_X6_carryNow cA h m_thrown m_bufferLength m_textLength m_position m_error m_errorAt m_errorOffset a14 m_undoDepth m_numberStart m_seen a3 a4 a5 a6 x7 a8 a9 a10) H locs → lv_has ls 6 [(0, .ref (h 0)), (2, .int x1)] → j137_15 a14 = some u → W p l e ({ frames := 7, cells := 0, slots := 0, locals := 161 } : Room) s m args below meth c H locs 0 0 (MQ below (zQi D (zTY cA) A (W_X6_carryNow cA h m_thrown m_bufferLength m_textLength m_position m_error m_errorAt m_errorOffset (u.2.1) m_undoDepth m_numberStart m_seen (u.2.2.1) (u.2.2.2.1) (u.2.2.2.2.1) (u.2.2.2.2.2.1) (u.2.2.2.2.2.2.1) (u.2.2.2.2.2.2.2.1) (u.2.2.2.2.2.2.2.2.1) (u.2.2.2.2.2.2.2.2.2)) u.1) args s 0 0 A) (F0 m 137 ls []) := by
      intro a14 H locs ls Z hl hf
      rw [ej137_15] at hf
      refine lv_aload_n (pc := 137) hx hb dX6_carryNow_137 rfl (lv_at hl 0 rfl) ?_
      refine z_get (pc := 138) (ref := "LotSheetModel") (ci := 6) (C := RX6) (T := TX6) (N := 22) hx hb hts iw_X6_carryNow_X6 hown Z 0 rfl rfl 8 (by decide) (List.mem_of_getElem? (i := 1) rfl) rfl rfl dX6_carryNow_138 ?_
      refine lv_iconst (pc := 141) (v := (2 : Int32)) hx hb dX6_carryNow_141 (by decide) ?_
      refine lv_dup2_11 (pc := 142) hx hb dX6_carryNow_142 rfl rfl ?_
      refine z_iald (pc := 143) hx hb Z 1 0 rfl rfl (show ¬ ((2 : Int32) < 0 ∨ 153 ≤ (2 : Int32).toNatClampNeg) by decide) dX6_carryNow_143 ?_
      refine lv_iload_n (pc := 144) hx hb dX6_carryNow_144 rfl (lv_at hl 1 rfl) ?_
      refine lv_iadd (pc := 145) hx hb dX6_carryNow_145 ?_
      refine z_iast (pc := 146) hx hb Z 1 0 rfl rfl (show ¬ ((2 : Int32) < 0 ∨ 153 ≤ (2 : Int32).toNatClampNeg) by decide) dX6_carryNow_146 (fun g => (W_X6_carryNow cA h m_thrown m_bufferLength m_textLength m_position m_error m_errorAt m_errorOffset g m_undoDepth m_numberStart m_seen a3 a4 a5 a6 x7 a8 a9 a10)) (fun _ => rfl) (fun a16 H locs ea16 Z => ?_)
      replace hf := o_letE ea16 hf
      refine lv_iload_n (pc := 147) hx hb dX6_carryNow_147 rfl (lv_at hl 1 rfl) ?_
      cases hf
      exact z_iret (pc := 148) hx hb hr hlocks Z rfl rfl dX6_carryNow_148
    have hL52 : ∀ (n0 : Nat) (x17 : Int32) (a18 : Nat → Int32) (H : Heap) (locs : List Loc) (ls : Array Slot), zw D (zTY cA) s A (W_X6_carryNow cA h m_thrown m_bufferLength m_textLength m_position m_error m_errorAt m_errorOffset a18 m_undoDepth m_numberStart m_seen a3 a4 a5 a6 x7 a8 a9 a10) H locs → lv_has ls 6 [(0, .ref (h 0)), (2, .int x1), (3, .int x12), (4, .int x17)] → fX6_carryNow_L52 j137_15 x12 n0 x17 a18 = some u → W p l e ({ frames := 7, cells := 0, slots := 0, locals := 161 } : Room) s m args below meth c H locs 0 0 (MQ below (zQi D (zTY cA) A (W_X6_carryNow cA h m_thrown m_bufferLength m_textLength m_position m_error m_errorAt m_errorOffset (u.2.1) m_undoDepth m_numberStart m_seen (u.2.2.1) (u.2.2.2.1) (u.2.2.2.2.1) (u.2.2.2.2.2.1) (u.2.2.2.2.2.2.1) (u.2.2.2.2.2.2.2.1) (u.2.2.2.2.2.2.2.2.1) (u.2.2.2.2.2.2.2.2.2)) u.1) args s 0 0 A) (F0 m 52 ls []) := by
      intro n0
      induction n0 with
      | zero => intro x17 a18 H locs ls Z hl hf; exact o_no hf
      | succ n0 ih0 =>
        intro x17 a18 H locs ls Z hl hf
        refine lv_iload (pc := 52) hx hb dX6_carryNow_52 (lv_at hl 3 rfl) ?_
        refine lv_aload_n (pc := 54) hx hb dX6_carryNow_54 rfl (lv_at hl 0 rfl) ?_
        refine z_get (pc := 55) (ref := "LotSheetModel") (ci := 6) (C := RX6) (T := TX6) (N := 22) hx hb hts iw_X6_carryNow_X6 hown Z 0 rfl rfl 8 (by decide) (List.mem_of_getElem? (i := 1) rfl) rfl rfl dX6_carryNow_55 ?_
        refine lv_iconst (pc := 58) (v := (1 : Int32)) hx hb dX6_carryNow_58 (by decide) ?_
        refine z_iald (pc := 59) hx hb Z 1 0 rfl rfl (show ¬ ((1 : Int32) < 0 ∨ 153 ≤ (1 : Int32).toNatClampNeg) by decide) dX6_carryNow_59 ?_
        refine lv_icmp_ge (pc := 60) (tgt := 137) hx hb dX6_carryNow_60 (by decide) (fun c19 => ?_) (fun c19 => ?_)
        · replace hf := o_pos c19 hf
          exact hj137_15 a18 H locs ls Z (lv_sub hl [0, 1] rfl) hf
        · replace hf := o_neg c19 hf
          refine lv_aload_n (pc := 63) hx hb dX6_carryNow_63 rfl (lv_at hl 0 rfl) ?_
          refine z_get (pc := 64) (ref := "LotSheetModel") (ci := 6) (C := RX6) (T := TX6) (N := 22) hx hb hts iw_X6_carryNow_X6 hown Z 0 rfl rfl 8 (by decide) (List.mem_of_getElem? (i := 1) rfl) rfl rfl dX6_carryNow_64 ?_
          refine lv_iload (pc := 67) hx hb dX6_carryNow_67 (lv_at hl 3 rfl) ?_
          obtain ⟨x20, q21, hf⟩ := o_bindE hf
          refine z_callSi (pc := 69) (As := [.ref (h 2), .int x17]) (rest := []) (Wc := (W_X6_differs cA (fun k => h ([2].getD k 0)) a18)) (W1 := (W_X6_differs cA (fun k => h ([2].getD k 0)) a18)) (W2 := (W_X6_carryNow cA h m_thrown m_bufferLength m_textLength m_position m_error m_errorAt m_errorOffset a18 m_undoDepth m_numberStart m_seen a3 a4 a5 a6 x7 a8 a9 a10)) ⟨hx, hb, hml, hown, hts⟩ (kX6_differs l D cA (fun k => h ([2].getD k 0)) x17 a18 _ q21) (va_cwS 2 hts gX6_carryNow_X6_differs rfl rfl rfl (by decide +kernel) ⟨Nat.le_of_ble_eq_true rfl, Nat.le_of_ble_eq_true rfl⟩) Z hA [1] rfl (by decide) rfl rfl hl.1 rfl (Nat.le_of_ble_eq_true rfl) dX6_carryNow_69 ⟨Nat.zero_le _, Nat.zero_le _⟩ [none, some 0, none, none, none, none, none, none, none] rfl ⟨rfl, rfl, rfl, rfl, rfl, rfl, rfl, rfl, rfl, rfl⟩ (fun H locs Z => ?_)
          refine lv_if_ne (pc := 72) (tgt := 78) hx hb dX6_carryNow_72 (by decide) (fun c22 => ?_) (fun c22 => ?_)
          · replace hf := o_neg c22 hf
            refine lv_iload_n (pc := 78) hx hb dX6_carryNow_78 rfl (lv_at hl 2 rfl) ?_
            refine lv_iload (pc := 79) hx hb dX6_carryNow_79 (lv_at hl 3 rfl) ?_
            refine lv_ishr (pc := 81) hx hb dX6_carryNow_81 ?_
            refine lv_iconst (pc := 82) (v := (1 : Int32)) hx hb dX6_carryNow_82 (by decide) ?_
            refine lv_iand (pc := 83) hx hb dX6_carryNow_83 ?_
            refine lv_iconst (pc := 84) (v := (1 : Int32)) hx hb dX6_carryNow_84 (by decide) ?_
            obtain ⟨j93_25, ej93_25, hf⟩ := o_jnE hf
            have hj93_25 : ∀ (x24 : Int32) (H : Heap) (locs : List Loc) (ls : Array Slot), zw D (zTY cA) s A (W_X6_carryNow cA h m_thrown m_bufferLength m_textLength m_position m_error m_errorAt m_errorOffset a18 m_undoDepth m_numberStart m_seen a3 a4 a5 a6 x7 a8 a9 a10) H locs → lv_has ls 6 [(0, .ref (h 0)), (2, .int x1), (3, .int x12), (4, .int x17)] → j93_25 x24 = some u → W p l e ({ frames := 7, cells := 0, slots := 0, locals := 161 } : Room) s m args below meth c H locs 0 0 (MQ below (zQi D (zTY cA) A (W_X6_carryNow cA h m_thrown m_bufferLength m_textLength m_position m_error m_errorAt m_errorOffset (u.2.1) m_undoDepth m_numberStart m_seen (u.2.2.1) (u.2.2.2.1) (u.2.2.2.2.1) (u.2.2.2.2.2.1) (u.2.2.2.2.2.2.1) (u.2.2.2.2.2.2.2.1) (u.2.2.2.2.2.2.2.2.1) (u.2.2.2.2.2.2.2.2.2)) u.1) args s 0 0 A) (F0 m 93 ls [.int x24]) := by
              intro x24 H locs ls Z hl hf
              rw [ej93_25] at hf
              refine lv_istore (pc := 93) (lv' := [(5, .int x24), (0, .ref (h 0)), (2, .int x1), (3, .int x12), (4, .int x17)]) hx hb dX6_carryNow_93 hl (by decide) rfl (fun ls hl => ?_)
              refine lv_aload_n (pc := 95) hx hb dX6_carryNow_95 rfl (lv_at hl 1 rfl) ?_
              refine lv_iload (pc := 96) hx hb dX6_carryNow_96 (lv_at hl 4 rfl) ?_
              refine lv_iconst (pc := 98) (v := (5 : Int32)) hx hb dX6_carryNow_98 (by decide) ?_
              refine lv_iload (pc := 99) hx hb dX6_carryNow_99 (lv_at hl 0 rfl) ?_
              obtain ⟨j109_28, ej109_28, hf⟩ := o_jnE hf
              have hj109_28 : ∀ (x27 : Int32) (H : Heap) (locs : List Loc) (ls : Array Slot), zw D (zTY cA) s A (W_X6_carryNow cA h m_thrown m_bufferLength m_textLength m_position m_error m_errorAt m_errorOffset a18 m_undoDepth m_numberStart m_seen a3 a4 a5 a6 x7 a8 a9 a10) H locs → lv_has ls 6 [(0, .ref (h 0)), (2, .int x1), (3, .int x12), (4, .int x17), (5, .int x24)] → j109_28 x27 = some u → W p l e ({ frames := 7, cells := 0, slots := 0, locals := 161 } : Room) s m args below meth c H locs 0 0 (MQ below (zQi D (zTY cA) A (W_X6_carryNow cA h m_thrown m_bufferLength m_textLength m_position m_error m_errorAt m_errorOffset (u.2.1) m_undoDepth m_numberStart m_seen (u.2.2.1) (u.2.2.2.1) (u.2.2.2.2.1) (u.2.2.2.2.2.1) (u.2.2.2.2.2.2.1) (u.2.2.2.2.2.2.2.1) (u.2.2.2.2.2.2.2.2.1) (u.2.2.2.2.2.2.2.2.2)) u.1) args s 0 0 A) (F0 m 109 ls [.int x27, .int (5 : Int32), .int x17, .ref (h 0)]) := by
                intro x27 H locs ls Z hl hf
                rw [ej109_28] at hf
                obtain ⟨a29, q30, hf⟩ := o_bindE hf
                refine z_callVv (pc := 109) (As := [.int x17, .int (5 : Int32), .int x27]) (rest := []) (Wc := (W_X6_set cA (fun k => h ([0, 1, 2, 3, 4, 5, 6, 7, 8, 9, 10, 11, 12, 13, 14, 15, 16, 17, 18, 19].getD k 0)) m_thrown m_bufferLength m_textLength m_position m_error m_errorAt m_errorOffset a18 m_undoDepth m_numberStart m_seen x7)) (W1 := (W_X6_set cA (fun k => h ([0, 1, 2, 3, 4, 5, 6, 7, 8, 9, 10, 11, 12, 13, 14, 15, 16, 17, 18, 19].getD k 0)) m_thrown m_bufferLength m_textLength m_position m_error m_errorAt m_errorOffset a29 m_undoDepth m_numberStart m_seen x7)) (W2 := (W_X6_carryNow cA h m_thrown m_bufferLength m_textLength m_position m_error m_errorAt m_errorOffset a29 m_undoDepth m_numberStart m_seen a3 a4 a5 a6 x7 a8 a9 a10)) ⟨hx, hb, hml, hown, hts⟩ (kX6_set l D cA (fun k => h ([0, 1, 2, 3, 4, 5, 6, 7, 8, 9, 10, 11, 12, 13, 14, 15, 16, 17, 18, 19].getD k 0)) x17 (5 : Int32) x27 m_thrown m_bufferLength m_textLength m_position m_error m_errorAt m_errorOffset a18 m_undoDepth m_numberStart m_seen x7 _ q30) (cwV 3 hts gX6_carryNow_X6_set rfl rfl rfl (by decide +kernel) ⟨Nat.le_of_ble_eq_true rfl, Nat.le_of_ble_eq_true rfl⟩) Z hA [0, 1] rfl (by decide) rfl (ci := 6) rfl rfl rfl rfl hl.1 rfl (Nat.le_of_ble_eq_true rfl) dX6_carryNow_109 ⟨Nat.zero_le _, Nat.zero_le _⟩ [some 0, some 1, none, none, none, none, none, none, none] rfl ⟨rfl, rfl, rfl, rfl, rfl, rfl, rfl, rfl, rfl, rfl⟩ (fun H locs Z => ?_)
                refine lv_iload (pc := 112) hx hb dX6_carryNow_112 (lv_at hl 4 rfl) ?_
                refine lv_if_eq (pc := 114) (tgt := 131) hx hb dX6_carryNow_114 (by decide) (fun c31 => ?_) (fun c31 => ?_)
                · replace hf := o_pos c31 hf
                  obtain ⟨x32, ex32⟩ : ∃ y : Int32, y = (x17 + (1 : Int32)) := ⟨_, rfl⟩
                  replace hf := o_letE ex32 hf
                  refine lv_iinc (pc := 131) (v := x32) (lv' := [(4, .int x32), (0, .ref (h 0)), (2, .int x1), (3, .int x12), (5, .int x24)]) hx hb dX6_carryNow_131 hl (k := 3) rfl (by rw [ex32]; rfl) (by decide) rfl (fun ls hl => ?_)
                  refine lv_goto (pc := 134) (tgt := 52) hx hb dX6_carryNow_134 (by decide) ?_
                  exact ih0 x32 a29 H locs ls Z (lv_sub hl [1, 2, 3, 0] rfl) hf
                · replace hf := o_neg c31 hf
                  refine lv_aload_n (pc := 117) hx hb dX6_carryNow_117 rfl (lv_at hl 0 rfl) ?_
                  refine lv_iload (pc := 118) hx hb dX6_carryNow_118 (lv_at hl 3 rfl) ?_
                  refine lv_iconst (pc := 120) (v := (3 : Int32)) hx hb dX6_carryNow_120 (by decide) ?_
                  refine lv_aload_n (pc := 121) hx hb dX6_carryNow_121 rfl (lv_at hl 0 rfl) ?_
                  refine lv_iload (pc := 122) hx hb dX6_carryNow_122 (lv_at hl 3 rfl) ?_
                  refine lv_iconst (pc := 124) (v := (4 : Int32)) hx hb dX6_carryNow_124 (by decide) ?_
                  obtain ⟨x33, q34, hf⟩ := o_bindE hf
                  refine z_callVi (pc := 125) (As := [.int x17, .int (4 : Int32)]) (rest := [.int (3 : Int32), .int x17, .ref (h 0)]) (Wc := (W_X6_of cA (fun k => h ([0, 1, 2, 3, 4, 5, 6, 7, 8, 9, 10, 11, 12, 13, 14, 15, 16, 17, 18, 19].getD k 0)) m_thrown m_bufferLength m_textLength m_position m_error m_errorAt m_errorOffset a29 m_undoDepth m_numberStart m_seen x7)) (W1 := (W_X6_of cA (fun k => h ([0, 1, 2, 3, 4, 5, 6, 7, 8, 9, 10, 11, 12, 13, 14, 15, 16, 17, 18, 19].getD k 0)) m_thrown m_bufferLength m_textLength m_position m_error m_errorAt m_errorOffset a29 m_undoDepth m_numberStart m_seen x7)) (W2 := (W_X6_carryNow cA h m_thrown m_bufferLength m_textLength m_position m_error m_errorAt m_errorOffset a29 m_undoDepth m_numberStart m_seen a3 a4 a5 a6 x7 a8 a9 a10)) ⟨hx, hb, hml, hown, hts⟩ (kX6_of l D cA (fun k => h ([0, 1, 2, 3, 4, 5, 6, 7, 8, 9, 10, 11, 12, 13, 14, 15, 16, 17, 18, 19].getD k 0)) x17 (4 : Int32) m_thrown m_bufferLength m_textLength m_position m_error m_errorAt m_errorOffset a29 m_undoDepth m_numberStart m_seen x7 _ q34) (cwV 2 hts gX6_carryNow_X6_of rfl rfl rfl (by decide +kernel) ⟨Nat.le_of_ble_eq_true rfl, Nat.le_of_ble_eq_true rfl⟩) Z hA [0, 1] rfl (by decide) rfl (ci := 6) rfl rfl rfl rfl hl.1 rfl (Nat.le_of_ble_eq_true rfl) dX6_carryNow_125 ⟨Nat.zero_le _, Nat.zero_le _⟩ [some 0, some 1, none, none, none, none, none, none, none] rfl ⟨rfl, rfl, rfl, rfl, rfl, rfl, rfl, rfl, rfl, rfl⟩ (fun H locs Z => ?_)
                  obtain ⟨a35, q36, hf⟩ := o_bindE hf
                  refine z_callVv (pc := 128) (As := [.int x17, .int (3 : Int32), .int x33]) (rest := []) (Wc := (W_X6_set cA (fun k => h ([0, 1, 2, 3, 4, 5, 6, 7, 8, 9, 10, 11, 12, 13, 14, 15, 16, 17, 18, 19].getD k 0)) m_thrown m_bufferLength m_textLength m_position m_error m_errorAt m_errorOffset a29 m_undoDepth m_numberStart m_seen x7)) (W1 := (W_X6_set cA (fun k => h ([0, 1, 2, 3, 4, 5, 6, 7, 8, 9, 10, 11, 12, 13, 14, 15, 16, 17, 18, 19].getD k 0)) m_thrown m_bufferLength m_textLength m_position m_error m_errorAt m_errorOffset a35 m_undoDepth m_numberStart m_seen x7)) (W2 := (W_X6_carryNow cA h m_thrown m_bufferLength m_textLength m_position m_error m_errorAt m_errorOffset a35 m_undoDepth m_numberStart m_seen a3 a4 a5 a6 x7 a8 a9 a10)) ⟨hx, hb, hml, hown, hts⟩ (kX6_set l D cA (fun k => h ([0, 1, 2, 3, 4, 5, 6, 7, 8, 9, 10, 11, 12, 13, 14, 15, 16, 17, 18, 19].getD k 0)) x17 (3 : Int32) x33 m_thrown m_bufferLength m_textLength m_position m_error m_errorAt m_errorOffset a29 m_undoDepth m_numberStart m_seen x7 _ q36) (cwV 3 hts gX6_carryNow_X6_set rfl rfl rfl (by decide +kernel) ⟨Nat.le_of_ble_eq_true rfl, Nat.le_of_ble_eq_true rfl⟩) Z hA [0, 1] rfl (by decide) rfl (ci := 6) rfl rfl rfl rfl hl.1 rfl (Nat.le_of_ble_eq_true rfl) dX6_carryNow_128 ⟨Nat.zero_le _, Nat.zero_le _⟩ [some 0, some 1, none, none, none, none, none, none, none] rfl ⟨rfl, rfl, rfl, rfl, rfl, rfl, rfl, rfl, rfl, rfl⟩ (fun H locs Z => ?_)
                  obtain ⟨x37, ex37⟩ : ∃ y : Int32, y = (x17 + (1 : Int32)) := ⟨_, rfl⟩
                  replace hf := o_letE ex37 hf
                  refine lv_iinc (pc := 131) (v := x37) (lv' := [(4, .int x37), (0, .ref (h 0)), (2, .int x1), (3, .int x12), (5, .int x24)]) hx hb dX6_carryNow_131 hl (k := 3) rfl (by rw [ex37]; rfl) (by decide) rfl (fun ls hl => ?_)
                  refine lv_goto (pc := 134) (tgt := 52) hx hb dX6_carryNow_134 (by decide) ?_
                  exact ih0 x37 a35 H locs ls Z (lv_sub hl [1, 2, 3, 0] rfl) hf
              refine lv_if_eq (pc := 101) (tgt := 108) hx hb dX6_carryNow_101 (by decide) (fun c26 => ?_) (fun c26 => ?_)
              · replace hf := o_pos c26 hf
                refine lv_iconst (pc := 108) (v := (1 : Int32)) hx hb dX6_carryNow_108 (by decide) ?_
                exact hj109_28 (1 : Int32) H locs ls Z (lv_sub hl [1, 2, 3, 4, 0] rfl) hf
              · replace hf := o_neg c26 hf
                refine lv_iconst (pc := 104) (v := (0 : Int32)) hx hb dX6_carryNow_104 (by decide) ?_
                refine lv_goto (pc := 105) (tgt := 109) hx hb dX6_carryNow_105 (by decide) ?_
                exact hj109_28 (0 : Int32) H locs ls Z (lv_sub hl [1, 2, 3, 4, 0] rfl) hf
            refine lv_icmp_ne (pc := 85) (tgt := 92) hx hb dX6_carryNow_85 (by decide) (fun c23 => ?_) (fun c23 => ?_)
            · replace hf := o_neg c23 hf
              refine lv_iconst (pc := 92) (v := (0 : Int32)) hx hb dX6_carryNow_92 (by decide) ?_
              exact hj93_25 (0 : Int32) H locs ls Z (lv_sub hl [0, 1, 2, 3] rfl) hf
            · replace hf := o_pos c23 hf
              refine lv_iconst (pc := 88) (v := (1 : Int32)) hx hb dX6_carryNow_88 (by decide) ?_
              refine lv_goto (pc := 89) (tgt := 93) hx hb dX6_carryNow_89 (by decide) ?_
              exact hj93_25 (1 : Int32) H locs ls Z (lv_sub hl [0, 1, 2, 3] rfl) hf
          · replace hf := o_pos c22 hf
            refine lv_goto (pc := 75) (tgt := 131) hx hb dX6_carryNow_75 (by decide) ?_
            obtain ⟨x38, ex38⟩ : ∃ y : Int32, y = (x17 + (1 : Int32)) := ⟨_, rfl⟩
            replace hf := o_letE ex38 hf
            refine lv_iinc (pc := 131) (v := x38) (lv' := [(4, .int x38), (0, .ref (h 0)), (2, .int x1), (3, .int x12)]) hx hb dX6_carryNow_131 hl (k := 3) rfl (by rw [ex38]; rfl) (by decide) rfl (fun ls hl => ?_)
            refine lv_goto (pc := 134) (tgt := 52) hx hb dX6_carryNow_134 (by decide) ?_
            exact ih0 x38 a18 H locs ls Z (lv_sub hl [1, 2, 3, 0] rfl) hf
    exact hL52 1024 (0 : Int32) a2 H locs ls Z (lv_sub hl [1, 2, 3, 0] rfl) hf
  have hL11 : ∀ (n0 : Nat) (x39 : Int32) (x40 : Int32) (H : Heap) (locs : List Loc) (ls : Array Slot), zw D (zTY cA) s A (W_X6_carryNow cA h m_thrown m_bufferLength m_textLength m_position m_error m_errorAt m_errorOffset a2 m_undoDepth m_numberStart m_seen a3 a4 a5 a6 x7 a8 a9 a10) H locs → lv_has ls 6 [(0, .ref (h 0)), (1, .int p1), (2, .int x1), (3, .int x39), (4, .int x40)] → fX6_carryNow_L11 a2 j49_13 p1 n0 x39 x40 = some u → W p l e ({ frames := 7, cells := 0, slots := 0, locals := 161 } : Room) s m args below meth c H locs 0 0 (MQ below (zQi D (zTY cA) A (W_X6_carryNow cA h m_thrown m_bufferLength m_textLength m_position m_error m_errorAt m_errorOffset (u.2.1) m_undoDepth m_numberStart m_seen (u.2.2.1) (u.2.2.2.1) (u.2.2.2.2.1) (u.2.2.2.2.2.1) (u.2.2.2.2.2.2.1) (u.2.2.2.2.2.2.2.1) (u.2.2.2.2.2.2.2.2.1) (u.2.2.2.2.2.2.2.2.2)) u.1) args s 0 0 A) (F0 m 11 ls []) := by
    intro n0
    induction n0 with
    | zero => intro x39 x40 H locs ls Z hl hf; exact o_no hf
    | succ n0 ih0 =>
      intro x39 x40 H locs ls Z hl hf
      refine lv_iload (pc := 11) hx hb dX6_carryNow_11 (lv_at hl 4 rfl) ?_
      refine lv_aload_n (pc := 13) hx hb dX6_carryNow_13 rfl (lv_at hl 0 rfl) ?_
      refine z_get (pc := 14) (ref := "LotSheetModel") (ci := 6) (C := RX6) (T := TX6) (N := 22) hx hb hts iw_X6_carryNow_X6 hown Z 0 rfl rfl 8 (by decide) (List.mem_of_getElem? (i := 1) rfl) rfl rfl dX6_carryNow_14 ?_
      refine lv_iconst (pc := 17) (v := (1 : Int32)) hx hb dX6_carryNow_17 (by decide) ?_
      refine z_iald (pc := 18) hx hb Z 1 0 rfl rfl (show ¬ ((1 : Int32) < 0 ∨ 153 ≤ (1 : Int32).toNatClampNeg) by decide) dX6_carryNow_18 ?_
      refine lv_icmp_ge (pc := 19) (tgt := 49) hx hb dX6_carryNow_19 (by decide) (fun c41 => ?_) (fun c41 => ?_)
      · replace hf := o_pos c41 hf
        exact hj49_13 x39 H locs ls Z (lv_sub hl [0, 2, 3] rfl) hf
      · replace hf := o_neg c41 hf
        refine lv_iload_n (pc := 22) hx hb dX6_carryNow_22 rfl (lv_at hl 3 rfl) ?_
        refine lv_aload_n (pc := 23) hx hb dX6_carryNow_23 rfl (lv_at hl 0 rfl) ?_
        refine lv_iload_n (pc := 24) hx hb dX6_carryNow_24 rfl (lv_at hl 1 rfl) ?_
        refine lv_iload (pc := 25) hx hb dX6_carryNow_25 (lv_at hl 4 rfl) ?_
        obtain ⟨x42, q43, hf⟩ := o_bindE hf
        refine z_callVi (pc := 27) (As := [.int p1, .int x40]) (rest := [.int x39]) (Wc := (W_X6_isChosen cA (fun k => h ([0, 1, 2, 3, 4, 5, 6, 7, 8, 9, 10, 11, 12, 13, 14, 15, 16, 17, 18, 19].getD k 0)) m_thrown m_bufferLength m_textLength m_position m_error m_errorAt m_errorOffset a2 m_undoDepth m_numberStart m_seen x7)) (W1 := (W_X6_isChosen cA (fun k => h ([0, 1, 2, 3, 4, 5, 6, 7, 8, 9, 10, 11, 12, 13, 14, 15, 16, 17, 18, 19].getD k 0)) m_thrown m_bufferLength m_textLength m_position m_error m_errorAt m_errorOffset a2 m_undoDepth m_numberStart m_seen x7)) (W2 := (W_X6_carryNow cA h m_thrown m_bufferLength m_textLength m_position m_error m_errorAt m_errorOffset a2 m_undoDepth m_numberStart m_seen a3 a4 a5 a6 x7 a8 a9 a10)) ⟨hx, hb, hml, hown, hts⟩ (kX6_isChosen l D cA (fun k => h ([0, 1, 2, 3, 4, 5, 6, 7, 8, 9, 10, 11, 12, 13, 14, 15, 16, 17, 18, 19].getD k 0)) p1 x40 m_thrown m_bufferLength m_textLength m_position m_error m_errorAt m_errorOffset a2 m_undoDepth m_numberStart m_seen x7 _ q43) (cwV 2 hts gX6_carryNow_X6_isChosen rfl rfl rfl (by decide +kernel) ⟨Nat.le_of_ble_eq_true rfl, Nat.le_of_ble_eq_true rfl⟩) Z hA [0, 1] rfl (by decide) rfl (ci := 6) rfl rfl rfl rfl hl.1 rfl (Nat.le_of_ble_eq_true rfl) dX6_carryNow_27 ⟨Nat.zero_le _, Nat.zero_le _⟩ [some 0, some 1, none, none, none, none, none, none, none] rfl ⟨rfl, rfl, rfl, rfl, rfl, rfl, rfl, rfl, rfl, rfl⟩ (fun H locs Z => ?_)
        refine lv_if_eq (pc := 30) (tgt := 40) hx hb dX6_carryNow_30 (by decide) (fun c44 => ?_) (fun c44 => ?_)
        · replace hf := o_pos c44 hf
          refine lv_iconst (pc := 40) (v := (0 : Int32)) hx hb dX6_carryNow_40 (by decide) ?_
          refine lv_ior (pc := 41) hx hb dX6_carryNow_41 ?_
          refine lv_topi (fun x45 ex45 => ?_)
          replace hf := o_letE ex45 hf
          refine lv_istore_n (pc := 42) (lv' := [(3, .int x45), (0, .ref (h 0)), (1, .int p1), (2, .int x1), (4, .int x40)]) hx hb dX6_carryNow_42 rfl hl (by decide) rfl (fun ls hl => ?_)
          obtain ⟨x46, ex46⟩ : ∃ y : Int32, y = (x40 + (1 : Int32)) := ⟨_, rfl⟩
          replace hf := o_letE ex46 hf
          refine lv_iinc (pc := 43) (v := x46) (lv' := [(4, .int x46), (3, .int x45), (0, .ref (h 0)), (1, .int p1), (2, .int x1)]) hx hb dX6_carryNow_43 hl (k := 4) rfl (by rw [ex46]; rfl) (by decide) rfl (fun ls hl => ?_)
          refine lv_goto (pc := 46) (tgt := 11) hx hb dX6_carryNow_46 (by decide) ?_
          exact ih0 x45 x46 H locs ls Z (lv_sub hl [2, 3, 4, 1, 0] rfl) hf
        · replace hf := o_neg c44 hf
          refine lv_iconst (pc := 33) (v := (1 : Int32)) hx hb dX6_carryNow_33 (by decide) ?_
          refine lv_iload (pc := 34) hx hb dX6_carryNow_34 (lv_at hl 4 rfl) ?_
          refine lv_ishl (pc := 36) hx hb dX6_carryNow_36 ?_
          refine lv_goto (pc := 37) (tgt := 41) hx hb dX6_carryNow_37 (by decide) ?_
          refine lv_ior (pc := 41) hx hb dX6_carryNow_41 ?_
          refine lv_topi (fun x47 ex47 => ?_)
          replace hf := o_letE ex47 hf
          refine lv_istore_n (pc := 42) (lv' := [(3, .int x47), (0, .ref (h 0)), (1, .int p1), (2, .int x1), (4, .int x40)]) hx hb dX6_carryNow_42 rfl hl (by decide) rfl (fun ls hl => ?_)
          obtain ⟨x48, ex48⟩ : ∃ y : Int32, y = (x40 + (1 : Int32)) := ⟨_, rfl⟩
          replace hf := o_letE ex48 hf
          refine lv_iinc (pc := 43) (v := x48) (lv' := [(4, .int x48), (3, .int x47), (0, .ref (h 0)), (1, .int p1), (2, .int x1)]) hx hb dX6_carryNow_43 hl (k := 4) rfl (by rw [ex48]; rfl) (by decide) rfl (fun ls hl => ?_)
          refine lv_goto (pc := 46) (tgt := 11) hx hb dX6_carryNow_46 (by decide) ?_
          exact ih0 x47 x48 H locs ls Z (lv_sub hl [2, 3, 4, 1, 0] rfl) hf
  exact hL11 1024 (0 : Int32) (0 : Int32) H locs ls Z (lv_sub hl [3, 4, 2, 1, 0] rfl) hf
