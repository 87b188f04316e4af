def W_X6_bestOf (cA : Nat → ClassId) (h : Nat → Nat) (m_thrown : Int32) (m_bufferLength : Int32) (m_textLength : Int32) (m_position : Int32) (m_error : Int32) (m_errorAt : Int32) (m_errorOffset : Int32) (m_data : Nat → Int32) (m_undoDepth : Int32) (m_numberStart : Int32) (m_seen : Int32) (m_numberOf : Nat → Int32) (m_pageOf : Nat → Int32) (m_lineOf : Nat → Int32) (m_stands : Nat → Int32) (m_pages : Int32) (m_before : Nat → Int32) (m_told : Nat → Int32) (m_wasPrinted : Nat → Int32) : va_W := [(h 0, .inr (6, [.int m_thrown, .ref (h 1), .int m_bufferLength, .int m_textLength, .int m_position, .int m_error, .int m_errorAt, .int m_errorOffset, .ref (h 2), .ref (h 3), .ref (h 4), .int m_undoDepth, .int m_numberStart, .int m_seen, .ref (h 13), .ref (h 14), .ref (h 15), .ref (h 16), .int m_pages, .ref (h 17), .ref (h 18), .ref (h 19)])), (h 2, .inl (cA 0, 153, .inl m_data)), (h 13, .inl (cA 0, 24, .inl m_numberOf)), (h 14, .inl (cA 0, 24, .inl m_pageOf)), (h 15, .inl (cA 0, 24, .inl m_lineOf)), (h 16, .inl (cA 0, 960, .inl m_stands)), (h 17, .inl (cA 0, 960, .inl m_before)), (h 18, .inl (cA 0, 7, .inl m_told)), (h 19, .inl (cA 0, 24, .inl m_wasPrinted))]
def fX6_bestOf_L8 (p1 : Int32) (p2 : Int32) : Nat → Int32 → Int32 → Int32 → (Nat → Int32) → (Nat → Int32) → (Nat → Int32) → (Nat → Int32) → (Nat → Int32) → Int32 → (Nat → Int32) → (Nat → Int32) → (Nat → Int32) → Option (Int32 × (Nat → Int32) × (Nat → Int32) × (Nat → Int32) × (Nat → Int32) × (Nat → Int32) × Int32 × (Nat → Int32) × (Nat → Int32) × (Nat → Int32))
  | 0, _, _, _, _, _, _, _, _, _, _, _, _ => none
  | n0 + 1, x1, x2, x3, a4, a5, a6, a7, a8, x9, a10, a11, a12 => o_bind (fX6_different a4) (fun x13 => (if ((1 : Int32) <<< (x13 &&& 31)) ≤ x3 then some (x1, a4, a5, a6, a7, a8, x9, a10, a11, a12) else (if (x3 &&& p1) = p1 then (if (x3 &&& p2) = 0 then o_bind (fX6_costsOf x3 a4 a5 a6 a7 a8 x9 a10 a11 a12) (fun (x19, a20, a21, a22, a23, a24, x25, a26, a27, a28) => o_let (o_let (x3 + (1 : Int32)) (fun x32 => (fX6_bestOf_L8 p1 p2 n0 x3 x19 x32 a20 a21 a22 a23 a24 x25 a26 a27 a28))) (fun (j63_31 : Option (Int32 × (Nat → Int32) × (Nat → Int32) × (Nat → Int32) × (Nat → Int32) × (Nat → Int32) × Int32 × (Nat → Int32) × (Nat → Int32) × (Nat → Int32))) => (if x1 = (-1 : Int32) then j63_31 else (if x19 < x2 then j63_31 else o_let (x3 + (1 : Int32)) (fun x34 => (fX6_bestOf_L8 p1 p2 n0 x1 x2 x34 a20 a21 a22 a23 a24 x25 a26 a27 a28)))))) else o_let (x3 + (1 : Int32)) (fun x35 => (fX6_bestOf_L8 p1 p2 n0 x1 x2 x35 a4 a5 a6 a7 a8 x9 a10 a11 a12))) else o_let (x3 + (1 : Int32)) (fun x17 => (fX6_bestOf_L8 p1 p2 n0 x1 x2 x17 a4 a5 a6 a7 a8 x9 a10 a11 a12)))))
def fX6_bestOf (p1 : Int32) (p2 : Int32) (m_data : Nat → Int32) (m_numberOf : Nat → Int32) (m_pageOf : Nat → Int32) (m_lineOf : Nat → Int32) (m_stands : Nat → Int32) (m_pages : Int32) (m_before : Nat → Int32) (m_told : Nat → Int32) (m_wasPrinted : Nat → Int32) : Option (Int32 × (Nat → Int32) × (Nat → Int32) × (Nat → Int32) × (Nat → Int32) × (Nat → Int32) × Int32 × (Nat → Int32) × (Nat → Int32) × (Nat → Int32)) := (fX6_bestOf_L8 p1 p2 1024 (-1 : Int32) (0 : Int32) (0 : Int32) m_data m_numberOf m_pageOf m_lineOf m_stands m_pages m_before m_told m_wasPrinted)
theorem iw_X6_bestOf_X6 : ∀ w ∈ u_ws RX6 TX6 22, w ∈ wsX6_bestOf := z_inr [60, 61, 62, 63, 64, 65, 66, 67, 68, 69, 70, 71, 72, 73, 74, 75, 76, 77, 78, 79, 80, 81] rfl
set_option maxHeartbeats 4000000 in
set_option maxRecDepth 100000 in
theorem kX6_bestOf (l : Launch) (D : va_G) (cA : Nat → ClassId) (h : Nat → Nat) (p1 : Int32) (p2 : Int32) (m_thrown : Int32) (m_bufferLength : Int32) (m_textLength : Int32) (m_position : Int32) (m_error : Int32) (m_errorAt : Int32) (m_errorOffset : Int32) (m_data : Nat → Int32) (m_undoDepth : Int32) (m_numberStart : Int32) (m_seen : Int32) (m_numberOf : Nat → Int32) (m_pageOf : Nat → Int32) (m_lineOf : Nat → Int32) (m_stands : Nat → Int32) (m_pages : Int32) (m_before : Nat → Int32) (m_told : Nat → Int32) (m_wasPrinted : Nat → Int32) (u : Int32 × (Nat → Int32) × (Nat → Int32) × (Nat → Int32) × (Nat → Int32) × (Nat → Int32) × Int32 × (Nat → Int32) × (Nat → Int32) × (Nat → Int32)) (hf : fX6_bestOf p1 p2 m_data m_numberOf m_pageOf m_lineOf m_stands m_pages m_before m_told m_wasPrinted = some u) : zMi l yX6_bestOf wsX6_bestOf ({ frames := 7, cells := 0, slots := 0, locals := 161 } : Room) D (zTY cA) [.ref (h 0), .int p1, .int p2] (W_X6_bestOf cA h m_thrown m_bufferLength m_textLength m_position m_error m_errorAt m_errorOffset m_data m_undoDepth m_numberStart m_seen m_numberOf m_pageOf m_lineOf m_stands m_pages m_before m_told m_wasPrinted) (W_X6_bestOf cA h m_thrown m_bufferLength m_textLength m_position m_error m_errorAt m_errorOffset (u.2.1) m_undoDepth m_numberStart m_seen (u.2.2.1) (u.2.2.2.1) (u.2.2.2.2.1) (u.2.2.2.2.2.1) (u.2.2.2.2.2.2.1) (u.2.2.2.2.2.2.2.1) (u.2.2.2.2.2.2.2.2.1) (u.2.2.2.2.2.2.2.2.2)) u.1 := by
  refine z_starti (cc := cX6_bestOf) (maxL := 7) (ret := (some .int)) (by decide) rfl (Nat.le_of_ble_eq_true rfl) ?_
  intro p e s m args below meth c A hx hb hr hts hown hlocks hml hA Z ls hl
  replace hown : s.vm.findClass RX6 = some m.cls := hown
  replace hl : lv_has ls 7 [(0, .ref (h 0)), (1, .int p1), (2, .int p2)] := hl
  obtain ⟨H, hH⟩ : ∃ H, H = s.heap := ⟨_, rfl⟩
  rw [← hH] at Z ⊢
  clear hH
  obtain ⟨locs, hlc⟩ : ∃ q : List Loc, q = [] := ⟨_, rfl⟩
  rw [← hlc] at Z ⊢
  clear hlc
  refine lv_iconst (pc := 0) (v := (-1 : Int32)) hx hb dX6_bestOf_0 (by decide) ?_
  refine lv_istore_n (pc := 1) (lv' := [(3, .int (-1 : Int32)), (0, .ref (h 0)), (1, .int p1), (2, .int p2)]) hx hb dX6_bestOf_1 rfl hl (by decide) rfl (fun ls hl => ?_)
  refine lv_iconst (pc := 2) (v := (0 : Int32)) hx hb dX6_bestOf_2 (by decide) ?_
  refine lv_istore (pc := 3) (lv' := [(4, .int (0 : Int32)), (3, .int (-1 : Int32)), (0, .ref (h 0)), (1, .int p1), (2, .int p2)]) hx hb dX6_bestOf_3 hl (by decide) rfl (fun ls hl => ?_)
  refine lv_iconst (pc := 5) (v := (0 : Int32)) hx hb dX6_bestOf_5 (by decide) ?_
  refine lv_istore (pc := 6) (lv' := [(5, .int (0 : Int32)), (4, .int (0 : Int32)), (3, .int (-1 : Int32)), (0, .ref (h 0)), (1, .int p1), (2, .int p2)]) hx hb dX6_bestOf_6 hl (by decide) rfl (fun ls hl => ?_)
  have hL8 : ∀ (n0 : Nat) (x1 : Int32) (x2 : Int32) (x3 : Int32) (a4 : Nat → Int32) (a5 : Nat → Int32) (a6 : Nat → Int32) (a7 : Nat → Int32) (a8 : Nat → Int32) (x9 : Int32) (a10 : Nat → Int32) (a11 : Nat → Int32) (a12 : Nat → Int32) (H : Heap) (locs : List Loc) (ls : Array Slot), zw D (zTY cA) s A (W_X6_bestOf cA h m_thrown m_bufferLength m_textLength m_position m_error m_errorAt m_errorOffset a4 m_undoDepth m_numberStart m_seen a5 a6 a7 a8 x9 a10 a11 a12) H locs → lv_has ls 7 [(0, .ref (h 0)), (1, .int p1), (2, .int p2), (3, .int x1), (4, .int x2), (5, .int x3)] → fX6_bestOf_L8 p1 p2 n0 x1 x2 x3 a4 a5 a6 a7 a8 x9 a10 a11 a12 = some u → W p l e ({ frames := 7, cells := 0, slots := 0, locals := 161 } : Room) s m args below meth c H locs 0 0 (MQ below (zQi D (zTY cA) A (W_X6_bestOf cA h m_thrown m_bufferLength m_textLength m_position m_error m_errorAt m_errorOffset (u.2.1) m_undoDepth m_numberStart m_seen (u.2.2.1) (u.2.2.2.1) (u.2.2.2.2.1) (u.2.2.2.2.2.1) (u.2.2.2.2.2.2.1) (u.2.2.2.2.2.2.2.1) (u.2.2.2.2.2.2.2.2.1) (u.2.2.2.2.2.2.2.2.2)) u.1) args s 0 0 A) (F0 m 8 ls []) := by
    intro n0
    induction n0 with
    | zero => intro x1 x2 x3 a4 a5 a6 a7 a8 x9 a10 a11 a12 H locs ls Z hl hf; exact o_no hf
    | succ n0 ih0 =>
      intro x1 x2 x3 a4 a5 a6 a7 a8 x9 a10 a11 a12 H locs ls Z hl hf
      refine lv_iload (pc := 8) hx hb dX6_bestOf_8 (lv_at hl 5 rfl) ?_
      refine lv_iconst (pc := 10) (v := (1 : Int32)) hx hb dX6_bestOf_10 (by decide) ?_
      refine lv_aload_n (pc := 11) hx hb dX6_bestOf_11 rfl (lv_at hl 0 rfl) ?_
      refine z_get (pc := 12) (ref := "LotSheetModel") (ci := 6) (C := RX6) (T := TX6) (N := 22) hx hb hts iw_X6_bestOf_X6 hown Z 0 rfl rfl 8 (by decide) (List.mem_of_getElem? (i := 1) rfl) rfl rfl dX6_bestOf_12 ?_
      obtain ⟨x13, q14, hf⟩ := o_bindE hf
      refine z_callSi (pc := 15) (As := [.ref (h 2)]) (rest := [.int (1 : Int32), .int x3]) (Wc := (W_X6_different cA (fun k => h ([2].getD k 0)) a4)) (W1 := (W_X6_different cA (fun k => h ([2].getD k 0)) a4)) (W2 := (W_X6_bestOf cA h m_thrown m_bufferLength m_textLength m_position m_error m_errorAt m_errorOffset a4 m_undoDepth m_numberStart m_seen a5 a6 a7 a8 x9 a10 a11 a12)) ⟨hx, hb, hml, hown, hts⟩ (kX6_different l D cA (fun k => h ([2].getD k 0)) a4 _ q14) (va_cwS 1 hts gX6_bestOf_X6_different rfl rfl rfl (by decide +kernel) ⟨Nat.le_of_ble_eq_true rfl, Nat.le_of_ble_eq_true rfl⟩) Z hA [1] rfl (by decide) rfl rfl hl.1 rfl (Nat.le_of_ble_eq_true rfl) dX6_bestOf_15 ⟨Nat.zero_le _, Nat.zero_le _⟩ [none, some 0, none, none, none, none, none, none, none] rfl ⟨rfl, rfl, rfl, rfl, rfl, rfl, rfl, rfl, rfl, rfl⟩ (fun H locs Z => ?_)
      refine lv_ishl (pc := 18) hx hb dX6_bestOf_18 ?_
      refine lv_icmp_ge (pc := 19) (tgt := 76) hx hb dX6_bestOf_19 (by decide) (fun c15 => ?_) (fun c15 => ?_)
      · replace hf := o_pos c15 hf
        refine lv_iload_n (pc := 76) hx hb dX6_bestOf_76 rfl (lv_at hl 3 rfl) ?_
        cases hf
        exact z_iret (pc := 77) hx hb hr hlocks Z rfl rfl dX6_bestOf_77
      · replace hf := o_neg c15 hf
        refine lv_iload (pc := 22) hx hb dX6_bestOf_22 (lv_at hl 5 rfl) ?_
        refine lv_iload_n (pc := 24) hx hb dX6_bestOf_24 rfl (lv_at hl 1 rfl) ?_
        refine lv_iand (pc := 25) hx hb dX6_bestOf_25 ?_
        refine lv_iload_n (pc := 26) hx hb dX6_bestOf_26 rfl (lv_at hl 1 rfl) ?_
        refine lv_icmp_ne (pc := 27) (tgt := 70) hx hb dX6_bestOf_27 (by decide) (fun c16 => ?_) (fun c16 => ?_)
        · replace hf := o_neg c16 hf
          obtain ⟨x17, ex17⟩ : ∃ y : Int32, y = (x3 + (1 : Int32)) := ⟨_, rfl⟩
          replace hf := o_letE ex17 hf
          refine lv_iinc (pc := 70) (v := x17) (lv' := [(5, .int x17), (0, .ref (h 0)), (1, .int p1), (2, .int p2), (3, .int x1), (4, .int x2)]) hx hb dX6_bestOf_70 hl (k := 5) rfl (by rw [ex17]; rfl) (by decide) rfl (fun ls hl => ?_)
          refine lv_goto (pc := 73) (tgt := 8) hx hb dX6_bestOf_73 (by decide) ?_
          exact ih0 x1 x2 x17 a4 a5 a6 a7 a8 x9 a10 a11 a12 H locs ls Z (lv_sub hl [1, 2, 3, 4, 5, 0] rfl) hf
        · replace hf := o_pos c16 hf
          refine lv_iload (pc := 30) hx hb dX6_bestOf_30 (lv_at hl 5 rfl) ?_
          refine lv_iload_n (pc := 32) hx hb dX6_bestOf_32 rfl (lv_at hl 2 rfl) ?_
          refine lv_iand (pc := 33) hx hb dX6_bestOf_33 ?_
          refine lv_if_eq (pc := 34) (tgt := 40) hx hb dX6_bestOf_34 (by decide) (fun c18 => ?_) (fun c18 => ?_)
          · replace hf := o_pos c18 hf
            refine lv_aload_n (pc := 40) hx hb dX6_bestOf_40 rfl (lv_at hl 0 rfl) ?_
            refine lv_iload (pc := 41) hx hb dX6_bestOf_41 (lv_at hl 5 rfl) ?_
            obtain ⟨⟨x19, a20, a21, a22, a23, a24, x25, a26, a27, a28⟩, q29, hf⟩ := o_bindE hf
            refine z_callVi (pc := 43) (As := [.int x3]) (rest := []) (Wc := (W_X6_costsOf cA (fun k => h ([0, 1, 2, 3, 4, 5, 6, 7, 8, 9, 10, 11, 12, 13, 14, 15, 16, 17, 18, 19].getD k 0)) m_thrown m_bufferLength m_textLength m_position m_error m_errorAt m_errorOffset a4 m_undoDepth m_numberStart m_seen a5 a6 a7 a8 x9 a10 a11 a12)) (W1 := (W_X6_costsOf cA (fun k => h ([0, 1, 2, 3, 4, 5, 6, 7, 8, 9, 10, 11, 12, 13, 14, 15, 16, 17, 18, 19].getD k 0)) m_thrown m_bufferLength m_textLength m_position m_error m_errorAt m_errorOffset a20 m_undoDepth m_numberStart m_seen a21 a22 a23 a24 x25 a26 a27 a28)) (W2 := (W_X6_bestOf cA h m_thrown m_bufferLength m_textLength m_position m_error m_errorAt m_errorOffset a20 m_undoDepth m_numberStart m_seen a21 a22 a23 a24 x25 a26 a27 a28)) ⟨hx, hb, hml, hown, hts⟩ (kX6_costsOf l D cA (fun k => h ([0, 1, 2, 3, 4, 5, 6, 7, 8, 9, 10, 11, 12, 13, 14, 15, 16, 17, 18, 19].getD k 0)) x3 m_thrown m_bufferLength m_textLength m_position m_error m_errorAt m_errorOffset a4 m_undoDepth m_numberStart m_seen a5 a6 a7 a8 x9 a10 a11 a12 _ q29) (cwV 1 hts gX6_bestOf_X6_costsOf rfl rfl rfl (by decide +kernel) ⟨Nat.le_of_ble_eq_true rfl, Nat.le_of_ble_eq_true rfl⟩) Z hA [0, 1, 2, 3, 4, 5, 6, 7, 8] rfl (by decide) rfl (ci := 6) rfl rfl rfl rfl hl.1 rfl (Nat.le_of_ble_eq_true rfl) dX6_bestOf_43 ⟨Nat.zero_le _, Nat.zero_le _⟩ [some 0, some 1, some 2, some 3, some 4, some 5, some 6, some 7, some 8] rfl ⟨rfl, rfl, rfl, rfl, rfl, rfl, rfl, rfl, rfl, rfl⟩ (fun H locs Z => ?_)
            refine lv_istore (pc := 46) (lv' := [(6, .int x19), (0, .ref (h 0)), (1, .int p1), (2, .int p2), (3, .int x1), (4, .int x2), (5, .int x3)]) hx hb dX6_bestOf_46 hl (by decide) rfl (fun ls hl => ?_)
            refine lv_iload_n (pc := 48) hx hb dX6_bestOf_48 rfl (lv_at hl 4 rfl) ?_
            refine lv_iconst (pc := 49) (v := (-1 : Int32)) hx hb dX6_bestOf_49 (by decide) ?_
            obtain ⟨j63_31, ej63_31, hf⟩ := o_jnE hf
            have hj63_31 : ∀ (H : Heap) (locs : List Loc) (ls : Array Slot), zw D (zTY cA) s A (W_X6_bestOf cA h m_thrown m_bufferLength m_textLength m_position m_error m_errorAt m_errorOffset a20 m_undoDepth m_numberStart m_seen a21 a22 a23 a24 x25 a26 a27 a28) H locs → lv_has ls 7 [(0, .ref (h 0)), (1, .int p1), (2, .int p2), (5, .int x3), (6, .int x19)] → j63_31 = some u → W p l e ({ frames := 7, cells := 0, slots := 0, locals := 161 } : Room) s m args below meth c H locs 0 0 (MQ below (zQi D (zTY cA) A (W_X6_bestOf cA h m_thrown m_bufferLength m_textLength m_position m_error m_errorAt m_errorOffset (u.2.1) m_undoDepth m_numberStart m_seen (u.2.2.1) (u.2.2.2.1) (u.2.2.2.2.1) (u.2.2.2.2.2.1) (u.2.2.2.2.2.2.1) (u.2.2.2.2.2.2.2.1) (u.2.2.2.2.2.2.2.2.1) (u.2.2.2.2.2.2.2.2.2)) u.1) args s 0 0 A) (F0 m 63 ls []) := by
              intro H locs ls Z hl hf
              rw [ej63_31] at hf
              refine lv_iload (pc := 63) hx hb dX6_bestOf_63 (lv_at hl 3 rfl) ?_
              refine lv_istore_n (pc := 65) (lv' := [(3, .int x3), (0, .ref (h 0)), (1, .int p1), (2, .int p2), (5, .int x3), (6, .int x19)]) hx hb dX6_bestOf_65 rfl hl (by decide) rfl (fun ls hl => ?_)
              refine lv_iload (pc := 66) hx hb dX6_bestOf_66 (lv_at hl 5 rfl) ?_
              refine lv_istore (pc := 68) (lv' := [(4, .int x19), (3, .int x3), (0, .ref (h 0)), (1, .int p1), (2, .int p2), (5, .int x3), (6, .int x19)]) hx hb dX6_bestOf_68 hl (by decide) rfl (fun ls hl => ?_)
              obtain ⟨x32, ex32⟩ : ∃ y : Int32, y = (x3 + (1 : Int32)) := ⟨_, rfl⟩
              replace hf := o_letE ex32 hf
              refine lv_iinc (pc := 70) (v := x32) (lv' := [(5, .int x32), (4, .int x19), (3, .int x3), (0, .ref (h 0)), (1, .int p1), (2, .int p2), (6, .int x19)]) hx hb dX6_bestOf_70 hl (k := 5) rfl (by rw [ex32]; rfl) (by decide) rfl (fun ls hl => ?_)
              refine lv_goto (pc := 73) (tgt := 8) hx hb dX6_bestOf_73 (by decide) ?_
              exact ih0 x3 x19 x32 a20 a21 a22 a23 a24 x25 a26 a27 a28 H locs ls Z (lv_sub hl [3, 4, 5, 2, 1, 0] rfl) hf
            refine lv_icmp_eq (pc := 50) (tgt := 63) hx hb dX6_bestOf_50 (by decide) (fun c30 => ?_) (fun c30 => ?_)
            · replace hf := o_pos c30 hf
              exact hj63_31 H locs ls Z (lv_sub hl [1, 2, 3, 6, 0] rfl) hf
            · replace hf := o_neg c30 hf
              refine lv_iload (pc := 53) hx hb dX6_bestOf_53 (lv_at hl 0 rfl) ?_
              refine lv_iload (pc := 55) hx hb dX6_bestOf_55 (lv_at hl 5 rfl) ?_
              refine lv_icmp_lt (pc := 57) (tgt := 63) hx hb dX6_bestOf_57 (by decide) (fun c33 => ?_) (fun c33 => ?_)
              · replace hf := o_pos c33 hf
                exact hj63_31 H locs ls Z (lv_sub hl [1, 2, 3, 6, 0] rfl) hf
              · replace hf := o_neg c33 hf
                refine lv_goto (pc := 60) (tgt := 70) hx hb dX6_bestOf_60 (by decide) ?_
                obtain ⟨x34, ex34⟩ : ∃ y : Int32, y = (x3 + (1 : Int32)) := ⟨_, rfl⟩
                replace hf := o_letE ex34 hf
                refine lv_iinc (pc := 70) (v := x34) (lv' := [(5, .int x34), (6, .int x19), (0, .ref (h 0)), (1, .int p1), (2, .int p2), (3, .int x1), (4, .int x2)]) hx hb dX6_bestOf_70 hl (k := 6) rfl (by rw [ex34]; rfl) (by decide) rfl (fun ls hl => ?_)
                refine lv_goto (pc := 73) (tgt := 8) hx hb dX6_bestOf_73 (by decide) ?_
                exact ih0 x1 x2 x34 a20 a21 a22 a23 a24 x25 a26 a27 a28 H locs ls Z (lv_sub hl [2, 3, 4, 5, 6, 0] rfl) hf
          · replace hf := o_neg c18 hf
            refine lv_goto (pc := 37) (tgt := 70) hx hb dX6_bestOf_37 (by decide) ?_
            obtain ⟨x35, ex35⟩ : ∃ y : Int32, y = (x3 + (1 : Int32)) := ⟨_, rfl⟩
            replace hf := o_letE ex35 hf
            refine lv_iinc (pc := 70) (v := x35) (lv' := [(5, .int x35), (0, .ref (h 0)), (1, .int p1), (2, .int p2), (3, .int x1), (4, .int x2)]) hx hb dX6_bestOf_70 hl (k := 5) rfl (by rw [ex35]; rfl) (by decide) rfl (fun ls hl => ?_)
            refine lv_goto (pc := 73) (tgt := 8) hx hb dX6_bestOf_73 (by decide) ?_
            exact ih0 x1 x2 x35 a4 a5 a6 a7 a8 x9 a10 a11 a12 H locs ls Z (lv_sub hl [1, 2, 3, 4, 5, 0] rfl) hf
  exact hL8 1024 (-1 : Int32) (0 : Int32) (0 : Int32) m_data m_numberOf m_pageOf m_lineOf m_stands m_pages m_before m_told m_wasPrinted H locs ls Z (lv_sub hl [3, 4, 5, 2, 1, 0] rfl) hf
