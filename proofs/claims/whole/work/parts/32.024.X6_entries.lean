def W_X6_entries (cA : Nat → ClassId) (h : Nat → Nat) (m_thrown : Int32) (m_bufferLength : Int32) (m_textLength : Int32) (m_position : Int32) (m_error : Int32) (m_errorAt : Int32) (m_errorOffset : Int32) (m_data : Nat → Int32) (m_undoDepth : Int32) (m_numberStart : Int32) (m_seen : Int32) (m_pages : Int32) : va_W := [(h 0, .inr (6, [.int m_thrown, .ref (h 1), .int m_bufferLength, .int m_textLength, .int m_position, .int m_error, .int m_errorAt, .int m_errorOffset, .ref (h 2), .ref (h 3), .ref (h 4), .int m_undoDepth, .int m_numberStart, .int m_seen, .ref (h 13), .ref (h 14), .ref (h 15), .ref (h 16), .int m_pages, .ref (h 17), .ref (h 18), .ref (h 19)])), (h 2, .inl (cA 0, 153, .inl m_data))]
def fX6_entries_L4 (m_data : Nat → Int32) (p1 : Int32) : Nat → Int32 → Int32 → Option (Int32)
  | 0, _, _ => none
  | n0 + 1, x1, x2 => (if (m_data (1 : Int32).toNatClampNeg) ≤ x2 then some (x1) else o_bind (fX6_differs x2 m_data) (fun x4 => o_let (o_let (x1 + (0 : Int32)) (fun x8 => o_let (x2 + (1 : Int32)) (fun x9 => (fX6_entries_L4 m_data p1 n0 x8 x9)))) (fun (j48_7 : Option (Int32)) => (if x4 = 0 then j48_7 else o_bind (fX6_isChosen p1 x2 m_data) (fun x10 => (if x10 = 0 then o_bind (fX6_of x2 (5 : Int32) m_data) (fun x13 => (if x13 = 0 then o_let (x1 + (1 : Int32)) (fun x16 => o_let (x2 + (1 : Int32)) (fun x17 => (fX6_entries_L4 m_data p1 n0 x16 x17))) else j48_7)) else j48_7))))))
def fX6_entries (p1 : Int32) (m_data : Nat → Int32) : Option (Int32) := (fX6_entries_L4 m_data p1 1024 (0 : Int32) (0 : Int32))
theorem iw_X6_entries_X6 : ∀ w ∈ u_ws RX6 TX6 22, w ∈ wsX6_entries := z_inr [21, 22, 23, 24, 25, 26, 27, 28, 29, 30, 31, 32, 33, 34, 35, 36, 37, 38, 39, 40, 41, 42] rfl
set_option maxHeartbeats 4000000 in
set_option maxRecDepth 100000 in
theorem kX6_entries (l : Launch) (D : va_G) (cA : Nat → ClassId) (h : Nat → Nat) (p1 : Int32) (m_thrown : Int32) (m_bufferLength : Int32) (m_textLength : Int32) (m_position : Int32) (m_error : Int32) (m_errorAt : Int32) (m_errorOffset : Int32) (m_data : Nat → Int32) (m_undoDepth : Int32) (m_numberStart : Int32) (m_seen : Int32) (m_pages : Int32) (u : Int32) (hf : fX6_entries p1 m_data = some u) : zMi l yX6_entries wsX6_entries ({ frames := 4, cells := 0, slots := 0, locals := 86 } : Room) D (zTY cA) [.ref (h 0), .int p1] (W_X6_entries cA h m_thrown m_bufferLength m_textLength m_position m_error m_errorAt m_errorOffset m_data m_undoDepth m_numberStart m_seen m_pages) (W_X6_entries cA h m_thrown m_bufferLength m_textLength m_position m_error m_errorAt m_errorOffset m_data m_undoDepth m_numberStart m_seen m_pages) u := by
  refine z_starti (cc := cX6_entries) (maxL := 4) (ret := (some .int)) (by decide) rfl (Nat.le_of_ble_eq_true rfl) ?_
  intro p e s m args below meth c A hx hb hr hts hown hlocks hml hA Z ls hl
  replace hown : s.vm.findClass RX6 = some m.cls := hown
  replace hl : lv_has ls 4 [(0, .ref (h 0)), (1, .int p1)] := hl
  obtain ⟨H, hH⟩ : ∃ H, H = s.heap := ⟨_, rfl⟩
  rw [← hH] at Z ⊢
  clear hH
  obtain ⟨locs, hlc⟩ : ∃ q : List Loc, q = [] := ⟨_, rfl⟩
  rw [← hlc] at Z ⊢
  clear hlc
  refine lv_iconst (pc := 0) (v := (0 : Int32)) hx hb dX6_entries_0 (by decide) ?_
  refine lv_istore_n (pc := 1) (lv' := [(2, .int (0 : Int32)), (0, .ref (h 0)), (1, .int p1)]) hx hb dX6_entries_1 rfl hl (by decide) rfl (fun ls hl => ?_)
  refine lv_iconst (pc := 2) (v := (0 : Int32)) hx hb dX6_entries_2 (by decide) ?_
  refine lv_istore_n (pc := 3) (lv' := [(3, .int (0 : Int32)), (2, .int (0 : Int32)), (0, .ref (h 0)), (1, .int p1)]) hx hb dX6_entries_3 rfl hl (by decide) rfl (fun ls hl => ?_)
  have hL4 : ∀ (n0 : Nat) (x1 : Int32) (x2 : Int32) (H : Heap) (locs : List Loc) (ls : Array Slot), zw D (zTY cA) s A (W_X6_entries cA h m_thrown m_bufferLength m_textLength m_position m_error m_errorAt m_errorOffset m_data m_undoDepth m_numberStart m_seen m_pages) H locs → lv_has ls 4 [(0, .ref (h 0)), (1, .int p1), (2, .int x1), (3, .int x2)] → fX6_entries_L4 m_data p1 n0 x1 x2 = some u → W p l e ({ frames := 4, cells := 0, slots := 0, locals := 86 } : Room) s m args below meth c H locs 0 0 (MQ below (zQi D (zTY cA) A (W_X6_entries cA h m_thrown m_bufferLength m_textLength m_position m_error m_errorAt m_errorOffset m_data m_undoDepth m_numberStart m_seen m_pages) u) args s 0 0 A) (F0 m 4 ls []) := by
    intro n0
    induction n0 with
    | zero => intro x1 x2 H locs ls Z hl hf; exact o_no hf
    | succ n0 ih0 =>
      intro x1 x2 H locs ls Z hl hf
      refine lv_iload_n (pc := 4) hx hb dX6_entries_4 rfl (lv_at hl 3 rfl) ?_
      refine lv_aload_n (pc := 5) hx hb dX6_entries_5 rfl (lv_at hl 0 rfl) ?_
      refine z_get (pc := 6) (ref := "LotSheetModel") (ci := 6) (C := RX6) (T := TX6) (N := 22) hx hb hts iw_X6_entries_X6 hown Z 0 rfl rfl 8 (by decide) (List.mem_of_getElem? (i := 1) rfl) rfl rfl dX6_entries_6 ?_
      refine lv_iconst (pc := 9) (v := (1 : Int32)) hx hb dX6_entries_9 (by decide) ?_
      refine z_iald (pc := 10) hx hb Z 1 0 rfl rfl (show ¬ ((1 : Int32) < 0 ∨ 153 ≤ (1 : Int32).toNatClampNeg) by decide) dX6_entries_10 ?_
      refine lv_icmp_ge (pc := 11) (tgt := 57) hx hb dX6_entries_11 (by decide) (fun c3 => ?_) (fun c3 => ?_)
      · replace hf := o_pos c3 hf
        refine lv_iload_n (pc := 57) hx hb dX6_entries_57 rfl (lv_at hl 2 rfl) ?_
        cases hf
        exact z_iret (pc := 58) hx hb hr hlocks Z rfl rfl dX6_entries_58
      · replace hf := o_neg c3 hf
        refine lv_iload_n (pc := 14) hx hb dX6_entries_14 rfl (lv_at hl 2 rfl) ?_
        refine lv_aload_n (pc := 15) hx hb dX6_entries_15 rfl (lv_at hl 0 rfl) ?_
        refine z_get (pc := 16) (ref := "LotSheetModel") (ci := 6) (C := RX6) (T := TX6) (N := 22) hx hb hts iw_X6_entries_X6 hown Z 0 rfl rfl 8 (by decide) (List.mem_of_getElem? (i := 1) rfl) rfl rfl dX6_entries_16 ?_
        refine lv_iload_n (pc := 19) hx hb dX6_entries_19 rfl (lv_at hl 3 rfl) ?_
        obtain ⟨x4, q5, hf⟩ := o_bindE hf
        refine z_callSi (pc := 20) (As := [.ref (h 2), .int x2]) (rest := [.int x1]) (Wc := (W_X6_differs cA (fun k => h ([2].getD k 0)) m_data)) (W1 := (W_X6_differs cA (fun k => h ([2].getD k 0)) m_data)) (W2 := (W_X6_entries cA h m_thrown m_bufferLength m_textLength m_position m_error m_errorAt m_errorOffset m_data m_undoDepth m_numberStart m_seen m_pages)) ⟨hx, hb, hml, hown, hts⟩ (kX6_differs l D cA (fun k => h ([2].getD k 0)) x2 m_data _ q5) (va_cwS 2 hts gX6_entries_X6_differs rfl rfl rfl (by decide +kernel) ⟨Nat.le_of_ble_eq_true rfl, Nat.le_of_ble_eq_true rfl⟩) Z hA [1] rfl (by decide) rfl rfl hl.1 rfl (Nat.le_of_ble_eq_true rfl) dX6_entries_20 ⟨Nat.zero_le _, Nat.zero_le _⟩ [none, some 0] rfl ⟨rfl, rfl, rfl⟩ (fun H locs Z => ?_)
        obtain ⟨j48_7, ej48_7, hf⟩ := o_jnE hf
        have hj48_7 : ∀ (H : Heap) (locs : List Loc) (ls : Array Slot), zw D (zTY cA) s A (W_X6_entries cA h m_thrown m_bufferLength m_textLength m_position m_error m_errorAt m_errorOffset m_data m_undoDepth m_numberStart m_seen m_pages) H locs → lv_has ls 4 [(0, .ref (h 0)), (1, .int p1), (3, .int x2)] → j48_7 = some u → W p l e ({ frames := 4, cells := 0, slots := 0, locals := 86 } : Room) s m args below meth c H locs 0 0 (MQ below (zQi D (zTY cA) A (W_X6_entries cA h m_thrown m_bufferLength m_textLength m_position m_error m_errorAt m_errorOffset m_data m_undoDepth m_numberStart m_seen m_pages) u) args s 0 0 A) (F0 m 48 ls [.int x1]) := by
          intro H locs ls Z hl hf
          rw [ej48_7] at hf
          refine lv_iconst (pc := 48) (v := (0 : Int32)) hx hb dX6_entries_48 (by decide) ?_
          refine lv_iadd (pc := 49) hx hb dX6_entries_49 ?_
          refine lv_topi (fun x8 ex8 => ?_)
          replace hf := o_letE ex8 hf
          refine lv_istore_n (pc := 50) (lv' := [(2, .int x8), (0, .ref (h 0)), (1, .int p1), (3, .int x2)]) hx hb dX6_entries_50 rfl hl (by decide) rfl (fun ls hl => ?_)
          obtain ⟨x9, ex9⟩ : ∃ y : Int32, y = (x2 + (1 : Int32)) := ⟨_, rfl⟩
          replace hf := o_letE ex9 hf
          refine lv_iinc (pc := 51) (v := x9) (lv' := [(3, .int x9), (2, .int x8), (0, .ref (h 0)), (1, .int p1)]) hx hb dX6_entries_51 hl (k := 3) rfl (by rw [ex9]; rfl) (by decide) rfl (fun ls hl => ?_)
          refine lv_goto (pc := 54) (tgt := 4) hx hb dX6_entries_54 (by decide) ?_
          exact ih0 x8 x9 H locs ls Z (lv_sub hl [2, 3, 1, 0] rfl) hf
        refine lv_if_eq (pc := 23) (tgt := 48) hx hb dX6_entries_23 (by decide) (fun c6 => ?_) (fun c6 => ?_)
        · replace hf := o_pos c6 hf
          exact hj48_7 H locs ls Z (lv_sub hl [0, 1, 3] rfl) hf
        · replace hf := o_neg c6 hf
          refine lv_aload_n (pc := 26) hx hb dX6_entries_26 rfl (lv_at hl 0 rfl) ?_
          refine lv_iload_n (pc := 27) hx hb dX6_entries_27 rfl (lv_at hl 1 rfl) ?_
          refine lv_iload_n (pc := 28) hx hb dX6_entries_28 rfl (lv_at hl 3 rfl) ?_
          obtain ⟨x10, q11, hf⟩ := o_bindE hf
          refine z_callVi (pc := 29) (As := [.int p1, .int x2]) (rest := [.int x1]) (Wc := (W_X6_isChosen cA (fun k => h ([0, 1, 2, 3, 4, 5, 6, 7, 8, 9, 10, 11, 12, 13, 14, 15, 16, 17, 18, 19].getD k 0)) m_thrown m_bufferLength m_textLength m_position m_error m_errorAt m_errorOffset m_data m_undoDepth m_numberStart m_seen m_pages)) (W1 := (W_X6_isChosen cA (fun k => h ([0, 1, 2, 3, 4, 5, 6, 7, 8, 9, 10, 11, 12, 13, 14, 15, 16, 17, 18, 19].getD k 0)) m_thrown m_bufferLength m_textLength m_position m_error m_errorAt m_errorOffset m_data m_undoDepth m_numberStart m_seen m_pages)) (W2 := (W_X6_entries cA h m_thrown m_bufferLength m_textLength m_position m_error m_errorAt m_errorOffset m_data m_undoDepth m_numberStart m_seen m_pages)) ⟨hx, hb, hml, hown, hts⟩ (kX6_isChosen l D cA (fun k => h ([0, 1, 2, 3, 4, 5, 6, 7, 8, 9, 10, 11, 12, 13, 14, 15, 16, 17, 18, 19].getD k 0)) p1 x2 m_thrown m_bufferLength m_textLength m_position m_error m_errorAt m_errorOffset m_data m_undoDepth m_numberStart m_seen m_pages _ q11) (cwV 2 hts gX6_entries_X6_isChosen rfl rfl rfl (by decide +kernel) ⟨Nat.le_of_ble_eq_true rfl, Nat.le_of_ble_eq_true rfl⟩) Z hA [0, 1] rfl (by decide) rfl (ci := 6) rfl rfl rfl rfl hl.1 rfl (Nat.le_of_ble_eq_true rfl) dX6_entries_29 ⟨Nat.zero_le _, Nat.zero_le _⟩ [some 0, some 1] rfl ⟨rfl, rfl, rfl⟩ (fun H locs Z => ?_)
          refine lv_if_ne (pc := 32) (tgt := 48) hx hb dX6_entries_32 (by decide) (fun c12 => ?_) (fun c12 => ?_)
          · replace hf := o_neg c12 hf
            exact hj48_7 H locs ls Z (lv_sub hl [0, 1, 3] rfl) hf
          · replace hf := o_pos c12 hf
            refine lv_aload_n (pc := 35) hx hb dX6_entries_35 rfl (lv_at hl 0 rfl) ?_
            refine lv_iload_n (pc := 36) hx hb dX6_entries_36 rfl (lv_at hl 3 rfl) ?_
            refine lv_iconst (pc := 37) (v := (5 : Int32)) hx hb dX6_entries_37 (by decide) ?_
            obtain ⟨x13, q14, hf⟩ := o_bindE hf
            refine z_callVi (pc := 38) (As := [.int x2, .int (5 : Int32)]) (rest := [.int x1]) (Wc := (W_X6_of cA (fun k => h ([0, 1, 2, 3, 4, 5, 6, 7, 8, 9, 10, 11, 12, 13, 14, 15, 16, 17, 18, 19].getD k 0)) m_thrown m_bufferLength m_textLength m_position m_error m_errorAt m_errorOffset m_data m_undoDepth m_numberStart m_seen m_pages)) (W1 := (W_X6_of cA (fun k => h ([0, 1, 2, 3, 4, 5, 6, 7, 8, 9, 10, 11, 12, 13, 14, 15, 16, 17, 18, 19].getD k 0)) m_thrown m_bufferLength m_textLength m_position m_error m_errorAt m_errorOffset m_data m_undoDepth m_numberStart m_seen m_pages)) (W2 := (W_X6_entries cA h m_thrown m_bufferLength m_textLength m_position m_error m_errorAt m_errorOffset m_data m_undoDepth m_numberStart m_seen m_pages)) ⟨hx, hb, hml, hown, hts⟩ (kX6_of l D cA (fun k => h ([0, 1, 2, 3, 4, 5, 6, 7, 8, 9, 10, 11, 12, 13, 14, 15, 16, 17, 18, 19].getD k 0)) x2 (5 : Int32) m_thrown m_bufferLength m_textLength m_position m_error m_errorAt m_errorOffset m_data m_undoDepth m_numberStart m_seen m_pages _ q14) (cwV 2 hts gX6_entries_X6_of rfl rfl rfl (by decide +kernel) ⟨Nat.le_of_ble_eq_true rfl, Nat.le_of_ble_eq_true rfl⟩) Z hA [0, 1] rfl (by decide) rfl (ci := 6) rfl rfl rfl rfl hl.1 rfl (Nat.le_of_ble_eq_true rfl) dX6_entries_38 ⟨Nat.zero_le _, Nat.zero_le _⟩ [some 0, some 1] rfl ⟨rfl, rfl, rfl⟩ (fun H locs Z => ?_)
            refine lv_if_ne (pc := 41) (tgt := 48) hx hb dX6_entries_41 (by decide) (fun c15 => ?_) (fun c15 => ?_)
            · replace hf := o_neg c15 hf
              exact hj48_7 H locs ls Z (lv_sub hl [0, 1, 3] rfl) hf
            · replace hf := o_pos c15 hf
              refine lv_iconst (pc := 44) (v := (1 : Int32)) hx hb dX6_entries_44 (by decide) ?_
              refine lv_goto (pc := 45) (tgt := 49) hx hb dX6_entries_45 (by decide) ?_
              refine lv_iadd (pc := 49) hx hb dX6_entries_49 ?_
              refine lv_topi (fun x16 ex16 => ?_)
              replace hf := o_letE ex16 hf
              refine lv_istore_n (pc := 50) (lv' := [(2, .int x16), (0, .ref (h 0)), (1, .int p1), (3, .int x2)]) hx hb dX6_entries_50 rfl hl (by decide) rfl (fun ls hl => ?_)
              obtain ⟨x17, ex17⟩ : ∃ y : Int32, y = (x2 + (1 : Int32)) := ⟨_, rfl⟩
              replace hf := o_letE ex17 hf
              refine lv_iinc (pc := 51) (v := x17) (lv' := [(3, .int x17), (2, .int x16), (0, .ref (h 0)), (1, .int p1)]) hx hb dX6_entries_51 hl (k := 3) rfl (by rw [ex17]; rfl) (by decide) rfl (fun ls hl => ?_)
              refine lv_goto (pc := 54) (tgt := 4) hx hb dX6_entries_54 (by decide) ?_
              exact ih0 x16 x17 H locs ls Z (lv_sub hl [2, 3, 1, 0] rfl) hf
  exact hL4 1024 (0 : Int32) (0 : Int32) H locs ls Z (lv_sub hl [2, 3, 1, 0] rfl) hf
