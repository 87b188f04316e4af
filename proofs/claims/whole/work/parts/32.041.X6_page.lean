def W_X6_page (cA : Nat → ClassId) (h : Nat → Nat) (m_thrown : Int32) (m_bufferLength : Int32) (m_textLength : Int32) (m_position : Int32) (m_error : Int32) (m_errorAt : Int32) (m_errorOffset : Int32) (m_data : Nat → Int32) (m_undoDepth : Int32) (m_numberStart : Int32) (m_seen : Int32) (m_numberOf : Nat → Int32) (m_pageOf : Nat → Int32) (m_lineOf : Nat → Int32) (m_stands : Nat → Int32) (m_pages : Int32) : va_W := [(h 0, .inr (6, [.int m_thrown, .ref (h 1), .int m_bufferLength, .int m_textLength, .int m_position, .int m_error, .int m_errorAt, .int m_errorOffset, .ref (h 2), .ref (h 3), .ref (h 4), .int m_undoDepth, .int m_numberStart, .int m_seen, .ref (h 13), .ref (h 14), .ref (h 15), .ref (h 16), .int m_pages, .ref (h 17), .ref (h 18), .ref (h 19)])), (h 2, .inl (cA 0, 153, .inl m_data)), (h 13, .inl (cA 0, 24, .inl m_numberOf)), (h 14, .inl (cA 0, 24, .inl m_pageOf)), (h 15, .inl (cA 0, 24, .inl m_lineOf)), (h 16, .inl (cA 0, 960, .inl m_stands))]
def fX6_page (p1 : Int32) (p2 : Int32) (m_thrown : Int32) (m_data : Nat → Int32) (m_numberOf : Nat → Int32) (m_pageOf : Nat → Int32) (m_lineOf : Nat → Int32) (m_stands : Nat → Int32) (m_pages : Int32) : Option (Int32 × Int32 × (Nat → Int32) × (Nat → Int32) × (Nat → Int32) × (Nat → Int32) × Int32) := o_bind (fX6_noPage p1 (0 : Int32) m_data m_numberOf m_pageOf m_lineOf m_stands m_pages) (fun (x1, x2, a3, a4, a5, a6, x7) => (if x1 = 0 then o_bind (fX6_in p2 (0 : Int32) (3 : Int32)) (fun x10 => o_let (fun (x13 : Int32) => o_bind (fX6_fails x13 (2 : Int32) x2) (fun (x15, x16) => (if x15 = 0 then o_bind (fX6_ofPage p1 p2 m_data a4) (fun x19 => some (x19, x16, a3, a4, a5, a6, x7)) else some ((0 : Int32), x16, a3, a4, a5, a6, x7)))) (fun (j28_14 : Int32 → Option (Int32 × Int32 × (Nat → Int32) × (Nat → Int32) × (Nat → Int32) × (Nat → Int32) × Int32)) => (if x10 = 0 then (j28_14 (1 : Int32)) else (j28_14 (0 : Int32))))) else some ((0 : Int32), x2, a3, a4, a5, a6, x7)))
theorem iw_X6_page_X6 : ∀ w ∈ u_ws RX6 TX6 22, w ∈ wsX6_page := z_inr [39, 40, 41, 42, 43, 44, 45, 46, 47, 48, 49, 50, 51, 52, 53, 54, 55, 56, 57, 58, 59, 60] rfl
set_option maxHeartbeats 4000000 in
set_option maxRecDepth 100000 in
theorem kX6_page (l : Launch) (D : va_G) (cA : Nat → ClassId) (h : Nat → Nat) (p1 : Int32) (p2 : Int32) (m_thrown : Int32) (m_bufferLength : Int32) (m_textLength : Int32) (m_position : Int32) (m_error : Int32) (m_errorAt : Int32) (m_errorOffset : Int32) (m_data : Nat → Int32) (m_undoDepth : Int32) (m_numberStart : Int32) (m_seen : Int32) (m_numberOf : Nat → Int32) (m_pageOf : Nat → Int32) (m_lineOf : Nat → Int32) (m_stands : Nat → Int32) (m_pages : Int32) (u : Int32 × Int32 × (Nat → Int32) × (Nat → Int32) × (Nat → Int32) × (Nat → Int32) × Int32) (hf : fX6_page p1 p2 m_thrown m_data m_numberOf m_pageOf m_lineOf m_stands m_pages = some u) : zMi l yX6_page wsX6_page ({ frames := 5, cells := 0, slots := 0, locals := 109 } : Room) D (zTY cA) [.ref (h 0), .int p1, .int p2] (W_X6_page cA h m_thrown m_bufferLength m_textLength m_position m_error m_errorAt m_errorOffset m_data m_undoDepth m_numberStart m_seen m_numberOf m_pageOf m_lineOf m_stands m_pages) (W_X6_page cA h (u.2.1) m_bufferLength m_textLength m_position m_error m_errorAt m_errorOffset m_data m_undoDepth m_numberStart m_seen (u.2.2.1) (u.2.2.2.1) (u.2.2.2.2.1) (u.2.2.2.2.2.1) (u.2.2.2.2.2.2)) u.1 := by
  refine z_starti (cc := cX6_page) (maxL := 3) (ret := (some .int)) (by decide) rfl (Nat.le_of_ble_eq_true rfl) ?_
  intro p e s m args below meth c A hx hb hr hts hown hlocks hml hA Z ls hl
  replace hown : s.vm.findClass RX6 = some m.cls := hown
  replace hl : lv_has ls 3 [(0, .ref (h 0)), (1, .int p1), (2, .int p2)] := hl
  obtain ⟨H, hH⟩ : ∃ H, H = s.heap := ⟨_, rfl⟩
  rw [← hH] at Z ⊢
  clear hH
  obtain ⟨locs, hlc⟩ : ∃ q : List Loc, q = [] := ⟨_, rfl⟩
  rw [← hlc] at Z ⊢
  clear hlc
  refine lv_aload_n (pc := 0) hx hb dX6_page_0 rfl (lv_at hl 0 rfl) ?_
  refine lv_iconst (pc := 1) (v := (0 : Int32)) hx hb dX6_page_1 (by decide) ?_
  refine z_put (pc := 2) (ref := "LotSheetModel") (ci := 6) (C := RX6) (T := TX6) (N := 22) (W1 := (W_X6_page cA h (0 : Int32) m_bufferLength m_textLength m_position m_error m_errorAt m_errorOffset m_data m_undoDepth m_numberStart m_seen m_numberOf m_pageOf m_lineOf m_stands m_pages)) hx hb hts iw_X6_page_X6 tyX6 tyX6_ok nmX6 hown Z 0 rfl rfl 0 (by decide) (List.mem_of_getElem? (i := 1) rfl) rfl rfl rfl rfl (Nat.le_of_ble_eq_true rfl) dX6_page_2 rfl (fun H locs Z => ?_)
  refine lv_aload_n (pc := 5) hx hb dX6_page_5 rfl (lv_at hl 0 rfl) ?_
  refine lv_iload_n (pc := 6) hx hb dX6_page_6 rfl (lv_at hl 1 rfl) ?_
  obtain ⟨⟨x1, x2, a3, a4, a5, a6, x7⟩, q8, hf⟩ := o_bindE hf
  refine z_callVi (pc := 7) (As := [.int p1]) (rest := []) (Wc := (W_X6_noPage cA (fun k => h ([0, 1, 2, 3, 4, 5, 6, 7, 8, 9, 10, 11, 12, 13, 14, 15, 16, 17, 18, 19].getD k 0)) (0 : Int32) m_bufferLength m_textLength m_position m_error m_errorAt m_errorOffset m_data m_undoDepth m_numberStart m_seen m_numberOf m_pageOf m_lineOf m_stands m_pages)) (W1 := (W_X6_noPage cA (fun k => h ([0, 1, 2, 3, 4, 5, 6, 7, 8, 9, 10, 11, 12, 13, 14, 15, 16, 17, 18, 19].getD k 0)) x2 m_bufferLength m_textLength m_position m_error m_errorAt m_errorOffset m_data m_undoDepth m_numberStart m_seen a3 a4 a5 a6 x7)) (W2 := (W_X6_page cA h x2 m_bufferLength m_textLength m_position m_error m_errorAt m_errorOffset m_data m_undoDepth m_numberStart m_seen a3 a4 a5 a6 x7)) ⟨hx, hb, hml, hown, hts⟩ (kX6_noPage l D cA (fun k => h ([0, 1, 2, 3, 4, 5, 6, 7, 8, 9, 10, 11, 12, 13, 14, 15, 16, 17, 18, 19].getD k 0)) p1 (0 : Int32) m_bufferLength m_textLength m_position m_error m_errorAt m_errorOffset m_data m_undoDepth m_numberStart m_seen m_numberOf m_pageOf m_lineOf m_stands m_pages _ q8) (cwV 1 hts gX6_page_X6_noPage rfl rfl rfl (by decide +kernel) ⟨Nat.le_of_ble_eq_true rfl, Nat.le_of_ble_eq_true rfl⟩) Z hA [0, 1, 2, 3, 4, 5] rfl (by decide) rfl (ci := 6) rfl rfl rfl rfl hl.1 rfl (Nat.le_of_ble_eq_true rfl) dX6_page_7 ⟨Nat.zero_le _, Nat.zero_le _⟩ [some 0, some 1, some 2, some 3, some 4, some 5] rfl ⟨rfl, rfl, rfl, rfl, rfl, rfl, rfl⟩ (fun H locs Z => ?_)
  refine lv_if_ne (pc := 10) (tgt := 35) hx hb dX6_page_10 (by decide) (fun c9 => ?_) (fun c9 => ?_)
  · replace hf := o_neg c9 hf
    refine lv_iconst (pc := 35) (v := (0 : Int32)) hx hb dX6_page_35 (by decide) ?_
    refine lv_goto (pc := 36) (tgt := 45) hx hb dX6_page_36 (by decide) ?_
    cases hf
    exact z_iret (pc := 45) hx hb hr hlocks Z rfl rfl dX6_page_45
  · replace hf := o_pos c9 hf
    refine lv_aload_n (pc := 13) hx hb dX6_page_13 rfl (lv_at hl 0 rfl) ?_
    refine lv_iload_n (pc := 14) hx hb dX6_page_14 rfl (lv_at hl 2 rfl) ?_
    refine lv_iconst (pc := 15) (v := (0 : Int32)) hx hb dX6_page_15 (by decide) ?_
    refine lv_iconst (pc := 16) (v := (3 : Int32)) hx hb dX6_page_16 (by decide) ?_
    obtain ⟨x10, q11, hf⟩ := o_bindE hf
    refine z_callSi (pc := 17) (As := [.int p2, .int (0 : Int32), .int (3 : Int32)]) (rest := [.ref (h 0)]) (Wc := (W_X6_in cA (fun k => h ([0].getD k 0)))) (W1 := (W_X6_in cA (fun k => h ([0].getD k 0)))) (W2 := (W_X6_page cA h x2 m_bufferLength m_textLength m_position m_error m_errorAt m_errorOffset m_data m_undoDepth m_numberStart m_seen a3 a4 a5 a6 x7)) ⟨hx, hb, hml, hown, hts⟩ (kX6_in l D cA (fun k => h ([0].getD k 0)) p2 (0 : Int32) (3 : Int32) _ q11) (va_cwS 3 hts gX6_page_X6_in rfl rfl rfl (by decide +kernel) ⟨Nat.le_of_ble_eq_true rfl, Nat.le_of_ble_eq_true rfl⟩) Z hA [] rfl (by decide) rfl rfl hl.1 rfl (Nat.le_of_ble_eq_true rfl) dX6_page_17 ⟨Nat.zero_le _, Nat.zero_le _⟩ [none, none, none, none, none, none] rfl ⟨rfl, rfl, rfl, rfl, rfl, rfl, rfl⟩ (fun H locs Z => ?_)
    obtain ⟨j28_14, ej28_14, hf⟩ := o_jnE hf
    have hj28_14 : ∀ (x13 : Int32) (H : Heap) (locs : List Loc) (ls : Array Slot), zw D (zTY cA) s A (W_X6_page cA h x2 m_bufferLength m_textLength m_position m_error m_errorAt m_errorOffset m_data m_undoDepth m_numberStart m_seen a3 a4 a5 a6 x7) H locs → lv_has ls 3 [(0, .ref (h 0)), (1, .int p1), (2, .int p2)] → j28_14 x13 = some u → W p l e ({ frames := 5, cells := 0, slots := 0, locals := 109 } : Room) s m args below meth c H locs 0 0 (MQ below (zQi D (zTY cA) A (W_X6_page cA h (u.2.1) m_bufferLength m_textLength m_position m_error m_errorAt m_errorOffset m_data m_undoDepth m_numberStart m_seen (u.2.2.1) (u.2.2.2.1) (u.2.2.2.2.1) (u.2.2.2.2.2.1) (u.2.2.2.2.2.2)) u.1) args s 0 0 A) (F0 m 28 ls [.int x13, .ref (h 0)]) := by
      intro x13 H locs ls Z hl hf
      rw [ej28_14] at hf
      refine lv_iconst (pc := 28) (v := (2 : Int32)) hx hb dX6_page_28 (by decide) ?_
      obtain ⟨⟨x15, x16⟩, q17, hf⟩ := o_bindE hf
      refine z_callVi (pc := 29) (As := [.int x13, .int (2 : Int32)]) (rest := []) (Wc := (W_X6_fails cA (fun k => h ([0, 1, 2, 3, 4, 5, 6, 7, 8, 9, 10, 11, 12, 13, 14, 15, 16, 17, 18, 19].getD k 0)) x2 m_bufferLength m_textLength m_position m_error m_errorAt m_errorOffset m_undoDepth m_numberStart m_seen x7)) (W1 := (W_X6_fails cA (fun k => h ([0, 1, 2, 3, 4, 5, 6, 7, 8, 9, 10, 11, 12, 13, 14, 15, 16, 17, 18, 19].getD k 0)) x16 m_bufferLength m_textLength m_position m_error m_errorAt m_errorOffset m_undoDepth m_numberStart m_seen x7)) (W2 := (W_X6_page cA h x16 m_bufferLength m_textLength m_position m_error m_errorAt m_errorOffset m_data m_undoDepth m_numberStart m_seen a3 a4 a5 a6 x7)) ⟨hx, hb, hml, hown, hts⟩ (kX6_fails l D cA (fun k => h ([0, 1, 2, 3, 4, 5, 6, 7, 8, 9, 10, 11, 12, 13, 14, 15, 16, 17, 18, 19].getD k 0)) x13 (2 : Int32) x2 m_bufferLength m_textLength m_position m_error m_errorAt m_errorOffset m_undoDepth m_numberStart m_seen x7 _ q17) (cwV 2 hts gX6_page_X6_fails rfl rfl rfl (by decide +kernel) ⟨Nat.le_of_ble_eq_true rfl, Nat.le_of_ble_eq_true rfl⟩) Z hA [0] rfl (by decide) rfl (ci := 6) rfl rfl rfl rfl hl.1 rfl (Nat.le_of_ble_eq_true rfl) dX6_page_29 ⟨Nat.zero_le _, Nat.zero_le _⟩ [some 0, none, none, none, none, none] rfl ⟨rfl, rfl, rfl, rfl, rfl, rfl, rfl⟩ (fun H locs Z => ?_)
      refine lv_if_eq (pc := 32) (tgt := 39) hx hb dX6_page_32 (by decide) (fun c18 => ?_) (fun c18 => ?_)
      · replace hf := o_pos c18 hf
        refine lv_aload_n (pc := 39) hx hb dX6_page_39 rfl (lv_at hl 0 rfl) ?_
        refine lv_iload_n (pc := 40) hx hb dX6_page_40 rfl (lv_at hl 1 rfl) ?_
        refine lv_iload_n (pc := 41) hx hb dX6_page_41 rfl (lv_at hl 2 rfl) ?_
        obtain ⟨x19, q20, hf⟩ := o_bindE hf
        refine z_callVi (pc := 42) (As := [.int p1, .int p2]) (rest := []) (Wc := (W_X6_ofPage cA (fun k => h ([0, 1, 2, 3, 4, 5, 6, 7, 8, 9, 10, 11, 12, 13, 14, 15, 16, 17, 18, 19].getD k 0)) x16 m_bufferLength m_textLength m_position m_error m_errorAt m_errorOffset m_data m_undoDepth m_numberStart m_seen a4 x7)) (W1 := (W_X6_ofPage cA (fun k => h ([0, 1, 2, 3, 4, 5, 6, 7, 8, 9, 10, 11, 12, 13, 14, 15, 16, 17, 18, 19].getD k 0)) x16 m_bufferLength m_textLength m_position m_error m_errorAt m_errorOffset m_data m_undoDepth m_numberStart m_seen a4 x7)) (W2 := (W_X6_page cA h x16 m_bufferLength m_textLength m_position m_error m_errorAt m_errorOffset m_data m_undoDepth m_numberStart m_seen a3 a4 a5 a6 x7)) ⟨hx, hb, hml, hown, hts⟩ (kX6_ofPage l D cA (fun k => h ([0, 1, 2, 3, 4, 5, 6, 7, 8, 9, 10, 11, 12, 13, 14, 15, 16, 17, 18, 19].getD k 0)) p1 p2 x16 m_bufferLength m_textLength m_position m_error m_errorAt m_errorOffset m_data m_undoDepth m_numberStart m_seen a4 x7 _ q20) (cwV 2 hts gX6_page_X6_ofPage rfl rfl rfl (by decide +kernel) ⟨Nat.le_of_ble_eq_true rfl, Nat.le_of_ble_eq_true rfl⟩) Z hA [0, 1, 3] rfl (by decide) rfl (ci := 6) rfl rfl rfl rfl hl.1 rfl (Nat.le_of_ble_eq_true rfl) dX6_page_42 ⟨Nat.zero_le _, Nat.zero_le _⟩ [some 0, some 1, none, some 2, none, none] rfl ⟨rfl, rfl, rfl, rfl, rfl, rfl, rfl⟩ (fun H locs Z => ?_)
        cases hf
        exact z_iret (pc := 45) hx hb hr hlocks Z rfl rfl dX6_page_45
      · replace hf := o_neg c18 hf
        refine lv_iconst (pc := 35) (v := (0 : Int32)) hx hb dX6_page_35 (by decide) ?_
        refine lv_goto (pc := 36) (tgt := 45) hx hb dX6_page_36 (by decide) ?_
        cases hf
        exact z_iret (pc := 45) hx hb hr hlocks Z rfl rfl dX6_page_45
    refine lv_if_ne (pc := 20) (tgt := 27) hx hb dX6_page_20 (by decide) (fun c12 => ?_) (fun c12 => ?_)
    · replace hf := o_neg c12 hf
      refine lv_iconst (pc := 27) (v := (0 : Int32)) hx hb dX6_page_27 (by decide) ?_
      exact hj28_14 (0 : Int32) H locs ls Z (lv_sub hl [0, 1, 2] rfl) hf
    · replace hf := o_pos c12 hf
      refine lv_iconst (pc := 23) (v := (1 : Int32)) hx hb dX6_page_23 (by decide) ?_
      refine lv_goto (pc := 24) (tgt := 28) hx hb dX6_page_24 (by decide) ?_
      exact hj28_14 (1 : Int32) H locs ls Z (lv_sub hl [0, 1, 2] rfl) hf
