def W_X6_filled (cA : Nat → ClassId) (h : Nat → Nat) (m_thrown : Int32) (m_bufferLength : Int32) (m_textLength : Int32) (m_position : Int32) (m_error : Int32) (m_errorAt : Int32) (m_errorOffset : Int32) (m_data : Nat → Int32) (m_undoDepth : Int32) (m_numberStart : Int32) (m_seen : Int32) (m_numberOf : Nat → Int32) (m_pageOf : Nat → Int32) (m_lineOf : Nat → Int32) (m_stands : Nat → Int32) (m_pages : Int32) : va_W := [(h 0, .inr (6, [.int m_thrown, .ref (h 1), .int m_bufferLength, .int m_textLength, .int m_position, .int m_error, .int m_errorAt, .int m_errorOffset, .ref (h 2), .ref (h 3), .ref (h 4), .int m_undoDepth, .int m_numberStart, .int m_seen, .ref (h 13), .ref (h 14), .ref (h 15), .ref (h 16), .int m_pages, .ref (h 17), .ref (h 18), .ref (h 19)])), (h 2, .inl (cA 0, 153, .inl m_data)), (h 13, .inl (cA 0, 24, .inl m_numberOf)), (h 14, .inl (cA 0, 24, .inl m_pageOf)), (h 15, .inl (cA 0, 24, .inl m_lineOf)), (h 16, .inl (cA 0, 960, .inl m_stands))]
def fX6_filled (m_thrown : Int32) (m_data : Nat → Int32) (m_numberOf : Nat → Int32) (m_pageOf : Nat → Int32) (m_lineOf : Nat → Int32) (m_stands : Nat → Int32) (m_pages : Int32) : Option (UInt64 × Int32 × (Nat → Int32) × (Nat → Int32) × (Nat → Int32) × (Nat → Int32) × Int32) := o_bind (fX6_lay m_data m_numberOf m_pageOf m_lineOf m_stands m_pages) (fun (a1, a2, a3, a4, x5) => (if x5 = 0 then some (FP.dconst0, (0 : Int32), a1, a2, a3, a4, x5) else o_bind (fX6_printedLines m_data) (fun x8 => o_as (¬ (x5 * (m_data (0 : Int32).toNatClampNeg)) = 0) (some ((FP.ddiv (FP.i2d x8) (FP.i2d (x5 * (m_data (0 : Int32).toNatClampNeg)))), (0 : Int32), a1, a2, a3, a4, x5)))))
theorem iw_X6_filled_X6 : ∀ w ∈ u_ws RX6 TX6 22, w ∈ wsX6_filled := z_inr [28, 29, 30, 31, 32, 33, 34, 35, 36, 37, 38, 39, 40, 41, 42, 43, 44, 45, 46, 47, 48, 49] rfl
set_option maxHeartbeats 4000000 in
set_option maxRecDepth 100000 in
theorem kX6_filled (l : Launch) (D : va_G) (cA : Nat → ClassId) (h : Nat → Nat) (m_thrown : Int32) (m_bufferLength : Int32) (m_textLength : Int32) (m_position : Int32) (m_error : Int32) (m_errorAt : Int32) (m_errorOffset : Int32) (m_data : Nat → Int32) (m_undoDepth : Int32) (m_numberStart : Int32) (m_seen : Int32) (m_numberOf : Nat → Int32) (m_pageOf : Nat → Int32) (m_lineOf : Nat → Int32) (m_stands : Nat → Int32) (m_pages : Int32) (u : UInt64 × Int32 × (Nat → Int32) × (Nat → Int32) × (Nat → Int32) × (Nat → Int32) × Int32) (hf : fX6_filled m_thrown m_data m_numberOf m_pageOf m_lineOf m_stands m_pages = some u) : zMd l yX6_filled wsX6_filled ({ frames := 4, cells := 0, slots := 0, locals := 88 } : Room) D (zTY cA) [.ref (h 0)] (W_X6_filled cA h m_thrown m_bufferLength m_textLength m_position m_error m_errorAt m_errorOffset m_data m_undoDepth m_numberStart m_seen m_numberOf m_pageOf m_lineOf m_stands m_pages) (W_X6_filled cA h (u.2.1) m_bufferLength m_textLength m_position m_error m_errorAt m_errorOffset m_data m_undoDepth m_numberStart m_seen (u.2.2.1) (u.2.2.2.1) (u.2.2.2.2.1) (u.2.2.2.2.2.1) (u.2.2.2.2.2.2)) u.1 := by
  refine z_startd (cc := cX6_filled) (maxL := 1) (ret := (some .double)) (by decide) rfl (Nat.le_of_ble_eq_true rfl) ?_
  intro p e s m args below meth c A hx hb hr hts hown hlocks hml hA Z ls hl
  replace hown : s.vm.findClass RX6 = some m.cls := hown
  replace hl : lv_has ls 1 [(0, .ref (h 0))] := hl
  obtain ⟨H, hH⟩ : ∃ H, H = s.heap := ⟨_, rfl⟩
  rw [← hH] at Z ⊢
  clear hH
  obtain ⟨locs, hlc⟩ : ∃ q : List Loc, q = [] := ⟨_, rfl⟩
  rw [← hlc] at Z ⊢
  clear hlc
  refine lv_aload_n (pc := 0) hx hb dX6_filled_0 rfl (lv_at hl 0 rfl) ?_
  refine lv_iconst (pc := 1) (v := (0 : Int32)) hx hb dX6_filled_1 (by decide) ?_
  refine z_put (pc := 2) (ref := "LotSheetModel") (ci := 6) (C := RX6) (T := TX6) (N := 22) (W1 := (W_X6_filled cA h (0 : Int32) m_bufferLength m_textLength m_position m_error m_errorAt m_errorOffset m_data m_undoDepth m_numberStart m_seen m_numberOf m_pageOf m_lineOf m_stands m_pages)) hx hb hts iw_X6_filled_X6 tyX6 tyX6_ok nmX6 hown Z 0 rfl rfl 0 (by decide) (List.mem_of_getElem? (i := 1) rfl) rfl rfl rfl rfl (Nat.le_of_ble_eq_true rfl) dX6_filled_2 rfl (fun H locs Z => ?_)
  refine lv_aload_n (pc := 5) hx hb dX6_filled_5 rfl (lv_at hl 0 rfl) ?_
  obtain ⟨⟨a1, a2, a3, a4, x5⟩, q6, hf⟩ := o_bindE hf
  refine z_callVv (pc := 6) (As := []) (rest := []) (Wc := (W_X6_lay cA (fun k => h ([0, 1, 2, 3, 4, 5, 6, 7, 8, 9, 10, 11, 12, 13, 14, 15, 16, 17, 18, 19].getD k 0)) (0 : Int32) m_bufferLength m_textLength m_position m_error m_errorAt m_errorOffset m_data m_undoDepth m_numberStart m_seen m_numberOf m_pageOf m_lineOf m_stands m_pages)) (W1 := (W_X6_lay cA (fun k => h ([0, 1, 2, 3, 4, 5, 6, 7, 8, 9, 10, 11, 12, 13, 14, 15, 16, 17, 18, 19].getD k 0)) (0 : Int32) m_bufferLength m_textLength m_position m_error m_errorAt m_errorOffset m_data m_undoDepth m_numberStart m_seen a1 a2 a3 a4 x5)) (W2 := (W_X6_filled cA h (0 : Int32) m_bufferLength m_textLength m_position m_error m_errorAt m_errorOffset m_data m_undoDepth m_numberStart m_seen a1 a2 a3 a4 x5)) ⟨hx, hb, hml, hown, hts⟩ (kX6_lay l D cA (fun k => h ([0, 1, 2, 3, 4, 5, 6, 7, 8, 9, 10, 11, 12, 13, 14, 15, 16, 17, 18, 19].getD k 0)) (0 : Int32) m_bufferLength m_textLength m_position m_error m_errorAt m_errorOffset m_data m_undoDepth m_numberStart m_seen m_numberOf m_pageOf m_lineOf m_stands m_pages _ q6) (cwV 0 hts gX6_filled_X6_lay rfl rfl rfl (by decide +kernel) ⟨Nat.le_of_ble_eq_true rfl, Nat.le_of_ble_eq_true rfl⟩) Z hA [0, 1, 2, 3, 4, 5] rfl (by decide) rfl (ci := 6) rfl rfl rfl rfl hl.1 rfl (Nat.le_of_ble_eq_true rfl) dX6_filled_6 ⟨Nat.zero_le _, Nat.zero_le _⟩ [some 0, some 1, some 2, some 3, some 4, some 5] rfl ⟨rfl, rfl, rfl, rfl, rfl, rfl, rfl⟩ (fun H locs Z => ?_)
  refine lv_aload_n (pc := 9) hx hb dX6_filled_9 rfl (lv_at hl 0 rfl) ?_
  refine z_get (pc := 10) (ref := "LotSheetModel") (ci := 6) (C := RX6) (T := TX6) (N := 22) hx hb hts iw_X6_filled_X6 hown Z 0 rfl rfl 18 (by decide) (List.mem_of_getElem? (i := 2) rfl) rfl rfl dX6_filled_10 ?_
  refine lv_if_ne (pc := 13) (tgt := 20) hx hb dX6_filled_13 (by decide) (fun c7 => ?_) (fun c7 => ?_)
  · replace hf := o_neg c7 hf
    refine lv_aload_n (pc := 20) hx hb dX6_filled_20 rfl (lv_at hl 0 rfl) ?_
    obtain ⟨x8, q9, hf⟩ := o_bindE hf
    refine z_callVi (pc := 21) (As := []) (rest := []) (Wc := (W_X6_printedLines cA (fun k => h ([0, 1, 2, 3, 4, 5, 6, 7, 8, 9, 10, 11, 12, 13, 14, 15, 16, 17, 18, 19].getD k 0)) (0 : Int32) m_bufferLength m_textLength m_position m_error m_errorAt m_errorOffset m_data m_undoDepth m_numberStart m_seen x5)) (W1 := (W_X6_printedLines cA (fun k => h ([0, 1, 2, 3, 4, 5, 6, 7, 8, 9, 10, 11, 12, 13, 14, 15, 16, 17, 18, 19].getD k 0)) (0 : Int32) m_bufferLength m_textLength m_position m_error m_errorAt m_errorOffset m_data m_undoDepth m_numberStart m_seen x5)) (W2 := (W_X6_filled cA h (0 : Int32) m_bufferLength m_textLength m_position m_error m_errorAt m_errorOffset m_data m_undoDepth m_numberStart m_seen a1 a2 a3 a4 x5)) ⟨hx, hb, hml, hown, hts⟩ (kX6_printedLines l D cA (fun k => h ([0, 1, 2, 3, 4, 5, 6, 7, 8, 9, 10, 11, 12, 13, 14, 15, 16, 17, 18, 19].getD k 0)) (0 : Int32) m_bufferLength m_textLength m_position m_error m_errorAt m_errorOffset m_data m_undoDepth m_numberStart m_seen x5 _ q9) (cwV 0 hts gX6_filled_X6_printedLines rfl rfl rfl (by decide +kernel) ⟨Nat.le_of_ble_eq_true rfl, Nat.le_of_ble_eq_true rfl⟩) Z hA [0, 1] rfl (by decide) rfl (ci := 6) rfl rfl rfl rfl hl.1 rfl (Nat.le_of_ble_eq_true rfl) dX6_filled_21 ⟨Nat.zero_le _, Nat.zero_le _⟩ [some 0, some 1, none, none, none, none] rfl ⟨rfl, rfl, rfl, rfl, rfl, rfl, rfl⟩ (fun H locs Z => ?_)
    refine lv_i2d (pc := 24) hx hb dX6_filled_24 ?_
    refine lv_aload_n (pc := 25) hx hb dX6_filled_25 rfl (lv_at hl 0 rfl) ?_
    refine z_get (pc := 26) (ref := "LotSheetModel") (ci := 6) (C := RX6) (T := TX6) (N := 22) hx hb hts iw_X6_filled_X6 hown Z 0 rfl rfl 18 (by decide) (List.mem_of_getElem? (i := 2) rfl) rfl rfl dX6_filled_26 ?_
    refine lv_aload_n (pc := 29) hx hb dX6_filled_29 rfl (lv_at hl 0 rfl) ?_
    refine z_get (pc := 30) (ref := "LotSheetModel") (ci := 6) (C := RX6) (T := TX6) (N := 22) hx hb hts iw_X6_filled_X6 hown Z 0 rfl rfl 8 (by decide) (List.mem_of_getElem? (i := 3) rfl) rfl rfl dX6_filled_30 ?_
    refine lv_iconst (pc := 33) (v := (0 : Int32)) hx hb dX6_filled_33 (by decide) ?_
    refine z_iald (pc := 34) hx hb Z 1 0 rfl rfl (show ¬ ((0 : Int32) < 0 ∨ 153 ≤ (0 : Int32).toNatClampNeg) by decide) dX6_filled_34 ?_
    refine lv_imul (pc := 35) hx hb dX6_filled_35 ?_
    refine lv_i2d (pc := 36) hx hb dX6_filled_36 ?_
    obtain ⟨nz10, hf⟩ := o_asE hf
    refine lv_ddiv (pc := 37) hx hb dX6_filled_37 (z_dn nz10) ?_
    cases hf
    exact z_dret (pc := 38) hx hb hr hlocks Z rfl rfl dX6_filled_38
  · replace hf := o_pos c7 hf
    refine lv_dconst0 (pc := 16) hx hb dX6_filled_16 ?_
    refine lv_goto (pc := 17) (tgt := 38) hx hb dX6_filled_17 (by decide) ?_
    cases hf
    exact z_dret (pc := 38) hx hb hr hlocks Z rfl rfl dX6_filled_38
