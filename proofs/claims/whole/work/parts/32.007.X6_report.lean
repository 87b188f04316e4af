def W_X6_report (cA : Nat → ClassId) (h : Nat → Nat) (m_thrown : Int32) (m_bufferLength : Int32) (m_textLength : Int32) (m_position : Int32) (m_error : Int32) (m_errorAt : Int32) (m_errorOffset : Int32) (m_undoDepth : Int32) (m_numberStart : Int32) (m_seen : Int32) (m_pages : Int32) : va_W := [(h 0, .inr (6, [.int m_thrown, .ref (h 1), .int m_bufferLength, .int m_textLength, .int m_position, .int m_error, .int m_errorAt, .int m_errorOffset, .ref (h 2), .ref (h 3), .ref (h 4), .int m_undoDepth, .int m_numberStart, .int m_seen, .ref (h 13), .ref (h 14), .ref (h 15), .ref (h 16), .int m_pages, .ref (h 17), .ref (h 18), .ref (h 19)]))]
def fX6_report (p1 : Int32) (p2 : Int32) (m_error : Int32) (m_errorAt : Int32) : Option (Int32 × Int32) := (if m_error = 0 then some (p1, p2) else some (m_error, m_errorAt))
theorem iw_X6_report_X6 : ∀ w ∈ u_ws RX6 TX6 22, w ∈ wsX6_report := z_inr [3, 4, 5, 6, 7, 8, 9, 10, 11, 12, 13, 14, 15, 16, 17, 18, 19, 20, 21, 22, 23, 24] rfl
set_option maxHeartbeats 4000000 in
set_option maxRecDepth 100000 in
theorem kX6_report (l : Launch) (D : va_G) (cA : Nat → ClassId) (h : Nat → Nat) (p1 : Int32) (p2 : Int32) (m_thrown : Int32) (m_bufferLength : Int32) (m_textLength : Int32) (m_position : Int32) (m_error : Int32) (m_errorAt : Int32) (m_errorOffset : Int32) (m_undoDepth : Int32) (m_numberStart : Int32) (m_seen : Int32) (m_pages : Int32) (u : Int32 × Int32) (hf : fX6_report p1 p2 m_error m_errorAt = some u) : zMv l yX6_report wsX6_report ({ frames := 0, cells := 0, slots := 0, locals := 0 } : Room) D (zTY cA) [.ref (h 0), .int p1, .int p2] (W_X6_report cA h m_thrown m_bufferLength m_textLength m_position m_error m_errorAt m_errorOffset m_undoDepth m_numberStart m_seen m_pages) (W_X6_report cA h m_thrown m_bufferLength m_textLength m_position (u.1) (u.2) m_errorOffset m_undoDepth m_numberStart m_seen m_pages) := by
  refine z_startv (cc := cX6_report) (maxL := 3) (ret := none) (by decide) rfl (Nat.le_of_ble_eq_true rfl) ?_
  intro p e s m args below meth c A hx hb hr hts hown hlocks hml hA Z ls hl
  replace hown : s.vm.findClass RX6 = some m.cls := hown
  replace hl : lv_has ls 3 [(0, .ref (h 0)), (1, .int p1), (2, .int p2)] := hl
  obtain ⟨H, hH⟩ : ∃ H, H = s.heap := ⟨_, rfl⟩
  rw [← hH] at Z ⊢
  clear hH
  obtain ⟨locs, hlc⟩ : ∃ q : List Loc, q = [] := ⟨_, rfl⟩
  rw [← hlc] at Z ⊢
  clear hlc
  refine lv_aload_n (pc := 0) hx hb dX6_report_0 rfl (lv_at hl 0 rfl) ?_
  refine z_get (pc := 1) (ref := "LotSheetModel") (ci := 6) (C := RX6) (T := TX6) (N := 22) hx hb hts iw_X6_report_X6 hown Z 0 rfl rfl 5 (by decide) (List.mem_of_getElem? (i := 1) rfl) rfl rfl dX6_report_1 ?_
  refine lv_if_eq (pc := 4) (tgt := 8) hx hb dX6_report_4 (by decide) (fun c1 => ?_) (fun c1 => ?_)
  · replace hf := o_pos c1 hf
    refine lv_aload_n (pc := 8) hx hb dX6_report_8 rfl (lv_at hl 0 rfl) ?_
    refine lv_iload_n (pc := 9) hx hb dX6_report_9 rfl (lv_at hl 1 rfl) ?_
    refine z_put (pc := 10) (ref := "LotSheetModel") (ci := 6) (C := RX6) (T := TX6) (N := 22) (W1 := (W_X6_report cA h m_thrown m_bufferLength m_textLength m_position p1 m_errorAt m_errorOffset m_undoDepth m_numberStart m_seen m_pages)) hx hb hts iw_X6_report_X6 tyX6 tyX6_ok nmX6 hown Z 0 rfl rfl 5 (by decide) (List.mem_of_getElem? (i := 1) rfl) rfl rfl rfl rfl (Nat.le_of_ble_eq_true rfl) dX6_report_10 rfl (fun H locs Z => ?_)
    refine lv_aload_n (pc := 13) hx hb dX6_report_13 rfl (lv_at hl 0 rfl) ?_
    refine lv_iload_n (pc := 14) hx hb dX6_report_14 rfl (lv_at hl 2 rfl) ?_
    refine z_put (pc := 15) (ref := "LotSheetModel") (ci := 6) (C := RX6) (T := TX6) (N := 22) (W1 := (W_X6_report cA h m_thrown m_bufferLength m_textLength m_position p1 p2 m_errorOffset m_undoDepth m_numberStart m_seen m_pages)) hx hb hts iw_X6_report_X6 tyX6 tyX6_ok nmX6 hown Z 0 rfl rfl 6 (by decide) (List.mem_of_getElem? (i := 2) rfl) rfl rfl rfl rfl (Nat.le_of_ble_eq_true rfl) dX6_report_15 rfl (fun H locs Z => ?_)
    cases hf
    exact z_vret (pc := 18) hx hb hr hlocks Z rfl dX6_report_18
  · replace hf := o_neg c1 hf
    cases hf
    exact z_vret (pc := 7) hx hb hr hlocks Z rfl dX6_report_7
