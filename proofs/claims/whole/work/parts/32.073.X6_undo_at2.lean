def W_X6_undo_at2 (cA : Nat → ClassId) (h : Nat → Nat) (m_thrown : Int32) (m_bufferLength : Int32) (m_textLength : Int32) (m_position : Int32) (m_error : Int32) (m_errorAt : Int32) (m_errorOffset : Int32) (m_data : Nat → Int32) (m_history : Nat → Nat → Int32) (m_undoDepth : Int32) (m_numberStart : Int32) (m_seen : Int32) (m_pages : Int32) : va_W := [(h 0, .inr (6, [.int m_thrown, .ref (h 1), .int m_bufferLength, .int m_textLength, .int m_position, .int m_error, .int m_errorAt, .int m_errorOffset, .ref (h 2), .ref (h 3), .ref (h 4), .int m_undoDepth, .int m_numberStart, .int m_seen, .ref (h 13), .ref (h 14), .ref (h 15), .ref (h 16), .int m_pages, .ref (h 17), .ref (h 18), .ref (h 19)])), (h 2, .inl (cA 0, 153, .inl m_data)), (h 4, .inl (cA 4, 8, .inr (.inr (.inr (.inr (zq8 (h 5) (h 6) (h 7) (h 8) (h 9) (h 10) (h 11) (h 12))))))), (h 5, .inl (cA 0, 153, .inl ((m_history 0)))), (h 6, .inl (cA 0, 153, .inl ((m_history 1)))), (h 7, .inl (cA 0, 153, .inl ((m_history 2)))), (h 8, .inl (cA 0, 153, .inl ((m_history 3)))), (h 9, .inl (cA 0, 153, .inl ((m_history 4)))), (h 10, .inl (cA 0, 153, .inl ((m_history 5)))), (h 11, .inl (cA 0, 153, .inl ((m_history 6)))), (h 12, .inl (cA 0, 153, .inl ((m_history 7))))]
def fX6_undo_at2 (m_thrown : Int32) (m_data : Nat → Int32) (m_history : Nat → Nat → Int32) : Option (Int32 × Int32 × (Nat → Int32) × Int32) := o_bind (fX6_copy (m_history 1) m_data) (fun a2 => some ((1 : Int32), (0 : Int32), a2, (1 : Int32)))
theorem iw_X6_undo_at2_X6 : ∀ w ∈ u_ws RX6 TX6 22, w ∈ wsX6_undo := z_inr [9, 10, 11, 12, 13, 14, 15, 16, 17, 18, 19, 20, 21, 22, 23, 24, 25, 26, 27, 28, 29, 30] rfl
set_option maxHeartbeats 4000000 in
set_option maxRecDepth 100000 in
theorem kX6_undo_at2 (l : Launch) (D : va_G) (cA : Nat → ClassId) (h : Nat → Nat) (m_thrown : Int32) (m_bufferLength : Int32) (m_textLength : Int32) (m_position : Int32) (m_error : Int32) (m_errorAt : Int32) (m_errorOffset : Int32) (m_data : Nat → Int32) (m_history : Nat → Nat → Int32) (m_numberStart : Int32) (m_seen : Int32) (m_pages : Int32) (u : Int32 × Int32 × (Nat → Int32) × Int32) (hf : fX6_undo_at2 m_thrown m_data m_history = some u) : zMi l yX6_undo wsX6_undo ({ frames := 1, cells := 0, slots := 0, locals := 22 } : Room) D (zTY cA) [.ref (h 0)] (W_X6_undo_at2 cA h m_thrown m_bufferLength m_textLength m_position m_error m_errorAt m_errorOffset m_data m_history (2 : Int32) m_numberStart m_seen m_pages) (W_X6_undo_at2 cA h (u.2.1) m_bufferLength m_textLength m_position m_error m_errorAt m_errorOffset (u.2.2.1) m_history (u.2.2.2) m_numberStart m_seen m_pages) u.1 := by
  refine z_starti (cc := cX6_undo) (maxL := 1) (ret := (some .int)) (by decide) rfl (Nat.le_of_ble_eq_true rfl) ?_
  intro p e s m args below meth c A hx hb hr hts hown hlocks hml hA Z ls hl
  replace hown : s.vm.findClass RX6 = some m.cls := hown
  replace hl : lv_has ls 1 [(0, .ref (h 0))] := hl
  obtain ⟨H, hH⟩ : ∃ H, H = s.heap := ⟨_, rfl⟩
  rw [← hH] at Z ⊢
  clear hH
  obtain ⟨locs, hlc⟩ : ∃ q : List Loc, q = [] := ⟨_, rfl⟩
  rw [← hlc] at Z ⊢
  clear hlc
  refine lv_aload_n (pc := 0) hx hb dX6_undo_0 rfl (lv_at hl 0 rfl) ?_
  refine lv_iconst (pc := 1) (v := (0 : Int32)) hx hb dX6_undo_1 (by decide) ?_
  refine z_put (pc := 2) (ref := "LotSheetModel") (ci := 6) (C := RX6) (T := TX6) (N := 22) (W1 := (W_X6_undo_at2 cA h (0 : Int32) m_bufferLength m_textLength m_position m_error m_errorAt m_errorOffset m_data m_history (2 : Int32) m_numberStart m_seen m_pages)) hx hb hts iw_X6_undo_at2_X6 tyX6 tyX6_ok nmX6 hown Z 0 rfl rfl 0 (by decide) (List.mem_of_getElem? (i := 1) rfl) rfl rfl rfl rfl (Nat.le_of_ble_eq_true rfl) dX6_undo_2 rfl (fun H locs Z => ?_)
  refine lv_aload_n (pc := 5) hx hb dX6_undo_5 rfl (lv_at hl 0 rfl) ?_
  refine z_get (pc := 6) (ref := "LotSheetModel") (ci := 6) (C := RX6) (T := TX6) (N := 22) hx hb hts iw_X6_undo_at2_X6 hown Z 0 rfl rfl 11 (by decide) (List.mem_of_getElem? (i := 2) rfl) rfl rfl dX6_undo_6 ?_
  refine lv_if_ne (pc := 9) (tgt := 14) hx hb dX6_undo_9 (by decide) (fun _ => ?_) (fun c9 => absurd c9 (by decide))
  refine lv_aload_n (pc := 14) hx hb dX6_undo_14 rfl (lv_at hl 0 rfl) ?_
  refine lv_dup (pc := 15) hx hb dX6_undo_15 rfl ?_
  refine z_get (pc := 16) (ref := "LotSheetModel") (ci := 6) (C := RX6) (T := TX6) (N := 22) hx hb hts iw_X6_undo_at2_X6 hown Z 0 rfl rfl 11 (by decide) (List.mem_of_getElem? (i := 2) rfl) rfl rfl dX6_undo_16 ?_
  refine lv_iconst (pc := 19) (v := (1 : Int32)) hx hb dX6_undo_19 (by decide) ?_
  refine lv_isub (pc := 20) hx hb dX6_undo_20 ?_
  refine lv_topi (fun x1 ex1 => ?_)
  obtain rfl : x1 = (1 : Int32) := ex1.trans (by decide)
  refine z_put (pc := 21) (ref := "LotSheetModel") (ci := 6) (C := RX6) (T := TX6) (N := 22) (W1 := (W_X6_undo_at2 cA h (0 : Int32) m_bufferLength m_textLength m_position m_error m_errorAt m_errorOffset m_data m_history (1 : Int32) m_numberStart m_seen m_pages)) hx hb hts iw_X6_undo_at2_X6 tyX6 tyX6_ok nmX6 hown Z 0 rfl rfl 11 (by decide) (List.mem_of_getElem? (i := 2) rfl) rfl rfl rfl rfl (Nat.le_of_ble_eq_true rfl) dX6_undo_21 rfl (fun H locs Z => ?_)
  refine lv_aload_n (pc := 24) hx hb dX6_undo_24 rfl (lv_at hl 0 rfl) ?_
  refine z_get (pc := 25) (ref := "LotSheetModel") (ci := 6) (C := RX6) (T := TX6) (N := 22) hx hb hts iw_X6_undo_at2_X6 hown Z 0 rfl rfl 10 (by decide) (List.mem_of_getElem? (i := 3) rfl) rfl rfl dX6_undo_25 ?_
  refine lv_aload_n (pc := 28) hx hb dX6_undo_28 rfl (lv_at hl 0 rfl) ?_
  refine z_get (pc := 29) (ref := "LotSheetModel") (ci := 6) (C := RX6) (T := TX6) (N := 22) hx hb hts iw_X6_undo_at2_X6 hown Z 0 rfl rfl 11 (by decide) (List.mem_of_getElem? (i := 2) rfl) rfl rfl dX6_undo_29 ?_
  refine z_aald (pc := 32) (b := h 6) hx hb Z 2 4 rfl rfl rfl (by decide) rfl dX6_undo_32 ?_
  refine lv_aload_n (pc := 33) hx hb dX6_undo_33 rfl (lv_at hl 0 rfl) ?_
  refine z_get (pc := 34) (ref := "LotSheetModel") (ci := 6) (C := RX6) (T := TX6) (N := 22) hx hb hts iw_X6_undo_at2_X6 hown Z 0 rfl rfl 8 (by decide) (List.mem_of_getElem? (i := 4) rfl) rfl rfl dX6_undo_34 ?_
  obtain ⟨a2, q3, hf⟩ := o_bindE hf
  refine z_callSv (pc := 37) (As := [.ref (h 6), .ref (h 2)]) (rest := []) (Wc := (W_X6_copy cA (fun k => h ([6, 2].getD k 0)) (m_history 1) m_data)) (W1 := (W_X6_copy cA (fun k => h ([6, 2].getD k 0)) (m_history 1) a2)) (W2 := (W_X6_undo_at2 cA h (0 : Int32) m_bufferLength m_textLength m_position m_error m_errorAt m_errorOffset a2 m_history (1 : Int32) m_numberStart m_seen m_pages)) ⟨hx, hb, hml, hown, hts⟩ (kX6_copy l D cA (fun k => h ([6, 2].getD k 0)) (m_history 1) m_data _ q3) (va_cwS 2 hts gX6_undo_X6_copy rfl rfl rfl (by decide +kernel) ⟨Nat.le_of_ble_eq_true rfl, Nat.le_of_ble_eq_true rfl⟩) Z hA [4, 1] rfl (by decide) rfl rfl hl.1 rfl (Nat.le_of_ble_eq_true rfl) dX6_undo_37 ⟨Nat.zero_le _, Nat.zero_le _⟩ [none, some 1, none, none, some 0, none, none, none, none, none, none] rfl ⟨rfl, rfl, rfl, rfl, rfl, rfl, rfl, rfl, rfl, rfl, rfl, rfl⟩ (fun H locs Z => ?_)
  refine lv_aload_n (pc := 40) hx hb dX6_undo_40 rfl (lv_at hl 0 rfl) ?_
  refine z_get (pc := 41) (ref := "LotSheetModel") (ci := 6) (C := RX6) (T := TX6) (N := 22) hx hb hts iw_X6_undo_at2_X6 hown Z 0 rfl rfl 11 (by decide) (List.mem_of_getElem? (i := 2) rfl) rfl rfl dX6_undo_41 ?_
  cases hf
  exact z_iret (pc := 44) hx hb hr hlocks Z rfl rfl dX6_undo_44
