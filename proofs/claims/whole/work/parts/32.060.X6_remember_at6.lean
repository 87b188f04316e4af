def W_X6_remember_at6 (cA : Nat → ClassId) (h : Nat → Nat) (m_thrown : Int32) (m_bufferLength : Int32) (m_textLength : Int32) (m_position : Int32) (m_error : Int32) (m_errorAt : Int32) (m_errorOffset : Int32) (m_data : Nat → Int32) (m_history : Nat → Nat → Int32) (m_undoDepth : Int32) (m_numberStart : Int32) (m_seen : Int32) (m_pages : Int32) : va_W := [(h 0, .inr (6, [.int m_thrown, .ref (h 1), .int m_bufferLength, .int m_textLength, .int m_position, .int m_error, .int m_errorAt, .int m_errorOffset, .ref (h 2), .ref (h 3), .ref (h 4), .int m_undoDepth, .int m_numberStart, .int m_seen, .ref (h 13), .ref (h 14), .ref (h 15), .ref (h 16), .int m_pages, .ref (h 17), .ref (h 18), .ref (h 19)])), (h 2, .inl (cA 0, 153, .inl m_data)), (h 4, .inl (cA 4, 8, .inr (.inr (.inr (.inr (zq8 (h 5) (h 6) (h 7) (h 8) (h 9) (h 10) (h 11) (h 12))))))), (h 5, .inl (cA 0, 153, .inl ((m_history 0)))), (h 6, .inl (cA 0, 153, .inl ((m_history 1)))), (h 7, .inl (cA 0, 153, .inl ((m_history 2)))), (h 8, .inl (cA 0, 153, .inl ((m_history 3)))), (h 9, .inl (cA 0, 153, .inl ((m_history 4)))), (h 10, .inl (cA 0, 153, .inl ((m_history 5)))), (h 11, .inl (cA 0, 153, .inl ((m_history 6)))), (h 12, .inl (cA 0, 153, .inl ((m_history 7))))]
def fX6_remember_at6 (m_data : Nat → Int32) (m_history : Nat → Nat → Int32) : Option ((Nat → Nat → Int32) × Int32) := o_bind (fX6_copy m_data (m_history 6)) (fun a1 => some ((va_up m_history 6 a1), (7 : Int32)))
theorem iw_X6_remember_at6_X6 : ∀ w ∈ u_ws RX6 TX6 22, w ∈ wsX6_remember := z_inr [8, 9, 10, 11, 12, 13, 14, 15, 16, 17, 18, 19, 20, 21, 22, 23, 24, 25, 26, 27, 28, 29] rfl
set_option maxHeartbeats 4000000 in
set_option maxRecDepth 100000 in
theorem kX6_remember_at6 (l : Launch) (D : va_G) (cA : Nat → ClassId) (h : Nat → Nat) (m_thrown : Int32) (m_bufferLength : Int32) (m_textLength : Int32) (m_position : Int32) (m_error : Int32) (m_errorAt : Int32) (m_errorOffset : Int32) (m_data : Nat → Int32) (m_history : Nat → Nat → Int32) (m_numberStart : Int32) (m_seen : Int32) (m_pages : Int32) (u : (Nat → Nat → Int32) × Int32) (hf : fX6_remember_at6 m_data m_history = some u) : zMv l yX6_remember wsX6_remember ({ frames := 1, cells := 0, slots := 0, locals := 22 } : Room) D (zTY cA) [.ref (h 0)] (W_X6_remember_at6 cA h m_thrown m_bufferLength m_textLength m_position m_error m_errorAt m_errorOffset m_data m_history (6 : Int32) m_numberStart m_seen m_pages) (W_X6_remember_at6 cA h m_thrown m_bufferLength m_textLength m_position m_error m_errorAt m_errorOffset m_data (u.1) (u.2) m_numberStart m_seen m_pages) := by
  refine z_startv (cc := cX6_remember) (maxL := 2) (ret := none) (by decide) rfl (Nat.le_of_ble_eq_true rfl) ?_
  intro p e s m args below meth c A hx hb hr hts hown hlocks hml hA Z ls hl
  replace hown : s.vm.findClass RX6 = some m.cls := hown
  replace hl : lv_has ls 2 [(0, .ref (h 0))] := hl
  obtain ⟨H, hH⟩ : ∃ H, H = s.heap := ⟨_, rfl⟩
  rw [← hH] at Z ⊢
  clear hH
  obtain ⟨locs, hlc⟩ : ∃ q : List Loc, q = [] := ⟨_, rfl⟩
  rw [← hlc] at Z ⊢
  clear hlc
  refine lv_aload_n (pc := 0) hx hb dX6_remember_0 rfl (lv_at hl 0 rfl) ?_
  refine z_get (pc := 1) (ref := "LotSheetModel") (ci := 6) (C := RX6) (T := TX6) (N := 22) hx hb hts iw_X6_remember_at6_X6 hown Z 0 rfl rfl 11 (by decide) (List.mem_of_getElem? (i := 1) rfl) rfl rfl dX6_remember_1 ?_
  refine lv_bipush (pc := 4) (v := (8 : Int32)) hx hb dX6_remember_4 (by decide) ?_
  refine lv_icmp_ne (pc := 6) (tgt := 50) hx hb dX6_remember_6 (by decide) (fun _ => ?_) (fun c9 => absurd c9 (by decide))
  refine lv_aload_n (pc := 50) hx hb dX6_remember_50 rfl (lv_at hl 0 rfl) ?_
  refine z_get (pc := 51) (ref := "LotSheetModel") (ci := 6) (C := RX6) (T := TX6) (N := 22) hx hb hts iw_X6_remember_at6_X6 hown Z 0 rfl rfl 8 (by decide) (List.mem_of_getElem? (i := 3) rfl) rfl rfl dX6_remember_51 ?_
  refine lv_aload_n (pc := 54) hx hb dX6_remember_54 rfl (lv_at hl 0 rfl) ?_
  refine z_get (pc := 55) (ref := "LotSheetModel") (ci := 6) (C := RX6) (T := TX6) (N := 22) hx hb hts iw_X6_remember_at6_X6 hown Z 0 rfl rfl 10 (by decide) (List.mem_of_getElem? (i := 2) rfl) rfl rfl dX6_remember_55 ?_
  refine lv_aload_n (pc := 58) hx hb dX6_remember_58 rfl (lv_at hl 0 rfl) ?_
  refine z_get (pc := 59) (ref := "LotSheetModel") (ci := 6) (C := RX6) (T := TX6) (N := 22) hx hb hts iw_X6_remember_at6_X6 hown Z 0 rfl rfl 11 (by decide) (List.mem_of_getElem? (i := 1) rfl) rfl rfl dX6_remember_59 ?_
  refine z_aald (pc := 62) (b := h 11) hx hb Z 2 4 rfl rfl rfl (by decide) rfl dX6_remember_62 ?_
  obtain ⟨a1, q2, hf⟩ := o_bindE hf
  refine z_callSv (pc := 63) (As := [.ref (h 2), .ref (h 11)]) (rest := []) (Wc := (W_X6_copy cA (fun k => h ([2, 11].getD k 0)) m_data (m_history 6))) (W1 := (W_X6_copy cA (fun k => h ([2, 11].getD k 0)) m_data a1)) (W2 := (W_X6_remember_at6 cA h m_thrown m_bufferLength m_textLength m_position m_error m_errorAt m_errorOffset m_data (va_up m_history 6 a1) (6 : Int32) m_numberStart m_seen m_pages)) ⟨hx, hb, hml, hown, hts⟩ (kX6_copy l D cA (fun k => h ([2, 11].getD k 0)) m_data (m_history 6) _ q2) (va_cwS 2 hts gX6_remember_X6_copy rfl rfl rfl (by decide +kernel) ⟨Nat.le_of_ble_eq_true rfl, Nat.le_of_ble_eq_true rfl⟩) Z hA [1, 9] rfl (by decide) rfl rfl hl.1 rfl (Nat.le_of_ble_eq_true rfl) dX6_remember_63 ⟨Nat.zero_le _, Nat.zero_le _⟩ [none, some 0, none, none, none, none, none, none, none, some 1, none] rfl ⟨rfl, rfl, rfl, rfl, rfl, rfl, rfl, rfl, rfl, rfl, rfl, rfl⟩ (fun H locs Z => ?_)
  refine lv_aload_n (pc := 66) hx hb dX6_remember_66 rfl (lv_at hl 0 rfl) ?_
  refine lv_dup (pc := 67) hx hb dX6_remember_67 rfl ?_
  refine z_get (pc := 68) (ref := "LotSheetModel") (ci := 6) (C := RX6) (T := TX6) (N := 22) hx hb hts iw_X6_remember_at6_X6 hown Z 0 rfl rfl 11 (by decide) (List.mem_of_getElem? (i := 1) rfl) rfl rfl dX6_remember_68 ?_
  refine lv_iconst (pc := 71) (v := (1 : Int32)) hx hb dX6_remember_71 (by decide) ?_
  refine lv_iadd (pc := 72) hx hb dX6_remember_72 ?_
  refine lv_topi (fun x3 ex3 => ?_)
  obtain rfl : x3 = (7 : Int32) := ex3.trans (by decide)
  refine z_put (pc := 73) (ref := "LotSheetModel") (ci := 6) (C := RX6) (T := TX6) (N := 22) (W1 := (W_X6_remember_at6 cA h m_thrown m_bufferLength m_textLength m_position m_error m_errorAt m_errorOffset m_data (va_up m_history 6 a1) (7 : Int32) m_numberStart m_seen m_pages)) hx hb hts iw_X6_remember_at6_X6 tyX6 tyX6_ok nmX6 hown Z 0 rfl rfl 11 (by decide) (List.mem_of_getElem? (i := 1) rfl) rfl rfl rfl rfl (Nat.le_of_ble_eq_true rfl) dX6_remember_73 rfl (fun H locs Z => ?_)
  cases hf
  exact z_vret (pc := 76) hx hb hr hlocks Z rfl dX6_remember_76
