def W_X6_remember_at8 (cA : Nat → ClassId) (h : Nat → Nat) (m_thrown : Int32) (m_bufferLength : Int32) (m_textLength : Int32) (m_position : Int32) (m_error : Int32) (m_errorAt : Int32) (m_errorOffset : Int32) (m_data : Nat → Int32) (m_history : Nat → Nat → Int32) (m_undoDepth : Int32) (m_numberStart : Int32) (m_seen : Int32) (m_pages : Int32) : va_W := [(h 0, .inr (6, [.int m_thrown, .ref (h 1), .int m_bufferLength, .int m_textLength, .int m_position, .int m_error, .int m_errorAt, .int m_errorOffset, .ref (h 2), .ref (h 3), .ref (h 4), .int m_undoDepth, .int m_numberStart, .int m_seen, .ref (h 13), .ref (h 14), .ref (h 15), .ref (h 16), .int m_pages, .ref (h 17), .ref (h 18), .ref (h 19)])), (h 2, .inl (cA 0, 153, .inl m_data)), (h 4, .inl (cA 4, 8, .inr (.inr (.inr (.inr (zq8 (h 5) (h 6) (h 7) (h 8) (h 9) (h 10) (h 11) (h 12))))))), (h 5, .inl (cA 0, 153, .inl ((m_history 0)))), (h 6, .inl (cA 0, 153, .inl ((m_history 1)))), (h 7, .inl (cA 0, 153, .inl ((m_history 2)))), (h 8, .inl (cA 0, 153, .inl ((m_history 3)))), (h 9, .inl (cA 0, 153, .inl ((m_history 4)))), (h 10, .inl (cA 0, 153, .inl ((m_history 5)))), (h 11, .inl (cA 0, 153, .inl ((m_history 6)))), (h 12, .inl (cA 0, 153, .inl ((m_history 7))))]
def fX6_remember_at8 (m_data : Nat → Int32) (m_history : Nat → Nat → Int32) : Option ((Nat → Nat → Int32) × Int32) := o_bind (fX6_copy (m_history 1) (m_history 0)) (fun a2 => o_bind (fX6_copy (m_history 2) (m_history 1)) (fun a6 => o_bind (fX6_copy (m_history 3) (m_history 2)) (fun a10 => o_bind (fX6_copy (m_history 4) (m_history 3)) (fun a14 => o_bind (fX6_copy (m_history 5) (m_history 4)) (fun a18 => o_bind (fX6_copy (m_history 6) (m_history 5)) (fun a22 => o_bind (fX6_copy (m_history 7) (m_history 6)) (fun a26 => o_bind (fX6_copy m_data (m_history 7)) (fun a30 => some ((va_up (va_up (va_up (va_up (va_up (va_up (va_up (va_up m_history 0 a2) 1 a6) 2 a10) 3 a14) 4 a18) 5 a22) 6 a26) 7 a30), (8 : Int32))))))))))
theorem iw_X6_remember_at8_X6 : ∀ w ∈ u_ws RX6 TX6 22, w ∈ wsX6_remember := z_inr [8, 9, 10, 11, 12, 13, 14, 15, 16, 17, 18, 19, 20, 21, 22, 23, 24, 25, 26, 27, 28, 29] rfl
set_option maxHeartbeats 4000000 in
set_option maxRecDepth 100000 in
theorem kX6_remember_at8 (l : Launch) (D : va_G) (cA : Nat → ClassId) (h : Nat → Nat) (m_thrown : Int32) (m_bufferLength : Int32) (m_textLength : Int32) (m_position : Int32) (m_error : Int32) (m_errorAt : Int32) (m_errorOffset : Int32) (m_data : Nat → Int32) (m_history : Nat → Nat → Int32) (m_numberStart : Int32) (m_seen : Int32) (m_pages : Int32) (u : (Nat → Nat → Int32) × Int32) (hf : fX6_remember_at8 m_data m_history = some u) : zMv l yX6_remember wsX6_remember ({ frames := 1, cells := 0, slots := 0, locals := 22 } : Room) D (zTY cA) [.ref (h 0)] (W_X6_remember_at8 cA h m_thrown m_bufferLength m_textLength m_position m_error m_errorAt m_errorOffset m_data m_history (8 : Int32) m_numberStart m_seen m_pages) (W_X6_remember_at8 cA h m_thrown m_bufferLength m_textLength m_position m_error m_errorAt m_errorOffset m_data (u.1) (u.2) m_numberStart m_seen m_pages) := by
  refine z_startv (cc := cX6_remember) (maxL := 2) (ret := none) (by decide) rfl (Nat.le_of_ble_eq_true rfl) ?_
  intro p e s m args below meth c A hx hb hr hts hown hlocks hml hA Z ls hl
  replace hown : s.vm.findClass RX6 = some m.cls := hown
  replace hl : lv_has ls 2 [(0, .ref (h 0))] := hl
  obtain ⟨H, hH⟩ : ∃ H, H = s.heap := ⟨_, rfl⟩
  rw [← hH] at Z ⊢
  clear hH
  obtain ⟨locs, hlc⟩ : ∃ q : List Loc, q = [] := ⟨_, rfl⟩
  rw [← hlc] at Z ⊢
  clear hlc
  refine lv_aload_n (pc := 0) hx hb dX6_remember_0 rfl (lv_at hl 0 rfl) ?_
  refine z_get (pc := 1) (ref := "LotSheetModel") (ci := 6) (C := RX6) (T := TX6) (N := 22) hx hb hts iw_X6_remember_at8_X6 hown Z 0 rfl rfl 11 (by decide) (List.mem_of_getElem? (i := 1) rfl) rfl rfl dX6_remember_1 ?_
  refine lv_bipush (pc := 4) (v := (8 : Int32)) hx hb dX6_remember_4 (by decide) ?_
  refine lv_icmp_ne (pc := 6) (tgt := 50) hx hb dX6_remember_6 (by decide) (fun c9 => absurd c9 (by decide)) (fun _ => ?_)
  refine lv_iconst (pc := 9) (v := (1 : Int32)) hx hb dX6_remember_9 (by decide) ?_
  refine lv_istore_n (pc := 10) (lv' := [(1, .int (1 : Int32)), (0, .ref (h 0))]) hx hb dX6_remember_10 rfl hl (by decide) rfl (fun ls hl => ?_)
  refine lv_iload_n (pc := 11) hx hb dX6_remember_11 rfl (lv_at hl 0 rfl) ?_
  refine lv_bipush (pc := 12) (v := (8 : Int32)) hx hb dX6_remember_12 (by decide) ?_
  refine lv_icmp_ge (pc := 14) (tgt := 40) hx hb dX6_remember_14 (by decide) (fun c9 => absurd c9 (by decide)) (fun _ => ?_)
  refine lv_aload_n (pc := 17) hx hb dX6_remember_17 rfl (lv_at hl 1 rfl) ?_
  refine z_get (pc := 18) (ref := "LotSheetModel") (ci := 6) (C := RX6) (T := TX6) (N := 22) hx hb hts iw_X6_remember_at8_X6 hown Z 0 rfl rfl 10 (by decide) (List.mem_of_getElem? (i := 2) rfl) rfl rfl dX6_remember_18 ?_
  refine lv_iload_n (pc := 21) hx hb dX6_remember_21 rfl (lv_at hl 0 rfl) ?_
  refine z_aald (pc := 22) (b := h 6) hx hb Z 2 4 rfl rfl rfl (by decide) rfl dX6_remember_22 ?_
  refine lv_aload_n (pc := 23) hx hb dX6_remember_23 rfl (lv_at hl 1 rfl) ?_
  refine z_get (pc := 24) (ref := "LotSheetModel") (ci := 6) (C := RX6) (T := TX6) (N := 22) hx hb hts iw_X6_remember_at8_X6 hown Z 0 rfl rfl 10 (by decide) (List.mem_of_getElem? (i := 2) rfl) rfl rfl dX6_remember_24 ?_
  refine lv_iload_n (pc := 27) hx hb dX6_remember_27 rfl (lv_at hl 0 rfl) ?_
  refine lv_iconst (pc := 28) (v := (1 : Int32)) hx hb dX6_remember_28 (by decide) ?_
  refine lv_isub (pc := 29) hx hb dX6_remember_29 ?_
  refine lv_topi (fun x1 ex1 => ?_)
  obtain rfl : x1 = (0 : Int32) := ex1.trans (by decide)
  refine z_aald (pc := 30) (b := h 5) hx hb Z 2 4 rfl rfl rfl (by decide) rfl dX6_remember_30 ?_
  obtain ⟨a2, q3, hf⟩ := o_bindE hf
  refine z_callSv (pc := 31) (As := [.ref (h 6), .ref (h 5)]) (rest := []) (Wc := (W_X6_copy cA (fun k => h ([6, 5].getD k 0)) (m_history 1) (m_history 0))) (W1 := (W_X6_copy cA (fun k => h ([6, 5].getD k 0)) (m_history 1) a2)) (W2 := (W_X6_remember_at8 cA h m_thrown m_bufferLength m_textLength m_position m_error m_errorAt m_errorOffset m_data (va_up m_history 0 a2) (8 : Int32) m_numberStart m_seen m_pages)) ⟨hx, hb, hml, hown, hts⟩ (kX6_copy l D cA (fun k => h ([6, 5].getD k 0)) (m_history 1) (m_history 0) _ q3) (va_cwS 2 hts gX6_remember_X6_copy rfl rfl rfl (by decide +kernel) ⟨Nat.le_of_ble_eq_true rfl, Nat.le_of_ble_eq_true rfl⟩) Z hA [4, 3] rfl (by decide) rfl rfl hl.1 rfl (Nat.le_of_ble_eq_true rfl) dX6_remember_31 ⟨Nat.zero_le _, Nat.zero_le _⟩ [none, none, none, some 1, some 0, none, none, none, none, none, none] rfl ⟨rfl, rfl, rfl, rfl, rfl, rfl, rfl, rfl, rfl, rfl, rfl, rfl⟩ (fun H locs Z => ?_)
  refine lv_iinc (pc := 34) (v := (2 : Int32)) (lv' := [(1, .int (2 : Int32)), (0, .ref (h 0))]) hx hb dX6_remember_34 hl (k := 0) rfl (by decide) (by decide) rfl (fun ls hl => ?_)
  refine lv_goto (pc := 37) (tgt := 11) hx hb dX6_remember_37 (by decide) ?_
  refine lv_iload_n (pc := 11) hx hb dX6_remember_11 rfl (lv_at hl 0 rfl) ?_
  refine lv_bipush (pc := 12) (v := (8 : Int32)) hx hb dX6_remember_12 (by decide) ?_
  refine lv_icmp_ge (pc := 14) (tgt := 40) hx hb dX6_remember_14 (by decide) (fun c9 => absurd c9 (by decide)) (fun _ => ?_)
  refine lv_aload_n (pc := 17) hx hb dX6_remember_17 rfl (lv_at hl 1 rfl) ?_
  refine z_get (pc := 18) (ref := "LotSheetModel") (ci := 6) (C := RX6) (T := TX6) (N := 22) hx hb hts iw_X6_remember_at8_X6 hown Z 0 rfl rfl 10 (by decide) (List.mem_of_getElem? (i := 2) rfl) rfl rfl dX6_remember_18 ?_
  refine lv_iload_n (pc := 21) hx hb dX6_remember_21 rfl (lv_at hl 0 rfl) ?_
  refine z_aald (pc := 22) (b := h 7) hx hb Z 2 4 rfl rfl rfl (by decide) rfl dX6_remember_22 ?_
  refine lv_aload_n (pc := 23) hx hb dX6_remember_23 rfl (lv_at hl 1 rfl) ?_
  refine z_get (pc := 24) (ref := "LotSheetModel") (ci := 6) (C := RX6) (T := TX6) (N := 22) hx hb hts iw_X6_remember_at8_X6 hown Z 0 rfl rfl 10 (by decide) (List.mem_of_getElem? (i := 2) rfl) rfl rfl dX6_remember_24 ?_
  refine lv_iload_n (pc := 27) hx hb dX6_remember_27 rfl (lv_at hl 0 rfl) ?_
  refine lv_iconst (pc := 28) (v := (1 : Int32)) hx hb dX6_remember_28 (by decide) ?_
  refine lv_isub (pc := 29) hx hb dX6_remember_29 ?_
  refine lv_topi (fun x5 ex5 => ?_)
  obtain rfl : x5 = (1 : Int32) := ex5.trans (by decide)
  refine z_aald (pc := 30) (b := h 6) hx hb Z 2 4 rfl rfl rfl (by decide) rfl dX6_remember_30 ?_
  obtain ⟨a6, q7, hf⟩ := o_bindE hf
  refine z_callSv (pc := 31) (As := [.ref (h 7), .ref (h 6)]) (rest := []) (Wc := (W_X6_copy cA (fun k => h ([7, 6].getD k 0)) (m_history 2) (m_history 1))) (W1 := (W_X6_copy cA (fun k => h ([7, 6].getD k 0)) (m_history 2) a6)) (W2 := (W_X6_remember_at8 cA h m_thrown m_bufferLength m_textLength m_position m_error m_errorAt m_errorOffset m_data (va_up (va_up m_history 0 a2) 1 a6) (8 : Int32) m_numberStart m_seen m_pages)) ⟨hx, hb, hml, hown, hts⟩ (kX6_copy l D cA (fun k => h ([7, 6].getD k 0)) (m_history 2) (m_history 1) _ q7) (va_cwS 2 hts gX6_remember_X6_copy rfl rfl rfl (by decide +kernel) ⟨Nat.le_of_ble_eq_true rfl, Nat.le_of_ble_eq_true rfl⟩) Z hA [5, 4] rfl (by decide) rfl rfl hl.1 rfl (Nat.le_of_ble_eq_true rfl) dX6_remember_31 ⟨Nat.zero_le _, Nat.zero_le _⟩ [none, none, none, none, some 1, some 0, none, none, none, none, none] rfl ⟨rfl, rfl, rfl, rfl, rfl, rfl, rfl, rfl, rfl, rfl, rfl, rfl⟩ (fun H locs Z => ?_)
  refine lv_iinc (pc := 34) (v := (3 : Int32)) (lv' := [(1, .int (3 : Int32)), (0, .ref (h 0))]) hx hb dX6_remember_34 hl (k := 0) rfl (by decide) (by decide) rfl (fun ls hl => ?_)
  refine lv_goto (pc := 37) (tgt := 11) hx hb dX6_remember_37 (by decide) ?_
  refine lv_iload_n (pc := 11) hx hb dX6_remember_11 rfl (lv_at hl 0 rfl) ?_
  refine lv_bipush (pc := 12) (v := (8 : Int32)) hx hb dX6_remember_12 (by decide) ?_
  refine lv_icmp_ge (pc := 14) (tgt := 40) hx hb dX6_remember_14 (by decide) (fun c9 => absurd c9 (by decide)) (fun _ => ?_)
  refine lv_aload_n (pc := 17) hx hb dX6_remember_17 rfl (lv_at hl 1 rfl) ?_
  refine z_get (pc := 18) (ref := "LotSheetModel") (ci := 6) (C := RX6) (T := TX6) (N := 22) hx hb hts iw_X6_remember_at8_X6 hown Z 0 rfl rfl 10 (by decide) (List.mem_of_getElem? (i := 2) rfl) rfl rfl dX6_remember_18 ?_
  refine lv_iload_n (pc := 21) hx hb dX6_remember_21 rfl (lv_at hl 0 rfl) ?_
  refine z_aald (pc := 22) (b := h 8) hx hb Z 2 4 rfl rfl rfl (by decide) rfl dX6_remember_22 ?_
  refine lv_aload_n (pc := 23) hx hb dX6_remember_23 rfl (lv_at hl 1 rfl) ?_
  refine z_get (pc := 24) (ref := "LotSheetModel") (ci := 6) (C := RX6) (T := TX6) (N := 22) hx hb hts iw_X6_remember_at8_X6 hown Z 0 rfl rfl 10 (by decide) (List.mem_of_getElem? (i := 2) rfl) rfl rfl dX6_remember_24 ?_
  refine lv_iload_n (pc := 27) hx hb dX6_remember_27 rfl (lv_at hl 0 rfl) ?_
  refine lv_iconst (pc := 28) (v := (1 : Int32)) hx hb dX6_remember_28 (by decide) ?_
  refine lv_isub (pc := 29) hx hb dX6_remember_29 ?_
  refine lv_topi (fun x9 ex9 => ?_)
  obtain rfl : x9 = (2 : Int32) := ex9.trans (by decide)
  refine z_aald (pc := 30) (b := h 7) hx hb Z 2 4 rfl rfl rfl (by decide) rfl dX6_remember_30 ?_
  obtain ⟨a10, q11, hf⟩ := o_bindE hf
  refine z_callSv (pc := 31) (As := [.ref (h 8), .ref (h 7)]) (rest := []) (Wc := (W_X6_copy cA (fun k => h ([8, 7].getD k 0)) (m_history 3) (m_history 2))) (W1 := (W_X6_copy cA (fun k => h ([8, 7].getD k 0)) (m_history 3) a10)) (W2 := (W_X6_remember_at8 cA h m_thrown m_bufferLength m_textLength m_position m_error m_errorAt m_errorOffset m_data (va_up (va_up (va_up m_history 0 a2) 1 a6) 2 a10) (8 : Int32) m_numberStart m_seen m_pages)) ⟨hx, hb, hml, hown, hts⟩ (kX6_copy l D cA (fun k => h ([8, 7].getD k 0)) (m_history 3) (m_history 2) _ q11) (va_cwS 2 hts gX6_remember_X6_copy rfl rfl rfl (by decide +kernel) ⟨Nat.le_of_ble_eq_true rfl, Nat.le_of_ble_eq_true rfl⟩) Z hA [6, 5] rfl (by decide) rfl rfl hl.1 rfl (Nat.le_of_ble_eq_true rfl) dX6_remember_31 ⟨Nat.zero_le _, Nat.zero_le _⟩ [none, none, none, none, none, some 1, some 0, none, none, none, none] rfl ⟨rfl, rfl, rfl, rfl, rfl, rfl, rfl, rfl, rfl, rfl, rfl, rfl⟩ (fun H locs Z => ?_)
  refine lv_iinc (pc := 34) (v := (4 : Int32)) (lv' := [(1, .int (4 : Int32)), (0, .ref (h 0))]) hx hb dX6_remember_34 hl (k := 0) rfl (by decide) (by decide) rfl (fun ls hl => ?_)
  refine lv_goto (pc := 37) (tgt := 11) hx hb dX6_remember_37 (by decide) ?_
  refine lv_iload_n (pc := 11) hx hb dX6_remember_11 rfl (lv_at hl 0 rfl) ?_
  refine lv_bipush (pc := 12) (v := (8 : Int32)) hx hb dX6_remember_12 (by decide) ?_
  refine lv_icmp_ge (pc := 14) (tgt := 40) hx hb dX6_remember_14 (by decide) (fun c9 => absurd c9 (by decide)) (fun _ => ?_)
  refine lv_aload_n (pc := 17) hx hb dX6_remember_17 rfl (lv_at hl 1 rfl) ?_
  refine z_get (pc := 18) (ref := "LotSheetModel") (ci := 6) (C := RX6) (T := TX6) (N := 22) hx hb hts iw_X6_remember_at8_X6 hown Z 0 rfl rfl 10 (by decide) (List.mem_of_getElem? (i := 2) rfl) rfl rfl dX6_remember_18 ?_
  refine lv_iload_n (pc := 21) hx hb dX6_remember_21 rfl (lv_at hl 0 rfl) ?_
  refine z_aald (pc := 22) (b := h 9) hx hb Z 2 4 rfl rfl rfl (by decide) rfl dX6_remember_22 ?_
  refine lv_aload_n (pc := 23) hx hb dX6_remember_23 rfl (lv_at hl 1 rfl) ?_
  refine z_get (pc := 24) (ref := "LotSheetModel") (ci := 6) (C := RX6) (T := TX6) (N := 22) hx hb hts iw_X6_remember_at8_X6 hown Z 0 rfl rfl 10 (by decide) (List.mem_of_getElem? (i := 2) rfl) rfl rfl dX6_remember_24 ?_
  refine lv_iload_n (pc := 27) hx hb dX6_remember_27 rfl (lv_at hl 0 rfl) ?_
  refine lv_iconst (pc := 28) (v := (1 : Int32)) hx hb dX6_remember_28 (by decide) ?_
  refine lv_isub (pc := 29) hx hb dX6_remember_29 ?_
  refine lv_topi (fun x13 ex13 => ?_)
  obtain rfl : x13 = (3 : Int32) := ex13.trans (by decide)
  refine z_aald (pc := 30) (b := h 8) hx hb Z 2 4 rfl rfl rfl (by decide) rfl dX6_remember_30 ?_
  obtain ⟨a14, q15, hf⟩ := o_bindE hf
  refine z_callSv (pc := 31) (As := [.ref (h 9), .ref (h 8)]) (rest := []) (Wc := (W_X6_copy cA (fun k => h ([9, 8].getD k 0)) (m_history 4) (m_history 3))) (W1 := (W_X6_copy cA (fun k => h ([9, 8].getD k 0)) (m_history 4) a14)) (W2 := (W_X6_remember_at8 cA h m_thrown m_bufferLength m_textLength m_position m_error m_errorAt m_errorOffset m_data (va_up (va_up (va_up (va_up m_history 0 a2) 1 a6) 2 a10) 3 a14) (8 : Int32) m_numberStart m_seen m_pages)) ⟨hx, hb, hml, hown, hts⟩ (kX6_copy l D cA (fun k => h ([9, 8].getD k 0)) (m_history 4) (m_history 3) _ q15) (va_cwS 2 hts gX6_remember_X6_copy rfl rfl rfl (by decide +kernel) ⟨Nat.le_of_ble_eq_true rfl, Nat.le_of_ble_eq_true rfl⟩) Z hA [7, 6] rfl (by decide) rfl rfl hl.1 rfl (Nat.le_of_ble_eq_true rfl) dX6_remember_31 ⟨Nat.zero_le _, Nat.zero_le _⟩ [none, none, none, none, none, none, some 1, some 0, none, none, none] rfl ⟨rfl, rfl, rfl, rfl, rfl, rfl, rfl, rfl, rfl, rfl, rfl, rfl⟩ (fun H locs Z => ?_)
  refine lv_iinc (pc := 34) (v := (5 : Int32)) (lv' := [(1, .int (5 : Int32)), (0, .ref (h 0))]) hx hb dX6_remember_34 hl (k := 0) rfl (by decide) (by decide) rfl (fun ls hl => ?_)
  refine lv_goto (pc := 37) (tgt := 11) hx hb dX6_remember_37 (by decide) ?_
  refine lv_iload_n (pc := 11) hx hb dX6_remember_11 rfl (lv_at hl 0 rfl) ?_
  refine lv_bipush (pc := 12) (v := (8 : Int32)) hx hb dX6_remember_12 (by decide) ?_
  refine lv_icmp_ge (pc := 14) (tgt := 40) hx hb dX6_remember_14 (by decide) (fun c9 => absurd c9 (by decide)) (fun _ => ?_)
  refine lv_aload_n (pc := 17) hx hb dX6_remember_17 rfl (lv_at hl 1 rfl) ?_
  refine z_get (pc := 18) (ref := "LotSheetModel") (ci := 6) (C := RX6) (T := TX6) (N := 22) hx hb hts iw_X6_remember_at8_X6 hown Z 0 rfl rfl 10 (by decide) (List.mem_of_getElem? (i := 2) rfl) rfl rfl dX6_remember_18 ?_
  refine lv_iload_n (pc := 21) hx hb dX6_remember_21 rfl (lv_at hl 0 rfl) ?_
  refine z_aald (pc := 22) (b := h 10) hx hb Z 2 4 rfl rfl rfl (by decide) rfl dX6_remember_22 ?_
  refine lv_aload_n (pc := 23) hx hb dX6_remember_23 rfl (lv_at hl 1 rfl) ?_
  refine z_get (pc := 24) (ref := "LotSheetModel") (ci := 6) (C := RX6) (T := TX6) (N := 22) hx hb hts iw_X6_remember_at8_X6 hown Z 0 rfl rfl 10 (by decide) (List.mem_of_getElem? (i := 2) rfl) rfl rfl dX6_remember_24 ?_
  refine lv_iload_n (pc := 27) hx hb dX6_remember_27 rfl (lv_at hl 0 rfl) ?_
  refine lv_iconst (pc := 28) (v := (1 : Int32)) hx hb dX6_remember_28 (by decide) ?_
  refine lv_isub (pc := 29) hx hb dX6_remember_29 ?_
  refine lv_topi (fun x17 ex17 => ?_)
  obtain rfl : x17 = (4 : Int32) := ex17.trans (by decide)
  refine z_aald (pc := 30) (b := h 9) hx hb Z 2 4 rfl rfl rfl (by decide) rfl dX6_remember_30 ?_
  obtain ⟨a18, q19, hf⟩ := o_bindE hf
  refine z_callSv (pc := 31) (As := [.ref (h 10), .ref (h 9)]) (rest := []) (Wc := (W_X6_copy cA (fun k => h ([10, 9].getD k 0)) (m_history 5) (m_history 4))) (W1 := (W_X6_copy cA (fun k => h ([10, 9].getD k 0)) (m_history 5) a18)) (W2 := (W_X6_remember_at8 cA h m_thrown m_bufferLength m_textLength m_position m_error m_errorAt m_errorOffset m_data (va_up (va_up (va_up (va_up (va_up m_history 0 a2) 1 a6) 2 a10) 3 a14) 4 a18) (8 : Int32) m_numberStart m_seen m_pages)) ⟨hx, hb, hml, hown, hts⟩ (kX6_copy l D cA (fun k => h ([10, 9].getD k 0)) (m_history 5) (m_history 4) _ q19) (va_cwS 2 hts gX6_remember_X6_copy rfl rfl rfl (by decide +kernel) ⟨Nat.le_of_ble_eq_true rfl, Nat.le_of_ble_eq_true rfl⟩) Z hA [8, 7] rfl (by decide) rfl rfl hl.1 rfl (Nat.le_of_ble_eq_true rfl) dX6_remember_31 ⟨Nat.zero_le _, Nat.zero_le _⟩ [none, none, none, none, none, none, none, some 1, some 0, none, none] rfl ⟨rfl, rfl, rfl, rfl, rfl, rfl, rfl, rfl, rfl, rfl, rfl, rfl⟩ (fun H locs Z => ?_)
  refine lv_iinc (pc := 34) (v := (6 : Int32)) (lv' := [(1, .int (6 : Int32)), (0, .ref (h 0))]) hx hb dX6_remember_34 hl (k := 0) rfl (by decide) (by decide) rfl (fun ls hl => ?_)
  refine lv_goto (pc := 37) (tgt := 11) hx hb dX6_remember_37 (by decide) ?_
  refine lv_iload_n (pc := 11) hx hb dX6_remember_11 rfl (lv_at hl 0 rfl) ?_
  refine lv_bipush (pc := 12) (v := (8 : Int32)) hx hb dX6_remember_12 (by decide) ?_
  refine lv_icmp_ge (pc := 14) (tgt := 40) hx hb dX6_remember_14 (by decide) (fun c9 => absurd c9 (by decide)) (fun _ => ?_)
  refine lv_aload_n (pc := 17) hx hb dX6_remember_17 rfl (lv_at hl 1 rfl) ?_
  refine z_get (pc := 18) (ref := "LotSheetModel") (ci := 6) (C := RX6) (T := TX6) (N := 22) hx hb hts iw_X6_remember_at8_X6 hown Z 0 rfl rfl 10 (by decide) (List.mem_of_getElem? (i := 2) rfl) rfl rfl dX6_remember_18 ?_
  refine lv_iload_n (pc := 21) hx hb dX6_remember_21 rfl (lv_at hl 0 rfl) ?_
  refine z_aald (pc := 22) (b := h 11) hx hb Z 2 4 rfl rfl rfl (by decide) rfl dX6_remember_22 ?_
  refine lv_aload_n (pc := 23) hx hb dX6_remember_23 rfl (lv_at hl 1 rfl) ?_
  refine z_get (pc := 24) (ref := "LotSheetModel") (ci := 6) (C := RX6) (T := TX6) (N := 22) hx hb hts iw_X6_remember_at8_X6 hown Z 0 rfl rfl 10 (by decide) (List.mem_of_getElem? (i := 2) rfl) rfl rfl dX6_remember_24 ?_
  refine lv_iload_n (pc := 27) hx hb dX6_remember_27 rfl (lv_at hl 0 rfl) ?_
  refine lv_iconst (pc := 28) (v := (1 : Int32)) hx hb dX6_remember_28 (by decide) ?_
  refine lv_isub (pc := 29) hx hb dX6_remember_29 ?_
  refine lv_topi (fun x21 ex21 => ?_)
  obtain rfl : x21 = (5 : Int32) := ex21.trans (by decide)
  refine z_aald (pc := 30) (b := h 10) hx hb Z 2 4 rfl rfl rfl (by decide) rfl dX6_remember_30 ?_
  obtain ⟨a22, q23, hf⟩ := o_bindE hf
  refine z_callSv (pc := 31) (As := [.ref (h 11), .ref (h 10)]) (rest := []) (Wc := (W_X6_copy cA (fun k => h ([11, 10].getD k 0)) (m_history 6) (m_history 5))) (W1 := (W_X6_copy cA (fun k => h ([11, 10].getD k 0)) (m_history 6) a22)) (W2 := (W_X6_remember_at8 cA h m_thrown m_bufferLength m_textLength m_position m_error m_errorAt m_errorOffset m_data (va_up (va_up (va_up (va_up (va_up (va_up m_history 0 a2) 1 a6) 2 a10) 3 a14) 4 a18) 5 a22) (8 : Int32) m_numberStart m_seen m_pages)) ⟨hx, hb, hml, hown, hts⟩ (kX6_copy l D cA (fun k => h ([11, 10].getD k 0)) (m_history 6) (m_history 5) _ q23) (va_cwS 2 hts gX6_remember_X6_copy rfl rfl rfl (by decide +kernel) ⟨Nat.le_of_ble_eq_true rfl, Nat.le_of_ble_eq_true rfl⟩) Z hA [9, 8] rfl (by decide) rfl rfl hl.1 rfl (Nat.le_of_ble_eq_true rfl) dX6_remember_31 ⟨Nat.zero_le _, Nat.zero_le _⟩ [none, none, none, none, none, none, none, none, some 1, some 0, none] rfl ⟨rfl, rfl, rfl, rfl, rfl, rfl, rfl, rfl, rfl, rfl, rfl, rfl⟩ (fun H locs Z => ?_)
  refine lv_iinc (pc := 34) (v := (7 : Int32)) (lv' := [(1, .int (7 : Int32)), (0, .ref (h 0))]) hx hb dX6_remember_34 hl (k := 0) rfl (by decide) (by decide) rfl (fun ls hl => ?_)
  refine lv_goto (pc := 37) (tgt := 11) hx hb dX6_remember_37 (by decide) ?_
  refine lv_iload_n (pc := 11) hx hb dX6_remember_11 rfl (lv_at hl 0 rfl) ?_
  refine lv_bipush (pc := 12) (v := (8 : Int32)) hx hb dX6_remember_12 (by decide) ?_
  refine lv_icmp_ge (pc := 14) (tgt := 40) hx hb dX6_remember_14 (by decide) (fun c9 => absurd c9 (by decide)) (fun _ => ?_)
  refine lv_aload_n (pc := 17) hx hb dX6_remember_17 rfl (lv_at hl 1 rfl) ?_
  refine z_get (pc := 18) (ref := "LotSheetModel") (ci := 6) (C := RX6) (T := TX6) (N := 22) hx hb hts iw_X6_remember_at8_X6 hown Z 0 rfl rfl 10 (by decide) (List.mem_of_getElem? (i := 2) rfl) rfl rfl dX6_remember_18 ?_
  refine lv_iload_n (pc := 21) hx hb dX6_remember_21 rfl (lv_at hl 0 rfl) ?_
  refine z_aald (pc := 22) (b := h 12) hx hb Z 2 4 rfl rfl rfl (by decide) rfl dX6_remember_22 ?_
  refine lv_aload_n (pc := 23) hx hb dX6_remember_23 rfl (lv_at hl 1 rfl) ?_
  refine z_get (pc := 24) (ref := "LotSheetModel") (ci := 6) (C := RX6) (T := TX6) (N := 22) hx hb hts iw_X6_remember_at8_X6 hown Z 0 rfl rfl 10 (by decide) (List.mem_of_getElem? (i := 2) rfl) rfl rfl dX6_remember_24 ?_
  refine lv_iload_n (pc := 27) hx hb dX6_remember_27 rfl (lv_at hl 0 rfl) ?_
  refine lv_iconst (pc := 28) (v := (1 : Int32)) hx hb dX6_remember_28 (by decide) ?_
  refine lv_isub (pc := 29) hx hb dX6_remember_29 ?_
  refine lv_topi (fun x25 ex25 => ?_)
  obtain rfl : x25 = (6 : Int32) := ex25.trans (by decide)
  refine z_aald (pc := 30) (b := h 11) hx hb Z 2 4 rfl rfl rfl (by decide) rfl dX6_remember_30 ?_
  obtain ⟨a26, q27, hf⟩ := o_bindE hf
  refine z_callSv (pc := 31) (As := [.ref (h 12), .ref (h 11)]) (rest := []) (Wc := (W_X6_copy cA (fun k => h ([12, 11].getD k 0)) (m_history 7) (m_history 6))) (W1 := (W_X6_copy cA (fun k => h ([12, 11].getD k 0)) (m_history 7) a26)) (W2 := (W_X6_remember_at8 cA h m_thrown m_bufferLength m_textLength m_position m_error m_errorAt m_errorOffset m_data (va_up (va_up (va_up (va_up (va_up (va_up (va_up m_history 0 a2) 1 a6) 2 a10) 3 a14) 4 a18) 5 a22) 6 a26) (8 : Int32) m_numberStart m_seen m_pages)) ⟨hx, hb, hml, hown, hts⟩ (kX6_copy l D cA (fun k => h ([12, 11].getD k 0)) (m_history 7) (m_history 6) _ q27) (va_cwS 2 hts gX6_remember_X6_copy rfl rfl rfl (by decide +kernel) ⟨Nat.le_of_ble_eq_true rfl, Nat.le_of_ble_eq_true rfl⟩) Z hA [10, 9] rfl (by decide) rfl rfl hl.1 rfl (Nat.le_of_ble_eq_true rfl) dX6_remember_31 ⟨Nat.zero_le _, Nat.zero_le _⟩ [none, none, none, none, none, none, none, none, none, some 1, some 0] rfl ⟨rfl, rfl, rfl, rfl, rfl, rfl, rfl, rfl, rfl, rfl, rfl, rfl⟩ (fun H locs Z => ?_)
  refine lv_iinc (pc := 34) (v := (8 : Int32)) (lv' := [(1, .int (8 : Int32)), (0, .ref (h 0))]) hx hb dX6_remember_34 hl (k := 0) rfl (by decide) (by decide) rfl (fun ls hl => ?_)
  refine lv_goto (pc := 37) (tgt := 11) hx hb dX6_remember_37 (by decide) ?_
  refine lv_iload_n (pc := 11) hx hb dX6_remember_11 rfl (lv_at hl 0 rfl) ?_
  refine lv_bipush (pc := 12) (v := (8 : Int32)) hx hb dX6_remember_12 (by decide) ?_
  refine lv_icmp_ge (pc := 14) (tgt := 40) hx hb dX6_remember_14 (by decide) (fun _ => ?_) (fun c9 => absurd c9 (by decide))
  refine lv_aload_n (pc := 40) hx hb dX6_remember_40 rfl (lv_at hl 1 rfl) ?_
  refine lv_dup (pc := 41) hx hb dX6_remember_41 rfl ?_
  refine z_get (pc := 42) (ref := "LotSheetModel") (ci := 6) (C := RX6) (T := TX6) (N := 22) hx hb hts iw_X6_remember_at8_X6 hown Z 0 rfl rfl 11 (by decide) (List.mem_of_getElem? (i := 1) rfl) rfl rfl dX6_remember_42 ?_
  refine lv_iconst (pc := 45) (v := (1 : Int32)) hx hb dX6_remember_45 (by decide) ?_
  refine lv_isub (pc := 46) hx hb dX6_remember_46 ?_
  refine lv_topi (fun x29 ex29 => ?_)
  obtain rfl : x29 = (7 : Int32) := ex29.trans (by decide)
  refine z_put (pc := 47) (ref := "LotSheetModel") (ci := 6) (C := RX6) (T := TX6) (N := 22) (W1 := (W_X6_remember_at8 cA h m_thrown m_bufferLength m_textLength m_position m_error m_errorAt m_errorOffset m_data (va_up (va_up (va_up (va_up (va_up (va_up (va_up m_history 0 a2) 1 a6) 2 a10) 3 a14) 4 a18) 5 a22) 6 a26) (7 : Int32) m_numberStart m_seen m_pages)) hx hb hts iw_X6_remember_at8_X6 tyX6 tyX6_ok nmX6 hown Z 0 rfl rfl 11 (by decide) (List.mem_of_getElem? (i := 1) rfl) rfl rfl rfl rfl (Nat.le_of_ble_eq_true rfl) dX6_remember_47 rfl (fun H locs Z => ?_)
  refine lv_aload_n (pc := 50) hx hb dX6_remember_50 rfl (lv_at hl 1 rfl) ?_
  refine z_get (pc := 51) (ref := "LotSheetModel") (ci := 6) (C := RX6) (T := TX6) (N := 22) hx hb hts iw_X6_remember_at8_X6 hown Z 0 rfl rfl 8 (by decide) (List.mem_of_getElem? (i := 3) rfl) rfl rfl dX6_remember_51 ?_
  refine lv_aload_n (pc := 54) hx hb dX6_remember_54 rfl (lv_at hl 1 rfl) ?_
  refine z_get (pc := 55) (ref := "LotSheetModel") (ci := 6) (C := RX6) (T := TX6) (N := 22) hx hb hts iw_X6_remember_at8_X6 hown Z 0 rfl rfl 10 (by decide) (List.mem_of_getElem? (i := 2) rfl) rfl rfl dX6_remember_55 ?_
  refine lv_aload_n (pc := 58) hx hb dX6_remember_58 rfl (lv_at hl 1 rfl) ?_
  refine z_get (pc := 59) (ref := "LotSheetModel") (ci := 6) (C := RX6) (T := TX6) (N := 22) hx hb hts iw_X6_remember_at8_X6 hown Z 0 rfl rfl 11 (by decide) (List.mem_of_getElem? (i := 1) rfl) rfl rfl dX6_remember_59 ?_
  refine z_aald (pc := 62) (b := h 12) hx hb Z 2 4 rfl rfl rfl (by decide) rfl dX6_remember_62 ?_
  obtain ⟨a30, q31, hf⟩ := o_bindE hf
  refine z_callSv (pc := 63) (As := [.ref (h 2), .ref (h 12)]) (rest := []) (Wc := (W_X6_copy cA (fun k => h ([2, 12].getD k 0)) m_data (m_history 7))) (W1 := (W_X6_copy cA (fun k => h ([2, 12].getD k 0)) m_data a30)) (W2 := (W_X6_remember_at8 cA h m_thrown m_bufferLength m_textLength m_position m_error m_errorAt m_errorOffset m_data (va_up (va_up (va_up (va_up (va_up (va_up (va_up (va_up m_history 0 a2) 1 a6) 2 a10) 3 a14) 4 a18) 5 a22) 6 a26) 7 a30) (7 : Int32) m_numberStart m_seen m_pages)) ⟨hx, hb, hml, hown, hts⟩ (kX6_copy l D cA (fun k => h ([2, 12].getD k 0)) m_data (m_history 7) _ q31) (va_cwS 2 hts gX6_remember_X6_copy rfl rfl rfl (by decide +kernel) ⟨Nat.le_of_ble_eq_true rfl, Nat.le_of_ble_eq_true rfl⟩) Z hA [1, 10] rfl (by decide) rfl rfl hl.1 rfl (Nat.le_of_ble_eq_true rfl) dX6_remember_63 ⟨Nat.zero_le _, Nat.zero_le _⟩ [none, some 0, none, none, none, none, none, none, none, none, some 1] rfl ⟨rfl, rfl, rfl, rfl, rfl, rfl, rfl, rfl, rfl, rfl, rfl, rfl⟩ (fun H locs Z => ?_)
  refine lv_aload_n (pc := 66) hx hb dX6_remember_66 rfl (lv_at hl 1 rfl) ?_
  refine lv_dup (pc := 67) hx hb dX6_remember_67 rfl ?_
  refine z_get (pc := 68) (ref := "LotSheetModel") (ci := 6) (C := RX6) (T := TX6) (N := 22) hx hb hts iw_X6_remember_at8_X6 hown Z 0 rfl rfl 11 (by decide) (List.mem_of_getElem? (i := 1) rfl) rfl rfl dX6_remember_68 ?_
  refine lv_iconst (pc := 71) (v := (1 : Int32)) hx hb dX6_remember_71 (by decide) ?_
  refine lv_iadd (pc := 72) hx hb dX6_remember_72 ?_
  refine lv_topi (fun x32 ex32 => ?_)
  obtain rfl : x32 = (8 : Int32) := ex32.trans (by decide)
  refine z_put (pc := 73) (ref := "LotSheetModel") (ci := 6) (C := RX6) (T := TX6) (N := 22) (W1 := (W_X6_remember_at8 cA h m_thrown m_bufferLength m_textLength m_position m_error m_errorAt m_errorOffset m_data (va_up (va_up (va_up (va_up (va_up (va_up (va_up (va_up m_history 0 a2) 1 a6) 2 a10) 3 a14) 4 a18) 5 a22) 6 a26) 7 a30) (8 : Int32) m_numberStart m_seen m_pages)) hx hb hts iw_X6_remember_at8_X6 tyX6 tyX6_ok nmX6 hown Z 0 rfl rfl 11 (by decide) (List.mem_of_getElem? (i := 1) rfl) rfl rfl rfl rfl (Nat.le_of_ble_eq_true rfl) dX6_remember_73 rfl (fun H locs Z => ?_)
  cases hf
  exact z_vret (pc := 76) hx hb hr hlocks Z rfl dX6_remember_76
