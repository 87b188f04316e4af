def W_X6_isChosen (cA : Nat → ClassId) (h : Nat → Nat) (m_thrown : Int32) (m_bufferLength : Int32) (m_textLength : Int32) (m_position : Int32) (m_error : Int32) (m_errorAt : Int32) (m_errorOffset : Int32) (m_data : Nat → Int32) (m_undoDepth : Int32) (m_numberStart : Int32) (m_seen : Int32) (m_pages : Int32) : va_W := [(h 0, .inr (6, [.int m_thrown, .ref (h 1), .int m_bufferLength, .int m_textLength, .int m_position, .int m_error, .int m_errorAt, .int m_errorOffset, .ref (h 2), .ref (h 3), .ref (h 4), .int m_undoDepth, .int m_numberStart, .int m_seen, .ref (h 13), .ref (h 14), .ref (h 15), .ref (h 16), .int m_pages, .ref (h 17), .ref (h 18), .ref (h 19)])), (h 2, .inl (cA 0, 153, .inl m_data))]
def fX6_isChosen (p1 : Int32) (p2 : Int32) (m_data : Nat → Int32) : Option (Int32) := o_bind (fX6_differs p2 m_data) (fun x1 => (if x1 = 0 then some ((0 : Int32)) else o_bind (fX6_placeOf p2 m_data) (fun x4 => (if ((p1 >>> (x4 &&& 31)) &&& (1 : Int32)) = (1 : Int32) then some ((1 : Int32)) else some ((0 : Int32))))))
theorem iw_X6_isChosen_X6 : ∀ w ∈ u_ws RX6 TX6 22, w ∈ wsX6_isChosen := z_inr [13, 14, 15, 16, 17, 18, 19, 20, 21, 22, 23, 24, 25, 26, 27, 28, 29, 30, 31, 32, 33, 34] rfl
set_option maxHeartbeats 4000000 in
set_option maxRecDepth 100000 in
theorem kX6_isChosen (l : Launch) (D : va_G) (cA : Nat → ClassId) (h : Nat → Nat) (p1 : Int32) (p2 : Int32) (m_thrown : Int32) (m_bufferLength : Int32) (m_textLength : Int32) (m_position : Int32) (m_error : Int32) (m_errorAt : Int32) (m_errorOffset : Int32) (m_data : Nat → Int32) (m_undoDepth : Int32) (m_numberStart : Int32) (m_seen : Int32) (m_pages : Int32) (u : Int32) (hf : fX6_isChosen p1 p2 m_data = some u) : zMi l yX6_isChosen wsX6_isChosen ({ frames := 3, cells := 0, slots := 0, locals := 64 } : Room) D (zTY cA) [.ref (h 0), .int p1, .int p2] (W_X6_isChosen cA h m_thrown m_bufferLength m_textLength m_position m_error m_errorAt m_errorOffset m_data m_undoDepth m_numberStart m_seen m_pages) (W_X6_isChosen cA h m_thrown m_bufferLength m_textLength m_position m_error m_errorAt m_errorOffset m_data m_undoDepth m_numberStart m_seen m_pages) u := by
  refine z_starti (cc := cX6_isChosen) (maxL := 3) (ret := (some .boolean)) (by decide) rfl (Nat.le_of_ble_eq_true rfl) ?_
  intro p e s m args below meth c A hx hb hr hts hown hlocks hml hA Z ls hl
  replace hown : s.vm.findClass RX6 = some m.cls := hown
  replace hl : lv_has ls 3 [(0, .ref (h 0)), (1, .int p1), (2, .int p2)] := hl
  obtain ⟨H, hH⟩ : ∃ H, H = s.heap := ⟨_, rfl⟩
  rw [← hH] at Z ⊢
  clear hH
  obtain ⟨locs, hlc⟩ : ∃ q : List Loc, q = [] := ⟨_, rfl⟩
  rw [← hlc] at Z ⊢
  clear hlc
  refine lv_aload_n (pc := 0) hx hb dX6_isChosen_0 rfl (lv_at hl 0 rfl) ?_
  refine z_get (pc := 1) (ref := "LotSheetModel") (ci := 6) (C := RX6) (T := TX6) (N := 22) hx hb hts iw_X6_isChosen_X6 hown Z 0 rfl rfl 8 (by decide) (List.mem_of_getElem? (i := 1) rfl) rfl rfl dX6_isChosen_1 ?_
  refine lv_iload_n (pc := 4) hx hb dX6_isChosen_4 rfl (lv_at hl 2 rfl) ?_
  obtain ⟨x1, q2, hf⟩ := o_bindE hf
  refine z_callSi (pc := 5) (As := [.ref (h 2), .int p2]) (rest := []) (Wc := (W_X6_differs cA (fun k => h ([2].getD k 0)) m_data)) (W1 := (W_X6_differs cA (fun k => h ([2].getD k 0)) m_data)) (W2 := (W_X6_isChosen cA h m_thrown m_bufferLength m_textLength m_position m_error m_errorAt m_errorOffset m_data m_undoDepth m_numberStart m_seen m_pages)) ⟨hx, hb, hml, hown, hts⟩ (kX6_differs l D cA (fun k => h ([2].getD k 0)) p2 m_data _ q2) (va_cwS 2 hts gX6_isChosen_X6_differs rfl rfl rfl (by decide +kernel) ⟨Nat.le_of_ble_eq_true rfl, Nat.le_of_ble_eq_true rfl⟩) Z hA [1] rfl (by decide) rfl rfl hl.1 rfl (Nat.le_of_ble_eq_true rfl) dX6_isChosen_5 ⟨Nat.zero_le _, Nat.zero_le _⟩ [none, some 0] rfl ⟨rfl, rfl, rfl⟩ (fun H locs Z => ?_)
  refine lv_if_eq (pc := 8) (tgt := 28) hx hb dX6_isChosen_8 (by decide) (fun c3 => ?_) (fun c3 => ?_)
  · replace hf := o_pos c3 hf
    refine lv_iconst (pc := 28) (v := (0 : Int32)) hx hb dX6_isChosen_28 (by decide) ?_
    cases hf
    exact z_zret (pc := 29) hx hb hr hlocks Z rfl rfl (by decide) dX6_isChosen_29
  · replace hf := o_neg c3 hf
    refine lv_iload_n (pc := 11) hx hb dX6_isChosen_11 rfl (lv_at hl 1 rfl) ?_
    refine lv_aload_n (pc := 12) hx hb dX6_isChosen_12 rfl (lv_at hl 0 rfl) ?_
    refine lv_iload_n (pc := 13) hx hb dX6_isChosen_13 rfl (lv_at hl 2 rfl) ?_
    obtain ⟨x4, q5, hf⟩ := o_bindE hf
    refine z_callVi (pc := 14) (As := [.int p2]) (rest := [.int p1]) (Wc := (W_X6_placeOf cA (fun k => h ([0, 1, 2, 3, 4, 5, 6, 7, 8, 9, 10, 11, 12, 13, 14, 15, 16, 17, 18, 19].getD k 0)) m_thrown m_bufferLength m_textLength m_position m_error m_errorAt m_errorOffset m_data m_undoDepth m_numberStart m_seen m_pages)) (W1 := (W_X6_placeOf cA (fun k => h ([0, 1, 2, 3, 4, 5, 6, 7, 8, 9, 10, 11, 12, 13, 14, 15, 16, 17, 18, 19].getD k 0)) m_thrown m_bufferLength m_textLength m_position m_error m_errorAt m_errorOffset m_data m_undoDepth m_numberStart m_seen m_pages)) (W2 := (W_X6_isChosen cA h m_thrown m_bufferLength m_textLength m_position m_error m_errorAt m_errorOffset m_data m_undoDepth m_numberStart m_seen m_pages)) ⟨hx, hb, hml, hown, hts⟩ (kX6_placeOf l D cA (fun k => h ([0, 1, 2, 3, 4, 5, 6, 7, 8, 9, 10, 11, 12, 13, 14, 15, 16, 17, 18, 19].getD k 0)) p2 m_thrown m_bufferLength m_textLength m_position m_error m_errorAt m_errorOffset m_data m_undoDepth m_numberStart m_seen m_pages _ q5) (cwV 1 hts gX6_isChosen_X6_placeOf rfl rfl rfl (by decide +kernel) ⟨Nat.le_of_ble_eq_true rfl, Nat.le_of_ble_eq_true rfl⟩) Z hA [0, 1] rfl (by decide) rfl (ci := 6) rfl rfl rfl rfl hl.1 rfl (Nat.le_of_ble_eq_true rfl) dX6_isChosen_14 ⟨Nat.zero_le _, Nat.zero_le _⟩ [some 0, some 1] rfl ⟨rfl, rfl, rfl⟩ (fun H locs Z => ?_)
    refine lv_ishr (pc := 17) hx hb dX6_isChosen_17 ?_
    refine lv_iconst (pc := 18) (v := (1 : Int32)) hx hb dX6_isChosen_18 (by decide) ?_
    refine lv_iand (pc := 19) hx hb dX6_isChosen_19 ?_
    refine lv_iconst (pc := 20) (v := (1 : Int32)) hx hb dX6_isChosen_20 (by decide) ?_
    refine lv_icmp_ne (pc := 21) (tgt := 28) hx hb dX6_isChosen_21 (by decide) (fun c6 => ?_) (fun c6 => ?_)
    · replace hf := o_neg c6 hf
      refine lv_iconst (pc := 28) (v := (0 : Int32)) hx hb dX6_isChosen_28 (by decide) ?_
      cases hf
      exact z_zret (pc := 29) hx hb hr hlocks Z rfl rfl (by decide) dX6_isChosen_29
    · replace hf := o_pos c6 hf
      refine lv_iconst (pc := 24) (v := (1 : Int32)) hx hb dX6_isChosen_24 (by decide) ?_
      refine lv_goto (pc := 25) (tgt := 29) hx hb dX6_isChosen_25 (by decide) ?_
      cases hf
      exact z_zret (pc := 29) hx hb hr hlocks Z rfl rfl (by decide) dX6_isChosen_29
