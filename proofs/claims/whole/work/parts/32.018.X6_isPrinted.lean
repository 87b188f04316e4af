def W_X6_isPrinted (cA : Nat → ClassId) (h : Nat → Nat) (m_thrown : Int32) (m_bufferLength : Int32) (m_textLength : Int32) (m_position : Int32) (m_error : Int32) (m_errorAt : Int32) (m_errorOffset : Int32) (m_data : Nat → Int32) (m_undoDepth : Int32) (m_numberStart : Int32) (m_seen : Int32) (m_pages : Int32) : va_W := [(h 0, .inr (6, [.int m_thrown, .ref (h 1), .int m_bufferLength, .int m_textLength, .int m_position, .int m_error, .int m_errorAt, .int m_errorOffset, .ref (h 2), .ref (h 3), .ref (h 4), .int m_undoDepth, .int m_numberStart, .int m_seen, .ref (h 13), .ref (h 14), .ref (h 15), .ref (h 16), .int m_pages, .ref (h 17), .ref (h 18), .ref (h 19)])), (h 2, .inl (cA 0, 153, .inl m_data))]
def fX6_isPrinted (p1 : Int32) (m_data : Nat → Int32) : Option (Int32) := o_bind (fX6_of p1 (3 : Int32) m_data) (fun x1 => (if x1 = (1 : Int32) then some ((1 : Int32)) else some ((0 : Int32))))
set_option maxHeartbeats 4000000 in
set_option maxRecDepth 100000 in
theorem kX6_isPrinted (l : Launch) (D : va_G) (cA : Nat → ClassId) (h : Nat → Nat) (p1 : Int32) (m_thrown : Int32) (m_bufferLength : Int32) (m_textLength : Int32) (m_position : Int32) (m_error : Int32) (m_errorAt : Int32) (m_errorOffset : Int32) (m_data : Nat → Int32) (m_undoDepth : Int32) (m_numberStart : Int32) (m_seen : Int32) (m_pages : Int32) (u : Int32) (hf : fX6_isPrinted p1 m_data = some u) : zMi l yX6_isPrinted wsX6_isPrinted ({ frames := 2, cells := 0, slots := 0, locals := 42 } : Room) D (zTY cA) [.ref (h 0), .int p1] (W_X6_isPrinted cA h m_thrown m_bufferLength m_textLength m_position m_error m_errorAt m_errorOffset m_data m_undoDepth m_numberStart m_seen m_pages) (W_X6_isPrinted cA h m_thrown m_bufferLength m_textLength m_position m_error m_errorAt m_errorOffset m_data m_undoDepth m_numberStart m_seen m_pages) u := by
  refine z_starti (cc := cX6_isPrinted) (maxL := 2) (ret := (some .boolean)) (by decide) rfl (Nat.le_of_ble_eq_true rfl) ?_
  intro p e s m args below meth c A hx hb hr hts hown hlocks hml hA Z ls hl
  replace hown : s.vm.findClass RX6 = some m.cls := hown
  replace hl : lv_has ls 2 [(0, .ref (h 0)), (1, .int p1)] := hl
  obtain ⟨H, hH⟩ : ∃ H, H = s.heap := ⟨_, rfl⟩
  rw [← hH] at Z ⊢
  clear hH
  obtain ⟨locs, hlc⟩ : ∃ q : List Loc, q = [] := ⟨_, rfl⟩
  rw [← hlc] at Z ⊢
  clear hlc
  refine lv_aload_n (pc := 0) hx hb dX6_isPrinted_0 rfl (lv_at hl 0 rfl) ?_
  refine lv_iload_n (pc := 1) hx hb dX6_isPrinted_1 rfl (lv_at hl 1 rfl) ?_
  refine lv_iconst (pc := 2) (v := (3 : Int32)) hx hb dX6_isPrinted_2 (by decide) ?_
  obtain ⟨x1, q2, hf⟩ := o_bindE hf
  refine z_callVi (pc := 3) (As := [.int p1, .int (3 : Int32)]) (rest := []) (Wc := (W_X6_of cA (fun k => h ([0, 1, 2, 3, 4, 5, 6, 7, 8, 9, 10, 11, 12, 13, 14, 15, 16, 17, 18, 19].getD k 0)) m_thrown m_bufferLength m_textLength m_position m_error m_errorAt m_errorOffset m_data m_undoDepth m_numberStart m_seen m_pages)) (W1 := (W_X6_of cA (fun k => h ([0, 1, 2, 3, 4, 5, 6, 7, 8, 9, 10, 11, 12, 13, 14, 15, 16, 17, 18, 19].getD k 0)) m_thrown m_bufferLength m_textLength m_position m_error m_errorAt m_errorOffset m_data m_undoDepth m_numberStart m_seen m_pages)) (W2 := (W_X6_isPrinted cA h m_thrown m_bufferLength m_textLength m_position m_error m_errorAt m_errorOffset m_data m_undoDepth m_numberStart m_seen m_pages)) ⟨hx, hb, hml, hown, hts⟩ (kX6_of l D cA (fun k => h ([0, 1, 2, 3, 4, 5, 6, 7, 8, 9, 10, 11, 12, 13, 14, 15, 16, 17, 18, 19].getD k 0)) p1 (3 : Int32) m_thrown m_bufferLength m_textLength m_position m_error m_errorAt m_errorOffset m_data m_undoDepth m_numberStart m_seen m_pages _ q2) (cwV 2 hts gX6_isPrinted_X6_of rfl rfl rfl (by decide +kernel) ⟨Nat.le_of_ble_eq_true rfl, Nat.le_of_ble_eq_true rfl⟩) Z hA [0, 1] rfl (by decide) rfl (ci := 6) rfl rfl rfl rfl hl.1 rfl (Nat.le_of_ble_eq_true rfl) dX6_isPrinted_3 ⟨Nat.zero_le _, Nat.zero_le _⟩ [some 0, some 1] rfl ⟨rfl, rfl, rfl⟩ (fun H locs Z => ?_)
  refine lv_iconst (pc := 6) (v := (1 : Int32)) hx hb dX6_isPrinted_6 (by decide) ?_
  refine lv_icmp_ne (pc := 7) (tgt := 14) hx hb dX6_isPrinted_7 (by decide) (fun c3 => ?_) (fun c3 => ?_)
  · replace hf := o_neg c3 hf
    refine lv_iconst (pc := 14) (v := (0 : Int32)) hx hb dX6_isPrinted_14 (by decide) ?_
    cases hf
    exact z_zret (pc := 15) hx hb hr hlocks Z rfl rfl (by decide) dX6_isPrinted_15
  · replace hf := o_pos c3 hf
    refine lv_iconst (pc := 10) (v := (1 : Int32)) hx hb dX6_isPrinted_10 (by decide) ?_
    refine lv_goto (pc := 11) (tgt := 15) hx hb dX6_isPrinted_11 (by decide) ?_
    cases hf
    exact z_zret (pc := 15) hx hb hr hlocks Z rfl rfl (by decide) dX6_isPrinted_15
