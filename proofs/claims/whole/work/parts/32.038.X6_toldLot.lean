def W_X6_toldLot (cA : Nat → ClassId) (h : Nat → Nat) (m_thrown : Int32) (m_bufferLength : Int32) (m_textLength : Int32) (m_position : Int32) (m_error : Int32) (m_errorAt : Int32) (m_errorOffset : Int32) (m_data : Nat → Int32) (m_undoDepth : Int32) (m_numberStart : Int32) (m_seen : Int32) (m_numberOf : Nat → Int32) (m_pageOf : Nat → Int32) (m_lineOf : Nat → Int32) (m_pages : Int32) : va_W := [(h 0, .inr (6, [.int m_thrown, .ref (h 1), .int m_bufferLength, .int m_textLength, .int m_position, .int m_error, .int m_errorAt, .int m_errorOffset, .ref (h 2), .ref (h 3), .ref (h 4), .int m_undoDepth, .int m_numberStart, .int m_seen, .ref (h 13), .ref (h 14), .ref (h 15), .ref (h 16), .int m_pages, .ref (h 17), .ref (h 18), .ref (h 19)])), (h 2, .inl (cA 0, 153, .inl m_data)), (h 13, .inl (cA 0, 24, .inl m_numberOf)), (h 14, .inl (cA 0, 24, .inl m_pageOf)), (h 15, .inl (cA 0, 24, .inl m_lineOf))]
def fX6_toldLot (p1 : Int32) (p2 : Int32) (m_data : Nat → Int32) (m_numberOf : Nat → Int32) (m_pageOf : Nat → Int32) (m_lineOf : Nat → Int32) : Option (Int32) := (if (6 : Int32) ≤ p2 then (if p2 = (6 : Int32) then o_rd 24 p1 (some ((m_numberOf p1.toNatClampNeg))) else (if p2 = (7 : Int32) then o_rd 24 p1 (some ((m_pageOf p1.toNatClampNeg))) else o_rd 24 p1 (some ((m_lineOf p1.toNatClampNeg))))) else o_bind (fX6_of p1 p2 m_data) (fun x7 => some (x7)))
theorem iw_X6_toldLot_X6 : ∀ w ∈ u_ws RX6 TX6 22, w ∈ wsX6_toldLot := z_inr [13, 14, 15, 16, 17, 18, 19, 20, 21, 22, 23, 24, 25, 26, 27, 28, 29, 30, 31, 32, 33, 34] rfl
set_option maxHeartbeats 4000000 in
set_option maxRecDepth 100000 in
theorem kX6_toldLot (l : Launch) (D : va_G) (cA : Nat → ClassId) (h : Nat → Nat) (p1 : Int32) (p2 : Int32) (m_thrown : Int32) (m_bufferLength : Int32) (m_textLength : Int32) (m_position : Int32) (m_error : Int32) (m_errorAt : Int32) (m_errorOffset : Int32) (m_data : Nat → Int32) (m_undoDepth : Int32) (m_numberStart : Int32) (m_seen : Int32) (m_numberOf : Nat → Int32) (m_pageOf : Nat → Int32) (m_lineOf : Nat → Int32) (m_pages : Int32) (u : Int32) (hf : fX6_toldLot p1 p2 m_data m_numberOf m_pageOf m_lineOf = some u) : zMi l yX6_toldLot wsX6_toldLot ({ frames := 2, cells := 0, slots := 0, locals := 42 } : Room) D (zTY cA) [.ref (h 0), .int p1, .int p2] (W_X6_toldLot cA h m_thrown m_bufferLength m_textLength m_position m_error m_errorAt m_errorOffset m_data m_undoDepth m_numberStart m_seen m_numberOf m_pageOf m_lineOf m_pages) (W_X6_toldLot cA h m_thrown m_bufferLength m_textLength m_position m_error m_errorAt m_errorOffset m_data m_undoDepth m_numberStart m_seen m_numberOf m_pageOf m_lineOf m_pages) u := by
  refine z_starti (cc := cX6_toldLot) (maxL := 3) (ret := (some .int)) (by decide) rfl (Nat.le_of_ble_eq_true rfl) ?_
  intro p e s m args below meth c A hx hb hr hts hown hlocks hml hA Z ls hl
  replace hown : s.vm.findClass RX6 = some m.cls := hown
  replace hl : lv_has ls 3 [(0, .ref (h 0)), (1, .int p1), (2, .int p2)] := hl
  obtain ⟨H, hH⟩ : ∃ H, H = s.heap := ⟨_, rfl⟩
  rw [← hH] at Z ⊢
  clear hH
  obtain ⟨locs, hlc⟩ : ∃ q : List Loc, q = [] := ⟨_, rfl⟩
  rw [← hlc] at Z ⊢
  clear hlc
  refine lv_iload_n (pc := 0) hx hb dX6_toldLot_0 rfl (lv_at hl 2 rfl) ?_
  refine lv_bipush (pc := 1) (v := (6 : Int32)) hx hb dX6_toldLot_1 (by decide) ?_
  refine lv_icmp_ge (pc := 3) (tgt := 15) hx hb dX6_toldLot_3 (by decide) (fun c1 => ?_) (fun c1 => ?_)
  · replace hf := o_pos c1 hf
    refine lv_iload_n (pc := 15) hx hb dX6_toldLot_15 rfl (lv_at hl 2 rfl) ?_
    refine lv_bipush (pc := 16) (v := (6 : Int32)) hx hb dX6_toldLot_16 (by decide) ?_
    refine lv_icmp_ne (pc := 18) (tgt := 30) hx hb dX6_toldLot_18 (by decide) (fun c2 => ?_) (fun c2 => ?_)
    · replace hf := o_neg c2 hf
      refine lv_iload_n (pc := 30) hx hb dX6_toldLot_30 rfl (lv_at hl 2 rfl) ?_
      refine lv_bipush (pc := 31) (v := (7 : Int32)) hx hb dX6_toldLot_31 (by decide) ?_
      refine lv_icmp_ne (pc := 33) (tgt := 45) hx hb dX6_toldLot_33 (by decide) (fun c3 => ?_) (fun c3 => ?_)
      · replace hf := o_neg c3 hf
        refine lv_aload_n (pc := 45) hx hb dX6_toldLot_45 rfl (lv_at hl 0 rfl) ?_
        refine z_get (pc := 46) (ref := "LotSheetModel") (ci := 6) (C := RX6) (T := TX6) (N := 22) hx hb hts iw_X6_toldLot_X6 hown Z 0 rfl rfl 16 (by decide) (List.mem_of_getElem? (i := 3) rfl) rfl rfl dX6_toldLot_46 ?_
        refine lv_iload_n (pc := 49) hx hb dX6_toldLot_49 rfl (lv_at hl 1 rfl) ?_
        obtain ⟨i4, hf⟩ := o_rdE hf
        refine z_iald (pc := 50) hx hb Z 4 0 rfl rfl i4 dX6_toldLot_50 ?_
        cases hf
        exact z_iret (pc := 51) hx hb hr hlocks Z rfl rfl dX6_toldLot_51
      · replace hf := o_pos c3 hf
        refine lv_aload_n (pc := 36) hx hb dX6_toldLot_36 rfl (lv_at hl 0 rfl) ?_
        refine z_get (pc := 37) (ref := "LotSheetModel") (ci := 6) (C := RX6) (T := TX6) (N := 22) hx hb hts iw_X6_toldLot_X6 hown Z 0 rfl rfl 15 (by decide) (List.mem_of_getElem? (i := 2) rfl) rfl rfl dX6_toldLot_37 ?_
        refine lv_iload_n (pc := 40) hx hb dX6_toldLot_40 rfl (lv_at hl 1 rfl) ?_
        obtain ⟨i5, hf⟩ := o_rdE hf
        refine z_iald (pc := 41) hx hb Z 3 0 rfl rfl i5 dX6_toldLot_41 ?_
        refine lv_goto (pc := 42) (tgt := 51) hx hb dX6_toldLot_42 (by decide) ?_
        cases hf
        exact z_iret (pc := 51) hx hb hr hlocks Z rfl rfl dX6_toldLot_51
    · replace hf := o_pos c2 hf
      refine lv_aload_n (pc := 21) hx hb dX6_toldLot_21 rfl (lv_at hl 0 rfl) ?_
      refine z_get (pc := 22) (ref := "LotSheetModel") (ci := 6) (C := RX6) (T := TX6) (N := 22) hx hb hts iw_X6_toldLot_X6 hown Z 0 rfl rfl 14 (by decide) (List.mem_of_getElem? (i := 1) rfl) rfl rfl dX6_toldLot_22 ?_
      refine lv_iload_n (pc := 25) hx hb dX6_toldLot_25 rfl (lv_at hl 1 rfl) ?_
      obtain ⟨i6, hf⟩ := o_rdE hf
      refine z_iald (pc := 26) hx hb Z 2 0 rfl rfl i6 dX6_toldLot_26 ?_
      refine lv_goto (pc := 27) (tgt := 51) hx hb dX6_toldLot_27 (by decide) ?_
      cases hf
      exact z_iret (pc := 51) hx hb hr hlocks Z rfl rfl dX6_toldLot_51
  · replace hf := o_neg c1 hf
    refine lv_aload_n (pc := 6) hx hb dX6_toldLot_6 rfl (lv_at hl 0 rfl) ?_
    refine lv_iload_n (pc := 7) hx hb dX6_toldLot_7 rfl (lv_at hl 1 rfl) ?_
    refine lv_iload_n (pc := 8) hx hb dX6_toldLot_8 rfl (lv_at hl 2 rfl) ?_
    obtain ⟨x7, q8, hf⟩ := o_bindE hf
    refine z_callVi (pc := 9) (As := [.int p1, .int p2]) (rest := []) (Wc := (W_X6_of cA (fun k => h ([0, 1, 2, 3, 4, 5, 6, 7, 8, 9, 10, 11, 12, 13, 14, 15, 16, 17, 18, 19].getD k 0)) m_thrown m_bufferLength m_textLength m_position m_error m_errorAt m_errorOffset m_data m_undoDepth m_numberStart m_seen m_pages)) (W1 := (W_X6_of cA (fun k => h ([0, 1, 2, 3, 4, 5, 6, 7, 8, 9, 10, 11, 12, 13, 14, 15, 16, 17, 18, 19].getD k 0)) m_thrown m_bufferLength m_textLength m_position m_error m_errorAt m_errorOffset m_data m_undoDepth m_numberStart m_seen m_pages)) (W2 := (W_X6_toldLot cA h m_thrown m_bufferLength m_textLength m_position m_error m_errorAt m_errorOffset m_data m_undoDepth m_numberStart m_seen m_numberOf m_pageOf m_lineOf m_pages)) ⟨hx, hb, hml, hown, hts⟩ (kX6_of l D cA (fun k => h ([0, 1, 2, 3, 4, 5, 6, 7, 8, 9, 10, 11, 12, 13, 14, 15, 16, 17, 18, 19].getD k 0)) p1 p2 m_thrown m_bufferLength m_textLength m_position m_error m_errorAt m_errorOffset m_data m_undoDepth m_numberStart m_seen m_pages _ q8) (cwV 2 hts gX6_toldLot_X6_of rfl rfl rfl (by decide +kernel) ⟨Nat.le_of_ble_eq_true rfl, Nat.le_of_ble_eq_true rfl⟩) Z hA [0, 1] rfl (by decide) rfl (ci := 6) rfl rfl rfl rfl hl.1 rfl (Nat.le_of_ble_eq_true rfl) dX6_toldLot_9 ⟨Nat.zero_le _, Nat.zero_le _⟩ [some 0, some 1, none, none, none] rfl ⟨rfl, rfl, rfl, rfl, rfl, rfl⟩ (fun H locs Z => ?_)
    refine lv_goto (pc := 12) (tgt := 51) hx hb dX6_toldLot_12 (by decide) ?_
    cases hf
    exact z_iret (pc := 51) hx hb hr hlocks Z rfl rfl dX6_toldLot_51
