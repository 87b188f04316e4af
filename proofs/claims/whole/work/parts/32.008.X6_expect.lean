def W_X6_expect (cA : Nat → ClassId) (h : Nat → Nat) (m_thrown : Int32) (m_buffer : Nat → Int32) (m_bufferLength : Int32) (m_textLength : Int32) (m_position : Int32) (m_error : Int32) (m_errorAt : Int32) (m_errorOffset : Int32) (m_undoDepth : Int32) (m_numberStart : Int32) (m_seen : Int32) (m_pages : Int32) : va_W := [(h 0, .inr (6, [.int m_thrown, .ref (h 1), .int m_bufferLength, .int m_textLength, .int m_position, .int m_error, .int m_errorAt, .int m_errorOffset, .ref (h 2), .ref (h 3), .ref (h 4), .int m_undoDepth, .int m_numberStart, .int m_seen, .ref (h 13), .ref (h 14), .ref (h 15), .ref (h 16), .int m_pages, .ref (h 17), .ref (h 18), .ref (h 19)])), (h 1, .inl (cA 0, 500, .inl m_buffer))]
def fX6_expect (p1 : Int32) (m_buffer : Nat → Int32) (m_textLength : Int32) (m_position : Int32) (m_error : Int32) (m_errorAt : Int32) : Option (Int32 × Int32 × Int32) := o_bind (fX6_isGood m_error) (fun x1 => (if x1 = 0 then some (m_position, m_error, m_errorAt) else o_bind (fX6_ahead m_buffer m_textLength m_position) (fun (x4, x5) => (if x4 = p1 then o_let (x5 + (1 : Int32)) (fun x11 => some (x11, m_error, m_errorAt)) else o_bind (fX6_report (-2 : Int32) x5 m_error m_errorAt) (fun (x8, x9) => some (x5, x8, x9))))))
theorem iw_X6_expect_X6 : ∀ w ∈ u_ws RX6 TX6 22, w ∈ wsX6_expect := z_inr [23, 24, 25, 26, 27, 28, 29, 30, 31, 32, 33, 34, 35, 36, 37, 38, 39, 40, 41, 42, 43, 44] rfl
set_option maxHeartbeats 4000000 in
set_option maxRecDepth 100000 in
theorem kX6_expect (l : Launch) (D : va_G) (cA : Nat → ClassId) (h : Nat → Nat) (p1 : Int32) (m_thrown : Int32) (m_buffer : Nat → Int32) (m_bufferLength : Int32) (m_textLength : Int32) (m_position : Int32) (m_error : Int32) (m_errorAt : Int32) (m_errorOffset : Int32) (m_undoDepth : Int32) (m_numberStart : Int32) (m_seen : Int32) (m_pages : Int32) (u : Int32 × Int32 × Int32) (hf : fX6_expect p1 m_buffer m_textLength m_position m_error m_errorAt = some u) : zMv l yX6_expect wsX6_expect ({ frames := 2, cells := 0, slots := 0, locals := 41 } : Room) D (zTY cA) [.ref (h 0), .int p1] (W_X6_expect cA h m_thrown m_buffer m_bufferLength m_textLength m_position m_error m_errorAt m_errorOffset m_undoDepth m_numberStart m_seen m_pages) (W_X6_expect cA h m_thrown m_buffer m_bufferLength m_textLength (u.1) (u.2.1) (u.2.2) m_errorOffset m_undoDepth m_numberStart m_seen m_pages) := by
  refine z_startv (cc := cX6_expect) (maxL := 2) (ret := none) (by decide) rfl (Nat.le_of_ble_eq_true rfl) ?_
  intro p e s m args below meth c A hx hb hr hts hown hlocks hml hA Z ls hl
  replace hown : s.vm.findClass RX6 = some m.cls := hown
  replace hl : lv_has ls 2 [(0, .ref (h 0)), (1, .int p1)] := hl
  obtain ⟨H, hH⟩ : ∃ H, H = s.heap := ⟨_, rfl⟩
  rw [← hH] at Z ⊢
  clear hH
  obtain ⟨locs, hlc⟩ : ∃ q : List Loc, q = [] := ⟨_, rfl⟩
  rw [← hlc] at Z ⊢
  clear hlc
  refine lv_aload_n (pc := 0) hx hb dX6_expect_0 rfl (lv_at hl 0 rfl) ?_
  obtain ⟨x1, q2, hf⟩ := o_bindE hf
  refine z_callVi (pc := 1) (As := []) (rest := []) (Wc := (W_X6_isGood cA (fun k => h ([0, 1, 2, 3, 4, 5, 6, 7, 8, 9, 10, 11, 12, 13, 14, 15, 16, 17, 18, 19].getD k 0)) m_thrown m_bufferLength m_textLength m_position m_error m_errorAt m_errorOffset m_undoDepth m_numberStart m_seen m_pages)) (W1 := (W_X6_isGood cA (fun k => h ([0, 1, 2, 3, 4, 5, 6, 7, 8, 9, 10, 11, 12, 13, 14, 15, 16, 17, 18, 19].getD k 0)) m_thrown m_bufferLength m_textLength m_position m_error m_errorAt m_errorOffset m_undoDepth m_numberStart m_seen m_pages)) (W2 := (W_X6_expect cA h m_thrown m_buffer m_bufferLength m_textLength m_position m_error m_errorAt m_errorOffset m_undoDepth m_numberStart m_seen m_pages)) ⟨hx, hb, hml, hown, hts⟩ (kX6_isGood l D cA (fun k => h ([0, 1, 2, 3, 4, 5, 6, 7, 8, 9, 10, 11, 12, 13, 14, 15, 16, 17, 18, 19].getD k 0)) m_thrown m_bufferLength m_textLength m_position m_error m_errorAt m_errorOffset m_undoDepth m_numberStart m_seen m_pages _ q2) (cwV 0 hts gX6_expect_X6_isGood rfl rfl rfl (by decide +kernel) ⟨Nat.le_of_ble_eq_true rfl, Nat.le_of_ble_eq_true rfl⟩) Z hA [0] rfl (by decide) rfl (ci := 6) rfl rfl rfl rfl hl.1 rfl (Nat.le_of_ble_eq_true rfl) dX6_expect_1 ⟨Nat.zero_le _, Nat.zero_le _⟩ [some 0, none] rfl ⟨rfl, rfl, rfl⟩ (fun H locs Z => ?_)
  refine lv_if_ne (pc := 4) (tgt := 8) hx hb dX6_expect_4 (by decide) (fun c3 => ?_) (fun c3 => ?_)
  · replace hf := o_neg c3 hf
    refine lv_aload_n (pc := 8) hx hb dX6_expect_8 rfl (lv_at hl 0 rfl) ?_
    obtain ⟨⟨x4, x5⟩, q6, hf⟩ := o_bindE hf
    refine z_callVi (pc := 9) (As := []) (rest := []) (Wc := (W_X6_ahead cA (fun k => h ([0, 1, 2, 3, 4, 5, 6, 7, 8, 9, 10, 11, 12, 13, 14, 15, 16, 17, 18, 19].getD k 0)) m_thrown m_buffer m_bufferLength m_textLength m_position m_error m_errorAt m_errorOffset m_undoDepth m_numberStart m_seen m_pages)) (W1 := (W_X6_ahead cA (fun k => h ([0, 1, 2, 3, 4, 5, 6, 7, 8, 9, 10, 11, 12, 13, 14, 15, 16, 17, 18, 19].getD k 0)) m_thrown m_buffer m_bufferLength m_textLength x5 m_error m_errorAt m_errorOffset m_undoDepth m_numberStart m_seen m_pages)) (W2 := (W_X6_expect cA h m_thrown m_buffer m_bufferLength m_textLength x5 m_error m_errorAt m_errorOffset m_undoDepth m_numberStart m_seen m_pages)) ⟨hx, hb, hml, hown, hts⟩ (kX6_ahead l D cA (fun k => h ([0, 1, 2, 3, 4, 5, 6, 7, 8, 9, 10, 11, 12, 13, 14, 15, 16, 17, 18, 19].getD k 0)) m_thrown m_buffer m_bufferLength m_textLength m_position m_error m_errorAt m_errorOffset m_undoDepth m_numberStart m_seen m_pages _ q6) (cwV 0 hts gX6_expect_X6_ahead rfl rfl rfl (by decide +kernel) ⟨Nat.le_of_ble_eq_true rfl, Nat.le_of_ble_eq_true rfl⟩) Z hA [0, 1] rfl (by decide) rfl (ci := 6) rfl rfl rfl rfl hl.1 rfl (Nat.le_of_ble_eq_true rfl) dX6_expect_9 ⟨Nat.zero_le _, Nat.zero_le _⟩ [some 0, some 1] rfl ⟨rfl, rfl, rfl⟩ (fun H locs Z => ?_)
    refine lv_iload_n (pc := 12) hx hb dX6_expect_12 rfl (lv_at hl 1 rfl) ?_
    refine lv_icmp_ne (pc := 13) (tgt := 29) hx hb dX6_expect_13 (by decide) (fun c7 => ?_) (fun c7 => ?_)
    · replace hf := o_neg c7 hf
      refine lv_aload_n (pc := 29) hx hb dX6_expect_29 rfl (lv_at hl 0 rfl) ?_
      refine lv_bipush (pc := 30) (v := (-2 : Int32)) hx hb dX6_expect_30 (by decide) ?_
      refine lv_aload_n (pc := 32) hx hb dX6_expect_32 rfl (lv_at hl 0 rfl) ?_
      refine z_get (pc := 33) (ref := "LotSheetModel") (ci := 6) (C := RX6) (T := TX6) (N := 22) hx hb hts iw_X6_expect_X6 hown Z 0 rfl rfl 4 (by decide) (List.mem_of_getElem? (i := 1) rfl) rfl rfl dX6_expect_33 ?_
      obtain ⟨⟨x8, x9⟩, q10, hf⟩ := o_bindE hf
      refine z_callVv (pc := 36) (As := [.int (-2 : Int32), .int x5]) (rest := []) (Wc := (W_X6_report cA (fun k => h ([0, 1, 2, 3, 4, 5, 6, 7, 8, 9, 10, 11, 12, 13, 14, 15, 16, 17, 18, 19].getD k 0)) m_thrown m_bufferLength m_textLength x5 m_error m_errorAt m_errorOffset m_undoDepth m_numberStart m_seen m_pages)) (W1 := (W_X6_report cA (fun k => h ([0, 1, 2, 3, 4, 5, 6, 7, 8, 9, 10, 11, 12, 13, 14, 15, 16, 17, 18, 19].getD k 0)) m_thrown m_bufferLength m_textLength x5 x8 x9 m_errorOffset m_undoDepth m_numberStart m_seen m_pages)) (W2 := (W_X6_expect cA h m_thrown m_buffer m_bufferLength m_textLength x5 x8 x9 m_errorOffset m_undoDepth m_numberStart m_seen m_pages)) ⟨hx, hb, hml, hown, hts⟩ (kX6_report l D cA (fun k => h ([0, 1, 2, 3, 4, 5, 6, 7, 8, 9, 10, 11, 12, 13, 14, 15, 16, 17, 18, 19].getD k 0)) (-2 : Int32) x5 m_thrown m_bufferLength m_textLength x5 m_error m_errorAt m_errorOffset m_undoDepth m_numberStart m_seen m_pages _ q10) (cwV 2 hts gX6_expect_X6_report rfl rfl rfl (by decide +kernel) ⟨Nat.le_of_ble_eq_true rfl, Nat.le_of_ble_eq_true rfl⟩) Z hA [0] rfl (by decide) rfl (ci := 6) rfl rfl rfl rfl hl.1 rfl (Nat.le_of_ble_eq_true rfl) dX6_expect_36 ⟨Nat.zero_le _, Nat.zero_le _⟩ [some 0, none] rfl ⟨rfl, rfl, rfl⟩ (fun H locs Z => ?_)
      cases hf
      exact z_vret (pc := 39) hx hb hr hlocks Z rfl dX6_expect_39
    · replace hf := o_pos c7 hf
      refine lv_aload_n (pc := 16) hx hb dX6_expect_16 rfl (lv_at hl 0 rfl) ?_
      refine lv_dup (pc := 17) hx hb dX6_expect_17 rfl ?_
      refine z_get (pc := 18) (ref := "LotSheetModel") (ci := 6) (C := RX6) (T := TX6) (N := 22) hx hb hts iw_X6_expect_X6 hown Z 0 rfl rfl 4 (by decide) (List.mem_of_getElem? (i := 1) rfl) rfl rfl dX6_expect_18 ?_
      refine lv_iconst (pc := 21) (v := (1 : Int32)) hx hb dX6_expect_21 (by decide) ?_
      refine lv_iadd (pc := 22) hx hb dX6_expect_22 ?_
      refine lv_topi (fun x11 ex11 => ?_)
      replace hf := o_letE ex11 hf
      refine z_put (pc := 23) (ref := "LotSheetModel") (ci := 6) (C := RX6) (T := TX6) (N := 22) (W1 := (W_X6_expect cA h m_thrown m_buffer m_bufferLength m_textLength x11 m_error m_errorAt m_errorOffset m_undoDepth m_numberStart m_seen m_pages)) hx hb hts iw_X6_expect_X6 tyX6 tyX6_ok nmX6 hown Z 0 rfl rfl 4 (by decide) (List.mem_of_getElem? (i := 1) rfl) rfl rfl rfl rfl (Nat.le_of_ble_eq_true rfl) dX6_expect_23 rfl (fun H locs Z => ?_)
      refine lv_goto (pc := 26) (tgt := 39) hx hb dX6_expect_26 (by decide) ?_
      cases hf
      exact z_vret (pc := 39) hx hb hr hlocks Z rfl dX6_expect_39
  · replace hf := o_pos c3 hf
    cases hf
    exact z_vret (pc := 7) hx hb hr hlocks Z rfl dX6_expect_7
