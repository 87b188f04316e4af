def W_X6_fails (cA : Nat → ClassId) (h : Nat → Nat) (m_thrown : Int32) (m_bufferLength : Int32) (m_textLength : Int32) (m_position : Int32) (m_error : Int32) (m_errorAt : Int32) (m_errorOffset : Int32) (m_undoDepth : Int32) (m_numberStart : Int32) (m_seen : Int32) (m_pages : Int32) : va_W := [(h 0, .inr (6, [.int m_thrown, .ref (h 1), .int m_bufferLength, .int m_textLength, .int m_position, .int m_error, .int m_errorAt, .int m_errorOffset, .ref (h 2), .ref (h 3), .ref (h 4), .int m_undoDepth, .int m_numberStart, .int m_seen, .ref (h 13), .ref (h 14), .ref (h 15), .ref (h 16), .int m_pages, .ref (h 17), .ref (h 18), .ref (h 19)]))]
def fX6_fails (p1 : Int32) (p2 : Int32) (m_thrown : Int32) : Option (Int32 × Int32) := o_let (fun (x2 : Int32) => (if x2 = 0 then some ((0 : Int32), x2) else some ((1 : Int32), x2))) (fun (j16_3 : Int32 → Option (Int32 × Int32)) => (if p1 = 0 then (j16_3 m_thrown) else (if m_thrown = 0 then (j16_3 p2) else (j16_3 m_thrown))))
theorem iw_X6_fails_X6 : ∀ w ∈ u_ws RX6 TX6 22, w ∈ wsX6_fails := z_inr [2, 3, 4, 5, 6, 7, 8, 9, 10, 11, 12, 13, 14, 15, 16, 17, 18, 19, 20, 21, 22, 23] rfl
set_option maxHeartbeats 4000000 in
set_option maxRecDepth 100000 in
theorem kX6_fails (l : Launch) (D : va_G) (cA : Nat → ClassId) (h : Nat → Nat) (p1 : Int32) (p2 : Int32) (m_thrown : Int32) (m_bufferLength : Int32) (m_textLength : Int32) (m_position : Int32) (m_error : Int32) (m_errorAt : Int32) (m_errorOffset : Int32) (m_undoDepth : Int32) (m_numberStart : Int32) (m_seen : Int32) (m_pages : Int32) (u : Int32 × Int32) (hf : fX6_fails p1 p2 m_thrown = some u) : zMi l yX6_fails wsX6_fails ({ frames := 0, cells := 0, slots := 0, locals := 0 } : Room) D (zTY cA) [.ref (h 0), .int p1, .int p2] (W_X6_fails cA h m_thrown m_bufferLength m_textLength m_position m_error m_errorAt m_errorOffset m_undoDepth m_numberStart m_seen m_pages) (W_X6_fails cA h (u.2) m_bufferLength m_textLength m_position m_error m_errorAt m_errorOffset m_undoDepth m_numberStart m_seen m_pages) u.1 := by
  refine z_starti (cc := cX6_fails) (maxL := 3) (ret := (some .boolean)) (by decide) rfl (Nat.le_of_ble_eq_true rfl) ?_
  intro p e s m args below meth c A hx hb hr hts hown hlocks hml hA Z ls hl
  replace hown : s.vm.findClass RX6 = some m.cls := hown
  replace hl : lv_has ls 3 [(0, .ref (h 0)), (1, .int p1), (2, .int p2)] := hl
  obtain ⟨H, hH⟩ : ∃ H, H = s.heap := ⟨_, rfl⟩
  rw [← hH] at Z ⊢
  clear hH
  obtain ⟨locs, hlc⟩ : ∃ q : List Loc, q = [] := ⟨_, rfl⟩
  rw [← hlc] at Z ⊢
  clear hlc
  refine lv_iload_n (pc := 0) hx hb dX6_fails_0 rfl (lv_at hl 1 rfl) ?_
  obtain ⟨j16_3, ej16_3, hf⟩ := o_jnE hf
  have hj16_3 : ∀ (x2 : Int32) (H : Heap) (locs : List Loc) (ls : Array Slot), zw D (zTY cA) s A (W_X6_fails cA h x2 m_bufferLength m_textLength m_position m_error m_errorAt m_errorOffset m_undoDepth m_numberStart m_seen m_pages) H locs → lv_has ls 3 [(0, .ref (h 0))] → j16_3 x2 = some u → W p l e ({ frames := 0, cells := 0, slots := 0, locals := 0 } : Room) s m args below meth c H locs 0 0 (MQ below (zQi D (zTY cA) A (W_X6_fails cA h (u.2) m_bufferLength m_textLength m_position m_error m_errorAt m_errorOffset m_undoDepth m_numberStart m_seen m_pages) u.1) args s 0 0 A) (F0 m 16 ls []) := by
    intro x2 H locs ls Z hl hf
    rw [ej16_3] at hf
    refine lv_aload_n (pc := 16) hx hb dX6_fails_16 rfl (lv_at hl 0 rfl) ?_
    refine z_get (pc := 17) (ref := "LotSheetModel") (ci := 6) (C := RX6) (T := TX6) (N := 22) hx hb hts iw_X6_fails_X6 hown Z 0 rfl rfl 0 (by decide) (List.mem_of_getElem? (i := 1) rfl) rfl rfl dX6_fails_17 ?_
    refine lv_if_eq (pc := 20) (tgt := 27) hx hb dX6_fails_20 (by decide) (fun c4 => ?_) (fun c4 => ?_)
    · replace hf := o_pos c4 hf
      refine lv_iconst (pc := 27) (v := (0 : Int32)) hx hb dX6_fails_27 (by decide) ?_
      cases hf
      exact z_zret (pc := 28) hx hb hr hlocks Z rfl rfl (by decide) dX6_fails_28
    · replace hf := o_neg c4 hf
      refine lv_iconst (pc := 23) (v := (1 : Int32)) hx hb dX6_fails_23 (by decide) ?_
      refine lv_goto (pc := 24) (tgt := 28) hx hb dX6_fails_24 (by decide) ?_
      cases hf
      exact z_zret (pc := 28) hx hb hr hlocks Z rfl rfl (by decide) dX6_fails_28
  refine lv_if_eq (pc := 1) (tgt := 16) hx hb dX6_fails_1 (by decide) (fun c1 => ?_) (fun c1 => ?_)
  · replace hf := o_pos c1 hf
    exact hj16_3 m_thrown H locs ls Z (lv_sub hl [0] rfl) hf
  · replace hf := o_neg c1 hf
    refine lv_aload_n (pc := 4) hx hb dX6_fails_4 rfl (lv_at hl 0 rfl) ?_
    refine z_get (pc := 5) (ref := "LotSheetModel") (ci := 6) (C := RX6) (T := TX6) (N := 22) hx hb hts iw_X6_fails_X6 hown Z 0 rfl rfl 0 (by decide) (List.mem_of_getElem? (i := 1) rfl) rfl rfl dX6_fails_5 ?_
    refine lv_if_ne (pc := 8) (tgt := 16) hx hb dX6_fails_8 (by decide) (fun c5 => ?_) (fun c5 => ?_)
    · replace hf := o_neg c5 hf
      exact hj16_3 m_thrown H locs ls Z (lv_sub hl [0] rfl) hf
    · replace hf := o_pos c5 hf
      refine lv_aload_n (pc := 11) hx hb dX6_fails_11 rfl (lv_at hl 0 rfl) ?_
      refine lv_iload_n (pc := 12) hx hb dX6_fails_12 rfl (lv_at hl 2 rfl) ?_
      refine z_put (pc := 13) (ref := "LotSheetModel") (ci := 6) (C := RX6) (T := TX6) (N := 22) (W1 := (W_X6_fails cA h p2 m_bufferLength m_textLength m_position m_error m_errorAt m_errorOffset m_undoDepth m_numberStart m_seen m_pages)) hx hb hts iw_X6_fails_X6 tyX6 tyX6_ok nmX6 hown Z 0 rfl rfl 0 (by decide) (List.mem_of_getElem? (i := 1) rfl) rfl rfl rfl rfl (Nat.le_of_ble_eq_true rfl) dX6_fails_13 rfl (fun H locs Z => ?_)
      exact hj16_3 p2 H locs ls Z (lv_sub hl [0] rfl) hf
