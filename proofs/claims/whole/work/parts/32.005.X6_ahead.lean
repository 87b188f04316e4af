def W_X6_ahead (cA : Nat → ClassId) (h : Nat → Nat) (m_thrown : Int32) (m_buffer : Nat → Int32) (m_bufferLength : Int32) (m_textLength : Int32) (m_position : Int32) (m_error : Int32) (m_errorAt : Int32) (m_errorOffset : Int32) (m_undoDepth : Int32) (m_numberStart : Int32) (m_seen : Int32) (m_pages : Int32) : va_W := [(h 0, .inr (6, [.int m_thrown, .ref (h 1), .int m_bufferLength, .int m_textLength, .int m_position, .int m_error, .int m_errorAt, .int m_errorOffset, .ref (h 2), .ref (h 3), .ref (h 4), .int m_undoDepth, .int m_numberStart, .int m_seen, .ref (h 13), .ref (h 14), .ref (h 15), .ref (h 16), .int m_pages, .ref (h 17), .ref (h 18), .ref (h 19)])), (h 1, .inl (cA 0, 500, .inl m_buffer))]
def fX6_ahead_L0 (m_buffer : Nat → Int32) (m_textLength : Int32) (j26_2 : Int32 → Option (Int32 × Int32)) : Nat → Int32 → Option (Int32 × Int32)
  | 0, _ => none
  | n0 + 1, x5 => o_bind (fX6_byteAt x5 m_buffer m_textLength) (fun x6 => (if x6 = (32 : Int32) then o_let (x5 + (1 : Int32)) (fun x9 => (fX6_ahead_L0 m_buffer m_textLength j26_2 n0 x9)) else (j26_2 x5)))
def fX6_ahead (m_buffer : Nat → Int32) (m_textLength : Int32) (m_position : Int32) : Option (Int32 × Int32) := o_let (fun (x1 : Int32) => o_bind (fX6_byteAt x1 m_buffer m_textLength) (fun x3 => some (x3, x1))) (fun (j26_2 : Int32 → Option (Int32 × Int32)) => (fX6_ahead_L0 m_buffer m_textLength j26_2 1024 m_position))
theorem iw_X6_ahead_X6 : ∀ w ∈ u_ws RX6 TX6 22, w ∈ wsX6_ahead := z_inr [9, 10, 11, 12, 13, 14, 15, 16, 17, 18, 19, 20, 21, 22, 23, 24, 25, 26, 27, 28, 29, 30] rfl
set_option maxHeartbeats 4000000 in
set_option maxRecDepth 100000 in
theorem kX6_ahead (l : Launch) (D : va_G) (cA : Nat → ClassId) (h : Nat → Nat) (m_thrown : Int32) (m_buffer : Nat → Int32) (m_bufferLength : Int32) (m_textLength : Int32) (m_position : Int32) (m_error : Int32) (m_errorAt : Int32) (m_errorOffset : Int32) (m_undoDepth : Int32) (m_numberStart : Int32) (m_seen : Int32) (m_pages : Int32) (u : Int32 × Int32) (hf : fX6_ahead m_buffer m_textLength m_position = some u) : zMi l yX6_ahead wsX6_ahead ({ frames := 1, cells := 0, slots := 0, locals := 21 } : Room) D (zTY cA) [.ref (h 0)] (W_X6_ahead cA h m_thrown m_buffer m_bufferLength m_textLength m_position m_error m_errorAt m_errorOffset m_undoDepth m_numberStart m_seen m_pages) (W_X6_ahead cA h m_thrown m_buffer m_bufferLength m_textLength (u.2) m_error m_errorAt m_errorOffset m_undoDepth m_numberStart m_seen m_pages) u.1 := by
  refine z_starti (cc := cX6_ahead) (maxL := 1) (ret := (some .int)) (by decide) rfl (Nat.le_of_ble_eq_true rfl) ?_
  intro p e s m args below meth c A hx hb hr hts hown hlocks hml hA Z ls hl
  replace hown : s.vm.findClass RX6 = some m.cls := hown
  replace hl : lv_has ls 1 [(0, .ref (h 0))] := hl
  obtain ⟨H, hH⟩ : ∃ H, H = s.heap := ⟨_, rfl⟩
  rw [← hH] at Z ⊢
  clear hH
  obtain ⟨locs, hlc⟩ : ∃ q : List Loc, q = [] := ⟨_, rfl⟩
  rw [← hlc] at Z ⊢
  clear hlc
  obtain ⟨j26_2, ej26_2, hf⟩ := o_jnE hf
  have hj26_2 : ∀ (x1 : Int32) (H : Heap) (locs : List Loc) (ls : Array Slot), zw D (zTY cA) s A (W_X6_ahead cA h m_thrown m_buffer m_bufferLength m_textLength x1 m_error m_errorAt m_errorOffset m_undoDepth m_numberStart m_seen m_pages) H locs → lv_has ls 1 [(0, .ref (h 0))] → j26_2 x1 = some u → W p l e ({ frames := 1, cells := 0, slots := 0, locals := 21 } : Room) s m args below meth c H locs 0 0 (MQ below (zQi D (zTY cA) A (W_X6_ahead cA h m_thrown m_buffer m_bufferLength m_textLength (u.2) m_error m_errorAt m_errorOffset m_undoDepth m_numberStart m_seen m_pages) u.1) args s 0 0 A) (F0 m 26 ls []) := by
    intro x1 H locs ls Z hl hf
    rw [ej26_2] at hf
    refine lv_aload_n (pc := 26) hx hb dX6_ahead_26 rfl (lv_at hl 0 rfl) ?_
    refine lv_aload_n (pc := 27) hx hb dX6_ahead_27 rfl (lv_at hl 0 rfl) ?_
    refine z_get (pc := 28) (ref := "LotSheetModel") (ci := 6) (C := RX6) (T := TX6) (N := 22) hx hb hts iw_X6_ahead_X6 hown Z 0 rfl rfl 4 (by decide) (List.mem_of_getElem? (i := 1) rfl) rfl rfl dX6_ahead_28 ?_
    obtain ⟨x3, q4, hf⟩ := o_bindE hf
    refine z_callVi (pc := 31) (As := [.int x1]) (rest := []) (Wc := (W_X6_byteAt cA (fun k => h ([0, 1, 2, 3, 4, 5, 6, 7, 8, 9, 10, 11, 12, 13, 14, 15, 16, 17, 18, 19].getD k 0)) m_thrown m_buffer m_bufferLength m_textLength x1 m_error m_errorAt m_errorOffset m_undoDepth m_numberStart m_seen m_pages)) (W1 := (W_X6_byteAt cA (fun k => h ([0, 1, 2, 3, 4, 5, 6, 7, 8, 9, 10, 11, 12, 13, 14, 15, 16, 17, 18, 19].getD k 0)) m_thrown m_buffer m_bufferLength m_textLength x1 m_error m_errorAt m_errorOffset m_undoDepth m_numberStart m_seen m_pages)) (W2 := (W_X6_ahead cA h m_thrown m_buffer m_bufferLength m_textLength x1 m_error m_errorAt m_errorOffset m_undoDepth m_numberStart m_seen m_pages)) ⟨hx, hb, hml, hown, hts⟩ (kX6_byteAt l D cA (fun k => h ([0, 1, 2, 3, 4, 5, 6, 7, 8, 9, 10, 11, 12, 13, 14, 15, 16, 17, 18, 19].getD k 0)) x1 m_thrown m_buffer m_bufferLength m_textLength x1 m_error m_errorAt m_errorOffset m_undoDepth m_numberStart m_seen m_pages _ q4) (cwV 1 hts gX6_ahead_X6_byteAt rfl rfl rfl (by decide +kernel) ⟨Nat.le_of_ble_eq_true rfl, Nat.le_of_ble_eq_true rfl⟩) Z hA [0, 1] rfl (by decide) rfl (ci := 6) rfl rfl rfl rfl hl.1 rfl (Nat.le_of_ble_eq_true rfl) dX6_ahead_31 ⟨Nat.zero_le _, Nat.zero_le _⟩ [some 0, some 1] rfl ⟨rfl, rfl, rfl⟩ (fun H locs Z => ?_)
    cases hf
    exact z_iret (pc := 34) hx hb hr hlocks Z rfl rfl dX6_ahead_34
  have hL0 : ∀ (n0 : Nat) (x5 : Int32) (H : Heap) (locs : List Loc) (ls : Array Slot), zw D (zTY cA) s A (W_X6_ahead cA h m_thrown m_buffer m_bufferLength m_textLength x5 m_error m_errorAt m_errorOffset m_undoDepth m_numberStart m_seen m_pages) H locs → lv_has ls 1 [(0, .ref (h 0))] → fX6_ahead_L0 m_buffer m_textLength j26_2 n0 x5 = some u → W p l e ({ frames := 1, cells := 0, slots := 0, locals := 21 } : Room) s m args below meth c H locs 0 0 (MQ below (zQi D (zTY cA) A (W_X6_ahead cA h m_thrown m_buffer m_bufferLength m_textLength (u.2) m_error m_errorAt m_errorOffset m_undoDepth m_numberStart m_seen m_pages) u.1) args s 0 0 A) (F0 m 0 ls []) := by
    intro n0
    induction n0 with
    | zero => intro x5 H locs ls Z hl hf; exact o_no hf
    | succ n0 ih0 =>
      intro x5 H locs ls Z hl hf
      refine lv_aload_n (pc := 0) hx hb dX6_ahead_0 rfl (lv_at hl 0 rfl) ?_
      refine lv_aload_n (pc := 1) hx hb dX6_ahead_1 rfl (lv_at hl 0 rfl) ?_
      refine z_get (pc := 2) (ref := "LotSheetModel") (ci := 6) (C := RX6) (T := TX6) (N := 22) hx hb hts iw_X6_ahead_X6 hown Z 0 rfl rfl 4 (by decide) (List.mem_of_getElem? (i := 1) rfl) rfl rfl dX6_ahead_2 ?_
      obtain ⟨x6, q7, hf⟩ := o_bindE hf
      refine z_callVi (pc := 5) (As := [.int x5]) (rest := []) (Wc := (W_X6_byteAt cA (fun k => h ([0, 1, 2, 3, 4, 5, 6, 7, 8, 9, 10, 11, 12, 13, 14, 15, 16, 17, 18, 19].getD k 0)) m_thrown m_buffer m_bufferLength m_textLength x5 m_error m_errorAt m_errorOffset m_undoDepth m_numberStart m_seen m_pages)) (W1 := (W_X6_byteAt cA (fun k => h ([0, 1, 2, 3, 4, 5, 6, 7, 8, 9, 10, 11, 12, 13, 14, 15, 16, 17, 18, 19].getD k 0)) m_thrown m_buffer m_bufferLength m_textLength x5 m_error m_errorAt m_errorOffset m_undoDepth m_numberStart m_seen m_pages)) (W2 := (W_X6_ahead cA h m_thrown m_buffer m_bufferLength m_textLength x5 m_error m_errorAt m_errorOffset m_undoDepth m_numberStart m_seen m_pages)) ⟨hx, hb, hml, hown, hts⟩ (kX6_byteAt l D cA (fun k => h ([0, 1, 2, 3, 4, 5, 6, 7, 8, 9, 10, 11, 12, 13, 14, 15, 16, 17, 18, 19].getD k 0)) x5 m_thrown m_buffer m_bufferLength m_textLength x5 m_error m_errorAt m_errorOffset m_undoDepth m_numberStart m_seen m_pages _ q7) (cwV 1 hts gX6_ahead_X6_byteAt rfl rfl rfl (by decide +kernel) ⟨Nat.le_of_ble_eq_true rfl, Nat.le_of_ble_eq_true rfl⟩) Z hA [0, 1] rfl (by decide) rfl (ci := 6) rfl rfl rfl rfl hl.1 rfl (Nat.le_of_ble_eq_true rfl) dX6_ahead_5 ⟨Nat.zero_le _, Nat.zero_le _⟩ [some 0, some 1] rfl ⟨rfl, rfl, rfl⟩ (fun H locs Z => ?_)
      refine lv_bipush (pc := 8) (v := (32 : Int32)) hx hb dX6_ahead_8 (by decide) ?_
      refine lv_icmp_ne (pc := 10) (tgt := 26) hx hb dX6_ahead_10 (by decide) (fun c8 => ?_) (fun c8 => ?_)
      · replace hf := o_neg c8 hf
        exact hj26_2 x5 H locs ls Z (lv_sub hl [0] rfl) hf
      · replace hf := o_pos c8 hf
        refine lv_aload_n (pc := 13) hx hb dX6_ahead_13 rfl (lv_at hl 0 rfl) ?_
        refine lv_dup (pc := 14) hx hb dX6_ahead_14 rfl ?_
        refine z_get (pc := 15) (ref := "LotSheetModel") (ci := 6) (C := RX6) (T := TX6) (N := 22) hx hb hts iw_X6_ahead_X6 hown Z 0 rfl rfl 4 (by decide) (List.mem_of_getElem? (i := 1) rfl) rfl rfl dX6_ahead_15 ?_
        refine lv_iconst (pc := 18) (v := (1 : Int32)) hx hb dX6_ahead_18 (by decide) ?_
        refine lv_iadd (pc := 19) hx hb dX6_ahead_19 ?_
        refine lv_topi (fun x9 ex9 => ?_)
        replace hf := o_letE ex9 hf
        refine z_put (pc := 20) (ref := "LotSheetModel") (ci := 6) (C := RX6) (T := TX6) (N := 22) (W1 := (W_X6_ahead cA h m_thrown m_buffer m_bufferLength m_textLength x9 m_error m_errorAt m_errorOffset m_undoDepth m_numberStart m_seen m_pages)) hx hb hts iw_X6_ahead_X6 tyX6 tyX6_ok nmX6 hown Z 0 rfl rfl 4 (by decide) (List.mem_of_getElem? (i := 1) rfl) rfl rfl rfl rfl (Nat.le_of_ble_eq_true rfl) dX6_ahead_20 rfl (fun H locs Z => ?_)
        refine lv_goto (pc := 23) (tgt := 0) hx hb dX6_ahead_23 (by decide) ?_
        exact ih0 x9 H locs ls Z (lv_sub hl [0] rfl) hf
  exact hL0 1024 m_position H locs ls Z (lv_sub hl [0] rfl) hf
