def W_X6_noChoice (cA : Nat → ClassId) (h : Nat → Nat) (m_thrown : Int32) (m_bufferLength : Int32) (m_textLength : Int32) (m_position : Int32) (m_error : Int32) (m_errorAt : Int32) (m_errorOffset : Int32) (m_data : Nat → Int32) (m_undoDepth : Int32) (m_numberStart : Int32) (m_seen : Int32) (m_pages : Int32) : va_W := [(h 0, .inr (6, [.int m_thrown, .ref (h 1), .int m_bufferLength, .int m_textLength, .int m_position, .int m_error, .int m_errorAt, .int m_errorOffset, .ref (h 2), .ref (h 3), .ref (h 4), .int m_undoDepth, .int m_numberStart, .int m_seen, .ref (h 13), .ref (h 14), .ref (h 15), .ref (h 16), .int m_pages, .ref (h 17), .ref (h 18), .ref (h 19)])), (h 2, .inl (cA 0, 153, .inl m_data))]
def fX6_noChoice (p1 : Int32) (m_thrown : Int32) (m_data : Nat → Int32) : Option (Int32 × Int32) := o_bind (fX6_different m_data) (fun x1 => o_bind (fX6_in p1 (0 : Int32) (((1 : Int32) <<< (x1 &&& 31)) - (1 : Int32))) (fun x3 => o_let (fun (x6 : Int32) => o_bind (fX6_fails x6 (1 : Int32) m_thrown) (fun (x8, x9) => o_as (x8 &&& 1 = x8) (some (x8, x9)))) (fun (j25_7 : Int32 → Option (Int32 × Int32)) => (if x3 = 0 then (j25_7 (1 : Int32)) else (j25_7 (0 : Int32))))))
theorem iw_X6_noChoice_X6 : ∀ w ∈ u_ws RX6 TX6 22, w ∈ wsX6_noChoice := z_inr [20, 21, 22, 23, 24, 25, 26, 27, 28, 29, 30, 31, 32, 33, 34, 35, 36, 37, 38, 39, 40, 41] rfl
set_option maxHeartbeats 4000000 in
set_option maxRecDepth 100000 in
theorem kX6_noChoice (l : Launch) (D : va_G) (cA : Nat → ClassId) (h : Nat → Nat) (p1 : Int32) (m_thrown : Int32) (m_bufferLength : Int32) (m_textLength : Int32) (m_position : Int32) (m_error : Int32) (m_errorAt : Int32) (m_errorOffset : Int32) (m_data : Nat → Int32) (m_undoDepth : Int32) (m_numberStart : Int32) (m_seen : Int32) (m_pages : Int32) (u : Int32 × Int32) (hf : fX6_noChoice p1 m_thrown m_data = some u) : zMi l yX6_noChoice wsX6_noChoice ({ frames := 3, cells := 0, slots := 0, locals := 63 } : Room) D (zTY cA) [.ref (h 0), .int p1] (W_X6_noChoice cA h m_thrown m_bufferLength m_textLength m_position m_error m_errorAt m_errorOffset m_data m_undoDepth m_numberStart m_seen m_pages) (W_X6_noChoice cA h (u.2) m_bufferLength m_textLength m_position m_error m_errorAt m_errorOffset m_data m_undoDepth m_numberStart m_seen m_pages) u.1 := by
  refine z_starti (cc := cX6_noChoice) (maxL := 2) (ret := (some .boolean)) (by decide) rfl (Nat.le_of_ble_eq_true rfl) ?_
  intro p e s m args below meth c A hx hb hr hts hown hlocks hml hA Z ls hl
  replace hown : s.vm.findClass RX6 = some m.cls := hown
  replace hl : lv_has ls 2 [(0, .ref (h 0)), (1, .int p1)] := hl
  obtain ⟨H, hH⟩ : ∃ H, H = s.heap := ⟨_, rfl⟩
  rw [← hH] at Z ⊢
  clear hH
  obtain ⟨locs, hlc⟩ : ∃ q : List Loc, q = [] := ⟨_, rfl⟩
  rw [← hlc] at Z ⊢
  clear hlc
  refine lv_aload_n (pc := 0) hx hb dX6_noChoice_0 rfl (lv_at hl 0 rfl) ?_
  refine lv_iload_n (pc := 1) hx hb dX6_noChoice_1 rfl (lv_at hl 1 rfl) ?_
  refine lv_iconst (pc := 2) (v := (0 : Int32)) hx hb dX6_noChoice_2 (by decide) ?_
  refine lv_iconst (pc := 3) (v := (1 : Int32)) hx hb dX6_noChoice_3 (by decide) ?_
  refine lv_aload_n (pc := 4) hx hb dX6_noChoice_4 rfl (lv_at hl 0 rfl) ?_
  refine z_get (pc := 5) (ref := "LotSheetModel") (ci := 6) (C := RX6) (T := TX6) (N := 22) hx hb hts iw_X6_noChoice_X6 hown Z 0 rfl rfl 8 (by decide) (List.mem_of_getElem? (i := 1) rfl) rfl rfl dX6_noChoice_5 ?_
  obtain ⟨x1, q2, hf⟩ := o_bindE hf
  refine z_callSi (pc := 8) (As := [.ref (h 2)]) (rest := [.int (1 : Int32), .int (0 : Int32), .int p1, .ref (h 0)]) (Wc := (W_X6_different cA (fun k => h ([2].getD k 0)) m_data)) (W1 := (W_X6_different cA (fun k => h ([2].getD k 0)) m_data)) (W2 := (W_X6_noChoice cA h m_thrown m_bufferLength m_textLength m_position m_error m_errorAt m_errorOffset m_data m_undoDepth m_numberStart m_seen m_pages)) ⟨hx, hb, hml, hown, hts⟩ (kX6_different l D cA (fun k => h ([2].getD k 0)) m_data _ q2) (va_cwS 1 hts gX6_noChoice_X6_different rfl rfl rfl (by decide +kernel) ⟨Nat.le_of_ble_eq_true rfl, Nat.le_of_ble_eq_true rfl⟩) Z hA [1] rfl (by decide) rfl rfl hl.1 rfl (Nat.le_of_ble_eq_true rfl) dX6_noChoice_8 ⟨Nat.zero_le _, Nat.zero_le _⟩ [none, some 0] rfl ⟨rfl, rfl, rfl⟩ (fun H locs Z => ?_)
  refine lv_ishl (pc := 11) hx hb dX6_noChoice_11 ?_
  refine lv_iconst (pc := 12) (v := (1 : Int32)) hx hb dX6_noChoice_12 (by decide) ?_
  refine lv_isub (pc := 13) hx hb dX6_noChoice_13 ?_
  obtain ⟨x3, q4, hf⟩ := o_bindE hf
  refine z_callSi (pc := 14) (As := [.int p1, .int (0 : Int32), .int (((1 : Int32) <<< (x1 &&& 31)) - (1 : Int32))]) (rest := [.ref (h 0)]) (Wc := (W_X6_in cA (fun k => h ([0].getD k 0)))) (W1 := (W_X6_in cA (fun k => h ([0].getD k 0)))) (W2 := (W_X6_noChoice cA h m_thrown m_bufferLength m_textLength m_position m_error m_errorAt m_errorOffset m_data m_undoDepth m_numberStart m_seen m_pages)) ⟨hx, hb, hml, hown, hts⟩ (kX6_in l D cA (fun k => h ([0].getD k 0)) p1 (0 : Int32) (((1 : Int32) <<< (x1 &&& 31)) - (1 : Int32)) _ q4) (va_cwS 3 hts gX6_noChoice_X6_in rfl rfl rfl (by decide +kernel) ⟨Nat.le_of_ble_eq_true rfl, Nat.le_of_ble_eq_true rfl⟩) Z hA [] rfl (by decide) rfl rfl hl.1 rfl (Nat.le_of_ble_eq_true rfl) dX6_noChoice_14 ⟨Nat.zero_le _, Nat.zero_le _⟩ [none, none] rfl ⟨rfl, rfl, rfl⟩ (fun H locs Z => ?_)
  obtain ⟨j25_7, ej25_7, hf⟩ := o_jnE hf
  have hj25_7 : ∀ (x6 : Int32) (H : Heap) (locs : List Loc) (ls : Array Slot), zw D (zTY cA) s A (W_X6_noChoice cA h m_thrown m_bufferLength m_textLength m_position m_error m_errorAt m_errorOffset m_data m_undoDepth m_numberStart m_seen m_pages) H locs → lv_has ls 2 [] → j25_7 x6 = some u → W p l e ({ frames := 3, cells := 0, slots := 0, locals := 63 } : Room) s m args below meth c H locs 0 0 (MQ below (zQi D (zTY cA) A (W_X6_noChoice cA h (u.2) m_bufferLength m_textLength m_position m_error m_errorAt m_errorOffset m_data m_undoDepth m_numberStart m_seen m_pages) u.1) args s 0 0 A) (F0 m 25 ls [.int x6, .ref (h 0)]) := by
    intro x6 H locs ls Z hl hf
    rw [ej25_7] at hf
    refine lv_iconst (pc := 25) (v := (1 : Int32)) hx hb dX6_noChoice_25 (by decide) ?_
    obtain ⟨⟨x8, x9⟩, q10, hf⟩ := o_bindE hf
    refine z_callVi (pc := 26) (As := [.int x6, .int (1 : Int32)]) (rest := []) (Wc := (W_X6_fails cA (fun k => h ([0, 1, 2, 3, 4, 5, 6, 7, 8, 9, 10, 11, 12, 13, 14, 15, 16, 17, 18, 19].getD k 0)) m_thrown m_bufferLength m_textLength m_position m_error m_errorAt m_errorOffset m_undoDepth m_numberStart m_seen m_pages)) (W1 := (W_X6_fails cA (fun k => h ([0, 1, 2, 3, 4, 5, 6, 7, 8, 9, 10, 11, 12, 13, 14, 15, 16, 17, 18, 19].getD k 0)) x9 m_bufferLength m_textLength m_position m_error m_errorAt m_errorOffset m_undoDepth m_numberStart m_seen m_pages)) (W2 := (W_X6_noChoice cA h x9 m_bufferLength m_textLength m_position m_error m_errorAt m_errorOffset m_data m_undoDepth m_numberStart m_seen m_pages)) ⟨hx, hb, hml, hown, hts⟩ (kX6_fails l D cA (fun k => h ([0, 1, 2, 3, 4, 5, 6, 7, 8, 9, 10, 11, 12, 13, 14, 15, 16, 17, 18, 19].getD k 0)) x6 (1 : Int32) m_thrown m_bufferLength m_textLength m_position m_error m_errorAt m_errorOffset m_undoDepth m_numberStart m_seen m_pages _ q10) (cwV 2 hts gX6_noChoice_X6_fails rfl rfl rfl (by decide +kernel) ⟨Nat.le_of_ble_eq_true rfl, Nat.le_of_ble_eq_true rfl⟩) Z hA [0] rfl (by decide) rfl (ci := 6) rfl rfl rfl rfl hl.1 rfl (Nat.le_of_ble_eq_true rfl) dX6_noChoice_26 ⟨Nat.zero_le _, Nat.zero_le _⟩ [some 0, none] rfl ⟨rfl, rfl, rfl⟩ (fun H locs Z => ?_)
    obtain ⟨bz11, hf⟩ := o_asE hf
    cases hf
    exact z_zret (pc := 29) hx hb hr hlocks Z rfl rfl (congrArg Value.int bz11) dX6_noChoice_29
  refine lv_if_ne (pc := 17) (tgt := 24) hx hb dX6_noChoice_17 (by decide) (fun c5 => ?_) (fun c5 => ?_)
  · replace hf := o_neg c5 hf
    refine lv_iconst (pc := 24) (v := (0 : Int32)) hx hb dX6_noChoice_24 (by decide) ?_
    exact hj25_7 (0 : Int32) H locs ls Z (lv_sub hl [] rfl) hf
  · replace hf := o_pos c5 hf
    refine lv_iconst (pc := 20) (v := (1 : Int32)) hx hb dX6_noChoice_20 (by decide) ?_
    refine lv_goto (pc := 21) (tgt := 25) hx hb dX6_noChoice_21 (by decide) ?_
    exact hj25_7 (1 : Int32) H locs ls Z (lv_sub hl [] rfl) hf
