def W_X6_noLot (cA : Nat → ClassId) (h : Nat → Nat) (m_thrown : Int32) (m_bufferLength : Int32) (m_textLength : Int32) (m_position : Int32) (m_error : Int32) (m_errorAt : Int32) (m_errorOffset : Int32) (m_data : Nat → Int32) (m_undoDepth : Int32) (m_numberStart : Int32) (m_seen : Int32) (m_pages : Int32) : va_W := [(h 0, .inr (6, [.int m_thrown, .ref (h 1), .int m_bufferLength, .int m_textLength, .int m_position, .int m_error, .int m_errorAt, .int m_errorOffset, .ref (h 2), .ref (h 3), .ref (h 4), .int m_undoDepth, .int m_numberStart, .int m_seen, .ref (h 13), .ref (h 14), .ref (h 15), .ref (h 16), .int m_pages, .ref (h 17), .ref (h 18), .ref (h 19)])), (h 2, .inl (cA 0, 153, .inl m_data))]
def fX6_noLot (p1 : Int32) (m_thrown : Int32) (m_data : Nat → Int32) : Option (Int32 × Int32) := o_bind (fX6_in p1 (0 : Int32) ((m_data (1 : Int32).toNatClampNeg) - (1 : Int32))) (fun x1 => o_let (fun (x4 : Int32) => o_bind (fX6_fails x4 (1 : Int32) m_thrown) (fun (x6, x7) => o_as (x6 &&& 1 = x6) (some (x6, x7)))) (fun (j22_5 : Int32 → Option (Int32 × Int32)) => (if x1 = 0 then (j22_5 (1 : Int32)) else (j22_5 (0 : Int32)))))
theorem iw_X6_noLot_X6 : ∀ w ∈ u_ws RX6 TX6 22, w ∈ wsX6_noLot := z_inr [11, 12, 13, 14, 15, 16, 17, 18, 19, 20, 21, 22, 23, 24, 25, 26, 27, 28, 29, 30, 31, 32] rfl
set_option maxHeartbeats 4000000 in
set_option maxRecDepth 100000 in
theorem kX6_noLot (l : Launch) (D : va_G) (cA : Nat → ClassId) (h : Nat → Nat) (p1 : Int32) (m_thrown : Int32) (m_bufferLength : Int32) (m_textLength : Int32) (m_position : Int32) (m_error : Int32) (m_errorAt : Int32) (m_errorOffset : Int32) (m_data : Nat → Int32) (m_undoDepth : Int32) (m_numberStart : Int32) (m_seen : Int32) (m_pages : Int32) (u : Int32 × Int32) (hf : fX6_noLot p1 m_thrown m_data = some u) : zMi l yX6_noLot wsX6_noLot ({ frames := 1, cells := 0, slots := 0, locals := 22 } : Room) D (zTY cA) [.ref (h 0), .int p1] (W_X6_noLot cA h m_thrown m_bufferLength m_textLength m_position m_error m_errorAt m_errorOffset m_data m_undoDepth m_numberStart m_seen m_pages) (W_X6_noLot cA h (u.2) m_bufferLength m_textLength m_position m_error m_errorAt m_errorOffset m_data m_undoDepth m_numberStart m_seen m_pages) u.1 := by
  refine z_starti (cc := cX6_noLot) (maxL := 2) (ret := (some .boolean)) (by decide) rfl (Nat.le_of_ble_eq_true rfl) ?_
  intro p e s m args below meth c A hx hb hr hts hown hlocks hml hA Z ls hl
  replace hown : s.vm.findClass RX6 = some m.cls := hown
  replace hl : lv_has ls 2 [(0, .ref (h 0)), (1, .int p1)] := hl
  obtain ⟨H, hH⟩ : ∃ H, H = s.heap := ⟨_, rfl⟩
  rw [← hH] at Z ⊢
  clear hH
  obtain ⟨locs, hlc⟩ : ∃ q : List Loc, q = [] := ⟨_, rfl⟩
  rw [← hlc] at Z ⊢
  clear hlc
  refine lv_aload_n (pc := 0) hx hb dX6_noLot_0 rfl (lv_at hl 0 rfl) ?_
  refine lv_iload_n (pc := 1) hx hb dX6_noLot_1 rfl (lv_at hl 1 rfl) ?_
  refine lv_iconst (pc := 2) (v := (0 : Int32)) hx hb dX6_noLot_2 (by decide) ?_
  refine lv_aload_n (pc := 3) hx hb dX6_noLot_3 rfl (lv_at hl 0 rfl) ?_
  refine z_get (pc := 4) (ref := "LotSheetModel") (ci := 6) (C := RX6) (T := TX6) (N := 22) hx hb hts iw_X6_noLot_X6 hown Z 0 rfl rfl 8 (by decide) (List.mem_of_getElem? (i := 1) rfl) rfl rfl dX6_noLot_4 ?_
  refine lv_iconst (pc := 7) (v := (1 : Int32)) hx hb dX6_noLot_7 (by decide) ?_
  refine z_iald (pc := 8) hx hb Z 1 0 rfl rfl (show ¬ ((1 : Int32) < 0 ∨ 153 ≤ (1 : Int32).toNatClampNeg) by decide) dX6_noLot_8 ?_
  refine lv_iconst (pc := 9) (v := (1 : Int32)) hx hb dX6_noLot_9 (by decide) ?_
  refine lv_isub (pc := 10) hx hb dX6_noLot_10 ?_
  obtain ⟨x1, q2, hf⟩ := o_bindE hf
  refine z_callSi (pc := 11) (As := [.int p1, .int (0 : Int32), .int ((m_data (1 : Int32).toNatClampNeg) - (1 : Int32))]) (rest := [.ref (h 0)]) (Wc := (W_X6_in cA (fun k => h ([0].getD k 0)))) (W1 := (W_X6_in cA (fun k => h ([0].getD k 0)))) (W2 := (W_X6_noLot cA h m_thrown m_bufferLength m_textLength m_position m_error m_errorAt m_errorOffset m_data m_undoDepth m_numberStart m_seen m_pages)) ⟨hx, hb, hml, hown, hts⟩ (kX6_in l D cA (fun k => h ([0].getD k 0)) p1 (0 : Int32) ((m_data (1 : Int32).toNatClampNeg) - (1 : Int32)) _ q2) (va_cwS 3 hts gX6_noLot_X6_in rfl rfl rfl (by decide +kernel) ⟨Nat.le_of_ble_eq_true rfl, Nat.le_of_ble_eq_true rfl⟩) Z hA [] rfl (by decide) rfl rfl hl.1 rfl (Nat.le_of_ble_eq_true rfl) dX6_noLot_11 ⟨Nat.zero_le _, Nat.zero_le _⟩ [none, none] rfl ⟨rfl, rfl, rfl⟩ (fun H locs Z => ?_)
  obtain ⟨j22_5, ej22_5, hf⟩ := o_jnE hf
  have hj22_5 : ∀ (x4 : Int32) (H : Heap) (locs : List Loc) (ls : Array Slot), zw D (zTY cA) s A (W_X6_noLot cA h m_thrown m_bufferLength m_textLength m_position m_error m_errorAt m_errorOffset m_data m_undoDepth m_numberStart m_seen m_pages) H locs → lv_has ls 2 [] → j22_5 x4 = some u → W p l e ({ frames := 1, cells := 0, slots := 0, locals := 22 } : Room) s m args below meth c H locs 0 0 (MQ below (zQi D (zTY cA) A (W_X6_noLot cA h (u.2) m_bufferLength m_textLength m_position m_error m_errorAt m_errorOffset m_data m_undoDepth m_numberStart m_seen m_pages) u.1) args s 0 0 A) (F0 m 22 ls [.int x4, .ref (h 0)]) := by
    intro x4 H locs ls Z hl hf
    rw [ej22_5] at hf
    refine lv_iconst (pc := 22) (v := (1 : Int32)) hx hb dX6_noLot_22 (by decide) ?_
    obtain ⟨⟨x6, x7⟩, q8, hf⟩ := o_bindE hf
    refine z_callVi (pc := 23) (As := [.int x4, .int (1 : Int32)]) (rest := []) (Wc := (W_X6_fails cA (fun k => h ([0, 1, 2, 3, 4, 5, 6, 7, 8, 9, 10, 11, 12, 13, 14, 15, 16, 17, 18, 19].getD k 0)) m_thrown m_bufferLength m_textLength m_position m_error m_errorAt m_errorOffset m_undoDepth m_numberStart m_seen m_pages)) (W1 := (W_X6_fails cA (fun k => h ([0, 1, 2, 3, 4, 5, 6, 7, 8, 9, 10, 11, 12, 13, 14, 15, 16, 17, 18, 19].getD k 0)) x7 m_bufferLength m_textLength m_position m_error m_errorAt m_errorOffset m_undoDepth m_numberStart m_seen m_pages)) (W2 := (W_X6_noLot cA h x7 m_bufferLength m_textLength m_position m_error m_errorAt m_errorOffset m_data m_undoDepth m_numberStart m_seen m_pages)) ⟨hx, hb, hml, hown, hts⟩ (kX6_fails l D cA (fun k => h ([0, 1, 2, 3, 4, 5, 6, 7, 8, 9, 10, 11, 12, 13, 14, 15, 16, 17, 18, 19].getD k 0)) x4 (1 : Int32) m_thrown m_bufferLength m_textLength m_position m_error m_errorAt m_errorOffset m_undoDepth m_numberStart m_seen m_pages _ q8) (cwV 2 hts gX6_noLot_X6_fails rfl rfl rfl (by decide +kernel) ⟨Nat.le_of_ble_eq_true rfl, Nat.le_of_ble_eq_true rfl⟩) Z hA [0] rfl (by decide) rfl (ci := 6) rfl rfl rfl rfl hl.1 rfl (Nat.le_of_ble_eq_true rfl) dX6_noLot_23 ⟨Nat.zero_le _, Nat.zero_le _⟩ [some 0, none] rfl ⟨rfl, rfl, rfl⟩ (fun H locs Z => ?_)
    obtain ⟨bz9, hf⟩ := o_asE hf
    cases hf
    exact z_zret (pc := 26) hx hb hr hlocks Z rfl rfl (congrArg Value.int bz9) dX6_noLot_26
  refine lv_if_ne (pc := 14) (tgt := 21) hx hb dX6_noLot_14 (by decide) (fun c3 => ?_) (fun c3 => ?_)
  · replace hf := o_neg c3 hf
    refine lv_iconst (pc := 21) (v := (0 : Int32)) hx hb dX6_noLot_21 (by decide) ?_
    exact hj22_5 (0 : Int32) H locs ls Z (lv_sub hl [] rfl) hf
  · replace hf := o_pos c3 hf
    refine lv_iconst (pc := 17) (v := (1 : Int32)) hx hb dX6_noLot_17 (by decide) ?_
    refine lv_goto (pc := 18) (tgt := 22) hx hb dX6_noLot_18 (by decide) ?_
    exact hj22_5 (1 : Int32) H locs ls Z (lv_sub hl [] rfl) hf
