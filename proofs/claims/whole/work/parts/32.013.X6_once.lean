def W_X6_once (cA : Nat → ClassId) (h : Nat → Nat) (m_thrown : Int32) (m_bufferLength : Int32) (m_textLength : Int32) (m_position : Int32) (m_error : Int32) (m_errorAt : Int32) (m_errorOffset : Int32) (m_undoDepth : Int32) (m_numberStart : Int32) (m_seen : Int32) (m_pages : Int32) : va_W := [(h 0, .inr (6, [.int m_thrown, .ref (h 1), .int m_bufferLength, .int m_textLength, .int m_position, .int m_error, .int m_errorAt, .int m_errorOffset, .ref (h 2), .ref (h 3), .ref (h 4), .int m_undoDepth, .int m_numberStart, .int m_seen, .ref (h 13), .ref (h 14), .ref (h 15), .ref (h 16), .int m_pages, .ref (h 17), .ref (h 18), .ref (h 19)]))]
def fX6_once (p1 : Int32) (p2 : Int32) (m_error : Int32) (m_errorAt : Int32) (m_seen : Int32) : Option (Int32 × Int32 × Int32) := o_let (fun (x2 : Int32) (x3 : Int32) => o_let (m_seen ||| ((1 : Int32) <<< (p1 &&& 31))) (fun x5 => some (x2, x3, x5))) (fun (j19_4 : Int32 → Int32 → Option (Int32 × Int32 × Int32)) => (if ((m_seen >>> (p1 &&& 31)) &&& (1 : Int32)) = (1 : Int32) then o_bind (fX6_report (-2 : Int32) p2 m_error m_errorAt) (fun (x6, x7) => (j19_4 x6 x7)) else (j19_4 m_error m_errorAt)))
theorem iw_X6_once_X6 : ∀ w ∈ u_ws RX6 TX6 22, w ∈ wsX6_once := z_inr [9, 10, 11, 12, 13, 14, 15, 16, 17, 18, 19, 20, 21, 22, 23, 24, 25, 26, 27, 28, 29, 30] rfl
set_option maxHeartbeats 4000000 in
set_option maxRecDepth 100000 in
theorem kX6_once (l : Launch) (D : va_G) (cA : Nat → ClassId) (h : Nat → Nat) (p1 : Int32) (p2 : Int32) (m_thrown : Int32) (m_bufferLength : Int32) (m_textLength : Int32) (m_position : Int32) (m_error : Int32) (m_errorAt : Int32) (m_errorOffset : Int32) (m_undoDepth : Int32) (m_numberStart : Int32) (m_seen : Int32) (m_pages : Int32) (u : Int32 × Int32 × Int32) (hf : fX6_once p1 p2 m_error m_errorAt m_seen = some u) : zMv l yX6_once wsX6_once ({ frames := 1, cells := 0, slots := 0, locals := 22 } : Room) D (zTY cA) [.ref (h 0), .int p1, .int p2] (W_X6_once cA h m_thrown m_bufferLength m_textLength m_position m_error m_errorAt m_errorOffset m_undoDepth m_numberStart m_seen m_pages) (W_X6_once cA h m_thrown m_bufferLength m_textLength m_position (u.1) (u.2.1) m_errorOffset m_undoDepth m_numberStart (u.2.2) m_pages) := by
  refine z_startv (cc := cX6_once) (maxL := 3) (ret := none) (by decide) rfl (Nat.le_of_ble_eq_true rfl) ?_
  intro p e s m args below meth c A hx hb hr hts hown hlocks hml hA Z ls hl
  replace hown : s.vm.findClass RX6 = some m.cls := hown
  replace hl : lv_has ls 3 [(0, .ref (h 0)), (1, .int p1), (2, .int p2)] := hl
  obtain ⟨H, hH⟩ : ∃ H, H = s.heap := ⟨_, rfl⟩
  rw [← hH] at Z ⊢
  clear hH
  obtain ⟨locs, hlc⟩ : ∃ q : List Loc, q = [] := ⟨_, rfl⟩
  rw [← hlc] at Z ⊢
  clear hlc
  refine lv_aload_n (pc := 0) hx hb dX6_once_0 rfl (lv_at hl 0 rfl) ?_
  refine z_get (pc := 1) (ref := "LotSheetModel") (ci := 6) (C := RX6) (T := TX6) (N := 22) hx hb hts iw_X6_once_X6 hown Z 0 rfl rfl 13 (by decide) (List.mem_of_getElem? (i := 1) rfl) rfl rfl dX6_once_1 ?_
  refine lv_iload_n (pc := 4) hx hb dX6_once_4 rfl (lv_at hl 1 rfl) ?_
  refine lv_ishr (pc := 5) hx hb dX6_once_5 ?_
  refine lv_iconst (pc := 6) (v := (1 : Int32)) hx hb dX6_once_6 (by decide) ?_
  refine lv_iand (pc := 7) hx hb dX6_once_7 ?_
  refine lv_iconst (pc := 8) (v := (1 : Int32)) hx hb dX6_once_8 (by decide) ?_
  obtain ⟨j19_4, ej19_4, hf⟩ := o_jnE hf
  have hj19_4 : ∀ (x2 : Int32) (x3 : Int32) (H : Heap) (locs : List Loc) (ls : Array Slot), zw D (zTY cA) s A (W_X6_once cA h m_thrown m_bufferLength m_textLength m_position x2 x3 m_errorOffset m_undoDepth m_numberStart m_seen m_pages) H locs → lv_has ls 3 [(0, .ref (h 0)), (1, .int p1)] → j19_4 x2 x3 = some u → W p l e ({ frames := 1, cells := 0, slots := 0, locals := 22 } : Room) s m args below meth c H locs 0 0 (MQ below (zQv D (zTY cA) A (W_X6_once cA h m_thrown m_bufferLength m_textLength m_position (u.1) (u.2.1) m_errorOffset m_undoDepth m_numberStart (u.2.2) m_pages)) args s 0 0 A) (F0 m 19 ls []) := by
    intro x2 x3 H locs ls Z hl hf
    rw [ej19_4] at hf
    refine lv_aload_n (pc := 19) hx hb dX6_once_19 rfl (lv_at hl 0 rfl) ?_
    refine lv_dup (pc := 20) hx hb dX6_once_20 rfl ?_
    refine z_get (pc := 21) (ref := "LotSheetModel") (ci := 6) (C := RX6) (T := TX6) (N := 22) hx hb hts iw_X6_once_X6 hown Z 0 rfl rfl 13 (by decide) (List.mem_of_getElem? (i := 1) rfl) rfl rfl dX6_once_21 ?_
    refine lv_iconst (pc := 24) (v := (1 : Int32)) hx hb dX6_once_24 (by decide) ?_
    refine lv_iload_n (pc := 25) hx hb dX6_once_25 rfl (lv_at hl 1 rfl) ?_
    refine lv_ishl (pc := 26) hx hb dX6_once_26 ?_
    refine lv_ior (pc := 27) hx hb dX6_once_27 ?_
    refine lv_topi (fun x5 ex5 => ?_)
    replace hf := o_letE ex5 hf
    refine z_put (pc := 28) (ref := "LotSheetModel") (ci := 6) (C := RX6) (T := TX6) (N := 22) (W1 := (W_X6_once cA h m_thrown m_bufferLength m_textLength m_position x2 x3 m_errorOffset m_undoDepth m_numberStart x5 m_pages)) hx hb hts iw_X6_once_X6 tyX6 tyX6_ok nmX6 hown Z 0 rfl rfl 13 (by decide) (List.mem_of_getElem? (i := 1) rfl) rfl rfl rfl rfl (Nat.le_of_ble_eq_true rfl) dX6_once_28 rfl (fun H locs Z => ?_)
    cases hf
    exact z_vret (pc := 31) hx hb hr hlocks Z rfl dX6_once_31
  refine lv_icmp_ne (pc := 9) (tgt := 19) hx hb dX6_once_9 (by decide) (fun c1 => ?_) (fun c1 => ?_)
  · replace hf := o_neg c1 hf
    exact hj19_4 m_error m_errorAt H locs ls Z (lv_sub hl [0, 1] rfl) hf
  · replace hf := o_pos c1 hf
    refine lv_aload_n (pc := 12) hx hb dX6_once_12 rfl (lv_at hl 0 rfl) ?_
    refine lv_bipush (pc := 13) (v := (-2 : Int32)) hx hb dX6_once_13 (by decide) ?_
    refine lv_iload_n (pc := 15) hx hb dX6_once_15 rfl (lv_at hl 2 rfl) ?_
    obtain ⟨⟨x6, x7⟩, q8, hf⟩ := o_bindE hf
    refine z_callVv (pc := 16) (As := [.int (-2 : Int32), .int p2]) (rest := []) (Wc := (W_X6_report cA (fun k => h ([0, 1, 2, 3, 4, 5, 6, 7, 8, 9, 10, 11, 12, 13, 14, 15, 16, 17, 18, 19].getD k 0)) m_thrown m_bufferLength m_textLength m_position m_error m_errorAt m_errorOffset m_undoDepth m_numberStart m_seen m_pages)) (W1 := (W_X6_report cA (fun k => h ([0, 1, 2, 3, 4, 5, 6, 7, 8, 9, 10, 11, 12, 13, 14, 15, 16, 17, 18, 19].getD k 0)) m_thrown m_bufferLength m_textLength m_position x6 x7 m_errorOffset m_undoDepth m_numberStart m_seen m_pages)) (W2 := (W_X6_once cA h m_thrown m_bufferLength m_textLength m_position x6 x7 m_errorOffset m_undoDepth m_numberStart m_seen m_pages)) ⟨hx, hb, hml, hown, hts⟩ (kX6_report l D cA (fun k => h ([0, 1, 2, 3, 4, 5, 6, 7, 8, 9, 10, 11, 12, 13, 14, 15, 16, 17, 18, 19].getD k 0)) (-2 : Int32) p2 m_thrown m_bufferLength m_textLength m_position m_error m_errorAt m_errorOffset m_undoDepth m_numberStart m_seen m_pages _ q8) (cwV 2 hts gX6_once_X6_report rfl rfl rfl (by decide +kernel) ⟨Nat.le_of_ble_eq_true rfl, Nat.le_of_ble_eq_true rfl⟩) Z hA [0] rfl (by decide) rfl (ci := 6) rfl rfl rfl rfl hl.1 rfl (Nat.le_of_ble_eq_true rfl) dX6_once_16 ⟨Nat.zero_le _, Nat.zero_le _⟩ [some 0] rfl ⟨rfl, rfl⟩ (fun H locs Z => ?_)
    exact hj19_4 x6 x7 H locs ls Z (lv_sub hl [0, 1] rfl) hf
