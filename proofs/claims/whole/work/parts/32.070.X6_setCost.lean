def W_X6_setCost (cA : Nat → ClassId) (h : Nat → Nat) (m_thrown : Int32) (m_bufferLength : Int32) (m_textLength : Int32) (m_position : Int32) (m_error : Int32) (m_errorAt : Int32) (m_errorOffset : Int32) (m_data : Nat → Int32) (m_history : Nat → Nat → Int32) (m_undoDepth : Int32) (m_numberStart : Int32) (m_seen : Int32) (m_pages : Int32) : va_W := [(h 0, .inr (6, [.int m_thrown, .ref (h 1), .int m_bufferLength, .int m_textLength, .int m_position, .int m_error, .int m_errorAt, .int m_errorOffset, .ref (h 2), .ref (h 3), .ref (h 4), .int m_undoDepth, .int m_numberStart, .int m_seen, .ref (h 13), .ref (h 14), .ref (h 15), .ref (h 16), .int m_pages, .ref (h 17), .ref (h 18), .ref (h 19)])), (h 2, .inl (cA 0, 153, .inl m_data)), (h 4, .inl (cA 4, 8, .inr (.inr (.inr (.inr (zq8 (h 5) (h 6) (h 7) (h 8) (h 9) (h 10) (h 11) (h 12))))))), (h 5, .inl (cA 0, 153, .inl ((m_history 0)))), (h 6, .inl (cA 0, 153, .inl ((m_history 1)))), (h 7, .inl (cA 0, 153, .inl ((m_history 2)))), (h 8, .inl (cA 0, 153, .inl ((m_history 3)))), (h 9, .inl (cA 0, 153, .inl ((m_history 4)))), (h 10, .inl (cA 0, 153, .inl ((m_history 5)))), (h 11, .inl (cA 0, 153, .inl ((m_history 6)))), (h 12, .inl (cA 0, 153, .inl ((m_history 7))))]
def fX6_setCost (p1 : Int32) (p2 : Int32) (m_thrown : Int32) (m_data : Nat → Int32) (m_history : Nat → Nat → Int32) (m_undoDepth : Int32) : Option (Int32 × Int32 × (Nat → Int32) × (Nat → Nat → Int32) × Int32) := o_bind (fX6_in p1 (0 : Int32) (4 : Int32)) (fun x1 => o_let (fun (x4 : Int32) => o_bind (fX6_fails x4 (1 : Int32) (0 : Int32)) (fun (x6, x7) => (if x6 = 0 then o_bind (fX6_remember m_data m_history m_undoDepth) (fun (a10, x11) => o_rd 153 ((4 : Int32) + p1) (o_let (m_data ((4 : Int32) + p1).toNatClampNeg) (fun x14 => o_rd 153 ((4 : Int32) + p1) (o_let (upd m_data ((4 : Int32) + p1).toNatClampNeg p2) (fun a16 => some (x14, x7, a16, a10, x11)))))) else some ((0 : Int32), x7, m_data, m_history, m_undoDepth)))) (fun (j30_5 : Int32 → Option (Int32 × Int32 × (Nat → Int32) × (Nat → Nat → Int32) × Int32)) => (if x1 = 0 then (j30_5 (1 : Int32)) else o_bind (fX6_in p2 (0 : Int32) (99 : Int32)) (fun x17 => (if x17 = 0 then (j30_5 (1 : Int32)) else (j30_5 (0 : Int32)))))))
theorem iw_X6_setCost_X6 : ∀ w ∈ u_ws RX6 TX6 22, w ∈ wsX6_setCost := z_inr [20, 21, 22, 23, 24, 25, 26, 27, 28, 29, 30, 31, 32, 33, 34, 35, 36, 37, 38, 39, 40, 41] rfl
set_option maxHeartbeats 4000000 in
set_option maxRecDepth 100000 in
theorem kX6_setCost (l : Launch) (D : va_G) (cA : Nat → ClassId) (h : Nat → Nat) (p1 : Int32) (p2 : Int32) (m_thrown : Int32) (m_bufferLength : Int32) (m_textLength : Int32) (m_position : Int32) (m_error : Int32) (m_errorAt : Int32) (m_errorOffset : Int32) (m_data : Nat → Int32) (m_history : Nat → Nat → Int32) (m_undoDepth : Int32) (m_numberStart : Int32) (m_seen : Int32) (m_pages : Int32) (u : Int32 × Int32 × (Nat → Int32) × (Nat → Nat → Int32) × Int32) (hf : fX6_setCost p1 p2 m_thrown m_data m_history m_undoDepth = some u) : zMi l yX6_setCost wsX6_setCost ({ frames := 2, cells := 0, slots := 0, locals := 43 } : Room) D (zTY cA) [.ref (h 0), .int p1, .int p2] (W_X6_setCost cA h m_thrown m_bufferLength m_textLength m_position m_error m_errorAt m_errorOffset m_data m_history m_undoDepth m_numberStart m_seen m_pages) (W_X6_setCost cA h (u.2.1) m_bufferLength m_textLength m_position m_error m_errorAt m_errorOffset (u.2.2.1) (u.2.2.2.1) (u.2.2.2.2) m_numberStart m_seen m_pages) u.1 := by
  refine z_starti (cc := cX6_setCost) (maxL := 4) (ret := (some .int)) (by decide) rfl (Nat.le_of_ble_eq_true rfl) ?_
  intro p e s m args below meth c A hx hb hr hts hown hlocks hml hA Z ls hl
  replace hown : s.vm.findClass RX6 = some m.cls := hown
  replace hl : lv_has ls 4 [(0, .ref (h 0)), (1, .int p1), (2, .int p2)] := hl
  obtain ⟨H, hH⟩ : ∃ H, H = s.heap := ⟨_, rfl⟩
  rw [← hH] at Z ⊢
  clear hH
  obtain ⟨locs, hlc⟩ : ∃ q : List Loc, q = [] := ⟨_, rfl⟩
  rw [← hlc] at Z ⊢
  clear hlc
  refine lv_aload_n (pc := 0) hx hb dX6_setCost_0 rfl (lv_at hl 0 rfl) ?_
  refine lv_iconst (pc := 1) (v := (0 : Int32)) hx hb dX6_setCost_1 (by decide) ?_
  refine z_put (pc := 2) (ref := "LotSheetModel") (ci := 6) (C := RX6) (T := TX6) (N := 22) (W1 := (W_X6_setCost cA h (0 : Int32) m_bufferLength m_textLength m_position m_error m_errorAt m_errorOffset m_data m_history m_undoDepth m_numberStart m_seen m_pages)) hx hb hts iw_X6_setCost_X6 tyX6 tyX6_ok nmX6 hown Z 0 rfl rfl 0 (by decide) (List.mem_of_getElem? (i := 1) rfl) rfl rfl rfl rfl (Nat.le_of_ble_eq_true rfl) dX6_setCost_2 rfl (fun H locs Z => ?_)
  refine lv_aload_n (pc := 5) hx hb dX6_setCost_5 rfl (lv_at hl 0 rfl) ?_
  refine lv_iload_n (pc := 6) hx hb dX6_setCost_6 rfl (lv_at hl 1 rfl) ?_
  refine lv_iconst (pc := 7) (v := (0 : Int32)) hx hb dX6_setCost_7 (by decide) ?_
  refine lv_iconst (pc := 8) (v := (4 : Int32)) hx hb dX6_setCost_8 (by decide) ?_
  obtain ⟨x1, q2, hf⟩ := o_bindE hf
  refine z_callSi (pc := 9) (As := [.int p1, .int (0 : Int32), .int (4 : Int32)]) (rest := [.ref (h 0)]) (Wc := (W_X6_in cA (fun k => h ([0].getD k 0)))) (W1 := (W_X6_in cA (fun k => h ([0].getD k 0)))) (W2 := (W_X6_setCost cA h (0 : Int32) m_bufferLength m_textLength m_position m_error m_errorAt m_errorOffset m_data m_history m_undoDepth m_numberStart m_seen m_pages)) ⟨hx, hb, hml, hown, hts⟩ (kX6_in l D cA (fun k => h ([0].getD k 0)) p1 (0 : Int32) (4 : Int32) _ q2) (va_cwS 3 hts gX6_setCost_X6_in rfl rfl rfl (by decide +kernel) ⟨Nat.le_of_ble_eq_true rfl, Nat.le_of_ble_eq_true rfl⟩) Z hA [] rfl (by decide) rfl rfl hl.1 rfl (Nat.le_of_ble_eq_true rfl) dX6_setCost_9 ⟨Nat.zero_le _, Nat.zero_le _⟩ [none, none, none, none, none, none, none, none, none, none, none] rfl ⟨rfl, rfl, rfl, rfl, rfl, rfl, rfl, rfl, rfl, rfl, rfl, rfl⟩ (fun H locs Z => ?_)
  obtain ⟨j30_5, ej30_5, hf⟩ := o_jnE hf
  have hj30_5 : ∀ (x4 : Int32) (H : Heap) (locs : List Loc) (ls : Array Slot), zw D (zTY cA) s A (W_X6_setCost cA h (0 : Int32) m_bufferLength m_textLength m_position m_error m_errorAt m_errorOffset m_data m_history m_undoDepth m_numberStart m_seen m_pages) H locs → lv_has ls 4 [(0, .ref (h 0)), (1, .int p1), (2, .int p2)] → j30_5 x4 = some u → W p l e ({ frames := 2, cells := 0, slots := 0, locals := 43 } : Room) s m args below meth c H locs 0 0 (MQ below (zQi D (zTY cA) A (W_X6_setCost cA h (u.2.1) m_bufferLength m_textLength m_position m_error m_errorAt m_errorOffset (u.2.2.1) (u.2.2.2.1) (u.2.2.2.2) m_numberStart m_seen m_pages) u.1) args s 0 0 A) (F0 m 30 ls [.int x4, .ref (h 0)]) := by
    intro x4 H locs ls Z hl hf
    rw [ej30_5] at hf
    refine lv_iconst (pc := 30) (v := (1 : Int32)) hx hb dX6_setCost_30 (by decide) ?_
    obtain ⟨⟨x6, x7⟩, q8, hf⟩ := o_bindE hf
    refine z_callVi (pc := 31) (As := [.int x4, .int (1 : Int32)]) (rest := []) (Wc := (W_X6_fails cA (fun k => h ([0, 1, 2, 3, 4, 5, 6, 7, 8, 9, 10, 11, 12, 13, 14, 15, 16, 17, 18, 19].getD k 0)) (0 : Int32) m_bufferLength m_textLength m_position m_error m_errorAt m_errorOffset m_undoDepth m_numberStart m_seen m_pages)) (W1 := (W_X6_fails cA (fun k => h ([0, 1, 2, 3, 4, 5, 6, 7, 8, 9, 10, 11, 12, 13, 14, 15, 16, 17, 18, 19].getD k 0)) x7 m_bufferLength m_textLength m_position m_error m_errorAt m_errorOffset m_undoDepth m_numberStart m_seen m_pages)) (W2 := (W_X6_setCost cA h x7 m_bufferLength m_textLength m_position m_error m_errorAt m_errorOffset m_data m_history m_undoDepth m_numberStart m_seen m_pages)) ⟨hx, hb, hml, hown, hts⟩ (kX6_fails l D cA (fun k => h ([0, 1, 2, 3, 4, 5, 6, 7, 8, 9, 10, 11, 12, 13, 14, 15, 16, 17, 18, 19].getD k 0)) x4 (1 : Int32) (0 : Int32) m_bufferLength m_textLength m_position m_error m_errorAt m_errorOffset m_undoDepth m_numberStart m_seen m_pages _ q8) (cwV 2 hts gX6_setCost_X6_fails rfl rfl rfl (by decide +kernel) ⟨Nat.le_of_ble_eq_true rfl, Nat.le_of_ble_eq_true rfl⟩) Z hA [0] rfl (by decide) rfl (ci := 6) rfl rfl rfl rfl hl.1 rfl (Nat.le_of_ble_eq_true rfl) dX6_setCost_31 ⟨Nat.zero_le _, Nat.zero_le _⟩ [some 0, none, none, none, none, none, none, none, none, none, none] rfl ⟨rfl, rfl, rfl, rfl, rfl, rfl, rfl, rfl, rfl, rfl, rfl, rfl⟩ (fun H locs Z => ?_)
    refine lv_if_eq (pc := 34) (tgt := 39) hx hb dX6_setCost_34 (by decide) (fun c9 => ?_) (fun c9 => ?_)
    · replace hf := o_pos c9 hf
      refine lv_aload_n (pc := 39) hx hb dX6_setCost_39 rfl (lv_at hl 0 rfl) ?_
      obtain ⟨⟨a10, x11⟩, q12, hf⟩ := o_bindE hf
      refine z_callVv (pc := 40) (As := []) (rest := []) (Wc := (W_X6_remember cA (fun k => h ([0, 1, 2, 3, 4, 5, 6, 7, 8, 9, 10, 11, 12, 13, 14, 15, 16, 17, 18, 19].getD k 0)) x7 m_bufferLength m_textLength m_position m_error m_errorAt m_errorOffset m_data m_history m_undoDepth m_numberStart m_seen m_pages)) (W1 := (W_X6_remember cA (fun k => h ([0, 1, 2, 3, 4, 5, 6, 7, 8, 9, 10, 11, 12, 13, 14, 15, 16, 17, 18, 19].getD k 0)) x7 m_bufferLength m_textLength m_position m_error m_errorAt m_errorOffset m_data a10 x11 m_numberStart m_seen m_pages)) (W2 := (W_X6_setCost cA h x7 m_bufferLength m_textLength m_position m_error m_errorAt m_errorOffset m_data a10 x11 m_numberStart m_seen m_pages)) ⟨hx, hb, hml, hown, hts⟩ (kX6_remember l D cA (fun k => h ([0, 1, 2, 3, 4, 5, 6, 7, 8, 9, 10, 11, 12, 13, 14, 15, 16, 17, 18, 19].getD k 0)) x7 m_bufferLength m_textLength m_position m_error m_errorAt m_errorOffset m_data m_history m_undoDepth m_numberStart m_seen m_pages _ q12) (cwV 0 hts gX6_setCost_X6_remember rfl rfl rfl (by decide +kernel) ⟨Nat.le_of_ble_eq_true rfl, Nat.le_of_ble_eq_true rfl⟩) Z hA [0, 1, 2, 3, 4, 5, 6, 7, 8, 9, 10] rfl (by decide) rfl (ci := 6) rfl rfl rfl rfl hl.1 rfl (Nat.le_of_ble_eq_true rfl) dX6_setCost_40 ⟨Nat.zero_le _, Nat.zero_le _⟩ [some 0, some 1, some 2, some 3, some 4, some 5, some 6, some 7, some 8, some 9, some 10] rfl ⟨rfl, rfl, rfl, rfl, rfl, rfl, rfl, rfl, rfl, rfl, rfl, rfl⟩ (fun H locs Z => ?_)
      refine lv_aload_n (pc := 43) hx hb dX6_setCost_43 rfl (lv_at hl 0 rfl) ?_
      refine z_get (pc := 44) (ref := "LotSheetModel") (ci := 6) (C := RX6) (T := TX6) (N := 22) hx hb hts iw_X6_setCost_X6 hown Z 0 rfl rfl 8 (by decide) (List.mem_of_getElem? (i := 2) rfl) rfl rfl dX6_setCost_44 ?_
      refine lv_iconst (pc := 47) (v := (4 : Int32)) hx hb dX6_setCost_47 (by decide) ?_
      refine lv_iload_n (pc := 48) hx hb dX6_setCost_48 rfl (lv_at hl 1 rfl) ?_
      refine lv_iadd (pc := 49) hx hb dX6_setCost_49 ?_
      obtain ⟨i13, hf⟩ := o_rdE hf
      refine z_iald (pc := 50) hx hb Z 1 0 rfl rfl i13 dX6_setCost_50 ?_
      refine lv_topi (fun x14 ex14 => ?_)
      replace hf := o_letE ex14 hf
      refine lv_istore_n (pc := 51) (lv' := [(3, .int x14), (0, .ref (h 0)), (1, .int p1), (2, .int p2)]) hx hb dX6_setCost_51 rfl hl (by decide) rfl (fun ls hl => ?_)
      refine lv_aload_n (pc := 52) hx hb dX6_setCost_52 rfl (lv_at hl 1 rfl) ?_
      refine z_get (pc := 53) (ref := "LotSheetModel") (ci := 6) (C := RX6) (T := TX6) (N := 22) hx hb hts iw_X6_setCost_X6 hown Z 0 rfl rfl 8 (by decide) (List.mem_of_getElem? (i := 2) rfl) rfl rfl dX6_setCost_53 ?_
      refine lv_iconst (pc := 56) (v := (4 : Int32)) hx hb dX6_setCost_56 (by decide) ?_
      refine lv_iload_n (pc := 57) hx hb dX6_setCost_57 rfl (lv_at hl 2 rfl) ?_
      refine lv_iadd (pc := 58) hx hb dX6_setCost_58 ?_
      refine lv_iload_n (pc := 59) hx hb dX6_setCost_59 rfl (lv_at hl 3 rfl) ?_
      obtain ⟨i15, hf⟩ := o_rdE hf
      refine z_iast (pc := 60) hx hb Z 1 0 rfl rfl i15 dX6_setCost_60 (fun g => (W_X6_setCost cA h x7 m_bufferLength m_textLength m_position m_error m_errorAt m_errorOffset g a10 x11 m_numberStart m_seen m_pages)) (fun _ => rfl) (fun a16 H locs ea16 Z => ?_)
      replace hf := o_letE ea16 hf
      refine lv_iload_n (pc := 61) hx hb dX6_setCost_61 rfl (lv_at hl 0 rfl) ?_
      cases hf
      exact z_iret (pc := 62) hx hb hr hlocks Z rfl rfl dX6_setCost_62
    · replace hf := o_neg c9 hf
      refine lv_iconst (pc := 37) (v := (0 : Int32)) hx hb dX6_setCost_37 (by decide) ?_
      cases hf
      exact z_iret (pc := 38) hx hb hr hlocks Z rfl rfl dX6_setCost_38
  refine lv_if_eq (pc := 12) (tgt := 25) hx hb dX6_setCost_12 (by decide) (fun c3 => ?_) (fun c3 => ?_)
  · replace hf := o_pos c3 hf
    refine lv_iconst (pc := 25) (v := (1 : Int32)) hx hb dX6_setCost_25 (by decide) ?_
    refine lv_goto (pc := 26) (tgt := 30) hx hb dX6_setCost_26 (by decide) ?_
    exact hj30_5 (1 : Int32) H locs ls Z (lv_sub hl [0, 1, 2] rfl) hf
  · replace hf := o_neg c3 hf
    refine lv_iload_n (pc := 15) hx hb dX6_setCost_15 rfl (lv_at hl 2 rfl) ?_
    refine lv_iconst (pc := 16) (v := (0 : Int32)) hx hb dX6_setCost_16 (by decide) ?_
    refine lv_bipush (pc := 17) (v := (99 : Int32)) hx hb dX6_setCost_17 (by decide) ?_
    obtain ⟨x17, q18, hf⟩ := o_bindE hf
    refine z_callSi (pc := 19) (As := [.int p2, .int (0 : Int32), .int (99 : Int32)]) (rest := [.ref (h 0)]) (Wc := (W_X6_in cA (fun k => h ([0].getD k 0)))) (W1 := (W_X6_in cA (fun k => h ([0].getD k 0)))) (W2 := (W_X6_setCost cA h (0 : Int32) m_bufferLength m_textLength m_position m_error m_errorAt m_errorOffset m_data m_history m_undoDepth m_numberStart m_seen m_pages)) ⟨hx, hb, hml, hown, hts⟩ (kX6_in l D cA (fun k => h ([0].getD k 0)) p2 (0 : Int32) (99 : Int32) _ q18) (va_cwS 3 hts gX6_setCost_X6_in rfl rfl rfl (by decide +kernel) ⟨Nat.le_of_ble_eq_true rfl, Nat.le_of_ble_eq_true rfl⟩) Z hA [] rfl (by decide) rfl rfl hl.1 rfl (Nat.le_of_ble_eq_true rfl) dX6_setCost_19 ⟨Nat.zero_le _, Nat.zero_le _⟩ [none, none, none, none, none, none, none, none, none, none, none] rfl ⟨rfl, rfl, rfl, rfl, rfl, rfl, rfl, rfl, rfl, rfl, rfl, rfl⟩ (fun H locs Z => ?_)
    refine lv_if_ne (pc := 22) (tgt := 29) hx hb dX6_setCost_22 (by decide) (fun c19 => ?_) (fun c19 => ?_)
    · replace hf := o_neg c19 hf
      refine lv_iconst (pc := 29) (v := (0 : Int32)) hx hb dX6_setCost_29 (by decide) ?_
      exact hj30_5 (0 : Int32) H locs ls Z (lv_sub hl [0, 1, 2] rfl) hf
    · replace hf := o_pos c19 hf
      refine lv_iconst (pc := 25) (v := (1 : Int32)) hx hb dX6_setCost_25 (by decide) ?_
      refine lv_goto (pc := 26) (tgt := 30) hx hb dX6_setCost_26 (by decide) ?_
      exact hj30_5 (1 : Int32) H locs ls Z (lv_sub hl [0, 1, 2] rfl) hf
