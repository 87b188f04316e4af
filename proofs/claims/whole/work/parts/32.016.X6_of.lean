def W_X6_of (cA : Nat → ClassId) (h : Nat → Nat) (m_thrown : Int32) (m_bufferLength : Int32) (m_textLength : Int32) (m_position : Int32) (m_error : Int32) (m_errorAt : Int32) (m_errorOffset : Int32) (m_data : Nat → Int32) (m_undoDepth : Int32) (m_numberStart : Int32) (m_seen : Int32) (m_pages : Int32) : va_W := [(h 0, .inr (6, [.int m_thrown, .ref (h 1), .int m_bufferLength, .int m_textLength, .int m_position, .int m_error, .int m_errorAt, .int m_errorOffset, .ref (h 2), .ref (h 3), .ref (h 4), .int m_undoDepth, .int m_numberStart, .int m_seen, .ref (h 13), .ref (h 14), .ref (h 15), .ref (h 16), .int m_pages, .ref (h 17), .ref (h 18), .ref (h 19)])), (h 2, .inl (cA 0, 153, .inl m_data))]
def fX6_of (p1 : Int32) (p2 : Int32) (m_data : Nat → Int32) : Option (Int32) := o_bind (fX6_lotAt p1) (fun x1 => o_rd 153 (x1 + p2) (some ((m_data (x1 + p2).toNatClampNeg))))
theorem iw_X6_of_X6 : ∀ w ∈ u_ws RX6 TX6 22, w ∈ wsX6_of := z_inr [6, 7, 8, 9, 10, 11, 12, 13, 14, 15, 16, 17, 18, 19, 20, 21, 22, 23, 24, 25, 26, 27] rfl
set_option maxHeartbeats 4000000 in
set_option maxRecDepth 100000 in
theorem kX6_of (l : Launch) (D : va_G) (cA : Nat → ClassId) (h : Nat → Nat) (p1 : Int32) (p2 : Int32) (m_thrown : Int32) (m_bufferLength : Int32) (m_textLength : Int32) (m_position : Int32) (m_error : Int32) (m_errorAt : Int32) (m_errorOffset : Int32) (m_data : Nat → Int32) (m_undoDepth : Int32) (m_numberStart : Int32) (m_seen : Int32) (m_pages : Int32) (u : Int32) (hf : fX6_of p1 p2 m_data = some u) : zMi l yX6_of wsX6_of ({ frames := 1, cells := 0, slots := 0, locals := 20 } : Room) D (zTY cA) [.ref (h 0), .int p1, .int p2] (W_X6_of cA h m_thrown m_bufferLength m_textLength m_position m_error m_errorAt m_errorOffset m_data m_undoDepth m_numberStart m_seen m_pages) (W_X6_of cA h m_thrown m_bufferLength m_textLength m_position m_error m_errorAt m_errorOffset m_data m_undoDepth m_numberStart m_seen m_pages) u := by
  refine z_starti (cc := cX6_of) (maxL := 3) (ret := (some .int)) (by decide) rfl (Nat.le_of_ble_eq_true rfl) ?_
  intro p e s m args below meth c A hx hb hr hts hown hlocks hml hA Z ls hl
  replace hown : s.vm.findClass RX6 = some m.cls := hown
  replace hl : lv_has ls 3 [(0, .ref (h 0)), (1, .int p1), (2, .int p2)] := hl
  obtain ⟨H, hH⟩ : ∃ H, H = s.heap := ⟨_, rfl⟩
  rw [← hH] at Z ⊢
  clear hH
  obtain ⟨locs, hlc⟩ : ∃ q : List Loc, q = [] := ⟨_, rfl⟩
  rw [← hlc] at Z ⊢
  clear hlc
  refine lv_aload_n (pc := 0) hx hb dX6_of_0 rfl (lv_at hl 0 rfl) ?_
  refine z_get (pc := 1) (ref := "LotSheetModel") (ci := 6) (C := RX6) (T := TX6) (N := 22) hx hb hts iw_X6_of_X6 hown Z 0 rfl rfl 8 (by decide) (List.mem_of_getElem? (i := 1) rfl) rfl rfl dX6_of_1 ?_
  refine lv_iload_n (pc := 4) hx hb dX6_of_4 rfl (lv_at hl 1 rfl) ?_
  obtain ⟨x1, q2, hf⟩ := o_bindE hf
  refine z_callSi (pc := 5) (As := [.int p1]) (rest := [.ref (h 2)]) (Wc := (W_X6_lotAt cA (fun k => h ([0].getD k 0)))) (W1 := (W_X6_lotAt cA (fun k => h ([0].getD k 0)))) (W2 := (W_X6_of cA h m_thrown m_bufferLength m_textLength m_position m_error m_errorAt m_errorOffset m_data m_undoDepth m_numberStart m_seen m_pages)) ⟨hx, hb, hml, hown, hts⟩ (kX6_lotAt l D cA (fun k => h ([0].getD k 0)) p1 _ q2) (va_cwS 1 hts gX6_of_X6_lotAt rfl rfl rfl (by decide +kernel) ⟨Nat.le_of_ble_eq_true rfl, Nat.le_of_ble_eq_true rfl⟩) Z hA [] rfl (by decide) rfl rfl hl.1 rfl (Nat.le_of_ble_eq_true rfl) dX6_of_5 ⟨Nat.zero_le _, Nat.zero_le _⟩ [none, none] rfl ⟨rfl, rfl, rfl⟩ (fun H locs Z => ?_)
  refine lv_iload_n (pc := 8) hx hb dX6_of_8 rfl (lv_at hl 2 rfl) ?_
  refine lv_iadd (pc := 9) hx hb dX6_of_9 ?_
  obtain ⟨i3, hf⟩ := o_rdE hf
  refine z_iald (pc := 10) hx hb Z 1 0 rfl rfl i3 dX6_of_10 ?_
  cases hf
  exact z_iret (pc := 11) hx hb hr hlocks Z rfl rfl dX6_of_11
