def W_X6_wantedEstimates (cA : Nat → ClassId) (h : Nat → Nat) (m_thrown : Int32) (m_bufferLength : Int32) (m_textLength : Int32) (m_position : Int32) (m_error : Int32) (m_errorAt : Int32) (m_errorOffset : Int32) (m_data : Nat → Int32) (m_undoDepth : Int32) (m_numberStart : Int32) (m_seen : Int32) (m_pages : Int32) : va_W := [(h 0, .inr (6, [.int m_thrown, .ref (h 1), .int m_bufferLength, .int m_textLength, .int m_position, .int m_error, .int m_errorAt, .int m_errorOffset, .ref (h 2), .ref (h 3), .ref (h 4), .int m_undoDepth, .int m_numberStart, .int m_seen, .ref (h 13), .ref (h 14), .ref (h 15), .ref (h 16), .int m_pages, .ref (h 17), .ref (h 18), .ref (h 19)])), (h 2, .inl (cA 0, 153, .inl m_data))]
def fX6_wantedEstimates_L4 (m_data : Nat → Int32) : Nat → Int32 → Int32 → Option (Int32)
  | 0, _, _ => none
  | n0 + 1, x1, x2 => (if (m_data (1 : Int32).toNatClampNeg) ≤ x2 then some (x1) else o_bind (fX6_of x2 (4 : Int32) m_data) (fun x4 => o_bind (fX6_of x2 (1 : Int32) m_data) (fun x6 => o_let (x1 + (x4 * x6)) (fun x8 => o_let (x2 + (1 : Int32)) (fun x9 => (fX6_wantedEstimates_L4 m_data n0 x8 x9))))))
def fX6_wantedEstimates (m_data : Nat → Int32) : Option (Int32) := (fX6_wantedEstimates_L4 m_data 1024 (0 : Int32) (0 : Int32))
theorem iw_X6_wantedEstimates_X6 : ∀ w ∈ u_ws RX6 TX6 22, w ∈ wsX6_wantedEstimates := z_inr [10, 11, 12, 13, 14, 15, 16, 17, 18, 19, 20, 21, 22, 23, 24, 25, 26, 27, 28, 29, 30, 31] rfl
set_option maxHeartbeats 4000000 in
set_option maxRecDepth 100000 in
theorem kX6_wantedEstimates (l : Launch) (D : va_G) (cA : Nat → ClassId) (h : Nat → Nat) (m_thrown : Int32) (m_bufferLength : Int32) (m_textLength : Int32) (m_position : Int32) (m_error : Int32) (m_errorAt : Int32) (m_errorOffset : Int32) (m_data : Nat → Int32) (m_undoDepth : Int32) (m_numberStart : Int32) (m_seen : Int32) (m_pages : Int32) (u : Int32) (hf : fX6_wantedEstimates m_data = some u) : zMi l yX6_wantedEstimates wsX6_wantedEstimates ({ frames := 2, cells := 0, slots := 0, locals := 42 } : Room) D (zTY cA) [.ref (h 0)] (W_X6_wantedEstimates cA h m_thrown m_bufferLength m_textLength m_position m_error m_errorAt m_errorOffset m_data m_undoDepth m_numberStart m_seen m_pages) (W_X6_wantedEstimates cA h m_thrown m_bufferLength m_textLength m_position m_error m_errorAt m_errorOffset m_data m_undoDepth m_numberStart m_seen m_pages) u := by
  refine z_starti (cc := cX6_wantedEstimates) (maxL := 3) (ret := (some .int)) (by decide) rfl (Nat.le_of_ble_eq_true rfl) ?_
  intro p e s m args below meth c A hx hb hr hts hown hlocks hml hA Z ls hl
  replace hown : s.vm.findClass RX6 = some m.cls := hown
  replace hl : lv_has ls 3 [(0, .ref (h 0))] := hl
  obtain ⟨H, hH⟩ : ∃ H, H = s.heap := ⟨_, rfl⟩
  rw [← hH] at Z ⊢
  clear hH
  obtain ⟨locs, hlc⟩ : ∃ q : List Loc, q = [] := ⟨_, rfl⟩
  rw [← hlc] at Z ⊢
  clear hlc
  refine lv_iconst (pc := 0) (v := (0 : Int32)) hx hb dX6_wantedEstimates_0 (by decide) ?_
  refine lv_istore_n (pc := 1) (lv' := [(1, .int (0 : Int32)), (0, .ref (h 0))]) hx hb dX6_wantedEstimates_1 rfl hl (by decide) rfl (fun ls hl => ?_)
  refine lv_iconst (pc := 2) (v := (0 : Int32)) hx hb dX6_wantedEstimates_2 (by decide) ?_
  refine lv_istore_n (pc := 3) (lv' := [(2, .int (0 : Int32)), (1, .int (0 : Int32)), (0, .ref (h 0))]) hx hb dX6_wantedEstimates_3 rfl hl (by decide) rfl (fun ls hl => ?_)
  have hL4 : ∀ (n0 : Nat) (x1 : Int32) (x2 : Int32) (H : Heap) (locs : List Loc) (ls : Array Slot), zw D (zTY cA) s A (W_X6_wantedEstimates cA h m_thrown m_bufferLength m_textLength m_position m_error m_errorAt m_errorOffset m_data m_undoDepth m_numberStart m_seen m_pages) H locs → lv_has ls 3 [(0, .ref (h 0)), (1, .int x1), (2, .int x2)] → fX6_wantedEstimates_L4 m_data n0 x1 x2 = some u → W p l e ({ frames := 2, cells := 0, slots := 0, locals := 42 } : Room) s m args below meth c H locs 0 0 (MQ below (zQi D (zTY cA) A (W_X6_wantedEstimates cA h m_thrown m_bufferLength m_textLength m_position m_error m_errorAt m_errorOffset m_data m_undoDepth m_numberStart m_seen m_pages) u) args s 0 0 A) (F0 m 4 ls []) := by
    intro n0
    induction n0 with
    | zero => intro x1 x2 H locs ls Z hl hf; exact o_no hf
    | succ n0 ih0 =>
      intro x1 x2 H locs ls Z hl hf
      refine lv_iload_n (pc := 4) hx hb dX6_wantedEstimates_4 rfl (lv_at hl 2 rfl) ?_
      refine lv_aload_n (pc := 5) hx hb dX6_wantedEstimates_5 rfl (lv_at hl 0 rfl) ?_
      refine z_get (pc := 6) (ref := "LotSheetModel") (ci := 6) (C := RX6) (T := TX6) (N := 22) hx hb hts iw_X6_wantedEstimates_X6 hown Z 0 rfl rfl 8 (by decide) (List.mem_of_getElem? (i := 1) rfl) rfl rfl dX6_wantedEstimates_6 ?_
      refine lv_iconst (pc := 9) (v := (1 : Int32)) hx hb dX6_wantedEstimates_9 (by decide) ?_
      refine z_iald (pc := 10) hx hb Z 1 0 rfl rfl (show ¬ ((1 : Int32) < 0 ∨ 153 ≤ (1 : Int32).toNatClampNeg) by decide) dX6_wantedEstimates_10 ?_
      refine lv_icmp_ge (pc := 11) (tgt := 36) hx hb dX6_wantedEstimates_11 (by decide) (fun c3 => ?_) (fun c3 => ?_)
      · replace hf := o_pos c3 hf
        refine lv_iload_n (pc := 36) hx hb dX6_wantedEstimates_36 rfl (lv_at hl 1 rfl) ?_
        cases hf
        exact z_iret (pc := 37) hx hb hr hlocks Z rfl rfl dX6_wantedEstimates_37
      · replace hf := o_neg c3 hf
        refine lv_iload_n (pc := 14) hx hb dX6_wantedEstimates_14 rfl (lv_at hl 1 rfl) ?_
        refine lv_aload_n (pc := 15) hx hb dX6_wantedEstimates_15 rfl (lv_at hl 0 rfl) ?_
        refine lv_iload_n (pc := 16) hx hb dX6_wantedEstimates_16 rfl (lv_at hl 2 rfl) ?_
        refine lv_iconst (pc := 17) (v := (4 : Int32)) hx hb dX6_wantedEstimates_17 (by decide) ?_
        obtain ⟨x4, q5, hf⟩ := o_bindE hf
        refine z_callVi (pc := 18) (As := [.int x2, .int (4 : Int32)]) (rest := [.int x1]) (Wc := (W_X6_of cA (fun k => h ([0, 1, 2, 3, 4, 5, 6, 7, 8, 9, 10, 11, 12, 13, 14, 15, 16, 17, 18, 19].getD k 0)) m_thrown m_bufferLength m_textLength m_position m_error m_errorAt m_errorOffset m_data m_undoDepth m_numberStart m_seen m_pages)) (W1 := (W_X6_of cA (fun k => h ([0, 1, 2, 3, 4, 5, 6, 7, 8, 9, 10, 11, 12, 13, 14, 15, 16, 17, 18, 19].getD k 0)) m_thrown m_bufferLength m_textLength m_position m_error m_errorAt m_errorOffset m_data m_undoDepth m_numberStart m_seen m_pages)) (W2 := (W_X6_wantedEstimates cA h m_thrown m_bufferLength m_textLength m_position m_error m_errorAt m_errorOffset m_data m_undoDepth m_numberStart m_seen m_pages)) ⟨hx, hb, hml, hown, hts⟩ (kX6_of l D cA (fun k => h ([0, 1, 2, 3, 4, 5, 6, 7, 8, 9, 10, 11, 12, 13, 14, 15, 16, 17, 18, 19].getD k 0)) x2 (4 : Int32) m_thrown m_bufferLength m_textLength m_position m_error m_errorAt m_errorOffset m_data m_undoDepth m_numberStart m_seen m_pages _ q5) (cwV 2 hts gX6_wantedEstimates_X6_of rfl rfl rfl (by decide +kernel) ⟨Nat.le_of_ble_eq_true rfl, Nat.le_of_ble_eq_true rfl⟩) Z hA [0, 1] rfl (by decide) rfl (ci := 6) rfl rfl rfl rfl hl.1 rfl (Nat.le_of_ble_eq_true rfl) dX6_wantedEstimates_18 ⟨Nat.zero_le _, Nat.zero_le _⟩ [some 0, some 1] rfl ⟨rfl, rfl, rfl⟩ (fun H locs Z => ?_)
        refine lv_aload_n (pc := 21) hx hb dX6_wantedEstimates_21 rfl (lv_at hl 0 rfl) ?_
        refine lv_iload_n (pc := 22) hx hb dX6_wantedEstimates_22 rfl (lv_at hl 2 rfl) ?_
        refine lv_iconst (pc := 23) (v := (1 : Int32)) hx hb dX6_wantedEstimates_23 (by decide) ?_
        obtain ⟨x6, q7, hf⟩ := o_bindE hf
        refine z_callVi (pc := 24) (As := [.int x2, .int (1 : Int32)]) (rest := [.int x4, .int x1]) (Wc := (W_X6_of cA (fun k => h ([0, 1, 2, 3, 4, 5, 6, 7, 8, 9, 10, 11, 12, 13, 14, 15, 16, 17, 18, 19].getD k 0)) m_thrown m_bufferLength m_textLength m_position m_error m_errorAt m_errorOffset m_data m_undoDepth m_numberStart m_seen m_pages)) (W1 := (W_X6_of cA (fun k => h ([0, 1, 2, 3, 4, 5, 6, 7, 8, 9, 10, 11, 12, 13, 14, 15, 16, 17, 18, 19].getD k 0)) m_thrown m_bufferLength m_textLength m_position m_error m_errorAt m_errorOffset m_data m_undoDepth m_numberStart m_seen m_pages)) (W2 := (W_X6_wantedEstimates cA h m_thrown m_bufferLength m_textLength m_position m_error m_errorAt m_errorOffset m_data m_undoDepth m_numberStart m_seen m_pages)) ⟨hx, hb, hml, hown, hts⟩ (kX6_of l D cA (fun k => h ([0, 1, 2, 3, 4, 5, 6, 7, 8, 9, 10, 11, 12, 13, 14, 15, 16, 17, 18, 19].getD k 0)) x2 (1 : Int32) m_thrown m_bufferLength m_textLength m_position m_error m_errorAt m_errorOffset m_data m_undoDepth m_numberStart m_seen m_pages _ q7) (cwV 2 hts gX6_wantedEstimates_X6_of rfl rfl rfl (by decide +kernel) ⟨Nat.le_of_ble_eq_true rfl, Nat.le_of_ble_eq_true rfl⟩) Z hA [0, 1] rfl (by decide) rfl (ci := 6) rfl rfl rfl rfl hl.1 rfl (Nat.le_of_ble_eq_true rfl) dX6_wantedEstimates_24 ⟨Nat.zero_le _, Nat.zero_le _⟩ [some 0, some 1] rfl ⟨rfl, rfl, rfl⟩ (fun H locs Z => ?_)
        refine lv_imul (pc := 27) hx hb dX6_wantedEstimates_27 ?_
        refine lv_iadd (pc := 28) hx hb dX6_wantedEstimates_28 ?_
        refine lv_topi (fun x8 ex8 => ?_)
        replace hf := o_letE ex8 hf
        refine lv_istore_n (pc := 29) (lv' := [(1, .int x8), (0, .ref (h 0)), (2, .int x2)]) hx hb dX6_wantedEstimates_29 rfl hl (by decide) rfl (fun ls hl => ?_)
        obtain ⟨x9, ex9⟩ : ∃ y : Int32, y = (x2 + (1 : Int32)) := ⟨_, rfl⟩
        replace hf := o_letE ex9 hf
        refine lv_iinc (pc := 30) (v := x9) (lv' := [(2, .int x9), (1, .int x8), (0, .ref (h 0))]) hx hb dX6_wantedEstimates_30 hl (k := 2) rfl (by rw [ex9]; rfl) (by decide) rfl (fun ls hl => ?_)
        refine lv_goto (pc := 33) (tgt := 4) hx hb dX6_wantedEstimates_33 (by decide) ?_
        exact ih0 x8 x9 H locs ls Z (lv_sub hl [2, 1, 0] rfl) hf
  exact hL4 1024 (0 : Int32) (0 : Int32) H locs ls Z (lv_sub hl [2, 1, 0] rfl) hf
