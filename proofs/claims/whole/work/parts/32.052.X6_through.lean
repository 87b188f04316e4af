def W_X6_through (cA : Nat → ClassId) (h : Nat → Nat) (m_thrown : Int32) (m_bufferLength : Int32) (m_textLength : Int32) (m_position : Int32) (m_error : Int32) (m_errorAt : Int32) (m_errorOffset : Int32) (m_data : Nat → Int32) (m_undoDepth : Int32) (m_numberStart : Int32) (m_seen : Int32) (m_pages : Int32) : va_W := [(h 0, .inr (6, [.int m_thrown, .ref (h 1), .int m_bufferLength, .int m_textLength, .int m_position, .int m_error, .int m_errorAt, .int m_errorOffset, .ref (h 2), .ref (h 3), .ref (h 4), .int m_undoDepth, .int m_numberStart, .int m_seen, .ref (h 13), .ref (h 14), .ref (h 15), .ref (h 16), .int m_pages, .ref (h 17), .ref (h 18), .ref (h 19)])), (h 2, .inl (cA 0, 153, .inl m_data))]
def fX6_through_L38 (m_data : Nat → Int32) (x9 : Int32) : Nat → Int32 → Int32 → Option (Int32 × Int32)
  | 0, _, _ => none
  | n0 + 1, x12, x13 => o_bind (fX6_isPrinted x13 m_data) (fun x14 => o_let (o_bind (fX6_of x13 (3 : Int32) m_data) (fun x18 => o_bind (fX6_of x13 (0 : Int32) m_data) (fun x20 => o_let (x12 - (x18 * x20)) (fun x22 => o_let (x13 + (1 : Int32)) (fun x23 => (fX6_through_L38 m_data x9 n0 x22 x23)))))) (fun (j56_17 : Option (Int32 × Int32)) => (if x14 = 0 then j56_17 else o_bind (fX6_of x13 (0 : Int32) m_data) (fun x24 => (if x12 < x24 then some (x13, x9) else j56_17)))))
def fX6_through (p1 : Int32) (m_thrown : Int32) (m_data : Nat → Int32) : Option (Int32 × Int32) := o_bind (fX6_printedLines m_data) (fun x1 => o_bind (fX6_in p1 (0 : Int32) (x1 - (1 : Int32))) (fun x3 => o_let (fun (x6 : Int32) => o_bind (fX6_fails x6 (1 : Int32) (0 : Int32)) (fun (x8, x9) => (if x8 = 0 then (fX6_through_L38 m_data x9 1024 p1 (0 : Int32)) else some ((0 : Int32), x9)))) (fun (j25_7 : Int32 → Option (Int32 × Int32)) => (if x3 = 0 then (j25_7 (1 : Int32)) else (j25_7 (0 : Int32))))))
theorem iw_X6_through_X6 : ∀ w ∈ u_ws RX6 TX6 22, w ∈ wsX6_through := z_inr [26, 27, 28, 29, 30, 31, 32, 33, 34, 35, 36, 37, 38, 39, 40, 41, 42, 43, 44, 45, 46, 47] rfl
set_option maxHeartbeats 4000000 in
set_option maxRecDepth 100000 in
theorem kX6_through (l : Launch) (D : va_G) (cA : Nat → ClassId) (h : Nat → Nat) (p1 : Int32) (m_thrown : Int32) (m_bufferLength : Int32) (m_textLength : Int32) (m_position : Int32) (m_error : Int32) (m_errorAt : Int32) (m_errorOffset : Int32) (m_data : Nat → Int32) (m_undoDepth : Int32) (m_numberStart : Int32) (m_seen : Int32) (m_pages : Int32) (u : Int32 × Int32) (hf : fX6_through p1 m_thrown m_data = some u) : zMi l yX6_through wsX6_through ({ frames := 3, cells := 0, slots := 0, locals := 64 } : Room) D (zTY cA) [.ref (h 0), .int p1] (W_X6_through cA h m_thrown m_bufferLength m_textLength m_position m_error m_errorAt m_errorOffset m_data m_undoDepth m_numberStart m_seen m_pages) (W_X6_through cA h (u.2) m_bufferLength m_textLength m_position m_error m_errorAt m_errorOffset m_data m_undoDepth m_numberStart m_seen m_pages) u.1 := by
  refine z_starti (cc := cX6_through) (maxL := 4) (ret := (some .int)) (by decide) rfl (Nat.le_of_ble_eq_true rfl) ?_
  intro p e s m args below meth c A hx hb hr hts hown hlocks hml hA Z ls hl
  replace hown : s.vm.findClass RX6 = some m.cls := hown
  replace hl : lv_has ls 4 [(0, .ref (h 0)), (1, .int p1)] := hl
  obtain ⟨H, hH⟩ : ∃ H, H = s.heap := ⟨_, rfl⟩
  rw [← hH] at Z ⊢
  clear hH
  obtain ⟨locs, hlc⟩ : ∃ q : List Loc, q = [] := ⟨_, rfl⟩
  rw [← hlc] at Z ⊢
  clear hlc
  refine lv_aload_n (pc := 0) hx hb dX6_through_0 rfl (lv_at hl 0 rfl) ?_
  refine lv_iconst (pc := 1) (v := (0 : Int32)) hx hb dX6_through_1 (by decide) ?_
  refine z_put (pc := 2) (ref := "LotSheetModel") (ci := 6) (C := RX6) (T := TX6) (N := 22) (W1 := (W_X6_through cA h (0 : Int32) m_bufferLength m_textLength m_position m_error m_errorAt m_errorOffset m_data m_undoDepth m_numberStart m_seen m_pages)) hx hb hts iw_X6_through_X6 tyX6 tyX6_ok nmX6 hown Z 0 rfl rfl 0 (by decide) (List.mem_of_getElem? (i := 1) rfl) rfl rfl rfl rfl (Nat.le_of_ble_eq_true rfl) dX6_through_2 rfl (fun H locs Z => ?_)
  refine lv_aload_n (pc := 5) hx hb dX6_through_5 rfl (lv_at hl 0 rfl) ?_
  refine lv_iload_n (pc := 6) hx hb dX6_through_6 rfl (lv_at hl 1 rfl) ?_
  refine lv_iconst (pc := 7) (v := (0 : Int32)) hx hb dX6_through_7 (by decide) ?_
  refine lv_aload_n (pc := 8) hx hb dX6_through_8 rfl (lv_at hl 0 rfl) ?_
  obtain ⟨x1, q2, hf⟩ := o_bindE hf
  refine z_callVi (pc := 9) (As := []) (rest := [.int (0 : Int32), .int p1, .ref (h 0)]) (Wc := (W_X6_printedLines cA (fun k => h ([0, 1, 2, 3, 4, 5, 6, 7, 8, 9, 10, 11, 12, 13, 14, 15, 16, 17, 18, 19].getD k 0)) (0 : Int32) m_bufferLength m_textLength m_position m_error m_errorAt m_errorOffset m_data m_undoDepth m_numberStart m_seen m_pages)) (W1 := (W_X6_printedLines cA (fun k => h ([0, 1, 2, 3, 4, 5, 6, 7, 8, 9, 10, 11, 12, 13, 14, 15, 16, 17, 18, 19].getD k 0)) (0 : Int32) m_bufferLength m_textLength m_position m_error m_errorAt m_errorOffset m_data m_undoDepth m_numberStart m_seen m_pages)) (W2 := (W_X6_through cA h (0 : Int32) m_bufferLength m_textLength m_position m_error m_errorAt m_errorOffset m_data m_undoDepth m_numberStart m_seen m_pages)) ⟨hx, hb, hml, hown, hts⟩ (kX6_printedLines l D cA (fun k => h ([0, 1, 2, 3, 4, 5, 6, 7, 8, 9, 10, 11, 12, 13, 14, 15, 16, 17, 18, 19].getD k 0)) (0 : Int32) m_bufferLength m_textLength m_position m_error m_errorAt m_errorOffset m_data m_undoDepth m_numberStart m_seen m_pages _ q2) (cwV 0 hts gX6_through_X6_printedLines rfl rfl rfl (by decide +kernel) ⟨Nat.le_of_ble_eq_true rfl, Nat.le_of_ble_eq_true rfl⟩) Z hA [0, 1] rfl (by decide) rfl (ci := 6) rfl rfl rfl rfl hl.1 rfl (Nat.le_of_ble_eq_true rfl) dX6_through_9 ⟨Nat.zero_le _, Nat.zero_le _⟩ [some 0, some 1] rfl ⟨rfl, rfl, rfl⟩ (fun H locs Z => ?_)
  refine lv_iconst (pc := 12) (v := (1 : Int32)) hx hb dX6_through_12 (by decide) ?_
  refine lv_isub (pc := 13) hx hb dX6_through_13 ?_
  obtain ⟨x3, q4, hf⟩ := o_bindE hf
  refine z_callSi (pc := 14) (As := [.int p1, .int (0 : Int32), .int (x1 - (1 : Int32))]) (rest := [.ref (h 0)]) (Wc := (W_X6_in cA (fun k => h ([0].getD k 0)))) (W1 := (W_X6_in cA (fun k => h ([0].getD k 0)))) (W2 := (W_X6_through cA h (0 : Int32) m_bufferLength m_textLength m_position m_error m_errorAt m_errorOffset m_data m_undoDepth m_numberStart m_seen m_pages)) ⟨hx, hb, hml, hown, hts⟩ (kX6_in l D cA (fun k => h ([0].getD k 0)) p1 (0 : Int32) (x1 - (1 : Int32)) _ q4) (va_cwS 3 hts gX6_through_X6_in rfl rfl rfl (by decide +kernel) ⟨Nat.le_of_ble_eq_true rfl, Nat.le_of_ble_eq_true rfl⟩) Z hA [] rfl (by decide) rfl rfl hl.1 rfl (Nat.le_of_ble_eq_true rfl) dX6_through_14 ⟨Nat.zero_le _, Nat.zero_le _⟩ [none, none] rfl ⟨rfl, rfl, rfl⟩ (fun H locs Z => ?_)
  obtain ⟨j25_7, ej25_7, hf⟩ := o_jnE hf
  have hj25_7 : ∀ (x6 : Int32) (H : Heap) (locs : List Loc) (ls : Array Slot), zw D (zTY cA) s A (W_X6_through cA h (0 : Int32) m_bufferLength m_textLength m_position m_error m_errorAt m_errorOffset m_data m_undoDepth m_numberStart m_seen m_pages) H locs → lv_has ls 4 [(0, .ref (h 0)), (1, .int p1)] → j25_7 x6 = some u → W p l e ({ frames := 3, cells := 0, slots := 0, locals := 64 } : Room) s m args below meth c H locs 0 0 (MQ below (zQi D (zTY cA) A (W_X6_through cA h (u.2) m_bufferLength m_textLength m_position m_error m_errorAt m_errorOffset m_data m_undoDepth m_numberStart m_seen m_pages) u.1) args s 0 0 A) (F0 m 25 ls [.int x6, .ref (h 0)]) := by
    intro x6 H locs ls Z hl hf
    rw [ej25_7] at hf
    refine lv_iconst (pc := 25) (v := (1 : Int32)) hx hb dX6_through_25 (by decide) ?_
    obtain ⟨⟨x8, x9⟩, q10, hf⟩ := o_bindE hf
    refine z_callVi (pc := 26) (As := [.int x6, .int (1 : Int32)]) (rest := []) (Wc := (W_X6_fails cA (fun k => h ([0, 1, 2, 3, 4, 5, 6, 7, 8, 9, 10, 11, 12, 13, 14, 15, 16, 17, 18, 19].getD k 0)) (0 : Int32) m_bufferLength m_textLength m_position m_error m_errorAt m_errorOffset m_undoDepth m_numberStart m_seen m_pages)) (W1 := (W_X6_fails cA (fun k => h ([0, 1, 2, 3, 4, 5, 6, 7, 8, 9, 10, 11, 12, 13, 14, 15, 16, 17, 18, 19].getD k 0)) x9 m_bufferLength m_textLength m_position m_error m_errorAt m_errorOffset m_undoDepth m_numberStart m_seen m_pages)) (W2 := (W_X6_through cA h x9 m_bufferLength m_textLength m_position m_error m_errorAt m_errorOffset m_data m_undoDepth m_numberStart m_seen m_pages)) ⟨hx, hb, hml, hown, hts⟩ (kX6_fails l D cA (fun k => h ([0, 1, 2, 3, 4, 5, 6, 7, 8, 9, 10, 11, 12, 13, 14, 15, 16, 17, 18, 19].getD k 0)) x6 (1 : Int32) (0 : Int32) m_bufferLength m_textLength m_position m_error m_errorAt m_errorOffset m_undoDepth m_numberStart m_seen m_pages _ q10) (cwV 2 hts gX6_through_X6_fails rfl rfl rfl (by decide +kernel) ⟨Nat.le_of_ble_eq_true rfl, Nat.le_of_ble_eq_true rfl⟩) Z hA [0] rfl (by decide) rfl (ci := 6) rfl rfl rfl rfl hl.1 rfl (Nat.le_of_ble_eq_true rfl) dX6_through_26 ⟨Nat.zero_le _, Nat.zero_le _⟩ [some 0, none] rfl ⟨rfl, rfl, rfl⟩ (fun H locs Z => ?_)
    refine lv_if_eq (pc := 29) (tgt := 34) hx hb dX6_through_29 (by decide) (fun c11 => ?_) (fun c11 => ?_)
    · replace hf := o_pos c11 hf
      refine lv_iload_n (pc := 34) hx hb dX6_through_34 rfl (lv_at hl 1 rfl) ?_
      refine lv_istore_n (pc := 35) (lv' := [(2, .int p1), (0, .ref (h 0)), (1, .int p1)]) hx hb dX6_through_35 rfl hl (by decide) rfl (fun ls hl => ?_)
      refine lv_iconst (pc := 36) (v := (0 : Int32)) hx hb dX6_through_36 (by decide) ?_
      refine lv_istore_n (pc := 37) (lv' := [(3, .int (0 : Int32)), (2, .int p1), (0, .ref (h 0)), (1, .int p1)]) hx hb dX6_through_37 rfl hl (by decide) rfl (fun ls hl => ?_)
      have hL38 : ∀ (n0 : Nat) (x12 : Int32) (x13 : Int32) (H : Heap) (locs : List Loc) (ls : Array Slot), zw D (zTY cA) s A (W_X6_through cA h x9 m_bufferLength m_textLength m_position m_error m_errorAt m_errorOffset m_data m_undoDepth m_numberStart m_seen m_pages) H locs → lv_has ls 4 [(0, .ref (h 0)), (2, .int x12), (3, .int x13)] → fX6_through_L38 m_data x9 n0 x12 x13 = some u → W p l e ({ frames := 3, cells := 0, slots := 0, locals := 64 } : Room) s m args below meth c H locs 0 0 (MQ below (zQi D (zTY cA) A (W_X6_through cA h (u.2) m_bufferLength m_textLength m_position m_error m_errorAt m_errorOffset m_data m_undoDepth m_numberStart m_seen m_pages) u.1) args s 0 0 A) (F0 m 38 ls []) := by
        intro n0
        induction n0 with
        | zero => intro x12 x13 H locs ls Z hl hf; exact o_no hf
        | succ n0 ih0 =>
          intro x12 x13 H locs ls Z hl hf
          refine lv_aload_n (pc := 38) hx hb dX6_through_38 rfl (lv_at hl 0 rfl) ?_
          refine lv_iload_n (pc := 39) hx hb dX6_through_39 rfl (lv_at hl 2 rfl) ?_
          obtain ⟨x14, q15, hf⟩ := o_bindE hf
          refine z_callVi (pc := 40) (As := [.int x13]) (rest := []) (Wc := (W_X6_isPrinted cA (fun k => h ([0, 1, 2, 3, 4, 5, 6, 7, 8, 9, 10, 11, 12, 13, 14, 15, 16, 17, 18, 19].getD k 0)) x9 m_bufferLength m_textLength m_position m_error m_errorAt m_errorOffset m_data m_undoDepth m_numberStart m_seen m_pages)) (W1 := (W_X6_isPrinted cA (fun k => h ([0, 1, 2, 3, 4, 5, 6, 7, 8, 9, 10, 11, 12, 13, 14, 15, 16, 17, 18, 19].getD k 0)) x9 m_bufferLength m_textLength m_position m_error m_errorAt m_errorOffset m_data m_undoDepth m_numberStart m_seen m_pages)) (W2 := (W_X6_through cA h x9 m_bufferLength m_textLength m_position m_error m_errorAt m_errorOffset m_data m_undoDepth m_numberStart m_seen m_pages)) ⟨hx, hb, hml, hown, hts⟩ (kX6_isPrinted l D cA (fun k => h ([0, 1, 2, 3, 4, 5, 6, 7, 8, 9, 10, 11, 12, 13, 14, 15, 16, 17, 18, 19].getD k 0)) x13 x9 m_bufferLength m_textLength m_position m_error m_errorAt m_errorOffset m_data m_undoDepth m_numberStart m_seen m_pages _ q15) (cwV 1 hts gX6_through_X6_isPrinted rfl rfl rfl (by decide +kernel) ⟨Nat.le_of_ble_eq_true rfl, Nat.le_of_ble_eq_true rfl⟩) Z hA [0, 1] rfl (by decide) rfl (ci := 6) rfl rfl rfl rfl hl.1 rfl (Nat.le_of_ble_eq_true rfl) dX6_through_40 ⟨Nat.zero_le _, Nat.zero_le _⟩ [some 0, some 1] rfl ⟨rfl, rfl, rfl⟩ (fun H locs Z => ?_)
          obtain ⟨j56_17, ej56_17, hf⟩ := o_jnE hf
          have hj56_17 : ∀ (H : Heap) (locs : List Loc) (ls : Array Slot), zw D (zTY cA) s A (W_X6_through cA h x9 m_bufferLength m_textLength m_position m_error m_errorAt m_errorOffset m_data m_undoDepth m_numberStart m_seen m_pages) H locs → lv_has ls 4 [(0, .ref (h 0)), (2, .int x12), (3, .int x13)] → j56_17 = some u → W p l e ({ frames := 3, cells := 0, slots := 0, locals := 64 } : Room) s m args below meth c H locs 0 0 (MQ below (zQi D (zTY cA) A (W_X6_through cA h (u.2) m_bufferLength m_textLength m_position m_error m_errorAt m_errorOffset m_data m_undoDepth m_numberStart m_seen m_pages) u.1) args s 0 0 A) (F0 m 56 ls []) := by
            intro H locs ls Z hl hf
            rw [ej56_17] at hf
            refine lv_iload_n (pc := 56) hx hb dX6_through_56 rfl (lv_at hl 1 rfl) ?_
            refine lv_aload_n (pc := 57) hx hb dX6_through_57 rfl (lv_at hl 0 rfl) ?_
            refine lv_iload_n (pc := 58) hx hb dX6_through_58 rfl (lv_at hl 2 rfl) ?_
            refine lv_iconst (pc := 59) (v := (3 : Int32)) hx hb dX6_through_59 (by decide) ?_
            obtain ⟨x18, q19, hf⟩ := o_bindE hf
            refine z_callVi (pc := 60) (As := [.int x13, .int (3 : Int32)]) (rest := [.int x12]) (Wc := (W_X6_of cA (fun k => h ([0, 1, 2, 3, 4, 5, 6, 7, 8, 9, 10, 11, 12, 13, 14, 15, 16, 17, 18, 19].getD k 0)) x9 m_bufferLength m_textLength m_position m_error m_errorAt m_errorOffset m_data m_undoDepth m_numberStart m_seen m_pages)) (W1 := (W_X6_of cA (fun k => h ([0, 1, 2, 3, 4, 5, 6, 7, 8, 9, 10, 11, 12, 13, 14, 15, 16, 17, 18, 19].getD k 0)) x9 m_bufferLength m_textLength m_position m_error m_errorAt m_errorOffset m_data m_undoDepth m_numberStart m_seen m_pages)) (W2 := (W_X6_through cA h x9 m_bufferLength m_textLength m_position m_error m_errorAt m_errorOffset m_data m_undoDepth m_numberStart m_seen m_pages)) ⟨hx, hb, hml, hown, hts⟩ (kX6_of l D cA (fun k => h ([0, 1, 2, 3, 4, 5, 6, 7, 8, 9, 10, 11, 12, 13, 14, 15, 16, 17, 18, 19].getD k 0)) x13 (3 : Int32) x9 m_bufferLength m_textLength m_position m_error m_errorAt m_errorOffset m_data m_undoDepth m_numberStart m_seen m_pages _ q19) (cwV 2 hts gX6_through_X6_of rfl rfl rfl (by decide +kernel) ⟨Nat.le_of_ble_eq_true rfl, Nat.le_of_ble_eq_true rfl⟩) Z hA [0, 1] rfl (by decide) rfl (ci := 6) rfl rfl rfl rfl hl.1 rfl (Nat.le_of_ble_eq_true rfl) dX6_through_60 ⟨Nat.zero_le _, Nat.zero_le _⟩ [some 0, some 1] rfl ⟨rfl, rfl, rfl⟩ (fun H locs Z => ?_)
            refine lv_aload_n (pc := 63) hx hb dX6_through_63 rfl (lv_at hl 0 rfl) ?_
            refine lv_iload_n (pc := 64) hx hb dX6_through_64 rfl (lv_at hl 2 rfl) ?_
            refine lv_iconst (pc := 65) (v := (0 : Int32)) hx hb dX6_through_65 (by decide) ?_
            obtain ⟨x20, q21, hf⟩ := o_bindE hf
            refine z_callVi (pc := 66) (As := [.int x13, .int (0 : Int32)]) (rest := [.int x18, .int x12]) (Wc := (W_X6_of cA (fun k => h ([0, 1, 2, 3, 4, 5, 6, 7, 8, 9, 10, 11, 12, 13, 14, 15, 16, 17, 18, 19].getD k 0)) x9 m_bufferLength m_textLength m_position m_error m_errorAt m_errorOffset m_data m_undoDepth m_numberStart m_seen m_pages)) (W1 := (W_X6_of cA (fun k => h ([0, 1, 2, 3, 4, 5, 6, 7, 8, 9, 10, 11, 12, 13, 14, 15, 16, 17, 18, 19].getD k 0)) x9 m_bufferLength m_textLength m_position m_error m_errorAt m_errorOffset m_data m_undoDepth m_numberStart m_seen m_pages)) (W2 := (W_X6_through cA h x9 m_bufferLength m_textLength m_position m_error m_errorAt m_errorOffset m_data m_undoDepth m_numberStart m_seen m_pages)) ⟨hx, hb, hml, hown, hts⟩ (kX6_of l D cA (fun k => h ([0, 1, 2, 3, 4, 5, 6, 7, 8, 9, 10, 11, 12, 13, 14, 15, 16, 17, 18, 19].getD k 0)) x13 (0 : Int32) x9 m_bufferLength m_textLength m_position m_error m_errorAt m_errorOffset m_data m_undoDepth m_numberStart m_seen m_pages _ q21) (cwV 2 hts gX6_through_X6_of rfl rfl rfl (by decide +kernel) ⟨Nat.le_of_ble_eq_true rfl, Nat.le_of_ble_eq_true rfl⟩) Z hA [0, 1] rfl (by decide) rfl (ci := 6) rfl rfl rfl rfl hl.1 rfl (Nat.le_of_ble_eq_true rfl) dX6_through_66 ⟨Nat.zero_le _, Nat.zero_le _⟩ [some 0, some 1] rfl ⟨rfl, rfl, rfl⟩ (fun H locs Z => ?_)
            refine lv_imul (pc := 69) hx hb dX6_through_69 ?_
            refine lv_isub (pc := 70) hx hb dX6_through_70 ?_
            refine lv_topi (fun x22 ex22 => ?_)
            replace hf := o_letE ex22 hf
            refine lv_istore_n (pc := 71) (lv' := [(2, .int x22), (0, .ref (h 0)), (3, .int x13)]) hx hb dX6_through_71 rfl hl (by decide) rfl (fun ls hl => ?_)
            obtain ⟨x23, ex23⟩ : ∃ y : Int32, y = (x13 + (1 : Int32)) := ⟨_, rfl⟩
            replace hf := o_letE ex23 hf
            refine lv_iinc (pc := 72) (v := x23) (lv' := [(3, .int x23), (2, .int x22), (0, .ref (h 0))]) hx hb dX6_through_72 hl (k := 2) rfl (by rw [ex23]; rfl) (by decide) rfl (fun ls hl => ?_)
            refine lv_goto (pc := 75) (tgt := 38) hx hb dX6_through_75 (by decide) ?_
            exact ih0 x22 x23 H locs ls Z (lv_sub hl [2, 1, 0] rfl) hf
          refine lv_if_eq (pc := 43) (tgt := 56) hx hb dX6_through_43 (by decide) (fun c16 => ?_) (fun c16 => ?_)
          · replace hf := o_pos c16 hf
            exact hj56_17 H locs ls Z (lv_sub hl [0, 1, 2] rfl) hf
          · replace hf := o_neg c16 hf
            refine lv_iload_n (pc := 46) hx hb dX6_through_46 rfl (lv_at hl 1 rfl) ?_
            refine lv_aload_n (pc := 47) hx hb dX6_through_47 rfl (lv_at hl 0 rfl) ?_
            refine lv_iload_n (pc := 48) hx hb dX6_through_48 rfl (lv_at hl 2 rfl) ?_
            refine lv_iconst (pc := 49) (v := (0 : Int32)) hx hb dX6_through_49 (by decide) ?_
            obtain ⟨x24, q25, hf⟩ := o_bindE hf
            refine z_callVi (pc := 50) (As := [.int x13, .int (0 : Int32)]) (rest := [.int x12]) (Wc := (W_X6_of cA (fun k => h ([0, 1, 2, 3, 4, 5, 6, 7, 8, 9, 10, 11, 12, 13, 14, 15, 16, 17, 18, 19].getD k 0)) x9 m_bufferLength m_textLength m_position m_error m_errorAt m_errorOffset m_data m_undoDepth m_numberStart m_seen m_pages)) (W1 := (W_X6_of cA (fun k => h ([0, 1, 2, 3, 4, 5, 6, 7, 8, 9, 10, 11, 12, 13, 14, 15, 16, 17, 18, 19].getD k 0)) x9 m_bufferLength m_textLength m_position m_error m_errorAt m_errorOffset m_data m_undoDepth m_numberStart m_seen m_pages)) (W2 := (W_X6_through cA h x9 m_bufferLength m_textLength m_position m_error m_errorAt m_errorOffset m_data m_undoDepth m_numberStart m_seen m_pages)) ⟨hx, hb, hml, hown, hts⟩ (kX6_of l D cA (fun k => h ([0, 1, 2, 3, 4, 5, 6, 7, 8, 9, 10, 11, 12, 13, 14, 15, 16, 17, 18, 19].getD k 0)) x13 (0 : Int32) x9 m_bufferLength m_textLength m_position m_error m_errorAt m_errorOffset m_data m_undoDepth m_numberStart m_seen m_pages _ q25) (cwV 2 hts gX6_through_X6_of rfl rfl rfl (by decide +kernel) ⟨Nat.le_of_ble_eq_true rfl, Nat.le_of_ble_eq_true rfl⟩) Z hA [0, 1] rfl (by decide) rfl (ci := 6) rfl rfl rfl rfl hl.1 rfl (Nat.le_of_ble_eq_true rfl) dX6_through_50 ⟨Nat.zero_le _, Nat.zero_le _⟩ [some 0, some 1] rfl ⟨rfl, rfl, rfl⟩ (fun H locs Z => ?_)
            refine lv_icmp_lt (pc := 53) (tgt := 78) hx hb dX6_through_53 (by decide) (fun c26 => ?_) (fun c26 => ?_)
            · replace hf := o_pos c26 hf
              refine lv_iload_n (pc := 78) hx hb dX6_through_78 rfl (lv_at hl 2 rfl) ?_
              cases hf
              exact z_iret (pc := 79) hx hb hr hlocks Z rfl rfl dX6_through_79
            · replace hf := o_neg c26 hf
              exact hj56_17 H locs ls Z (lv_sub hl [0, 1, 2] rfl) hf
      exact hL38 1024 p1 (0 : Int32) H locs ls Z (lv_sub hl [2, 1, 0] rfl) hf
    · replace hf := o_neg c11 hf
      refine lv_iconst (pc := 32) (v := (0 : Int32)) hx hb dX6_through_32 (by decide) ?_
      cases hf
      exact z_iret (pc := 33) hx hb hr hlocks Z rfl rfl dX6_through_33
  refine lv_if_ne (pc := 17) (tgt := 24) hx hb dX6_through_17 (by decide) (fun c5 => ?_) (fun c5 => ?_)
  · replace hf := o_neg c5 hf
    refine lv_iconst (pc := 24) (v := (0 : Int32)) hx hb dX6_through_24 (by decide) ?_
    exact hj25_7 (0 : Int32) H locs ls Z (lv_sub hl [0, 1] rfl) hf
  · replace hf := o_pos c5 hf
    refine lv_iconst (pc := 20) (v := (1 : Int32)) hx hb dX6_through_20 (by decide) ?_
    refine lv_goto (pc := 21) (tgt := 25) hx hb dX6_through_21 (by decide) ?_
    exact hj25_7 (1 : Int32) H locs ls Z (lv_sub hl [0, 1] rfl) hf
