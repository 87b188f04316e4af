def W_X6_number (cA : Nat → ClassId) (h : Nat → Nat) (m_thrown : Int32) (m_buffer : Nat → Int32) (m_bufferLength : Int32) (m_textLength : Int32) (m_position : Int32) (m_error : Int32) (m_errorAt : Int32) (m_errorOffset : Int32) (m_undoDepth : Int32) (m_numberStart : Int32) (m_seen : Int32) (m_pages : Int32) : va_W := [(h 0, .inr (6, [.int m_thrown, .ref (h 1), .int m_bufferLength, .int m_textLength, .int m_position, .int m_error, .int m_errorAt, .int m_errorOffset, .ref (h 2), .ref (h 3), .ref (h 4), .int m_undoDepth, .int m_numberStart, .int m_seen, .ref (h 13), .ref (h 14), .ref (h 15), .ref (h 16), .int m_pages, .ref (h 17), .ref (h 18), .ref (h 19)])), (h 1, .inl (cA 0, 500, .inl m_buffer))]
def fX6_number_L41 (m_buffer : Nat → Int32) (m_textLength : Int32) (j90_12 : Int32 → Int32 → Option (Int32 × Int32 × Int32 × Int32 × Int32)) : Nat → Int32 → Int32 → Option (Int32 × Int32 × Int32 × Int32 × Int32)
  | 0, _, _ => none
  | n0 + 1, x25, x26 => o_bind (fX6_byteAt x26 m_buffer m_textLength) (fun x27 => o_bind (fX6_isDigit x27) (fun x29 => (if x29 = 0 then (j90_12 x25 x26) else o_bind (fX6_byteAt x26 m_buffer m_textLength) (fun x32 => o_bind (fX6_min (100000000 : Int32) ((((10 : Int32) * x25) + x32) - (48 : Int32))) (fun x34 => o_let (x26 + (1 : Int32)) (fun x36 => (fX6_number_L41 m_buffer m_textLength j90_12 n0 x34 x36)))))))
def fX6_number (p1 : Int32) (p2 : Int32) (m_buffer : Nat → Int32) (m_textLength : Int32) (m_position : Int32) (m_error : Int32) (m_errorAt : Int32) (m_numberStart : Int32) : Option (Int32 × Int32 × Int32 × Int32 × Int32) := o_bind (fX6_isGood m_error) (fun x1 => (if x1 = 0 then some ((0 : Int32), m_position, m_error, m_errorAt, m_numberStart) else o_bind (fX6_ahead m_buffer m_textLength m_position) (fun (x4, x5) => o_bind (fX6_isDigit x4) (fun x7 => (if x7 = 0 then o_bind (fX6_report (-2 : Int32) x5 m_error m_errorAt) (fun (x37, x38) => some ((0 : Int32), x5, x37, x38, m_numberStart)) else o_let (fun (x10 : Int32) (x11 : Int32) => o_bind (fX6_in x10 p1 p2) (fun x13 => o_let (fun (x16 : Int32) (x17 : Int32) => o_bind (fX6_isGood x16) (fun x19 => (if x19 = 0 then some ((0 : Int32), x11, x16, x17, x5) else some (x10, x11, x16, x17, x5)))) (fun (j109_18 : Int32 → Int32 → Option (Int32 × Int32 × Int32 × Int32 × Int32)) => (if x13 = 0 then o_bind (fX6_report (-3 : Int32) x5 m_error m_errorAt) (fun (x22, x23) => (j109_18 x22 x23)) else (j109_18 m_error m_errorAt))))) (fun (j90_12 : Int32 → Int32 → Option (Int32 × Int32 × Int32 × Int32 × Int32)) => (fX6_number_L41 m_buffer m_textLength j90_12 1024 (0 : Int32) x5)))))))
theorem iw_X6_number_X6 : ∀ w ∈ u_ws RX6 TX6 22, w ∈ wsX6_number := z_inr [34, 35, 36, 37, 38, 39, 40, 41, 42, 43, 44, 45, 46, 47, 48, 49, 50, 51, 52, 53, 54, 55] rfl
set_option maxHeartbeats 4000000 in
set_option maxRecDepth 100000 in
theorem kX6_number (l : Launch) (D : va_G) (cA : Nat → ClassId) (h : Nat → Nat) (p1 : Int32) (p2 : Int32) (m_thrown : Int32) (m_buffer : Nat → Int32) (m_bufferLength : Int32) (m_textLength : Int32) (m_position : Int32) (m_error : Int32) (m_errorAt : Int32) (m_errorOffset : Int32) (m_undoDepth : Int32) (m_numberStart : Int32) (m_seen : Int32) (m_pages : Int32) (u : Int32 × Int32 × Int32 × Int32 × Int32) (hf : fX6_number p1 p2 m_buffer m_textLength m_position m_error m_errorAt m_numberStart = some u) : zMi l yX6_number wsX6_number ({ frames := 2, cells := 0, slots := 0, locals := 42 } : Room) D (zTY cA) [.ref (h 0), .int p1, .int p2] (W_X6_number cA h m_thrown m_buffer m_bufferLength m_textLength m_position m_error m_errorAt m_errorOffset m_undoDepth m_numberStart m_seen m_pages) (W_X6_number cA h m_thrown m_buffer m_bufferLength m_textLength (u.2.1) (u.2.2.1) (u.2.2.2.1) m_errorOffset m_undoDepth (u.2.2.2.2) m_seen m_pages) u.1 := by
  refine z_starti (cc := cX6_number) (maxL := 4) (ret := (some .int)) (by decide) rfl (Nat.le_of_ble_eq_true rfl) ?_
  intro p e s m args below meth c A hx hb hr hts hown hlocks hml hA Z ls hl
  replace hown : s.vm.findClass RX6 = some m.cls := hown
  replace hl : lv_has ls 4 [(0, .ref (h 0)), (1, .int p1), (2, .int p2)] := hl
  obtain ⟨H, hH⟩ : ∃ H, H = s.heap := ⟨_, rfl⟩
  rw [← hH] at Z ⊢
  clear hH
  obtain ⟨locs, hlc⟩ : ∃ q : List Loc, q = [] := ⟨_, rfl⟩
  rw [← hlc] at Z ⊢
  clear hlc
  refine lv_aload_n (pc := 0) hx hb dX6_number_0 rfl (lv_at hl 0 rfl) ?_
  obtain ⟨x1, q2, hf⟩ := o_bindE hf
  refine z_callVi (pc := 1) (As := []) (rest := []) (Wc := (W_X6_isGood cA (fun k => h ([0, 1, 2, 3, 4, 5, 6, 7, 8, 9, 10, 11, 12, 13, 14, 15, 16, 17, 18, 19].getD k 0)) m_thrown m_bufferLength m_textLength m_position m_error m_errorAt m_errorOffset m_undoDepth m_numberStart m_seen m_pages)) (W1 := (W_X6_isGood cA (fun k => h ([0, 1, 2, 3, 4, 5, 6, 7, 8, 9, 10, 11, 12, 13, 14, 15, 16, 17, 18, 19].getD k 0)) m_thrown m_bufferLength m_textLength m_position m_error m_errorAt m_errorOffset m_undoDepth m_numberStart m_seen m_pages)) (W2 := (W_X6_number cA h m_thrown m_buffer m_bufferLength m_textLength m_position m_error m_errorAt m_errorOffset m_undoDepth m_numberStart m_seen m_pages)) ⟨hx, hb, hml, hown, hts⟩ (kX6_isGood l D cA (fun k => h ([0, 1, 2, 3, 4, 5, 6, 7, 8, 9, 10, 11, 12, 13, 14, 15, 16, 17, 18, 19].getD k 0)) m_thrown m_bufferLength m_textLength m_position m_error m_errorAt m_errorOffset m_undoDepth m_numberStart m_seen m_pages _ q2) (cwV 0 hts gX6_number_X6_isGood rfl rfl rfl (by decide +kernel) ⟨Nat.le_of_ble_eq_true rfl, Nat.le_of_ble_eq_true rfl⟩) Z hA [0] rfl (by decide) rfl (ci := 6) rfl rfl rfl rfl hl.1 rfl (Nat.le_of_ble_eq_true rfl) dX6_number_1 ⟨Nat.zero_le _, Nat.zero_le _⟩ [some 0, none] rfl ⟨rfl, rfl, rfl⟩ (fun H locs Z => ?_)
  refine lv_if_ne (pc := 4) (tgt := 9) hx hb dX6_number_4 (by decide) (fun c3 => ?_) (fun c3 => ?_)
  · replace hf := o_neg c3 hf
    refine lv_aload_n (pc := 9) hx hb dX6_number_9 rfl (lv_at hl 0 rfl) ?_
    obtain ⟨⟨x4, x5⟩, q6, hf⟩ := o_bindE hf
    refine z_callVi (pc := 10) (As := []) (rest := []) (Wc := (W_X6_ahead cA (fun k => h ([0, 1, 2, 3, 4, 5, 6, 7, 8, 9, 10, 11, 12, 13, 14, 15, 16, 17, 18, 19].getD k 0)) m_thrown m_buffer m_bufferLength m_textLength m_position m_error m_errorAt m_errorOffset m_undoDepth m_numberStart m_seen m_pages)) (W1 := (W_X6_ahead cA (fun k => h ([0, 1, 2, 3, 4, 5, 6, 7, 8, 9, 10, 11, 12, 13, 14, 15, 16, 17, 18, 19].getD k 0)) m_thrown m_buffer m_bufferLength m_textLength x5 m_error m_errorAt m_errorOffset m_undoDepth m_numberStart m_seen m_pages)) (W2 := (W_X6_number cA h m_thrown m_buffer m_bufferLength m_textLength x5 m_error m_errorAt m_errorOffset m_undoDepth m_numberStart m_seen m_pages)) ⟨hx, hb, hml, hown, hts⟩ (kX6_ahead l D cA (fun k => h ([0, 1, 2, 3, 4, 5, 6, 7, 8, 9, 10, 11, 12, 13, 14, 15, 16, 17, 18, 19].getD k 0)) m_thrown m_buffer m_bufferLength m_textLength m_position m_error m_errorAt m_errorOffset m_undoDepth m_numberStart m_seen m_pages _ q6) (cwV 0 hts gX6_number_X6_ahead rfl rfl rfl (by decide +kernel) ⟨Nat.le_of_ble_eq_true rfl, Nat.le_of_ble_eq_true rfl⟩) Z hA [0, 1] rfl (by decide) rfl (ci := 6) rfl rfl rfl rfl hl.1 rfl (Nat.le_of_ble_eq_true rfl) dX6_number_10 ⟨Nat.zero_le _, Nat.zero_le _⟩ [some 0, some 1] rfl ⟨rfl, rfl, rfl⟩ (fun H locs Z => ?_)
    obtain ⟨x7, q8, hf⟩ := o_bindE hf
    refine z_callSi (pc := 13) (As := [.int x4]) (rest := []) (Wc := (W_X6_isDigit cA (fun k => h ([0].getD k 0)))) (W1 := (W_X6_isDigit cA (fun k => h ([0].getD k 0)))) (W2 := (W_X6_number cA h m_thrown m_buffer m_bufferLength m_textLength x5 m_error m_errorAt m_errorOffset m_undoDepth m_numberStart m_seen m_pages)) ⟨hx, hb, hml, hown, hts⟩ (kX6_isDigit l D cA (fun k => h ([0].getD k 0)) x4 _ q8) (va_cwS 1 hts gX6_number_X6_isDigit rfl rfl rfl (by decide +kernel) ⟨Nat.le_of_ble_eq_true rfl, Nat.le_of_ble_eq_true rfl⟩) Z hA [] rfl (by decide) rfl rfl hl.1 rfl (Nat.le_of_ble_eq_true rfl) dX6_number_13 ⟨Nat.zero_le _, Nat.zero_le _⟩ [none, none] rfl ⟨rfl, rfl, rfl⟩ (fun H locs Z => ?_)
    refine lv_if_ne (pc := 16) (tgt := 31) hx hb dX6_number_16 (by decide) (fun c9 => ?_) (fun c9 => ?_)
    · replace hf := o_neg c9 hf
      refine lv_aload_n (pc := 31) hx hb dX6_number_31 rfl (lv_at hl 0 rfl) ?_
      refine lv_aload_n (pc := 32) hx hb dX6_number_32 rfl (lv_at hl 0 rfl) ?_
      refine z_get (pc := 33) (ref := "LotSheetModel") (ci := 6) (C := RX6) (T := TX6) (N := 22) hx hb hts iw_X6_number_X6 hown Z 0 rfl rfl 4 (by decide) (List.mem_of_getElem? (i := 1) rfl) rfl rfl dX6_number_33 ?_
      refine z_put (pc := 36) (ref := "LotSheetModel") (ci := 6) (C := RX6) (T := TX6) (N := 22) (W1 := (W_X6_number cA h m_thrown m_buffer m_bufferLength m_textLength x5 m_error m_errorAt m_errorOffset m_undoDepth x5 m_seen m_pages)) hx hb hts iw_X6_number_X6 tyX6 tyX6_ok nmX6 hown Z 0 rfl rfl 12 (by decide) (List.mem_of_getElem? (i := 2) rfl) rfl rfl rfl rfl (Nat.le_of_ble_eq_true rfl) dX6_number_36 rfl (fun H locs Z => ?_)
      refine lv_iconst (pc := 39) (v := (0 : Int32)) hx hb dX6_number_39 (by decide) ?_
      refine lv_istore_n (pc := 40) (lv' := [(3, .int (0 : Int32)), (0, .ref (h 0)), (1, .int p1), (2, .int p2)]) hx hb dX6_number_40 rfl hl (by decide) rfl (fun ls hl => ?_)
      obtain ⟨j90_12, ej90_12, hf⟩ := o_jnE hf
      have hj90_12 : ∀ (x10 : Int32) (x11 : Int32) (H : Heap) (locs : List Loc) (ls : Array Slot), zw D (zTY cA) s A (W_X6_number cA h m_thrown m_buffer m_bufferLength m_textLength x11 m_error m_errorAt m_errorOffset m_undoDepth x5 m_seen m_pages) H locs → lv_has ls 4 [(0, .ref (h 0)), (1, .int p1), (2, .int p2), (3, .int x10)] → j90_12 x10 x11 = some u → W p l e ({ frames := 2, cells := 0, slots := 0, locals := 42 } : Room) s m args below meth c H locs 0 0 (MQ below (zQi D (zTY cA) A (W_X6_number cA h m_thrown m_buffer m_bufferLength m_textLength (u.2.1) (u.2.2.1) (u.2.2.2.1) m_errorOffset m_undoDepth (u.2.2.2.2) m_seen m_pages) u.1) args s 0 0 A) (F0 m 90 ls []) := by
        intro x10 x11 H locs ls Z hl hf
        rw [ej90_12] at hf
        refine lv_iload_n (pc := 90) hx hb dX6_number_90 rfl (lv_at hl 3 rfl) ?_
        refine lv_iload_n (pc := 91) hx hb dX6_number_91 rfl (lv_at hl 1 rfl) ?_
        refine lv_iload_n (pc := 92) hx hb dX6_number_92 rfl (lv_at hl 2 rfl) ?_
        obtain ⟨x13, q14, hf⟩ := o_bindE hf
        refine z_callSi (pc := 93) (As := [.int x10, .int p1, .int p2]) (rest := []) (Wc := (W_X6_in cA (fun k => h ([0].getD k 0)))) (W1 := (W_X6_in cA (fun k => h ([0].getD k 0)))) (W2 := (W_X6_number cA h m_thrown m_buffer m_bufferLength m_textLength x11 m_error m_errorAt m_errorOffset m_undoDepth x5 m_seen m_pages)) ⟨hx, hb, hml, hown, hts⟩ (kX6_in l D cA (fun k => h ([0].getD k 0)) x10 p1 p2 _ q14) (va_cwS 3 hts gX6_number_X6_in rfl rfl rfl (by decide +kernel) ⟨Nat.le_of_ble_eq_true rfl, Nat.le_of_ble_eq_true rfl⟩) Z hA [] rfl (by decide) rfl rfl hl.1 rfl (Nat.le_of_ble_eq_true rfl) dX6_number_93 ⟨Nat.zero_le _, Nat.zero_le _⟩ [none, none] rfl ⟨rfl, rfl, rfl⟩ (fun H locs Z => ?_)
        obtain ⟨j109_18, ej109_18, hf⟩ := o_jnE hf
        have hj109_18 : ∀ (x16 : Int32) (x17 : Int32) (H : Heap) (locs : List Loc) (ls : Array Slot), zw D (zTY cA) s A (W_X6_number cA h m_thrown m_buffer m_bufferLength m_textLength x11 x16 x17 m_errorOffset m_undoDepth x5 m_seen m_pages) H locs → lv_has ls 4 [(0, .ref (h 0)), (3, .int x10)] → j109_18 x16 x17 = some u → W p l e ({ frames := 2, cells := 0, slots := 0, locals := 42 } : Room) s m args below meth c H locs 0 0 (MQ below (zQi D (zTY cA) A (W_X6_number cA h m_thrown m_buffer m_bufferLength m_textLength (u.2.1) (u.2.2.1) (u.2.2.2.1) m_errorOffset m_undoDepth (u.2.2.2.2) m_seen m_pages) u.1) args s 0 0 A) (F0 m 109 ls []) := by
          intro x16 x17 H locs ls Z hl hf
          rw [ej109_18] at hf
          refine lv_aload_n (pc := 109) hx hb dX6_number_109 rfl (lv_at hl 0 rfl) ?_
          obtain ⟨x19, q20, hf⟩ := o_bindE hf
          refine z_callVi (pc := 110) (As := []) (rest := []) (Wc := (W_X6_isGood cA (fun k => h ([0, 1, 2, 3, 4, 5, 6, 7, 8, 9, 10, 11, 12, 13, 14, 15, 16, 17, 18, 19].getD k 0)) m_thrown m_bufferLength m_textLength x11 x16 x17 m_errorOffset m_undoDepth x5 m_seen m_pages)) (W1 := (W_X6_isGood cA (fun k => h ([0, 1, 2, 3, 4, 5, 6, 7, 8, 9, 10, 11, 12, 13, 14, 15, 16, 17, 18, 19].getD k 0)) m_thrown m_bufferLength m_textLength x11 x16 x17 m_errorOffset m_undoDepth x5 m_seen m_pages)) (W2 := (W_X6_number cA h m_thrown m_buffer m_bufferLength m_textLength x11 x16 x17 m_errorOffset m_undoDepth x5 m_seen m_pages)) ⟨hx, hb, hml, hown, hts⟩ (kX6_isGood l D cA (fun k => h ([0, 1, 2, 3, 4, 5, 6, 7, 8, 9, 10, 11, 12, 13, 14, 15, 16, 17, 18, 19].getD k 0)) m_thrown m_bufferLength m_textLength x11 x16 x17 m_errorOffset m_undoDepth x5 m_seen m_pages _ q20) (cwV 0 hts gX6_number_X6_isGood rfl rfl rfl (by decide +kernel) ⟨Nat.le_of_ble_eq_true rfl, Nat.le_of_ble_eq_true rfl⟩) Z hA [0] rfl (by decide) rfl (ci := 6) rfl rfl rfl rfl hl.1 rfl (Nat.le_of_ble_eq_true rfl) dX6_number_110 ⟨Nat.zero_le _, Nat.zero_le _⟩ [some 0, none] rfl ⟨rfl, rfl, rfl⟩ (fun H locs Z => ?_)
          refine lv_if_eq (pc := 113) (tgt := 120) hx hb dX6_number_113 (by decide) (fun c21 => ?_) (fun c21 => ?_)
          · replace hf := o_pos c21 hf
            refine lv_iconst (pc := 120) (v := (0 : Int32)) hx hb dX6_number_120 (by decide) ?_
            cases hf
            exact z_iret (pc := 121) hx hb hr hlocks Z rfl rfl dX6_number_121
          · replace hf := o_neg c21 hf
            refine lv_iload_n (pc := 116) hx hb dX6_number_116 rfl (lv_at hl 1 rfl) ?_
            refine lv_goto (pc := 117) (tgt := 121) hx hb dX6_number_117 (by decide) ?_
            cases hf
            exact z_iret (pc := 121) hx hb hr hlocks Z rfl rfl dX6_number_121
        refine lv_if_ne (pc := 96) (tgt := 109) hx hb dX6_number_96 (by decide) (fun c15 => ?_) (fun c15 => ?_)
        · replace hf := o_neg c15 hf
          exact hj109_18 m_error m_errorAt H locs ls Z (lv_sub hl [0, 3] rfl) hf
        · replace hf := o_pos c15 hf
          refine lv_aload_n (pc := 99) hx hb dX6_number_99 rfl (lv_at hl 0 rfl) ?_
          refine lv_bipush (pc := 100) (v := (-3 : Int32)) hx hb dX6_number_100 (by decide) ?_
          refine lv_aload_n (pc := 102) hx hb dX6_number_102 rfl (lv_at hl 0 rfl) ?_
          refine z_get (pc := 103) (ref := "LotSheetModel") (ci := 6) (C := RX6) (T := TX6) (N := 22) hx hb hts iw_X6_number_X6 hown Z 0 rfl rfl 12 (by decide) (List.mem_of_getElem? (i := 2) rfl) rfl rfl dX6_number_103 ?_
          obtain ⟨⟨x22, x23⟩, q24, hf⟩ := o_bindE hf
          refine z_callVv (pc := 106) (As := [.int (-3 : Int32), .int x5]) (rest := []) (Wc := (W_X6_report cA (fun k => h ([0, 1, 2, 3, 4, 5, 6, 7, 8, 9, 10, 11, 12, 13, 14, 15, 16, 17, 18, 19].getD k 0)) m_thrown m_bufferLength m_textLength x11 m_error m_errorAt m_errorOffset m_undoDepth x5 m_seen m_pages)) (W1 := (W_X6_report cA (fun k => h ([0, 1, 2, 3, 4, 5, 6, 7, 8, 9, 10, 11, 12, 13, 14, 15, 16, 17, 18, 19].getD k 0)) m_thrown m_bufferLength m_textLength x11 x22 x23 m_errorOffset m_undoDepth x5 m_seen m_pages)) (W2 := (W_X6_number cA h m_thrown m_buffer m_bufferLength m_textLength x11 x22 x23 m_errorOffset m_undoDepth x5 m_seen m_pages)) ⟨hx, hb, hml, hown, hts⟩ (kX6_report l D cA (fun k => h ([0, 1, 2, 3, 4, 5, 6, 7, 8, 9, 10, 11, 12, 13, 14, 15, 16, 17, 18, 19].getD k 0)) (-3 : Int32) x5 m_thrown m_bufferLength m_textLength x11 m_error m_errorAt m_errorOffset m_undoDepth x5 m_seen m_pages _ q24) (cwV 2 hts gX6_number_X6_report rfl rfl rfl (by decide +kernel) ⟨Nat.le_of_ble_eq_true rfl, Nat.le_of_ble_eq_true rfl⟩) Z hA [0] rfl (by decide) rfl (ci := 6) rfl rfl rfl rfl hl.1 rfl (Nat.le_of_ble_eq_true rfl) dX6_number_106 ⟨Nat.zero_le _, Nat.zero_le _⟩ [some 0, none] rfl ⟨rfl, rfl, rfl⟩ (fun H locs Z => ?_)
          exact hj109_18 x22 x23 H locs ls Z (lv_sub hl [0, 3] rfl) hf
      have hL41 : ∀ (n0 : Nat) (x25 : Int32) (x26 : Int32) (H : Heap) (locs : List Loc) (ls : Array Slot), zw D (zTY cA) s A (W_X6_number cA h m_thrown m_buffer m_bufferLength m_textLength x26 m_error m_errorAt m_errorOffset m_undoDepth x5 m_seen m_pages) H locs → lv_has ls 4 [(0, .ref (h 0)), (1, .int p1), (2, .int p2), (3, .int x25)] → fX6_number_L41 m_buffer m_textLength j90_12 n0 x25 x26 = some u → W p l e ({ frames := 2, cells := 0, slots := 0, locals := 42 } : Room) s m args below meth c H locs 0 0 (MQ below (zQi D (zTY cA) A (W_X6_number cA h m_thrown m_buffer m_bufferLength m_textLength (u.2.1) (u.2.2.1) (u.2.2.2.1) m_errorOffset m_undoDepth (u.2.2.2.2) m_seen m_pages) u.1) args s 0 0 A) (F0 m 41 ls []) := by
        intro n0
        induction n0 with
        | zero => intro x25 x26 H locs ls Z hl hf; exact o_no hf
        | succ n0 ih0 =>
          intro x25 x26 H locs ls Z hl hf
          refine lv_aload_n (pc := 41) hx hb dX6_number_41 rfl (lv_at hl 0 rfl) ?_
          refine lv_aload_n (pc := 42) hx hb dX6_number_42 rfl (lv_at hl 0 rfl) ?_
          refine z_get (pc := 43) (ref := "LotSheetModel") (ci := 6) (C := RX6) (T := TX6) (N := 22) hx hb hts iw_X6_number_X6 hown Z 0 rfl rfl 4 (by decide) (List.mem_of_getElem? (i := 1) rfl) rfl rfl dX6_number_43 ?_
          obtain ⟨x27, q28, hf⟩ := o_bindE hf
          refine z_callVi (pc := 46) (As := [.int x26]) (rest := []) (Wc := (W_X6_byteAt cA (fun k => h ([0, 1, 2, 3, 4, 5, 6, 7, 8, 9, 10, 11, 12, 13, 14, 15, 16, 17, 18, 19].getD k 0)) m_thrown m_buffer m_bufferLength m_textLength x26 m_error m_errorAt m_errorOffset m_undoDepth x5 m_seen m_pages)) (W1 := (W_X6_byteAt cA (fun k => h ([0, 1, 2, 3, 4, 5, 6, 7, 8, 9, 10, 11, 12, 13, 14, 15, 16, 17, 18, 19].getD k 0)) m_thrown m_buffer m_bufferLength m_textLength x26 m_error m_errorAt m_errorOffset m_undoDepth x5 m_seen m_pages)) (W2 := (W_X6_number cA h m_thrown m_buffer m_bufferLength m_textLength x26 m_error m_errorAt m_errorOffset m_undoDepth x5 m_seen m_pages)) ⟨hx, hb, hml, hown, hts⟩ (kX6_byteAt l D cA (fun k => h ([0, 1, 2, 3, 4, 5, 6, 7, 8, 9, 10, 11, 12, 13, 14, 15, 16, 17, 18, 19].getD k 0)) x26 m_thrown m_buffer m_bufferLength m_textLength x26 m_error m_errorAt m_errorOffset m_undoDepth x5 m_seen m_pages _ q28) (cwV 1 hts gX6_number_X6_byteAt rfl rfl rfl (by decide +kernel) ⟨Nat.le_of_ble_eq_true rfl, Nat.le_of_ble_eq_true rfl⟩) Z hA [0, 1] rfl (by decide) rfl (ci := 6) rfl rfl rfl rfl hl.1 rfl (Nat.le_of_ble_eq_true rfl) dX6_number_46 ⟨Nat.zero_le _, Nat.zero_le _⟩ [some 0, some 1] rfl ⟨rfl, rfl, rfl⟩ (fun H locs Z => ?_)
          obtain ⟨x29, q30, hf⟩ := o_bindE hf
          refine z_callSi (pc := 49) (As := [.int x27]) (rest := []) (Wc := (W_X6_isDigit cA (fun k => h ([0].getD k 0)))) (W1 := (W_X6_isDigit cA (fun k => h ([0].getD k 0)))) (W2 := (W_X6_number cA h m_thrown m_buffer m_bufferLength m_textLength x26 m_error m_errorAt m_errorOffset m_undoDepth x5 m_seen m_pages)) ⟨hx, hb, hml, hown, hts⟩ (kX6_isDigit l D cA (fun k => h ([0].getD k 0)) x27 _ q30) (va_cwS 1 hts gX6_number_X6_isDigit rfl rfl rfl (by decide +kernel) ⟨Nat.le_of_ble_eq_true rfl, Nat.le_of_ble_eq_true rfl⟩) Z hA [] rfl (by decide) rfl rfl hl.1 rfl (Nat.le_of_ble_eq_true rfl) dX6_number_49 ⟨Nat.zero_le _, Nat.zero_le _⟩ [none, none] rfl ⟨rfl, rfl, rfl⟩ (fun H locs Z => ?_)
          refine lv_if_eq (pc := 52) (tgt := 90) hx hb dX6_number_52 (by decide) (fun c31 => ?_) (fun c31 => ?_)
          · replace hf := o_pos c31 hf
            exact hj90_12 x25 x26 H locs ls Z (lv_sub hl [0, 1, 2, 3] rfl) hf
          · replace hf := o_neg c31 hf
            refine lv_ldc (pc := 55) (v := (100000000 : Int32)) hx hb hown (hts _ (List.mem_of_getElem? (i := 3) rfl)) dX6_number_55 ?_
            refine lv_bipush (pc := 57) (v := (10 : Int32)) hx hb dX6_number_57 (by decide) ?_
            refine lv_iload_n (pc := 59) hx hb dX6_number_59 rfl (lv_at hl 3 rfl) ?_
            refine lv_imul (pc := 60) hx hb dX6_number_60 ?_
            refine lv_aload_n (pc := 61) hx hb dX6_number_61 rfl (lv_at hl 0 rfl) ?_
            refine lv_aload_n (pc := 62) hx hb dX6_number_62 rfl (lv_at hl 0 rfl) ?_
            refine z_get (pc := 63) (ref := "LotSheetModel") (ci := 6) (C := RX6) (T := TX6) (N := 22) hx hb hts iw_X6_number_X6 hown Z 0 rfl rfl 4 (by decide) (List.mem_of_getElem? (i := 1) rfl) rfl rfl dX6_number_63 ?_
            obtain ⟨x32, q33, hf⟩ := o_bindE hf
            refine z_callVi (pc := 66) (As := [.int x26]) (rest := [.int ((10 : Int32) * x25), .int (100000000 : Int32)]) (Wc := (W_X6_byteAt cA (fun k => h ([0, 1, 2, 3, 4, 5, 6, 7, 8, 9, 10, 11, 12, 13, 14, 15, 16, 17, 18, 19].getD k 0)) m_thrown m_buffer m_bufferLength m_textLength x26 m_error m_errorAt m_errorOffset m_undoDepth x5 m_seen m_pages)) (W1 := (W_X6_byteAt cA (fun k => h ([0, 1, 2, 3, 4, 5, 6, 7, 8, 9, 10, 11, 12, 13, 14, 15, 16, 17, 18, 19].getD k 0)) m_thrown m_buffer m_bufferLength m_textLength x26 m_error m_errorAt m_errorOffset m_undoDepth x5 m_seen m_pages)) (W2 := (W_X6_number cA h m_thrown m_buffer m_bufferLength m_textLength x26 m_error m_errorAt m_errorOffset m_undoDepth x5 m_seen m_pages)) ⟨hx, hb, hml, hown, hts⟩ (kX6_byteAt l D cA (fun k => h ([0, 1, 2, 3, 4, 5, 6, 7, 8, 9, 10, 11, 12, 13, 14, 15, 16, 17, 18, 19].getD k 0)) x26 m_thrown m_buffer m_bufferLength m_textLength x26 m_error m_errorAt m_errorOffset m_undoDepth x5 m_seen m_pages _ q33) (cwV 1 hts gX6_number_X6_byteAt rfl rfl rfl (by decide +kernel) ⟨Nat.le_of_ble_eq_true rfl, Nat.le_of_ble_eq_true rfl⟩) Z hA [0, 1] rfl (by decide) rfl (ci := 6) rfl rfl rfl rfl hl.1 rfl (Nat.le_of_ble_eq_true rfl) dX6_number_66 ⟨Nat.zero_le _, Nat.zero_le _⟩ [some 0, some 1] rfl ⟨rfl, rfl, rfl⟩ (fun H locs Z => ?_)
            refine lv_iadd (pc := 69) hx hb dX6_number_69 ?_
            refine lv_bipush (pc := 70) (v := (48 : Int32)) hx hb dX6_number_70 (by decide) ?_
            refine lv_isub (pc := 72) hx hb dX6_number_72 ?_
            obtain ⟨x34, q35, hf⟩ := o_bindE hf
            refine z_callSi (pc := 73) (As := [.int (100000000 : Int32), .int ((((10 : Int32) * x25) + x32) - (48 : Int32))]) (rest := []) (Wc := (W_X6_min cA (fun k => h ([0].getD k 0)))) (W1 := (W_X6_min cA (fun k => h ([0].getD k 0)))) (W2 := (W_X6_number cA h m_thrown m_buffer m_bufferLength m_textLength x26 m_error m_errorAt m_errorOffset m_undoDepth x5 m_seen m_pages)) ⟨hx, hb, hml, hown, hts⟩ (kX6_min l D cA (fun k => h ([0].getD k 0)) (100000000 : Int32) ((((10 : Int32) * x25) + x32) - (48 : Int32)) _ q35) (va_cwS 2 hts gX6_number_X6_min rfl rfl rfl (by decide +kernel) ⟨Nat.le_of_ble_eq_true rfl, Nat.le_of_ble_eq_true rfl⟩) Z hA [] rfl (by decide) rfl rfl hl.1 rfl (Nat.le_of_ble_eq_true rfl) dX6_number_73 ⟨Nat.zero_le _, Nat.zero_le _⟩ [none, none] rfl ⟨rfl, rfl, rfl⟩ (fun H locs Z => ?_)
            refine lv_istore_n (pc := 76) (lv' := [(3, .int x34), (0, .ref (h 0)), (1, .int p1), (2, .int p2)]) hx hb dX6_number_76 rfl hl (by decide) rfl (fun ls hl => ?_)
            refine lv_aload_n (pc := 77) hx hb dX6_number_77 rfl (lv_at hl 1 rfl) ?_
            refine lv_dup (pc := 78) hx hb dX6_number_78 rfl ?_
            refine z_get (pc := 79) (ref := "LotSheetModel") (ci := 6) (C := RX6) (T := TX6) (N := 22) hx hb hts iw_X6_number_X6 hown Z 0 rfl rfl 4 (by decide) (List.mem_of_getElem? (i := 1) rfl) rfl rfl dX6_number_79 ?_
            refine lv_iconst (pc := 82) (v := (1 : Int32)) hx hb dX6_number_82 (by decide) ?_
            refine lv_iadd (pc := 83) hx hb dX6_number_83 ?_
            refine lv_topi (fun x36 ex36 => ?_)
            replace hf := o_letE ex36 hf
            refine z_put (pc := 84) (ref := "LotSheetModel") (ci := 6) (C := RX6) (T := TX6) (N := 22) (W1 := (W_X6_number cA h m_thrown m_buffer m_bufferLength m_textLength x36 m_error m_errorAt m_errorOffset m_undoDepth x5 m_seen m_pages)) hx hb hts iw_X6_number_X6 tyX6 tyX6_ok nmX6 hown Z 0 rfl rfl 4 (by decide) (List.mem_of_getElem? (i := 1) rfl) rfl rfl rfl rfl (Nat.le_of_ble_eq_true rfl) dX6_number_84 rfl (fun H locs Z => ?_)
            refine lv_goto (pc := 87) (tgt := 41) hx hb dX6_number_87 (by decide) ?_
            exact ih0 x34 x36 H locs ls Z (lv_sub hl [1, 2, 3, 0] rfl) hf
      exact hL41 1024 (0 : Int32) x5 H locs ls Z (lv_sub hl [1, 2, 3, 0] rfl) hf
    · replace hf := o_pos c9 hf
      refine lv_aload_n (pc := 19) hx hb dX6_number_19 rfl (lv_at hl 0 rfl) ?_
      refine lv_bipush (pc := 20) (v := (-2 : Int32)) hx hb dX6_number_20 (by decide) ?_
      refine lv_aload_n (pc := 22) hx hb dX6_number_22 rfl (lv_at hl 0 rfl) ?_
      refine z_get (pc := 23) (ref := "LotSheetModel") (ci := 6) (C := RX6) (T := TX6) (N := 22) hx hb hts iw_X6_number_X6 hown Z 0 rfl rfl 4 (by decide) (List.mem_of_getElem? (i := 1) rfl) rfl rfl dX6_number_23 ?_
      obtain ⟨⟨x37, x38⟩, q39, hf⟩ := o_bindE hf
      refine z_callVv (pc := 26) (As := [.int (-2 : Int32), .int x5]) (rest := []) (Wc := (W_X6_report cA (fun k => h ([0, 1, 2, 3, 4, 5, 6, 7, 8, 9, 10, 11, 12, 13, 14, 15, 16, 17, 18, 19].getD k 0)) m_thrown m_bufferLength m_textLength x5 m_error m_errorAt m_errorOffset m_undoDepth m_numberStart m_seen m_pages)) (W1 := (W_X6_report cA (fun k => h ([0, 1, 2, 3, 4, 5, 6, 7, 8, 9, 10, 11, 12, 13, 14, 15, 16, 17, 18, 19].getD k 0)) m_thrown m_bufferLength m_textLength x5 x37 x38 m_errorOffset m_undoDepth m_numberStart m_seen m_pages)) (W2 := (W_X6_number cA h m_thrown m_buffer m_bufferLength m_textLength x5 x37 x38 m_errorOffset m_undoDepth m_numberStart m_seen m_pages)) ⟨hx, hb, hml, hown, hts⟩ (kX6_report l D cA (fun k => h ([0, 1, 2, 3, 4, 5, 6, 7, 8, 9, 10, 11, 12, 13, 14, 15, 16, 17, 18, 19].getD k 0)) (-2 : Int32) x5 m_thrown m_bufferLength m_textLength x5 m_error m_errorAt m_errorOffset m_undoDepth m_numberStart m_seen m_pages _ q39) (cwV 2 hts gX6_number_X6_report rfl rfl rfl (by decide +kernel) ⟨Nat.le_of_ble_eq_true rfl, Nat.le_of_ble_eq_true rfl⟩) Z hA [0] rfl (by decide) rfl (ci := 6) rfl rfl rfl rfl hl.1 rfl (Nat.le_of_ble_eq_true rfl) dX6_number_26 ⟨Nat.zero_le _, Nat.zero_le _⟩ [some 0, none] rfl ⟨rfl, rfl, rfl⟩ (fun H locs Z => ?_)
      refine lv_iconst (pc := 29) (v := (0 : Int32)) hx hb dX6_number_29 (by decide) ?_
      cases hf
      exact z_iret (pc := 30) hx hb hr hlocks Z rfl rfl dX6_number_30
  · replace hf := o_pos c3 hf
    refine lv_iconst (pc := 7) (v := (0 : Int32)) hx hb dX6_number_7 (by decide) ?_
    cases hf
    exact z_iret (pc := 8) hx hb hr hlocks Z rfl rfl dX6_number_8
