def W_X6_dearest (cA : Nat → ClassId) (h : Nat → Nat) (m_thrown : Int32) (m_bufferLength : Int32) (m_textLength : Int32) (m_position : Int32) (m_error : Int32) (m_errorAt : Int32) (m_errorOffset : Int32) (m_data : Nat → Int32) (m_undoDepth : Int32) (m_numberStart : Int32) (m_seen : Int32) (m_pages : Int32) : va_W := [(h 0, .inr (6, [.int m_thrown, .ref (h 1), .int m_bufferLength, .int m_textLength, .int m_position, .int m_error, .int m_errorAt, .int m_errorOffset, .ref (h 2), .ref (h 3), .ref (h 4), .int m_undoDepth, .int m_numberStart, .int m_seen, .ref (h 13), .ref (h 14), .ref (h 15), .ref (h 16), .int m_pages, .ref (h 17), .ref (h 18), .ref (h 19)])), (h 2, .inl (cA 0, 153, .inl m_data))]
def fX6_dearest_L39 (p1 : Int32) (x9 : Int32) (m_data : Nat → Int32) : Nat → Int32 → Int32 → Option (Int32 × Int32)
  | 0, _, _ => none
  | n0 + 1, x12, x13 => (if p1 < x13 then some (x12, x9) else o_bind (fX6_nextDearest x12 m_data) (fun x15 => o_let (x13 + (1 : Int32)) (fun x17 => (fX6_dearest_L39 p1 x9 m_data n0 x15 x17))))
def fX6_dearest (p1 : Int32) (m_thrown : Int32) (m_data : Nat → Int32) : Option (Int32 × Int32) := o_bind (fX6_sumOf (4 : Int32) m_data) (fun x1 => o_bind (fX6_in p1 (0 : Int32) (x1 - (1 : Int32))) (fun x3 => o_let (fun (x6 : Int32) => o_bind (fX6_fails x6 (1 : Int32) (0 : Int32)) (fun (x8, x9) => (if x8 = 0 then (fX6_dearest_L39 p1 x9 m_data 1024 (-1 : Int32) (0 : Int32)) else some ((0 : Int32), x9)))) (fun (j26_7 : Int32 → Option (Int32 × Int32)) => (if x3 = 0 then (j26_7 (1 : Int32)) else (j26_7 (0 : Int32))))))
theorem iw_X6_dearest_X6 : ∀ w ∈ u_ws RX6 TX6 22, w ∈ wsX6_dearest := z_inr [26, 27, 28, 29, 30, 31, 32, 33, 34, 35, 36, 37, 38, 39, 40, 41, 42, 43, 44, 45, 46, 47] rfl
set_option maxHeartbeats 4000000 in
set_option maxRecDepth 100000 in
theorem kX6_dearest (l : Launch) (D : va_G) (cA : Nat → ClassId) (h : Nat → Nat) (p1 : Int32) (m_thrown : Int32) (m_bufferLength : Int32) (m_textLength : Int32) (m_position : Int32) (m_error : Int32) (m_errorAt : Int32) (m_errorOffset : Int32) (m_data : Nat → Int32) (m_undoDepth : Int32) (m_numberStart : Int32) (m_seen : Int32) (m_pages : Int32) (u : Int32 × Int32) (hf : fX6_dearest p1 m_thrown m_data = some u) : zMi l yX6_dearest wsX6_dearest ({ frames := 3, cells := 0, slots := 0, locals := 66 } : Room) D (zTY cA) [.ref (h 0), .int p1] (W_X6_dearest cA h m_thrown m_bufferLength m_textLength m_position m_error m_errorAt m_errorOffset m_data m_undoDepth m_numberStart m_seen m_pages) (W_X6_dearest cA h (u.2) m_bufferLength m_textLength m_position m_error m_errorAt m_errorOffset m_data m_undoDepth m_numberStart m_seen m_pages) u.1 := by
  refine z_starti (cc := cX6_dearest) (maxL := 4) (ret := (some .int)) (by decide) rfl (Nat.le_of_ble_eq_true rfl) ?_
  intro p e s m args below meth c A hx hb hr hts hown hlocks hml hA Z ls hl
  replace hown : s.vm.findClass RX6 = some m.cls := hown
  replace hl : lv_has ls 4 [(0, .ref (h 0)), (1, .int p1)] := hl
  obtain ⟨H, hH⟩ : ∃ H, H = s.heap := ⟨_, rfl⟩
  rw [← hH] at Z ⊢
  clear hH
  obtain ⟨locs, hlc⟩ : ∃ q : List Loc, q = [] := ⟨_, rfl⟩
  rw [← hlc] at Z ⊢
  clear hlc
  refine lv_aload_n (pc := 0) hx hb dX6_dearest_0 rfl (lv_at hl 0 rfl) ?_
  refine lv_iconst (pc := 1) (v := (0 : Int32)) hx hb dX6_dearest_1 (by decide) ?_
  refine z_put (pc := 2) (ref := "LotSheetModel") (ci := 6) (C := RX6) (T := TX6) (N := 22) (W1 := (W_X6_dearest cA h (0 : Int32) m_bufferLength m_textLength m_position m_error m_errorAt m_errorOffset m_data m_undoDepth m_numberStart m_seen m_pages)) hx hb hts iw_X6_dearest_X6 tyX6 tyX6_ok nmX6 hown Z 0 rfl rfl 0 (by decide) (List.mem_of_getElem? (i := 1) rfl) rfl rfl rfl rfl (Nat.le_of_ble_eq_true rfl) dX6_dearest_2 rfl (fun H locs Z => ?_)
  refine lv_aload_n (pc := 5) hx hb dX6_dearest_5 rfl (lv_at hl 0 rfl) ?_
  refine lv_iload_n (pc := 6) hx hb dX6_dearest_6 rfl (lv_at hl 1 rfl) ?_
  refine lv_iconst (pc := 7) (v := (0 : Int32)) hx hb dX6_dearest_7 (by decide) ?_
  refine lv_aload_n (pc := 8) hx hb dX6_dearest_8 rfl (lv_at hl 0 rfl) ?_
  refine lv_iconst (pc := 9) (v := (4 : Int32)) hx hb dX6_dearest_9 (by decide) ?_
  obtain ⟨x1, q2, hf⟩ := o_bindE hf
  refine z_callVi (pc := 10) (As := [.int (4 : Int32)]) (rest := [.int (0 : Int32), .int p1, .ref (h 0)]) (Wc := (W_X6_sumOf cA (fun k => h ([0, 1, 2, 3, 4, 5, 6, 7, 8, 9, 10, 11, 12, 13, 14, 15, 16, 17, 18, 19].getD k 0)) (0 : Int32) m_bufferLength m_textLength m_position m_error m_errorAt m_errorOffset m_data m_undoDepth m_numberStart m_seen m_pages)) (W1 := (W_X6_sumOf cA (fun k => h ([0, 1, 2, 3, 4, 5, 6, 7, 8, 9, 10, 11, 12, 13, 14, 15, 16, 17, 18, 19].getD k 0)) (0 : Int32) m_bufferLength m_textLength m_position m_error m_errorAt m_errorOffset m_data m_undoDepth m_numberStart m_seen m_pages)) (W2 := (W_X6_dearest cA h (0 : Int32) m_bufferLength m_textLength m_position m_error m_errorAt m_errorOffset m_data m_undoDepth m_numberStart m_seen m_pages)) ⟨hx, hb, hml, hown, hts⟩ (kX6_sumOf l D cA (fun k => h ([0, 1, 2, 3, 4, 5, 6, 7, 8, 9, 10, 11, 12, 13, 14, 15, 16, 17, 18, 19].getD k 0)) (4 : Int32) (0 : Int32) m_bufferLength m_textLength m_position m_error m_errorAt m_errorOffset m_data m_undoDepth m_numberStart m_seen m_pages _ q2) (cwV 1 hts gX6_dearest_X6_sumOf rfl rfl rfl (by decide +kernel) ⟨Nat.le_of_ble_eq_true rfl, Nat.le_of_ble_eq_true rfl⟩) Z hA [0, 1] rfl (by decide) rfl (ci := 6) rfl rfl rfl rfl hl.1 rfl (Nat.le_of_ble_eq_true rfl) dX6_dearest_10 ⟨Nat.zero_le _, Nat.zero_le _⟩ [some 0, some 1] rfl ⟨rfl, rfl, rfl⟩ (fun H locs Z => ?_)
  refine lv_iconst (pc := 13) (v := (1 : Int32)) hx hb dX6_dearest_13 (by decide) ?_
  refine lv_isub (pc := 14) hx hb dX6_dearest_14 ?_
  obtain ⟨x3, q4, hf⟩ := o_bindE hf
  refine z_callSi (pc := 15) (As := [.int p1, .int (0 : Int32), .int (x1 - (1 : Int32))]) (rest := [.ref (h 0)]) (Wc := (W_X6_in cA (fun k => h ([0].getD k 0)))) (W1 := (W_X6_in cA (fun k => h ([0].getD k 0)))) (W2 := (W_X6_dearest cA h (0 : Int32) m_bufferLength m_textLength m_position m_error m_errorAt m_errorOffset m_data m_undoDepth m_numberStart m_seen m_pages)) ⟨hx, hb, hml, hown, hts⟩ (kX6_in l D cA (fun k => h ([0].getD k 0)) p1 (0 : Int32) (x1 - (1 : Int32)) _ q4) (va_cwS 3 hts gX6_dearest_X6_in rfl rfl rfl (by decide +kernel) ⟨Nat.le_of_ble_eq_true rfl, Nat.le_of_ble_eq_true rfl⟩) Z hA [] rfl (by decide) rfl rfl hl.1 rfl (Nat.le_of_ble_eq_true rfl) dX6_dearest_15 ⟨Nat.zero_le _, Nat.zero_le _⟩ [none, none] rfl ⟨rfl, rfl, rfl⟩ (fun H locs Z => ?_)
  obtain ⟨j26_7, ej26_7, hf⟩ := o_jnE hf
  have hj26_7 : ∀ (x6 : Int32) (H : Heap) (locs : List Loc) (ls : Array Slot), zw D (zTY cA) s A (W_X6_dearest cA h (0 : Int32) m_bufferLength m_textLength m_position m_error m_errorAt m_errorOffset m_data m_undoDepth m_numberStart m_seen m_pages) H locs → lv_has ls 4 [(0, .ref (h 0)), (1, .int p1)] → j26_7 x6 = some u → W p l e ({ frames := 3, cells := 0, slots := 0, locals := 66 } : Room) s m args below meth c H locs 0 0 (MQ below (zQi D (zTY cA) A (W_X6_dearest cA h (u.2) m_bufferLength m_textLength m_position m_error m_errorAt m_errorOffset m_data m_undoDepth m_numberStart m_seen m_pages) u.1) args s 0 0 A) (F0 m 26 ls [.int x6, .ref (h 0)]) := by
    intro x6 H locs ls Z hl hf
    rw [ej26_7] at hf
    refine lv_iconst (pc := 26) (v := (1 : Int32)) hx hb dX6_dearest_26 (by decide) ?_
    obtain ⟨⟨x8, x9⟩, q10, hf⟩ := o_bindE hf
    refine z_callVi (pc := 27) (As := [.int x6, .int (1 : Int32)]) (rest := []) (Wc := (W_X6_fails cA (fun k => h ([0, 1, 2, 3, 4, 5, 6, 7, 8, 9, 10, 11, 12, 13, 14, 15, 16, 17, 18, 19].getD k 0)) (0 : Int32) m_bufferLength m_textLength m_position m_error m_errorAt m_errorOffset m_undoDepth m_numberStart m_seen m_pages)) (W1 := (W_X6_fails cA (fun k => h ([0, 1, 2, 3, 4, 5, 6, 7, 8, 9, 10, 11, 12, 13, 14, 15, 16, 17, 18, 19].getD k 0)) x9 m_bufferLength m_textLength m_position m_error m_errorAt m_errorOffset m_undoDepth m_numberStart m_seen m_pages)) (W2 := (W_X6_dearest cA h x9 m_bufferLength m_textLength m_position m_error m_errorAt m_errorOffset m_data m_undoDepth m_numberStart m_seen m_pages)) ⟨hx, hb, hml, hown, hts⟩ (kX6_fails l D cA (fun k => h ([0, 1, 2, 3, 4, 5, 6, 7, 8, 9, 10, 11, 12, 13, 14, 15, 16, 17, 18, 19].getD k 0)) x6 (1 : Int32) (0 : Int32) m_bufferLength m_textLength m_position m_error m_errorAt m_errorOffset m_undoDepth m_numberStart m_seen m_pages _ q10) (cwV 2 hts gX6_dearest_X6_fails rfl rfl rfl (by decide +kernel) ⟨Nat.le_of_ble_eq_true rfl, Nat.le_of_ble_eq_true rfl⟩) Z hA [0] rfl (by decide) rfl (ci := 6) rfl rfl rfl rfl hl.1 rfl (Nat.le_of_ble_eq_true rfl) dX6_dearest_27 ⟨Nat.zero_le _, Nat.zero_le _⟩ [some 0, none] rfl ⟨rfl, rfl, rfl⟩ (fun H locs Z => ?_)
    refine lv_if_eq (pc := 30) (tgt := 35) hx hb dX6_dearest_30 (by decide) (fun c11 => ?_) (fun c11 => ?_)
    · replace hf := o_pos c11 hf
      refine lv_iconst (pc := 35) (v := (-1 : Int32)) hx hb dX6_dearest_35 (by decide) ?_
      refine lv_istore_n (pc := 36) (lv' := [(2, .int (-1 : Int32)), (0, .ref (h 0)), (1, .int p1)]) hx hb dX6_dearest_36 rfl hl (by decide) rfl (fun ls hl => ?_)
      refine lv_iconst (pc := 37) (v := (0 : Int32)) hx hb dX6_dearest_37 (by decide) ?_
      refine lv_istore_n (pc := 38) (lv' := [(3, .int (0 : Int32)), (2, .int (-1 : Int32)), (0, .ref (h 0)), (1, .int p1)]) hx hb dX6_dearest_38 rfl hl (by decide) rfl (fun ls hl => ?_)
      have hL39 : ∀ (n0 : Nat) (x12 : Int32) (x13 : Int32) (H : Heap) (locs : List Loc) (ls : Array Slot), zw D (zTY cA) s A (W_X6_dearest cA h x9 m_bufferLength m_textLength m_position m_error m_errorAt m_errorOffset m_data m_undoDepth m_numberStart m_seen m_pages) H locs → lv_has ls 4 [(0, .ref (h 0)), (1, .int p1), (2, .int x12), (3, .int x13)] → fX6_dearest_L39 p1 x9 m_data n0 x12 x13 = some u → W p l e ({ frames := 3, cells := 0, slots := 0, locals := 66 } : Room) s m args below meth c H locs 0 0 (MQ below (zQi D (zTY cA) A (W_X6_dearest cA h (u.2) m_bufferLength m_textLength m_position m_error m_errorAt m_errorOffset m_data m_undoDepth m_numberStart m_seen m_pages) u.1) args s 0 0 A) (F0 m 39 ls []) := by
        intro n0
        induction n0 with
        | zero => intro x12 x13 H locs ls Z hl hf; exact o_no hf
        | succ n0 ih0 =>
          intro x12 x13 H locs ls Z hl hf
          refine lv_iload_n (pc := 39) hx hb dX6_dearest_39 rfl (lv_at hl 3 rfl) ?_
          refine lv_iload_n (pc := 40) hx hb dX6_dearest_40 rfl (lv_at hl 1 rfl) ?_
          refine lv_icmp_gt (pc := 41) (tgt := 56) hx hb dX6_dearest_41 (by decide) (fun c14 => ?_) (fun c14 => ?_)
          · replace hf := o_pos c14 hf
            refine lv_iload_n (pc := 56) hx hb dX6_dearest_56 rfl (lv_at hl 2 rfl) ?_
            cases hf
            exact z_iret (pc := 57) hx hb hr hlocks Z rfl rfl dX6_dearest_57
          · replace hf := o_neg c14 hf
            refine lv_aload_n (pc := 44) hx hb dX6_dearest_44 rfl (lv_at hl 0 rfl) ?_
            refine lv_iload_n (pc := 45) hx hb dX6_dearest_45 rfl (lv_at hl 2 rfl) ?_
            obtain ⟨x15, q16, hf⟩ := o_bindE hf
            refine z_callVi (pc := 46) (As := [.int x12]) (rest := []) (Wc := (W_X6_nextDearest cA (fun k => h ([0, 1, 2, 3, 4, 5, 6, 7, 8, 9, 10, 11, 12, 13, 14, 15, 16, 17, 18, 19].getD k 0)) x9 m_bufferLength m_textLength m_position m_error m_errorAt m_errorOffset m_data m_undoDepth m_numberStart m_seen m_pages)) (W1 := (W_X6_nextDearest cA (fun k => h ([0, 1, 2, 3, 4, 5, 6, 7, 8, 9, 10, 11, 12, 13, 14, 15, 16, 17, 18, 19].getD k 0)) x9 m_bufferLength m_textLength m_position m_error m_errorAt m_errorOffset m_data m_undoDepth m_numberStart m_seen m_pages)) (W2 := (W_X6_dearest cA h x9 m_bufferLength m_textLength m_position m_error m_errorAt m_errorOffset m_data m_undoDepth m_numberStart m_seen m_pages)) ⟨hx, hb, hml, hown, hts⟩ (kX6_nextDearest l D cA (fun k => h ([0, 1, 2, 3, 4, 5, 6, 7, 8, 9, 10, 11, 12, 13, 14, 15, 16, 17, 18, 19].getD k 0)) x12 x9 m_bufferLength m_textLength m_position m_error m_errorAt m_errorOffset m_data m_undoDepth m_numberStart m_seen m_pages _ q16) (cwV 1 hts gX6_dearest_X6_nextDearest rfl rfl rfl (by decide +kernel) ⟨Nat.le_of_ble_eq_true rfl, Nat.le_of_ble_eq_true rfl⟩) Z hA [0, 1] rfl (by decide) rfl (ci := 6) rfl rfl rfl rfl hl.1 rfl (Nat.le_of_ble_eq_true rfl) dX6_dearest_46 ⟨Nat.zero_le _, Nat.zero_le _⟩ [some 0, some 1] rfl ⟨rfl, rfl, rfl⟩ (fun H locs Z => ?_)
            refine lv_istore_n (pc := 49) (lv' := [(2, .int x15), (0, .ref (h 0)), (1, .int p1), (3, .int x13)]) hx hb dX6_dearest_49 rfl hl (by decide) rfl (fun ls hl => ?_)
            obtain ⟨x17, ex17⟩ : ∃ y : Int32, y = (x13 + (1 : Int32)) := ⟨_, rfl⟩
            replace hf := o_letE ex17 hf
            refine lv_iinc (pc := 50) (v := x17) (lv' := [(3, .int x17), (2, .int x15), (0, .ref (h 0)), (1, .int p1)]) hx hb dX6_dearest_50 hl (k := 3) rfl (by rw [ex17]; rfl) (by decide) rfl (fun ls hl => ?_)
            refine lv_goto (pc := 53) (tgt := 39) hx hb dX6_dearest_53 (by decide) ?_
            exact ih0 x15 x17 H locs ls Z (lv_sub hl [2, 3, 1, 0] rfl) hf
      exact hL39 1024 (-1 : Int32) (0 : Int32) H locs ls Z (lv_sub hl [2, 3, 1, 0] rfl) hf
    · replace hf := o_neg c11 hf
      refine lv_iconst (pc := 33) (v := (0 : Int32)) hx hb dX6_dearest_33 (by decide) ?_
      cases hf
      exact z_iret (pc := 34) hx hb hr hlocks Z rfl rfl dX6_dearest_34
  refine lv_if_ne (pc := 18) (tgt := 25) hx hb dX6_dearest_18 (by decide) (fun c5 => ?_) (fun c5 => ?_)
  · replace hf := o_neg c5 hf
    refine lv_iconst (pc := 25) (v := (0 : Int32)) hx hb dX6_dearest_25 (by decide) ?_
    exact hj26_7 (0 : Int32) H locs ls Z (lv_sub hl [0, 1] rfl) hf
  · replace hf := o_pos c5 hf
    refine lv_iconst (pc := 21) (v := (1 : Int32)) hx hb dX6_dearest_21 (by decide) ?_
    refine lv_goto (pc := 22) (tgt := 26) hx hb dX6_dearest_22 (by decide) ?_
    exact hj26_7 (1 : Int32) H locs ls Z (lv_sub hl [0, 1] rfl) hf
