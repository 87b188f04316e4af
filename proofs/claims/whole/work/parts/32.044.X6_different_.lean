def W_X6_different_ (cA : Nat → ClassId) (h : Nat → Nat) (m_thrown : Int32) (m_bufferLength : Int32) (m_textLength : Int32) (m_position : Int32) (m_error : Int32) (m_errorAt : Int32) (m_errorOffset : Int32) (m_data : Nat → Int32) (m_undoDepth : Int32) (m_numberStart : Int32) (m_seen : Int32) (m_pages : Int32) : va_W := [(h 0, .inr (6, [.int m_thrown, .ref (h 1), .int m_bufferLength, .int m_textLength, .int m_position, .int m_error, .int m_errorAt, .int m_errorOffset, .ref (h 2), .ref (h 3), .ref (h 4), .int m_undoDepth, .int m_numberStart, .int m_seen, .ref (h 13), .ref (h 14), .ref (h 15), .ref (h 16), .int m_pages, .ref (h 17), .ref (h 18), .ref (h 19)])), (h 2, .inl (cA 0, 153, .inl m_data))]
def fX6_different__L39 (m_data : Nat → Int32) (p1 : Int32) (x9 : Int32) : Nat → Int32 → Option (Int32 × Int32)
  | 0, _ => none
  | n0 + 1, x12 => o_bind (fX6_differs x12 m_data) (fun x13 => (if x13 = 0 then o_let (x12 + (1 : Int32)) (fun x16 => (fX6_different__L39 m_data p1 x9 n0 x16)) else o_bind (fX6_placeOf x12 m_data) (fun x17 => (if x17 = p1 then some (x12, x9) else o_let (x12 + (1 : Int32)) (fun x20 => (fX6_different__L39 m_data p1 x9 n0 x20))))))
def fX6_different_ (p1 : Int32) (m_thrown : Int32) (m_data : Nat → Int32) : Option (Int32 × Int32) := o_bind (fX6_different m_data) (fun x1 => o_bind (fX6_in p1 (0 : Int32) (x1 - (1 : Int32))) (fun x3 => o_let (fun (x6 : Int32) => o_bind (fX6_fails x6 (1 : Int32) (0 : Int32)) (fun (x8, x9) => (if x8 = 0 then (fX6_different__L39 m_data p1 x9 1024 (0 : Int32)) else some ((0 : Int32), x9)))) (fun (j28_7 : Int32 → Option (Int32 × Int32)) => (if x3 = 0 then (j28_7 (1 : Int32)) else (j28_7 (0 : Int32))))))
theorem iw_X6_different__X6 : ∀ w ∈ u_ws RX6 TX6 22, w ∈ wsX6_different_ := z_inr [24, 25, 26, 27, 28, 29, 30, 31, 32, 33, 34, 35, 36, 37, 38, 39, 40, 41, 42, 43, 44, 45] rfl
set_option maxHeartbeats 4000000 in
set_option maxRecDepth 100000 in
theorem kX6_different_ (l : Launch) (D : va_G) (cA : Nat → ClassId) (h : Nat → Nat) (p1 : Int32) (m_thrown : Int32) (m_bufferLength : Int32) (m_textLength : Int32) (m_position : Int32) (m_error : Int32) (m_errorAt : Int32) (m_errorOffset : Int32) (m_data : Nat → Int32) (m_undoDepth : Int32) (m_numberStart : Int32) (m_seen : Int32) (m_pages : Int32) (u : Int32 × Int32) (hf : fX6_different_ p1 m_thrown m_data = some u) : zMi l yX6_different_ wsX6_different_ ({ frames := 3, cells := 0, slots := 0, locals := 64 } : Room) D (zTY cA) [.ref (h 0), .int p1] (W_X6_different_ cA h m_thrown m_bufferLength m_textLength m_position m_error m_errorAt m_errorOffset m_data m_undoDepth m_numberStart m_seen m_pages) (W_X6_different_ cA h (u.2) m_bufferLength m_textLength m_position m_error m_errorAt m_errorOffset m_data m_undoDepth m_numberStart m_seen m_pages) u.1 := by
  refine z_starti (cc := cX6_different_) (maxL := 3) (ret := (some .int)) (by decide) rfl (Nat.le_of_ble_eq_true rfl) ?_
  intro p e s m args below meth c A hx hb hr hts hown hlocks hml hA Z ls hl
  replace hown : s.vm.findClass RX6 = some m.cls := hown
  replace hl : lv_has ls 3 [(0, .ref (h 0)), (1, .int p1)] := hl
  obtain ⟨H, hH⟩ : ∃ H, H = s.heap := ⟨_, rfl⟩
  rw [← hH] at Z ⊢
  clear hH
  obtain ⟨locs, hlc⟩ : ∃ q : List Loc, q = [] := ⟨_, rfl⟩
  rw [← hlc] at Z ⊢
  clear hlc
  refine lv_aload_n (pc := 0) hx hb dX6_different__0 rfl (lv_at hl 0 rfl) ?_
  refine lv_iconst (pc := 1) (v := (0 : Int32)) hx hb dX6_different__1 (by decide) ?_
  refine z_put (pc := 2) (ref := "LotSheetModel") (ci := 6) (C := RX6) (T := TX6) (N := 22) (W1 := (W_X6_different_ cA h (0 : Int32) m_bufferLength m_textLength m_position m_error m_errorAt m_errorOffset m_data m_undoDepth m_numberStart m_seen m_pages)) hx hb hts iw_X6_different__X6 tyX6 tyX6_ok nmX6 hown Z 0 rfl rfl 0 (by decide) (List.mem_of_getElem? (i := 1) rfl) rfl rfl rfl rfl (Nat.le_of_ble_eq_true rfl) dX6_different__2 rfl (fun H locs Z => ?_)
  refine lv_aload_n (pc := 5) hx hb dX6_different__5 rfl (lv_at hl 0 rfl) ?_
  refine lv_iload_n (pc := 6) hx hb dX6_different__6 rfl (lv_at hl 1 rfl) ?_
  refine lv_iconst (pc := 7) (v := (0 : Int32)) hx hb dX6_different__7 (by decide) ?_
  refine lv_aload_n (pc := 8) hx hb dX6_different__8 rfl (lv_at hl 0 rfl) ?_
  refine z_get (pc := 9) (ref := "LotSheetModel") (ci := 6) (C := RX6) (T := TX6) (N := 22) hx hb hts iw_X6_different__X6 hown Z 0 rfl rfl 8 (by decide) (List.mem_of_getElem? (i := 2) rfl) rfl rfl dX6_different__9 ?_
  obtain ⟨x1, q2, hf⟩ := o_bindE hf
  refine z_callSi (pc := 12) (As := [.ref (h 2)]) (rest := [.int (0 : Int32), .int p1, .ref (h 0)]) (Wc := (W_X6_different cA (fun k => h ([2].getD k 0)) m_data)) (W1 := (W_X6_different cA (fun k => h ([2].getD k 0)) m_data)) (W2 := (W_X6_different_ cA h (0 : Int32) m_bufferLength m_textLength m_position m_error m_errorAt m_errorOffset m_data m_undoDepth m_numberStart m_seen m_pages)) ⟨hx, hb, hml, hown, hts⟩ (kX6_different l D cA (fun k => h ([2].getD k 0)) m_data _ q2) (va_cwS 1 hts gX6_different__X6_different rfl rfl rfl (by decide +kernel) ⟨Nat.le_of_ble_eq_true rfl, Nat.le_of_ble_eq_true rfl⟩) Z hA [1] rfl (by decide) rfl rfl hl.1 rfl (Nat.le_of_ble_eq_true rfl) dX6_different__12 ⟨Nat.zero_le _, Nat.zero_le _⟩ [none, some 0] rfl ⟨rfl, rfl, rfl⟩ (fun H locs Z => ?_)
  refine lv_iconst (pc := 15) (v := (1 : Int32)) hx hb dX6_different__15 (by decide) ?_
  refine lv_isub (pc := 16) hx hb dX6_different__16 ?_
  obtain ⟨x3, q4, hf⟩ := o_bindE hf
  refine z_callSi (pc := 17) (As := [.int p1, .int (0 : Int32), .int (x1 - (1 : Int32))]) (rest := [.ref (h 0)]) (Wc := (W_X6_in cA (fun k => h ([0].getD k 0)))) (W1 := (W_X6_in cA (fun k => h ([0].getD k 0)))) (W2 := (W_X6_different_ cA h (0 : Int32) m_bufferLength m_textLength m_position m_error m_errorAt m_errorOffset m_data m_undoDepth m_numberStart m_seen m_pages)) ⟨hx, hb, hml, hown, hts⟩ (kX6_in l D cA (fun k => h ([0].getD k 0)) p1 (0 : Int32) (x1 - (1 : Int32)) _ q4) (va_cwS 3 hts gX6_different__X6_in rfl rfl rfl (by decide +kernel) ⟨Nat.le_of_ble_eq_true rfl, Nat.le_of_ble_eq_true rfl⟩) Z hA [] rfl (by decide) rfl rfl hl.1 rfl (Nat.le_of_ble_eq_true rfl) dX6_different__17 ⟨Nat.zero_le _, Nat.zero_le _⟩ [none, none] rfl ⟨rfl, rfl, rfl⟩ (fun H locs Z => ?_)
  obtain ⟨j28_7, ej28_7, hf⟩ := o_jnE hf
  have hj28_7 : ∀ (x6 : Int32) (H : Heap) (locs : List Loc) (ls : Array Slot), zw D (zTY cA) s A (W_X6_different_ cA h (0 : Int32) m_bufferLength m_textLength m_position m_error m_errorAt m_errorOffset m_data m_undoDepth m_numberStart m_seen m_pages) H locs → lv_has ls 3 [(0, .ref (h 0)), (1, .int p1)] → j28_7 x6 = some u → W p l e ({ frames := 3, cells := 0, slots := 0, locals := 64 } : Room) s m args below meth c H locs 0 0 (MQ below (zQi D (zTY cA) A (W_X6_different_ cA h (u.2) m_bufferLength m_textLength m_position m_error m_errorAt m_errorOffset m_data m_undoDepth m_numberStart m_seen m_pages) u.1) args s 0 0 A) (F0 m 28 ls [.int x6, .ref (h 0)]) := by
    intro x6 H locs ls Z hl hf
    rw [ej28_7] at hf
    refine lv_iconst (pc := 28) (v := (1 : Int32)) hx hb dX6_different__28 (by decide) ?_
    obtain ⟨⟨x8, x9⟩, q10, hf⟩ := o_bindE hf
    refine z_callVi (pc := 29) (As := [.int x6, .int (1 : Int32)]) (rest := []) (Wc := (W_X6_fails cA (fun k => h ([0, 1, 2, 3, 4, 5, 6, 7, 8, 9, 10, 11, 12, 13, 14, 15, 16, 17, 18, 19].getD k 0)) (0 : Int32) m_bufferLength m_textLength m_position m_error m_errorAt m_errorOffset m_undoDepth m_numberStart m_seen m_pages)) (W1 := (W_X6_fails cA (fun k => h ([0, 1, 2, 3, 4, 5, 6, 7, 8, 9, 10, 11, 12, 13, 14, 15, 16, 17, 18, 19].getD k 0)) x9 m_bufferLength m_textLength m_position m_error m_errorAt m_errorOffset m_undoDepth m_numberStart m_seen m_pages)) (W2 := (W_X6_different_ cA h x9 m_bufferLength m_textLength m_position m_error m_errorAt m_errorOffset m_data m_undoDepth m_numberStart m_seen m_pages)) ⟨hx, hb, hml, hown, hts⟩ (kX6_fails l D cA (fun k => h ([0, 1, 2, 3, 4, 5, 6, 7, 8, 9, 10, 11, 12, 13, 14, 15, 16, 17, 18, 19].getD k 0)) x6 (1 : Int32) (0 : Int32) m_bufferLength m_textLength m_position m_error m_errorAt m_errorOffset m_undoDepth m_numberStart m_seen m_pages _ q10) (cwV 2 hts gX6_different__X6_fails rfl rfl rfl (by decide +kernel) ⟨Nat.le_of_ble_eq_true rfl, Nat.le_of_ble_eq_true rfl⟩) Z hA [0] rfl (by decide) rfl (ci := 6) rfl rfl rfl rfl hl.1 rfl (Nat.le_of_ble_eq_true rfl) dX6_different__29 ⟨Nat.zero_le _, Nat.zero_le _⟩ [some 0, none] rfl ⟨rfl, rfl, rfl⟩ (fun H locs Z => ?_)
    refine lv_if_eq (pc := 32) (tgt := 37) hx hb dX6_different__32 (by decide) (fun c11 => ?_) (fun c11 => ?_)
    · replace hf := o_pos c11 hf
      refine lv_iconst (pc := 37) (v := (0 : Int32)) hx hb dX6_different__37 (by decide) ?_
      refine lv_istore_n (pc := 38) (lv' := [(2, .int (0 : Int32)), (0, .ref (h 0)), (1, .int p1)]) hx hb dX6_different__38 rfl hl (by decide) rfl (fun ls hl => ?_)
      have hL39 : ∀ (n0 : Nat) (x12 : Int32) (H : Heap) (locs : List Loc) (ls : Array Slot), zw D (zTY cA) s A (W_X6_different_ cA h x9 m_bufferLength m_textLength m_position m_error m_errorAt m_errorOffset m_data m_undoDepth m_numberStart m_seen m_pages) H locs → lv_has ls 3 [(0, .ref (h 0)), (1, .int p1), (2, .int x12)] → fX6_different__L39 m_data p1 x9 n0 x12 = some u → W p l e ({ frames := 3, cells := 0, slots := 0, locals := 64 } : Room) s m args below meth c H locs 0 0 (MQ below (zQi D (zTY cA) A (W_X6_different_ cA h (u.2) m_bufferLength m_textLength m_position m_error m_errorAt m_errorOffset m_data m_undoDepth m_numberStart m_seen m_pages) u.1) args s 0 0 A) (F0 m 39 ls []) := by
        intro n0
        induction n0 with
        | zero => intro x12 H locs ls Z hl hf; exact o_no hf
        | succ n0 ih0 =>
          intro x12 H locs ls Z hl hf
          refine lv_aload_n (pc := 39) hx hb dX6_different__39 rfl (lv_at hl 0 rfl) ?_
          refine z_get (pc := 40) (ref := "LotSheetModel") (ci := 6) (C := RX6) (T := TX6) (N := 22) hx hb hts iw_X6_different__X6 hown Z 0 rfl rfl 8 (by decide) (List.mem_of_getElem? (i := 2) rfl) rfl rfl dX6_different__40 ?_
          refine lv_iload_n (pc := 43) hx hb dX6_different__43 rfl (lv_at hl 2 rfl) ?_
          obtain ⟨x13, q14, hf⟩ := o_bindE hf
          refine z_callSi (pc := 44) (As := [.ref (h 2), .int x12]) (rest := []) (Wc := (W_X6_differs cA (fun k => h ([2].getD k 0)) m_data)) (W1 := (W_X6_differs cA (fun k => h ([2].getD k 0)) m_data)) (W2 := (W_X6_different_ cA h x9 m_bufferLength m_textLength m_position m_error m_errorAt m_errorOffset m_data m_undoDepth m_numberStart m_seen m_pages)) ⟨hx, hb, hml, hown, hts⟩ (kX6_differs l D cA (fun k => h ([2].getD k 0)) x12 m_data _ q14) (va_cwS 2 hts gX6_different__X6_differs rfl rfl rfl (by decide +kernel) ⟨Nat.le_of_ble_eq_true rfl, Nat.le_of_ble_eq_true rfl⟩) Z hA [1] rfl (by decide) rfl rfl hl.1 rfl (Nat.le_of_ble_eq_true rfl) dX6_different__44 ⟨Nat.zero_le _, Nat.zero_le _⟩ [none, some 0] rfl ⟨rfl, rfl, rfl⟩ (fun H locs Z => ?_)
          refine lv_if_eq (pc := 47) (tgt := 59) hx hb dX6_different__47 (by decide) (fun c15 => ?_) (fun c15 => ?_)
          · replace hf := o_pos c15 hf
            obtain ⟨x16, ex16⟩ : ∃ y : Int32, y = (x12 + (1 : Int32)) := ⟨_, rfl⟩
            replace hf := o_letE ex16 hf
            refine lv_iinc (pc := 59) (v := x16) (lv' := [(2, .int x16), (0, .ref (h 0)), (1, .int p1)]) hx hb dX6_different__59 hl (k := 2) rfl (by rw [ex16]; rfl) (by decide) rfl (fun ls hl => ?_)
            refine lv_goto (pc := 62) (tgt := 39) hx hb dX6_different__62 (by decide) ?_
            exact ih0 x16 H locs ls Z (lv_sub hl [1, 2, 0] rfl) hf
          · replace hf := o_neg c15 hf
            refine lv_aload_n (pc := 50) hx hb dX6_different__50 rfl (lv_at hl 0 rfl) ?_
            refine lv_iload_n (pc := 51) hx hb dX6_different__51 rfl (lv_at hl 2 rfl) ?_
            obtain ⟨x17, q18, hf⟩ := o_bindE hf
            refine z_callVi (pc := 52) (As := [.int x12]) (rest := []) (Wc := (W_X6_placeOf cA (fun k => h ([0, 1, 2, 3, 4, 5, 6, 7, 8, 9, 10, 11, 12, 13, 14, 15, 16, 17, 18, 19].getD k 0)) x9 m_bufferLength m_textLength m_position m_error m_errorAt m_errorOffset m_data m_undoDepth m_numberStart m_seen m_pages)) (W1 := (W_X6_placeOf cA (fun k => h ([0, 1, 2, 3, 4, 5, 6, 7, 8, 9, 10, 11, 12, 13, 14, 15, 16, 17, 18, 19].getD k 0)) x9 m_bufferLength m_textLength m_position m_error m_errorAt m_errorOffset m_data m_undoDepth m_numberStart m_seen m_pages)) (W2 := (W_X6_different_ cA h x9 m_bufferLength m_textLength m_position m_error m_errorAt m_errorOffset m_data m_undoDepth m_numberStart m_seen m_pages)) ⟨hx, hb, hml, hown, hts⟩ (kX6_placeOf l D cA (fun k => h ([0, 1, 2, 3, 4, 5, 6, 7, 8, 9, 10, 11, 12, 13, 14, 15, 16, 17, 18, 19].getD k 0)) x12 x9 m_bufferLength m_textLength m_position m_error m_errorAt m_errorOffset m_data m_undoDepth m_numberStart m_seen m_pages _ q18) (cwV 1 hts gX6_different__X6_placeOf rfl rfl rfl (by decide +kernel) ⟨Nat.le_of_ble_eq_true rfl, Nat.le_of_ble_eq_true rfl⟩) Z hA [0, 1] rfl (by decide) rfl (ci := 6) rfl rfl rfl rfl hl.1 rfl (Nat.le_of_ble_eq_true rfl) dX6_different__52 ⟨Nat.zero_le _, Nat.zero_le _⟩ [some 0, some 1] rfl ⟨rfl, rfl, rfl⟩ (fun H locs Z => ?_)
            refine lv_iload_n (pc := 55) hx hb dX6_different__55 rfl (lv_at hl 1 rfl) ?_
            refine lv_icmp_eq (pc := 56) (tgt := 65) hx hb dX6_different__56 (by decide) (fun c19 => ?_) (fun c19 => ?_)
            · replace hf := o_pos c19 hf
              refine lv_iload_n (pc := 65) hx hb dX6_different__65 rfl (lv_at hl 2 rfl) ?_
              cases hf
              exact z_iret (pc := 66) hx hb hr hlocks Z rfl rfl dX6_different__66
            · replace hf := o_neg c19 hf
              obtain ⟨x20, ex20⟩ : ∃ y : Int32, y = (x12 + (1 : Int32)) := ⟨_, rfl⟩
              replace hf := o_letE ex20 hf
              refine lv_iinc (pc := 59) (v := x20) (lv' := [(2, .int x20), (0, .ref (h 0)), (1, .int p1)]) hx hb dX6_different__59 hl (k := 2) rfl (by rw [ex20]; rfl) (by decide) rfl (fun ls hl => ?_)
              refine lv_goto (pc := 62) (tgt := 39) hx hb dX6_different__62 (by decide) ?_
              exact ih0 x20 H locs ls Z (lv_sub hl [1, 2, 0] rfl) hf
      exact hL39 1024 (0 : Int32) H locs ls Z (lv_sub hl [1, 2, 0] rfl) hf
    · replace hf := o_neg c11 hf
      refine lv_iconst (pc := 35) (v := (0 : Int32)) hx hb dX6_different__35 (by decide) ?_
      cases hf
      exact z_iret (pc := 36) hx hb hr hlocks Z rfl rfl dX6_different__36
  refine lv_if_ne (pc := 20) (tgt := 27) hx hb dX6_different__20 (by decide) (fun c5 => ?_) (fun c5 => ?_)
  · replace hf := o_neg c5 hf
    refine lv_iconst (pc := 27) (v := (0 : Int32)) hx hb dX6_different__27 (by decide) ?_
    exact hj28_7 (0 : Int32) H locs ls Z (lv_sub hl [0, 1] rfl) hf
  · replace hf := o_pos c5 hf
    refine lv_iconst (pc := 23) (v := (1 : Int32)) hx hb dX6_different__23 (by decide) ?_
    refine lv_goto (pc := 24) (tgt := 28) hx hb dX6_different__24 (by decide) ?_
    exact hj28_7 (1 : Int32) H locs ls Z (lv_sub hl [0, 1] rfl) hf
