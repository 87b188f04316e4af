def W_X6_numbered (cA : Nat → ClassId) (h : Nat → Nat) (m_thrown : Int32) (m_bufferLength : Int32) (m_textLength : Int32) (m_position : Int32) (m_error : Int32) (m_errorAt : Int32) (m_errorOffset : Int32) (m_data : Nat → Int32) (m_undoDepth : Int32) (m_numberStart : Int32) (m_seen : Int32) (m_numberOf : Nat → Int32) (m_pageOf : Nat → Int32) (m_lineOf : Nat → Int32) (m_stands : Nat → Int32) (m_pages : Int32) : va_W := [(h 0, .inr (6, [.int m_thrown, .ref (h 1), .int m_bufferLength, .int m_textLength, .int m_position, .int m_error, .int m_errorAt, .int m_errorOffset, .ref (h 2), .ref (h 3), .ref (h 4), .int m_undoDepth, .int m_numberStart, .int m_seen, .ref (h 13), .ref (h 14), .ref (h 15), .ref (h 16), .int m_pages, .ref (h 17), .ref (h 18), .ref (h 19)])), (h 2, .inl (cA 0, 153, .inl m_data)), (h 13, .inl (cA 0, 24, .inl m_numberOf)), (h 14, .inl (cA 0, 24, .inl m_pageOf)), (h 15, .inl (cA 0, 24, .inl m_lineOf)), (h 16, .inl (cA 0, 960, .inl m_stands))]
def fX6_numbered_L11 (m_data : Nat → Int32) (j43_7 : Option (Int32 × Int32 × (Nat → Int32) × (Nat → Int32) × (Nat → Int32) × (Nat → Int32) × Int32)) (p1 : Int32) (a1 : Nat → Int32) (a2 : Nat → Int32) (a3 : Nat → Int32) (a4 : Nat → Int32) (x5 : Int32) : Nat → Int32 → Option (Int32 × Int32 × (Nat → Int32) × (Nat → Int32) × (Nat → Int32) × (Nat → Int32) × Int32)
  | 0, _ => none
  | n0 + 1, x11 => (if (m_data (1 : Int32).toNatClampNeg) ≤ x11 then j43_7 else (if p1 ≤ 0 then o_let (x11 + (1 : Int32)) (fun x14 => (fX6_numbered_L11 m_data j43_7 p1 a1 a2 a3 a4 x5 n0 x14)) else o_rd 24 x11 ((if (a1 x11.toNatClampNeg) = p1 then some (x11, (0 : Int32), a1, a2, a3, a4, x5) else o_let (x11 + (1 : Int32)) (fun x17 => (fX6_numbered_L11 m_data j43_7 p1 a1 a2 a3 a4 x5 n0 x17))))))
def fX6_numbered (p1 : Int32) (m_thrown : Int32) (m_data : Nat → Int32) (m_numberOf : Nat → Int32) (m_pageOf : Nat → Int32) (m_lineOf : Nat → Int32) (m_stands : Nat → Int32) (m_pages : Int32) : Option (Int32 × Int32 × (Nat → Int32) × (Nat → Int32) × (Nat → Int32) × (Nat → Int32) × Int32) := o_bind (fX6_lay m_data m_numberOf m_pageOf m_lineOf m_stands m_pages) (fun (a1, a2, a3, a4, x5) => o_let (o_bind (fX6_fails (1 : Int32) (1 : Int32) (0 : Int32)) (fun (x8, x9) => some ((0 : Int32), x9, a1, a2, a3, a4, x5))) (fun (j43_7 : Option (Int32 × Int32 × (Nat → Int32) × (Nat → Int32) × (Nat → Int32) × (Nat → Int32) × Int32)) => (fX6_numbered_L11 m_data j43_7 p1 a1 a2 a3 a4 x5 1024 (0 : Int32))))
theorem iw_X6_numbered_X6 : ∀ w ∈ u_ws RX6 TX6 22, w ∈ wsX6_numbered := z_inr [28, 29, 30, 31, 32, 33, 34, 35, 36, 37, 38, 39, 40, 41, 42, 43, 44, 45, 46, 47, 48, 49] rfl
set_option maxHeartbeats 4000000 in
set_option maxRecDepth 100000 in
theorem kX6_numbered (l : Launch) (D : va_G) (cA : Nat → ClassId) (h : Nat → Nat) (p1 : Int32) (m_thrown : Int32) (m_bufferLength : Int32) (m_textLength : Int32) (m_position : Int32) (m_error : Int32) (m_errorAt : Int32) (m_errorOffset : Int32) (m_data : Nat → Int32) (m_undoDepth : Int32) (m_numberStart : Int32) (m_seen : Int32) (m_numberOf : Nat → Int32) (m_pageOf : Nat → Int32) (m_lineOf : Nat → Int32) (m_stands : Nat → Int32) (m_pages : Int32) (u : Int32 × Int32 × (Nat → Int32) × (Nat → Int32) × (Nat → Int32) × (Nat → Int32) × Int32) (hf : fX6_numbered p1 m_thrown m_data m_numberOf m_pageOf m_lineOf m_stands m_pages = some u) : zMi l yX6_numbered wsX6_numbered ({ frames := 4, cells := 0, slots := 0, locals := 88 } : Room) D (zTY cA) [.ref (h 0), .int p1] (W_X6_numbered cA h m_thrown m_bufferLength m_textLength m_position m_error m_errorAt m_errorOffset m_data m_undoDepth m_numberStart m_seen m_numberOf m_pageOf m_lineOf m_stands m_pages) (W_X6_numbered cA h (u.2.1) m_bufferLength m_textLength m_position m_error m_errorAt m_errorOffset m_data m_undoDepth m_numberStart m_seen (u.2.2.1) (u.2.2.2.1) (u.2.2.2.2.1) (u.2.2.2.2.2.1) (u.2.2.2.2.2.2)) u.1 := by
  refine z_starti (cc := cX6_numbered) (maxL := 3) (ret := (some .int)) (by decide) rfl (Nat.le_of_ble_eq_true rfl) ?_
  intro p e s m args below meth c A hx hb hr hts hown hlocks hml hA Z ls hl
  replace hown : s.vm.findClass RX6 = some m.cls := hown
  replace hl : lv_has ls 3 [(0, .ref (h 0)), (1, .int p1)] := hl
  obtain ⟨H, hH⟩ : ∃ H, H = s.heap := ⟨_, rfl⟩
  rw [← hH] at Z ⊢
  clear hH
  obtain ⟨locs, hlc⟩ : ∃ q : List Loc, q = [] := ⟨_, rfl⟩
  rw [← hlc] at Z ⊢
  clear hlc
  refine lv_aload_n (pc := 0) hx hb dX6_numbered_0 rfl (lv_at hl 0 rfl) ?_
  refine lv_iconst (pc := 1) (v := (0 : Int32)) hx hb dX6_numbered_1 (by decide) ?_
  refine z_put (pc := 2) (ref := "LotSheetModel") (ci := 6) (C := RX6) (T := TX6) (N := 22) (W1 := (W_X6_numbered cA h (0 : Int32) m_bufferLength m_textLength m_position m_error m_errorAt m_errorOffset m_data m_undoDepth m_numberStart m_seen m_numberOf m_pageOf m_lineOf m_stands m_pages)) hx hb hts iw_X6_numbered_X6 tyX6 tyX6_ok nmX6 hown Z 0 rfl rfl 0 (by decide) (List.mem_of_getElem? (i := 1) rfl) rfl rfl rfl rfl (Nat.le_of_ble_eq_true rfl) dX6_numbered_2 rfl (fun H locs Z => ?_)
  refine lv_aload_n (pc := 5) hx hb dX6_numbered_5 rfl (lv_at hl 0 rfl) ?_
  obtain ⟨⟨a1, a2, a3, a4, x5⟩, q6, hf⟩ := o_bindE hf
  refine z_callVv (pc := 6) (As := []) (rest := []) (Wc := (W_X6_lay cA (fun k => h ([0, 1, 2, 3, 4, 5, 6, 7, 8, 9, 10, 11, 12, 13, 14, 15, 16, 17, 18, 19].getD k 0)) (0 : Int32) m_bufferLength m_textLength m_position m_error m_errorAt m_errorOffset m_data m_undoDepth m_numberStart m_seen m_numberOf m_pageOf m_lineOf m_stands m_pages)) (W1 := (W_X6_lay cA (fun k => h ([0, 1, 2, 3, 4, 5, 6, 7, 8, 9, 10, 11, 12, 13, 14, 15, 16, 17, 18, 19].getD k 0)) (0 : Int32) m_bufferLength m_textLength m_position m_error m_errorAt m_errorOffset m_data m_undoDepth m_numberStart m_seen a1 a2 a3 a4 x5)) (W2 := (W_X6_numbered cA h (0 : Int32) m_bufferLength m_textLength m_position m_error m_errorAt m_errorOffset m_data m_undoDepth m_numberStart m_seen a1 a2 a3 a4 x5)) ⟨hx, hb, hml, hown, hts⟩ (kX6_lay l D cA (fun k => h ([0, 1, 2, 3, 4, 5, 6, 7, 8, 9, 10, 11, 12, 13, 14, 15, 16, 17, 18, 19].getD k 0)) (0 : Int32) m_bufferLength m_textLength m_position m_error m_errorAt m_errorOffset m_data m_undoDepth m_numberStart m_seen m_numberOf m_pageOf m_lineOf m_stands m_pages _ q6) (cwV 0 hts gX6_numbered_X6_lay rfl rfl rfl (by decide +kernel) ⟨Nat.le_of_ble_eq_true rfl, Nat.le_of_ble_eq_true rfl⟩) Z hA [0, 1, 2, 3, 4, 5] rfl (by decide) rfl (ci := 6) rfl rfl rfl rfl hl.1 rfl (Nat.le_of_ble_eq_true rfl) dX6_numbered_6 ⟨Nat.zero_le _, Nat.zero_le _⟩ [some 0, some 1, some 2, some 3, some 4, some 5] rfl ⟨rfl, rfl, rfl, rfl, rfl, rfl, rfl⟩ (fun H locs Z => ?_)
  refine lv_iconst (pc := 9) (v := (0 : Int32)) hx hb dX6_numbered_9 (by decide) ?_
  refine lv_istore_n (pc := 10) (lv' := [(2, .int (0 : Int32)), (0, .ref (h 0)), (1, .int p1)]) hx hb dX6_numbered_10 rfl hl (by decide) rfl (fun ls hl => ?_)
  obtain ⟨j43_7, ej43_7, hf⟩ := o_jnE hf
  have hj43_7 : ∀ (H : Heap) (locs : List Loc) (ls : Array Slot), zw D (zTY cA) s A (W_X6_numbered cA h (0 : Int32) m_bufferLength m_textLength m_position m_error m_errorAt m_errorOffset m_data m_undoDepth m_numberStart m_seen a1 a2 a3 a4 x5) H locs → lv_has ls 3 [(0, .ref (h 0))] → j43_7 = some u → W p l e ({ frames := 4, cells := 0, slots := 0, locals := 88 } : Room) s m args below meth c H locs 0 0 (MQ below (zQi D (zTY cA) A (W_X6_numbered cA h (u.2.1) m_bufferLength m_textLength m_position m_error m_errorAt m_errorOffset m_data m_undoDepth m_numberStart m_seen (u.2.2.1) (u.2.2.2.1) (u.2.2.2.2.1) (u.2.2.2.2.2.1) (u.2.2.2.2.2.2)) u.1) args s 0 0 A) (F0 m 43 ls []) := by
    intro H locs ls Z hl hf
    rw [ej43_7] at hf
    refine lv_aload_n (pc := 43) hx hb dX6_numbered_43 rfl (lv_at hl 0 rfl) ?_
    refine lv_iconst (pc := 44) (v := (1 : Int32)) hx hb dX6_numbered_44 (by decide) ?_
    refine lv_iconst (pc := 45) (v := (1 : Int32)) hx hb dX6_numbered_45 (by decide) ?_
    obtain ⟨⟨x8, x9⟩, q10, hf⟩ := o_bindE hf
    refine z_callVi (pc := 46) (As := [.int (1 : Int32), .int (1 : Int32)]) (rest := []) (Wc := (W_X6_fails cA (fun k => h ([0, 1, 2, 3, 4, 5, 6, 7, 8, 9, 10, 11, 12, 13, 14, 15, 16, 17, 18, 19].getD k 0)) (0 : Int32) m_bufferLength m_textLength m_position m_error m_errorAt m_errorOffset m_undoDepth m_numberStart m_seen x5)) (W1 := (W_X6_fails cA (fun k => h ([0, 1, 2, 3, 4, 5, 6, 7, 8, 9, 10, 11, 12, 13, 14, 15, 16, 17, 18, 19].getD k 0)) x9 m_bufferLength m_textLength m_position m_error m_errorAt m_errorOffset m_undoDepth m_numberStart m_seen x5)) (W2 := (W_X6_numbered cA h x9 m_bufferLength m_textLength m_position m_error m_errorAt m_errorOffset m_data m_undoDepth m_numberStart m_seen a1 a2 a3 a4 x5)) ⟨hx, hb, hml, hown, hts⟩ (kX6_fails l D cA (fun k => h ([0, 1, 2, 3, 4, 5, 6, 7, 8, 9, 10, 11, 12, 13, 14, 15, 16, 17, 18, 19].getD k 0)) (1 : Int32) (1 : Int32) (0 : Int32) m_bufferLength m_textLength m_position m_error m_errorAt m_errorOffset m_undoDepth m_numberStart m_seen x5 _ q10) (cwV 2 hts gX6_numbered_X6_fails rfl rfl rfl (by decide +kernel) ⟨Nat.le_of_ble_eq_true rfl, Nat.le_of_ble_eq_true rfl⟩) Z hA [0] rfl (by decide) rfl (ci := 6) rfl rfl rfl rfl hl.1 rfl (Nat.le_of_ble_eq_true rfl) dX6_numbered_46 ⟨Nat.zero_le _, Nat.zero_le _⟩ [some 0, none, none, none, none, none] rfl ⟨rfl, rfl, rfl, rfl, rfl, rfl, rfl⟩ (fun H locs Z => ?_)
    refine lv_pop (pc := 49) hx hb dX6_numbered_49 rfl ?_
    refine lv_iconst (pc := 50) (v := (0 : Int32)) hx hb dX6_numbered_50 (by decide) ?_
    cases hf
    exact z_iret (pc := 51) hx hb hr hlocks Z rfl rfl dX6_numbered_51
  have hL11 : ∀ (n0 : Nat) (x11 : Int32) (H : Heap) (locs : List Loc) (ls : Array Slot), zw D (zTY cA) s A (W_X6_numbered cA h (0 : Int32) m_bufferLength m_textLength m_position m_error m_errorAt m_errorOffset m_data m_undoDepth m_numberStart m_seen a1 a2 a3 a4 x5) H locs → lv_has ls 3 [(0, .ref (h 0)), (1, .int p1), (2, .int x11)] → fX6_numbered_L11 m_data j43_7 p1 a1 a2 a3 a4 x5 n0 x11 = some u → W p l e ({ frames := 4, cells := 0, slots := 0, locals := 88 } : Room) s m args below meth c H locs 0 0 (MQ below (zQi D (zTY cA) A (W_X6_numbered cA h (u.2.1) m_bufferLength m_textLength m_position m_error m_errorAt m_errorOffset m_data m_undoDepth m_numberStart m_seen (u.2.2.1) (u.2.2.2.1) (u.2.2.2.2.1) (u.2.2.2.2.2.1) (u.2.2.2.2.2.2)) u.1) args s 0 0 A) (F0 m 11 ls []) := by
    intro n0
    induction n0 with
    | zero => intro x11 H locs ls Z hl hf; exact o_no hf
    | succ n0 ih0 =>
      intro x11 H locs ls Z hl hf
      refine lv_iload_n (pc := 11) hx hb dX6_numbered_11 rfl (lv_at hl 2 rfl) ?_
      refine lv_aload_n (pc := 12) hx hb dX6_numbered_12 rfl (lv_at hl 0 rfl) ?_
      refine z_get (pc := 13) (ref := "LotSheetModel") (ci := 6) (C := RX6) (T := TX6) (N := 22) hx hb hts iw_X6_numbered_X6 hown Z 0 rfl rfl 8 (by decide) (List.mem_of_getElem? (i := 2) rfl) rfl rfl dX6_numbered_13 ?_
      refine lv_iconst (pc := 16) (v := (1 : Int32)) hx hb dX6_numbered_16 (by decide) ?_
      refine z_iald (pc := 17) hx hb Z 1 0 rfl rfl (show ¬ ((1 : Int32) < 0 ∨ 153 ≤ (1 : Int32).toNatClampNeg) by decide) dX6_numbered_17 ?_
      refine lv_icmp_ge (pc := 18) (tgt := 43) hx hb dX6_numbered_18 (by decide) (fun c12 => ?_) (fun c12 => ?_)
      · replace hf := o_pos c12 hf
        exact hj43_7 H locs ls Z (lv_sub hl [0] rfl) hf
      · replace hf := o_neg c12 hf
        refine lv_iload_n (pc := 21) hx hb dX6_numbered_21 rfl (lv_at hl 1 rfl) ?_
        refine lv_if_le (pc := 22) (tgt := 37) hx hb dX6_numbered_22 (by decide) (fun c13 => ?_) (fun c13 => ?_)
        · replace hf := o_pos c13 hf
          obtain ⟨x14, ex14⟩ : ∃ y : Int32, y = (x11 + (1 : Int32)) := ⟨_, rfl⟩
          replace hf := o_letE ex14 hf
          refine lv_iinc (pc := 37) (v := x14) (lv' := [(2, .int x14), (0, .ref (h 0)), (1, .int p1)]) hx hb dX6_numbered_37 hl (k := 2) rfl (by rw [ex14]; rfl) (by decide) rfl (fun ls hl => ?_)
          refine lv_goto (pc := 40) (tgt := 11) hx hb dX6_numbered_40 (by decide) ?_
          exact ih0 x14 H locs ls Z (lv_sub hl [1, 2, 0] rfl) hf
        · replace hf := o_neg c13 hf
          refine lv_aload_n (pc := 25) hx hb dX6_numbered_25 rfl (lv_at hl 0 rfl) ?_
          refine z_get (pc := 26) (ref := "LotSheetModel") (ci := 6) (C := RX6) (T := TX6) (N := 22) hx hb hts iw_X6_numbered_X6 hown Z 0 rfl rfl 14 (by decide) (List.mem_of_getElem? (i := 3) rfl) rfl rfl dX6_numbered_26 ?_
          refine lv_iload_n (pc := 29) hx hb dX6_numbered_29 rfl (lv_at hl 2 rfl) ?_
          obtain ⟨i15, hf⟩ := o_rdE hf
          refine z_iald (pc := 30) hx hb Z 2 0 rfl rfl i15 dX6_numbered_30 ?_
          refine lv_iload_n (pc := 31) hx hb dX6_numbered_31 rfl (lv_at hl 1 rfl) ?_
          refine lv_icmp_ne (pc := 32) (tgt := 37) hx hb dX6_numbered_32 (by decide) (fun c16 => ?_) (fun c16 => ?_)
          · replace hf := o_neg c16 hf
            obtain ⟨x17, ex17⟩ : ∃ y : Int32, y = (x11 + (1 : Int32)) := ⟨_, rfl⟩
            replace hf := o_letE ex17 hf
            refine lv_iinc (pc := 37) (v := x17) (lv' := [(2, .int x17), (0, .ref (h 0)), (1, .int p1)]) hx hb dX6_numbered_37 hl (k := 2) rfl (by rw [ex17]; rfl) (by decide) rfl (fun ls hl => ?_)
            refine lv_goto (pc := 40) (tgt := 11) hx hb dX6_numbered_40 (by decide) ?_
            exact ih0 x17 H locs ls Z (lv_sub hl [1, 2, 0] rfl) hf
          · replace hf := o_pos c16 hf
            refine lv_iload_n (pc := 35) hx hb dX6_numbered_35 rfl (lv_at hl 2 rfl) ?_
            cases hf
            exact z_iret (pc := 36) hx hb hr hlocks Z rfl rfl dX6_numbered_36
  exact hL11 1024 (0 : Int32) H locs ls Z (lv_sub hl [1, 2, 0] rfl) hf
