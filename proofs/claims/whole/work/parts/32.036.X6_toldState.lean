def W_X6_toldState (cA : Nat → ClassId) (h : Nat → Nat) (m_thrown : Int32) (m_bufferLength : Int32) (m_textLength : Int32) (m_position : Int32) (m_error : Int32) (m_errorAt : Int32) (m_errorOffset : Int32) (m_data : Nat → Int32) (m_undoDepth : Int32) (m_numberStart : Int32) (m_seen : Int32) (m_pageOf : Nat → Int32) (m_pages : Int32) : va_W := [(h 0, .inr (6, [.int m_thrown, .ref (h 1), .int m_bufferLength, .int m_textLength, .int m_position, .int m_error, .int m_errorAt, .int m_errorOffset, .ref (h 2), .ref (h 3), .ref (h 4), .int m_undoDepth, .int m_numberStart, .int m_seen, .ref (h 13), .ref (h 14), .ref (h 15), .ref (h 16), .int m_pages, .ref (h 17), .ref (h 18), .ref (h 19)])), (h 2, .inl (cA 0, 153, .inl m_data)), (h 14, .inl (cA 0, 24, .inl m_pageOf))]
def fX6_toldState (p1 : Int32) (m_data : Nat → Int32) (m_pageOf : Nat → Int32) (m_pages : Int32) : Option (Int32) := (if p1 = (0 : Int32) then some ((m_data (0 : Int32).toNatClampNeg)) else if p1 = (1 : Int32) then some ((m_data (1 : Int32).toNatClampNeg)) else if p1 = (2 : Int32) then o_bind (fX6_sumOf (3 : Int32) m_data) (fun x4 => some (x4)) else if p1 = (3 : Int32) then o_bind (fX6_sumOf (4 : Int32) m_data) (fun x7 => some (x7)) else if p1 = (4 : Int32) then o_bind (fX6_different m_data) (fun x10 => some (x10)) else if p1 = (5 : Int32) then o_bind (fX6_sumOf (5 : Int32) m_data) (fun x13 => some (x13)) else if p1 = (6 : Int32) then some (m_pages) else if p1 = (7 : Int32) then some ((((m_pages + (4 : Int32)) - (1 : Int32)) / (4 : Int32))) else if p1 = (8 : Int32) then some ((m_data (2 : Int32).toNatClampNeg)) else if p1 = (9 : Int32) then o_bind (fX6_wantedEstimates m_data) (fun x19 => some (x19)) else if p1 = (10 : Int32) then o_bind (fX6_blanks m_data m_pageOf m_pages) (fun x22 => some (x22)) else some ((m_data (3 : Int32).toNatClampNeg)))
theorem iw_X6_toldState_X6 : ∀ w ∈ u_ws RX6 TX6 22, w ∈ wsX6_toldState := z_inr [34, 35, 36, 37, 38, 39, 40, 41, 42, 43, 44, 45, 46, 47, 48, 49, 50, 51, 52, 53, 54, 55] rfl
set_option maxHeartbeats 4000000 in
set_option maxRecDepth 100000 in
theorem kX6_toldState (l : Launch) (D : va_G) (cA : Nat → ClassId) (h : Nat → Nat) (p1 : Int32) (m_thrown : Int32) (m_bufferLength : Int32) (m_textLength : Int32) (m_position : Int32) (m_error : Int32) (m_errorAt : Int32) (m_errorOffset : Int32) (m_data : Nat → Int32) (m_undoDepth : Int32) (m_numberStart : Int32) (m_seen : Int32) (m_pageOf : Nat → Int32) (m_pages : Int32) (u : Int32) (hf : fX6_toldState p1 m_data m_pageOf m_pages = some u) : zMi l yX6_toldState wsX6_toldState ({ frames := 4, cells := 0, slots := 0, locals := 91 } : Room) D (zTY cA) [.ref (h 0), .int p1] (W_X6_toldState cA h m_thrown m_bufferLength m_textLength m_position m_error m_errorAt m_errorOffset m_data m_undoDepth m_numberStart m_seen m_pageOf m_pages) (W_X6_toldState cA h m_thrown m_bufferLength m_textLength m_position m_error m_errorAt m_errorOffset m_data m_undoDepth m_numberStart m_seen m_pageOf m_pages) u := by
  refine z_starti (cc := cX6_toldState) (maxL := 2) (ret := (some .int)) (by decide) rfl (Nat.le_of_ble_eq_true rfl) ?_
  intro p e s m args below meth c A hx hb hr hts hown hlocks hml hA Z ls hl
  replace hown : s.vm.findClass RX6 = some m.cls := hown
  replace hl : lv_has ls 2 [(0, .ref (h 0)), (1, .int p1)] := hl
  obtain ⟨H, hH⟩ : ∃ H, H = s.heap := ⟨_, rfl⟩
  rw [← hH] at Z ⊢
  clear hH
  obtain ⟨locs, hlc⟩ : ∃ q : List Loc, q = [] := ⟨_, rfl⟩
  rw [← hlc] at Z ⊢
  clear hlc
  refine lv_iload_n (pc := 0) hx hb dX6_toldState_0 rfl (lv_at hl 1 rfl) ?_
  by_cases c1 : p1 = (0 : Int32)
  · replace hf := o_pos c1 hf
    refine lv_tableIn (pc := 1) (tgt := 60) hx hb dX6_toldState_1 (by rw [c1]; decide) (by rw [c1]; decide) (by rw [c1]; rfl) (by decide) ?_
    refine lv_aload_n (pc := 60) hx hb dX6_toldState_60 rfl (lv_at hl 0 rfl) ?_
    refine z_get (pc := 61) (ref := "LotSheetModel") (ci := 6) (C := RX6) (T := TX6) (N := 22) hx hb hts iw_X6_toldState_X6 hown Z 0 rfl rfl 8 (by decide) (List.mem_of_getElem? (i := 1) rfl) rfl rfl dX6_toldState_61 ?_
    refine lv_iconst (pc := 64) (v := (0 : Int32)) hx hb dX6_toldState_64 (by decide) ?_
    refine z_iald (pc := 65) hx hb Z 1 0 rfl rfl (show ¬ ((0 : Int32) < 0 ∨ 153 ≤ (0 : Int32).toNatClampNeg) by decide) dX6_toldState_65 ?_
    cases hf
    exact z_iret (pc := 66) hx hb hr hlocks Z rfl rfl dX6_toldState_66
  · replace hf := o_neg c1 hf
    by_cases c2 : p1 = (1 : Int32)
    · replace hf := o_pos c2 hf
      refine lv_tableIn (pc := 1) (tgt := 67) hx hb dX6_toldState_1 (by rw [c2]; decide) (by rw [c2]; decide) (by rw [c2]; rfl) (by decide) ?_
      refine lv_aload_n (pc := 67) hx hb dX6_toldState_67 rfl (lv_at hl 0 rfl) ?_
      refine z_get (pc := 68) (ref := "LotSheetModel") (ci := 6) (C := RX6) (T := TX6) (N := 22) hx hb hts iw_X6_toldState_X6 hown Z 0 rfl rfl 8 (by decide) (List.mem_of_getElem? (i := 1) rfl) rfl rfl dX6_toldState_68 ?_
      refine lv_iconst (pc := 71) (v := (1 : Int32)) hx hb dX6_toldState_71 (by decide) ?_
      refine z_iald (pc := 72) hx hb Z 1 0 rfl rfl (show ¬ ((1 : Int32) < 0 ∨ 153 ≤ (1 : Int32).toNatClampNeg) by decide) dX6_toldState_72 ?_
      cases hf
      exact z_iret (pc := 73) hx hb hr hlocks Z rfl rfl dX6_toldState_73
    · replace hf := o_neg c2 hf
      by_cases c3 : p1 = (2 : Int32)
      · replace hf := o_pos c3 hf
        refine lv_tableIn (pc := 1) (tgt := 74) hx hb dX6_toldState_1 (by rw [c3]; decide) (by rw [c3]; decide) (by rw [c3]; rfl) (by decide) ?_
        refine lv_aload_n (pc := 74) hx hb dX6_toldState_74 rfl (lv_at hl 0 rfl) ?_
        refine lv_iconst (pc := 75) (v := (3 : Int32)) hx hb dX6_toldState_75 (by decide) ?_
        obtain ⟨x4, q5, hf⟩ := o_bindE hf
        refine z_callVi (pc := 76) (As := [.int (3 : Int32)]) (rest := []) (Wc := (W_X6_sumOf cA (fun k => h ([0, 1, 2, 3, 4, 5, 6, 7, 8, 9, 10, 11, 12, 13, 14, 15, 16, 17, 18, 19].getD k 0)) m_thrown m_bufferLength m_textLength m_position m_error m_errorAt m_errorOffset m_data m_undoDepth m_numberStart m_seen m_pages)) (W1 := (W_X6_sumOf cA (fun k => h ([0, 1, 2, 3, 4, 5, 6, 7, 8, 9, 10, 11, 12, 13, 14, 15, 16, 17, 18, 19].getD k 0)) m_thrown m_bufferLength m_textLength m_position m_error m_errorAt m_errorOffset m_data m_undoDepth m_numberStart m_seen m_pages)) (W2 := (W_X6_toldState cA h m_thrown m_bufferLength m_textLength m_position m_error m_errorAt m_errorOffset m_data m_undoDepth m_numberStart m_seen m_pageOf m_pages)) ⟨hx, hb, hml, hown, hts⟩ (kX6_sumOf l D cA (fun k => h ([0, 1, 2, 3, 4, 5, 6, 7, 8, 9, 10, 11, 12, 13, 14, 15, 16, 17, 18, 19].getD k 0)) (3 : Int32) m_thrown m_bufferLength m_textLength m_position m_error m_errorAt m_errorOffset m_data m_undoDepth m_numberStart m_seen m_pages _ q5) (cwV 1 hts gX6_toldState_X6_sumOf rfl rfl rfl (by decide +kernel) ⟨Nat.le_of_ble_eq_true rfl, Nat.le_of_ble_eq_true rfl⟩) Z hA [0, 1] rfl (by decide) rfl (ci := 6) rfl rfl rfl rfl hl.1 rfl (Nat.le_of_ble_eq_true rfl) dX6_toldState_76 ⟨Nat.zero_le _, Nat.zero_le _⟩ [some 0, some 1, none] rfl ⟨rfl, rfl, rfl, rfl⟩ (fun H locs Z => ?_)
        cases hf
        exact z_iret (pc := 79) hx hb hr hlocks Z rfl rfl dX6_toldState_79
      · replace hf := o_neg c3 hf
        by_cases c6 : p1 = (3 : Int32)
        · replace hf := o_pos c6 hf
          refine lv_tableIn (pc := 1) (tgt := 80) hx hb dX6_toldState_1 (by rw [c6]; decide) (by rw [c6]; decide) (by rw [c6]; rfl) (by decide) ?_
          refine lv_aload_n (pc := 80) hx hb dX6_toldState_80 rfl (lv_at hl 0 rfl) ?_
          refine lv_iconst (pc := 81) (v := (4 : Int32)) hx hb dX6_toldState_81 (by decide) ?_
          obtain ⟨x7, q8, hf⟩ := o_bindE hf
          refine z_callVi (pc := 82) (As := [.int (4 : Int32)]) (rest := []) (Wc := (W_X6_sumOf cA (fun k => h ([0, 1, 2, 3, 4, 5, 6, 7, 8, 9, 10, 11, 12, 13, 14, 15, 16, 17, 18, 19].getD k 0)) m_thrown m_bufferLength m_textLength m_position m_error m_errorAt m_errorOffset m_data m_undoDepth m_numberStart m_seen m_pages)) (W1 := (W_X6_sumOf cA (fun k => h ([0, 1, 2, 3, 4, 5, 6, 7, 8, 9, 10, 11, 12, 13, 14, 15, 16, 17, 18, 19].getD k 0)) m_thrown m_bufferLength m_textLength m_position m_error m_errorAt m_errorOffset m_data m_undoDepth m_numberStart m_seen m_pages)) (W2 := (W_X6_toldState cA h m_thrown m_bufferLength m_textLength m_position m_error m_errorAt m_errorOffset m_data m_undoDepth m_numberStart m_seen m_pageOf m_pages)) ⟨hx, hb, hml, hown, hts⟩ (kX6_sumOf l D cA (fun k => h ([0, 1, 2, 3, 4, 5, 6, 7, 8, 9, 10, 11, 12, 13, 14, 15, 16, 17, 18, 19].getD k 0)) (4 : Int32) m_thrown m_bufferLength m_textLength m_position m_error m_errorAt m_errorOffset m_data m_undoDepth m_numberStart m_seen m_pages _ q8) (cwV 1 hts gX6_toldState_X6_sumOf rfl rfl rfl (by decide +kernel) ⟨Nat.le_of_ble_eq_true rfl, Nat.le_of_ble_eq_true rfl⟩) Z hA [0, 1] rfl (by decide) rfl (ci := 6) rfl rfl rfl rfl hl.1 rfl (Nat.le_of_ble_eq_true rfl) dX6_toldState_82 ⟨Nat.zero_le _, Nat.zero_le _⟩ [some 0, some 1, none] rfl ⟨rfl, rfl, rfl, rfl⟩ (fun H locs Z => ?_)
          cases hf
          exact z_iret (pc := 85) hx hb hr hlocks Z rfl rfl dX6_toldState_85
        · replace hf := o_neg c6 hf
          by_cases c9 : p1 = (4 : Int32)
          · replace hf := o_pos c9 hf
            refine lv_tableIn (pc := 1) (tgt := 86) hx hb dX6_toldState_1 (by rw [c9]; decide) (by rw [c9]; decide) (by rw [c9]; rfl) (by decide) ?_
            refine lv_aload_n (pc := 86) hx hb dX6_toldState_86 rfl (lv_at hl 0 rfl) ?_
            refine z_get (pc := 87) (ref := "LotSheetModel") (ci := 6) (C := RX6) (T := TX6) (N := 22) hx hb hts iw_X6_toldState_X6 hown Z 0 rfl rfl 8 (by decide) (List.mem_of_getElem? (i := 1) rfl) rfl rfl dX6_toldState_87 ?_
            obtain ⟨x10, q11, hf⟩ := o_bindE hf
            refine z_callSi (pc := 90) (As := [.ref (h 2)]) (rest := []) (Wc := (W_X6_different cA (fun k => h ([2].getD k 0)) m_data)) (W1 := (W_X6_different cA (fun k => h ([2].getD k 0)) m_data)) (W2 := (W_X6_toldState cA h m_thrown m_bufferLength m_textLength m_position m_error m_errorAt m_errorOffset m_data m_undoDepth m_numberStart m_seen m_pageOf m_pages)) ⟨hx, hb, hml, hown, hts⟩ (kX6_different l D cA (fun k => h ([2].getD k 0)) m_data _ q11) (va_cwS 1 hts gX6_toldState_X6_different rfl rfl rfl (by decide +kernel) ⟨Nat.le_of_ble_eq_true rfl, Nat.le_of_ble_eq_true rfl⟩) Z hA [1] rfl (by decide) rfl rfl hl.1 rfl (Nat.le_of_ble_eq_true rfl) dX6_toldState_90 ⟨Nat.zero_le _, Nat.zero_le _⟩ [none, some 0, none] rfl ⟨rfl, rfl, rfl, rfl⟩ (fun H locs Z => ?_)
            cases hf
            exact z_iret (pc := 93) hx hb hr hlocks Z rfl rfl dX6_toldState_93
          · replace hf := o_neg c9 hf
            by_cases c12 : p1 = (5 : Int32)
            · replace hf := o_pos c12 hf
              refine lv_tableIn (pc := 1) (tgt := 94) hx hb dX6_toldState_1 (by rw [c12]; decide) (by rw [c12]; decide) (by rw [c12]; rfl) (by decide) ?_
              refine lv_aload_n (pc := 94) hx hb dX6_toldState_94 rfl (lv_at hl 0 rfl) ?_
              refine lv_iconst (pc := 95) (v := (5 : Int32)) hx hb dX6_toldState_95 (by decide) ?_
              obtain ⟨x13, q14, hf⟩ := o_bindE hf
              refine z_callVi (pc := 96) (As := [.int (5 : Int32)]) (rest := []) (Wc := (W_X6_sumOf cA (fun k => h ([0, 1, 2, 3, 4, 5, 6, 7, 8, 9, 10, 11, 12, 13, 14, 15, 16, 17, 18, 19].getD k 0)) m_thrown m_bufferLength m_textLength m_position m_error m_errorAt m_errorOffset m_data m_undoDepth m_numberStart m_seen m_pages)) (W1 := (W_X6_sumOf cA (fun k => h ([0, 1, 2, 3, 4, 5, 6, 7, 8, 9, 10, 11, 12, 13, 14, 15, 16, 17, 18, 19].getD k 0)) m_thrown m_bufferLength m_textLength m_position m_error m_errorAt m_errorOffset m_data m_undoDepth m_numberStart m_seen m_pages)) (W2 := (W_X6_toldState cA h m_thrown m_bufferLength m_textLength m_position m_error m_errorAt m_errorOffset m_data m_undoDepth m_numberStart m_seen m_pageOf m_pages)) ⟨hx, hb, hml, hown, hts⟩ (kX6_sumOf l D cA (fun k => h ([0, 1, 2, 3, 4, 5, 6, 7, 8, 9, 10, 11, 12, 13, 14, 15, 16, 17, 18, 19].getD k 0)) (5 : Int32) m_thrown m_bufferLength m_textLength m_position m_error m_errorAt m_errorOffset m_data m_undoDepth m_numberStart m_seen m_pages _ q14) (cwV 1 hts gX6_toldState_X6_sumOf rfl rfl rfl (by decide +kernel) ⟨Nat.le_of_ble_eq_true rfl, Nat.le_of_ble_eq_true rfl⟩) Z hA [0, 1] rfl (by decide) rfl (ci := 6) rfl rfl rfl rfl hl.1 rfl (Nat.le_of_ble_eq_true rfl) dX6_toldState_96 ⟨Nat.zero_le _, Nat.zero_le _⟩ [some 0, some 1, none] rfl ⟨rfl, rfl, rfl, rfl⟩ (fun H locs Z => ?_)
              cases hf
              exact z_iret (pc := 99) hx hb hr hlocks Z rfl rfl dX6_toldState_99
            · replace hf := o_neg c12 hf
              by_cases c15 : p1 = (6 : Int32)
              · replace hf := o_pos c15 hf
                refine lv_tableIn (pc := 1) (tgt := 100) hx hb dX6_toldState_1 (by rw [c15]; decide) (by rw [c15]; decide) (by rw [c15]; rfl) (by decide) ?_
                refine lv_aload_n (pc := 100) hx hb dX6_toldState_100 rfl (lv_at hl 0 rfl) ?_
                refine z_get (pc := 101) (ref := "LotSheetModel") (ci := 6) (C := RX6) (T := TX6) (N := 22) hx hb hts iw_X6_toldState_X6 hown Z 0 rfl rfl 18 (by decide) (List.mem_of_getElem? (i := 2) rfl) rfl rfl dX6_toldState_101 ?_
                cases hf
                exact z_iret (pc := 104) hx hb hr hlocks Z rfl rfl dX6_toldState_104
              · replace hf := o_neg c15 hf
                by_cases c16 : p1 = (7 : Int32)
                · replace hf := o_pos c16 hf
                  refine lv_tableIn (pc := 1) (tgt := 105) hx hb dX6_toldState_1 (by rw [c16]; decide) (by rw [c16]; decide) (by rw [c16]; rfl) (by decide) ?_
                  refine lv_aload_n (pc := 105) hx hb dX6_toldState_105 rfl (lv_at hl 0 rfl) ?_
                  refine z_get (pc := 106) (ref := "LotSheetModel") (ci := 6) (C := RX6) (T := TX6) (N := 22) hx hb hts iw_X6_toldState_X6 hown Z 0 rfl rfl 18 (by decide) (List.mem_of_getElem? (i := 2) rfl) rfl rfl dX6_toldState_106 ?_
                  refine lv_iconst (pc := 109) (v := (4 : Int32)) hx hb dX6_toldState_109 (by decide) ?_
                  refine lv_iadd (pc := 110) hx hb dX6_toldState_110 ?_
                  refine lv_iconst (pc := 111) (v := (1 : Int32)) hx hb dX6_toldState_111 (by decide) ?_
                  refine lv_isub (pc := 112) hx hb dX6_toldState_112 ?_
                  refine lv_iconst (pc := 113) (v := (4 : Int32)) hx hb dX6_toldState_113 (by decide) ?_
                  refine lv_idiv (pc := 114) hx hb dX6_toldState_114 (by decide) ?_
                  cases hf
                  exact z_iret (pc := 115) hx hb hr hlocks Z rfl rfl dX6_toldState_115
                · replace hf := o_neg c16 hf
                  by_cases c17 : p1 = (8 : Int32)
                  · replace hf := o_pos c17 hf
                    refine lv_tableIn (pc := 1) (tgt := 116) hx hb dX6_toldState_1 (by rw [c17]; decide) (by rw [c17]; decide) (by rw [c17]; rfl) (by decide) ?_
                    refine lv_aload_n (pc := 116) hx hb dX6_toldState_116 rfl (lv_at hl 0 rfl) ?_
                    refine z_get (pc := 117) (ref := "LotSheetModel") (ci := 6) (C := RX6) (T := TX6) (N := 22) hx hb hts iw_X6_toldState_X6 hown Z 0 rfl rfl 8 (by decide) (List.mem_of_getElem? (i := 1) rfl) rfl rfl dX6_toldState_117 ?_
                    refine lv_iconst (pc := 120) (v := (2 : Int32)) hx hb dX6_toldState_120 (by decide) ?_
                    refine z_iald (pc := 121) hx hb Z 1 0 rfl rfl (show ¬ ((2 : Int32) < 0 ∨ 153 ≤ (2 : Int32).toNatClampNeg) by decide) dX6_toldState_121 ?_
                    cases hf
                    exact z_iret (pc := 122) hx hb hr hlocks Z rfl rfl dX6_toldState_122
                  · replace hf := o_neg c17 hf
                    by_cases c18 : p1 = (9 : Int32)
                    · replace hf := o_pos c18 hf
                      refine lv_tableIn (pc := 1) (tgt := 123) hx hb dX6_toldState_1 (by rw [c18]; decide) (by rw [c18]; decide) (by rw [c18]; rfl) (by decide) ?_
                      refine lv_aload_n (pc := 123) hx hb dX6_toldState_123 rfl (lv_at hl 0 rfl) ?_
                      obtain ⟨x19, q20, hf⟩ := o_bindE hf
                      refine z_callVi (pc := 124) (As := []) (rest := []) (Wc := (W_X6_wantedEstimates cA (fun k => h ([0, 1, 2, 3, 4, 5, 6, 7, 8, 9, 10, 11, 12, 13, 14, 15, 16, 17, 18, 19].getD k 0)) m_thrown m_bufferLength m_textLength m_position m_error m_errorAt m_errorOffset m_data m_undoDepth m_numberStart m_seen m_pages)) (W1 := (W_X6_wantedEstimates cA (fun k => h ([0, 1, 2, 3, 4, 5, 6, 7, 8, 9, 10, 11, 12, 13, 14, 15, 16, 17, 18, 19].getD k 0)) m_thrown m_bufferLength m_textLength m_position m_error m_errorAt m_errorOffset m_data m_undoDepth m_numberStart m_seen m_pages)) (W2 := (W_X6_toldState cA h m_thrown m_bufferLength m_textLength m_position m_error m_errorAt m_errorOffset m_data m_undoDepth m_numberStart m_seen m_pageOf m_pages)) ⟨hx, hb, hml, hown, hts⟩ (kX6_wantedEstimates l D cA (fun k => h ([0, 1, 2, 3, 4, 5, 6, 7, 8, 9, 10, 11, 12, 13, 14, 15, 16, 17, 18, 19].getD k 0)) m_thrown m_bufferLength m_textLength m_position m_error m_errorAt m_errorOffset m_data m_undoDepth m_numberStart m_seen m_pages _ q20) (cwV 0 hts gX6_toldState_X6_wantedEstimates rfl rfl rfl (by decide +kernel) ⟨Nat.le_of_ble_eq_true rfl, Nat.le_of_ble_eq_true rfl⟩) Z hA [0, 1] rfl (by decide) rfl (ci := 6) rfl rfl rfl rfl hl.1 rfl (Nat.le_of_ble_eq_true rfl) dX6_toldState_124 ⟨Nat.zero_le _, Nat.zero_le _⟩ [some 0, some 1, none] rfl ⟨rfl, rfl, rfl, rfl⟩ (fun H locs Z => ?_)
                      cases hf
                      exact z_iret (pc := 127) hx hb hr hlocks Z rfl rfl dX6_toldState_127
                    · replace hf := o_neg c18 hf
                      by_cases c21 : p1 = (10 : Int32)
                      · replace hf := o_pos c21 hf
                        refine lv_tableIn (pc := 1) (tgt := 128) hx hb dX6_toldState_1 (by rw [c21]; decide) (by rw [c21]; decide) (by rw [c21]; rfl) (by decide) ?_
                        refine lv_aload_n (pc := 128) hx hb dX6_toldState_128 rfl (lv_at hl 0 rfl) ?_
                        obtain ⟨x22, q23, hf⟩ := o_bindE hf
                        refine z_callVi (pc := 129) (As := []) (rest := []) (Wc := (W_X6_blanks cA (fun k => h ([0, 1, 2, 3, 4, 5, 6, 7, 8, 9, 10, 11, 12, 13, 14, 15, 16, 17, 18, 19].getD k 0)) m_thrown m_bufferLength m_textLength m_position m_error m_errorAt m_errorOffset m_data m_undoDepth m_numberStart m_seen m_pageOf m_pages)) (W1 := (W_X6_blanks cA (fun k => h ([0, 1, 2, 3, 4, 5, 6, 7, 8, 9, 10, 11, 12, 13, 14, 15, 16, 17, 18, 19].getD k 0)) m_thrown m_bufferLength m_textLength m_position m_error m_errorAt m_errorOffset m_data m_undoDepth m_numberStart m_seen m_pageOf m_pages)) (W2 := (W_X6_toldState cA h m_thrown m_bufferLength m_textLength m_position m_error m_errorAt m_errorOffset m_data m_undoDepth m_numberStart m_seen m_pageOf m_pages)) ⟨hx, hb, hml, hown, hts⟩ (kX6_blanks l D cA (fun k => h ([0, 1, 2, 3, 4, 5, 6, 7, 8, 9, 10, 11, 12, 13, 14, 15, 16, 17, 18, 19].getD k 0)) m_thrown m_bufferLength m_textLength m_position m_error m_errorAt m_errorOffset m_data m_undoDepth m_numberStart m_seen m_pageOf m_pages _ q23) (cwV 0 hts gX6_toldState_X6_blanks rfl rfl rfl (by decide +kernel) ⟨Nat.le_of_ble_eq_true rfl, Nat.le_of_ble_eq_true rfl⟩) Z hA [0, 1, 2] rfl (by decide) rfl (ci := 6) rfl rfl rfl rfl hl.1 rfl (Nat.le_of_ble_eq_true rfl) dX6_toldState_129 ⟨Nat.zero_le _, Nat.zero_le _⟩ [some 0, some 1, some 2] rfl ⟨rfl, rfl, rfl, rfl⟩ (fun H locs Z => ?_)
                        cases hf
                        exact z_iret (pc := 132) hx hb hr hlocks Z rfl rfl dX6_toldState_132
                      · replace hf := o_neg c21 hf
                        refine lv_tableOut (pc := 1) (tgt := 133) hx hb dX6_toldState_1 (z_out11 c1 c2 c3 c6 c9 c12 c15 c16 c17 c18 c21) (by decide) ?_
                        refine lv_aload_n (pc := 133) hx hb dX6_toldState_133 rfl (lv_at hl 0 rfl) ?_
                        refine z_get (pc := 134) (ref := "LotSheetModel") (ci := 6) (C := RX6) (T := TX6) (N := 22) hx hb hts iw_X6_toldState_X6 hown Z 0 rfl rfl 8 (by decide) (List.mem_of_getElem? (i := 1) rfl) rfl rfl dX6_toldState_134 ?_
                        refine lv_iconst (pc := 137) (v := (3 : Int32)) hx hb dX6_toldState_137 (by decide) ?_
                        refine z_iald (pc := 138) hx hb Z 1 0 rfl rfl (show ¬ ((3 : Int32) < 0 ∨ 153 ≤ (3 : Int32).toNatClampNeg) by decide) dX6_toldState_138 ?_
                        cases hf
                        exact z_iret (pc := 139) hx hb hr hlocks Z rfl rfl dX6_toldState_139
