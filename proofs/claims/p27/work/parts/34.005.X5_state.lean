def W_X5_state (cA : Nat → ClassId) (h : Nat → Nat) (b_height : Int32) (b_count : Int32) (b_room : Int32) (b_account : Int32) (b_estimates : Nat → Int32) (b_wanted : Nat → Int32) (b_slipped : Nat → Int32) (y_usedOn : Nat → Int32) (y_pages : Int32) (y_printedLots : Int32) (y_printedLines : Int32) (c_count : Int32) (c_priced : Int32) (x_latestErrorOffset : Int32) : va_W := [(h 0, .inr (5, [.ref (h 1), .ref (h 3), .ref (h 11), .ref (h 19), .ref (h 85), .ref (h 92), .int x_latestErrorOffset])), (h 3, .inr (0, [.int b_height, .int b_count, .int b_room, .int b_account, .ref (h 4), .ref (h 5), .ref (h 6), .ref (h 7), .ref (h 8), .ref (h 9), .ref (h 10)])), (h 6, .inl (cA 0, 24, .inl b_estimates)), (h 9, .inl (cA 1, 24, .inl b_wanted)), (h 10, .inl (cA 1, 24, .inl b_slipped)), (h 85, .inr (3, [.ref (h 86), .ref (h 87), .ref (h 88), .ref (h 89), .ref (h 90), .ref (h 91), .int y_pages, .int y_printedLots, .int y_printedLines])), (h 89, .inl (cA 0, 24, .inl y_usedOn)), (h 92, .inr (1, [.ref (h 93), .ref (h 94), .int c_count, .ref (h 95), .ref (h 102), .ref (h 103), .ref (h 104), .int c_priced]))]
def fX5_state (p1 : Int32) (b_height : Int32) (b_count : Int32) (b_room : Int32) (b_account : Int32) (b_estimates : Nat → Int32) (b_wanted : Nat → Int32) (b_slipped : Nat → Int32) (y_usedOn : Nat → Int32) (y_pages : Int32) (y_printedLots : Int32) (c_count : Int32) : Option (String ⊕ (Int32)) := (if p1 = (0 : Int32) then some (.inr (b_height)) else if p1 = (1 : Int32) then some (.inr (b_count)) else if p1 = (2 : Int32) then some (.inr (y_printedLots)) else if p1 = (3 : Int32) then o_bind (fX0_wantedLots b_count b_wanted) (fun x5 => some (.inr (x5))) else if p1 = (4 : Int32) then some (.inr (c_count)) else if p1 = (5 : Int32) then o_bind (fX0_slippedLots b_count b_slipped) (fun x9 => some (.inr (x9))) else if p1 = (6 : Int32) then some (.inr (y_pages)) else if p1 = (7 : Int32) then o_bind (fX3_gatherings y_pages) (fun x13 => some (.inr (x13))) else if p1 = (8 : Int32) then some (.inr (b_account)) else if p1 = (9 : Int32) then o_bind (fX0_wantedEstimates b_count b_estimates b_wanted) (fun x17 => some (.inr (x17))) else if p1 = (10 : Int32) then o_bind (fX3_blankLinesAheadOfLastPage b_height y_usedOn y_pages) (fun x20 => some (.inr (x20))) else if p1 = (11 : Int32) then some (.inr (b_room)) else some (.inl "java/lang/IllegalArgumentException"))
theorem iw_X5_state_X5 : ∀ w ∈ u_ws RX5 TX5 7, w ∈ zsX5_state := z_inr [41, 42, 43, 44, 45, 46, 47] rfl
theorem iw_X5_state_X0 : ∀ w ∈ u_ws RX0 TX0 11, w ∈ zsX5_state := z_inr [48, 49, 50, 51, 52, 53, 54, 55, 56, 57, 58] rfl
theorem iw_X5_state_X3 : ∀ w ∈ u_ws RX3 TX3 9, w ∈ zsX5_state := z_inr [59, 60, 61, 62, 63, 64, 65, 66, 67] rfl
theorem iw_X5_state_X1 : ∀ w ∈ u_ws RX1 TX1 8, w ∈ zsX5_state := z_inr [68, 69, 70, 71, 72, 73, 74, 75] rfl
set_option maxHeartbeats 4000000 in
set_option maxRecDepth 100000 in
theorem kX5_state (l : Launch) (D : va_G) (cA : Nat → ClassId) (h : Nat → Nat) (p1 : Int32) (b_height : Int32) (b_count : Int32) (b_room : Int32) (b_account : Int32) (b_estimates : Nat → Int32) (b_wanted : Nat → Int32) (b_slipped : Nat → Int32) (y_usedOn : Nat → Int32) (y_pages : Int32) (y_printedLots : Int32) (y_printedLines : Int32) (c_count : Int32) (c_priced : Int32) (x_latestErrorOffset : Int32) (u : Int32) (hf : fX5_state p1 b_height b_count b_room b_account b_estimates b_wanted b_slipped y_usedOn y_pages y_printedLots c_count = some (.inr u)) : zMi l yX5_state zsX5_state ({ frames := 6, cells := 0, slots := 0, locals := 90 } : Room) D (zTY cA) [.ref (h 0), .int p1] (W_X5_state cA h b_height b_count b_room b_account b_estimates b_wanted b_slipped y_usedOn y_pages y_printedLots y_printedLines c_count c_priced x_latestErrorOffset) (W_X5_state cA h b_height b_count b_room b_account b_estimates b_wanted b_slipped y_usedOn y_pages y_printedLots y_printedLines c_count c_priced x_latestErrorOffset) u := by
  refine z_starti (cc := cX5_state) (maxL := 2) (ret := (some .int)) (by decide) rfl (Nat.le_of_ble_eq_true rfl) ?_
  intro p e s m args below meth c A hx hb hr hts hown hlocks hml hA Z ls hl
  replace hown : s.vm.findClass RX5 = some m.cls := hown
  replace hl : lv_has ls 2 [(0, .ref (h 0)), (1, .int p1)] := hl
  obtain ⟨H, hH⟩ : ∃ H, H = s.heap := ⟨_, rfl⟩
  rw [← hH] at Z ⊢
  clear hH
  obtain ⟨locs, hlc⟩ : ∃ q : List Loc, q = [] := ⟨_, rfl⟩
  rw [← hlc] at Z ⊢
  clear hlc
  refine lv_iload_n (pc := 0) hx hb dX5_state_0 rfl (lv_at hl 1 rfl) ?_
  by_cases c1 : p1 = (0 : Int32)
  · replace hf := o_pos c1 hf
    refine lv_tableIn (pc := 1) (tgt := 64) hx hb dX5_state_1 (by rw [c1]; decide) (by rw [c1]; decide) (by rw [c1]; rfl) (by decide) ?_
    refine lv_aload_n (pc := 64) hx hb dX5_state_64 rfl (lv_at hl 0 rfl) ?_
    refine z_get (pc := 65) (ref := "LotSheet") (ci := 5) (C := RX5) (T := TX5) (N := 7) hx hb hts iw_X5_state_X5 hown Z 0 rfl rfl 1 (by decide) (List.mem_of_getElem? (i := 3) rfl) rfl rfl dX5_state_65 ?_
    refine z_get (pc := 68) (ref := "LotSheet$Bill") (ci := 0) (C := RX0) (T := TX0) (N := 11) hx hb hts iw_X5_state_X0 hown Z 1 rfl rfl 0 (by decide) (List.mem_of_getElem? (i := 4) rfl) rfl rfl dX5_state_68 ?_
    cases hf
    exact z_iret (pc := 71) hx hb hr hlocks Z rfl rfl dX5_state_71
  · replace hf := o_neg c1 hf
    by_cases c2 : p1 = (1 : Int32)
    · replace hf := o_pos c2 hf
      refine lv_tableIn (pc := 1) (tgt := 72) hx hb dX5_state_1 (by rw [c2]; decide) (by rw [c2]; decide) (by rw [c2]; rfl) (by decide) ?_
      refine lv_aload_n (pc := 72) hx hb dX5_state_72 rfl (lv_at hl 0 rfl) ?_
      refine z_get (pc := 73) (ref := "LotSheet") (ci := 5) (C := RX5) (T := TX5) (N := 7) hx hb hts iw_X5_state_X5 hown Z 0 rfl rfl 1 (by decide) (List.mem_of_getElem? (i := 3) rfl) rfl rfl dX5_state_73 ?_
      refine z_get (pc := 76) (ref := "LotSheet$Bill") (ci := 0) (C := RX0) (T := TX0) (N := 11) hx hb hts iw_X5_state_X0 hown Z 1 rfl rfl 1 (by decide) (List.mem_of_getElem? (i := 5) rfl) rfl rfl dX5_state_76 ?_
      cases hf
      exact z_iret (pc := 79) hx hb hr hlocks Z rfl rfl dX5_state_79
    · replace hf := o_neg c2 hf
      by_cases c3 : p1 = (2 : Int32)
      · replace hf := o_pos c3 hf
        refine lv_tableIn (pc := 1) (tgt := 80) hx hb dX5_state_1 (by rw [c3]; decide) (by rw [c3]; decide) (by rw [c3]; rfl) (by decide) ?_
        refine lv_aload_n (pc := 80) hx hb dX5_state_80 rfl (lv_at hl 0 rfl) ?_
        refine z_get (pc := 81) (ref := "LotSheet") (ci := 5) (C := RX5) (T := TX5) (N := 7) hx hb hts iw_X5_state_X5 hown Z 0 rfl rfl 4 (by decide) (List.mem_of_getElem? (i := 6) rfl) rfl rfl dX5_state_81 ?_
        refine z_get (pc := 84) (ref := "LotSheet$Layout") (ci := 3) (C := RX3) (T := TX3) (N := 9) hx hb hts iw_X5_state_X3 hown Z 5 rfl rfl 7 (by decide) (List.mem_of_getElem? (i := 7) rfl) rfl rfl dX5_state_84 ?_
        cases hf
        exact z_iret (pc := 87) hx hb hr hlocks Z rfl rfl dX5_state_87
      · replace hf := o_neg c3 hf
        by_cases c4 : p1 = (3 : Int32)
        · replace hf := o_pos c4 hf
          refine lv_tableIn (pc := 1) (tgt := 88) hx hb dX5_state_1 (by rw [c4]; decide) (by rw [c4]; decide) (by rw [c4]; rfl) (by decide) ?_
          refine lv_aload_n (pc := 88) hx hb dX5_state_88 rfl (lv_at hl 0 rfl) ?_
          refine z_get (pc := 89) (ref := "LotSheet") (ci := 5) (C := RX5) (T := TX5) (N := 7) hx hb hts iw_X5_state_X5 hown Z 0 rfl rfl 1 (by decide) (List.mem_of_getElem? (i := 3) rfl) rfl rfl dX5_state_89 ?_
          obtain ⟨x5, q6, hf⟩ := o_bindE hf
          refine z_callVi (pc := 92) (As := []) (rest := []) (Wc := (W_X0_wantedLots cA (fun k => h ([3, 4, 5, 6, 7, 8, 9, 10].getD k 0)) b_height b_count b_room b_account b_wanted)) (W1 := (W_X0_wantedLots cA (fun k => h ([3, 4, 5, 6, 7, 8, 9, 10].getD k 0)) b_height b_count b_room b_account b_wanted)) (W2 := (W_X5_state cA h b_height b_count b_room b_account b_estimates b_wanted b_slipped y_usedOn y_pages y_printedLots y_printedLines c_count c_priced x_latestErrorOffset)) ⟨hx, hb, hml, hown, hts⟩ (kX0_wantedLots l D cA (fun k => h ([3, 4, 5, 6, 7, 8, 9, 10].getD k 0)) b_height b_count b_room b_account b_wanted _ q6) (cwV 0 hts zgX5_state_X0_wantedLots_95 rfl rfl rfl (by decide +kernel) ⟨Nat.le_of_ble_eq_true rfl, Nat.le_of_ble_eq_true rfl⟩) Z hA [1, 3] rfl (by decide) rfl (ci := 0) rfl rfl rfl rfl hl.1 rfl (Nat.le_of_ble_eq_true rfl) dX5_state_92 ⟨Nat.zero_le _, Nat.zero_le _⟩ [none, some 0, none, some 1, none, none, none, none] rfl ⟨rfl, rfl, rfl, rfl, rfl, rfl, rfl, rfl, rfl⟩ (fun H locs Z => ?_)
          cases hf
          exact z_iret (pc := 95) hx hb hr hlocks Z rfl rfl dX5_state_95
        · replace hf := o_neg c4 hf
          by_cases c7 : p1 = (4 : Int32)
          · replace hf := o_pos c7 hf
            refine lv_tableIn (pc := 1) (tgt := 96) hx hb dX5_state_1 (by rw [c7]; decide) (by rw [c7]; decide) (by rw [c7]; rfl) (by decide) ?_
            refine lv_aload_n (pc := 96) hx hb dX5_state_96 rfl (lv_at hl 0 rfl) ?_
            refine z_get (pc := 97) (ref := "LotSheet") (ci := 5) (C := RX5) (T := TX5) (N := 7) hx hb hts iw_X5_state_X5 hown Z 0 rfl rfl 5 (by decide) (List.mem_of_getElem? (i := 8) rfl) rfl rfl dX5_state_97 ?_
            refine z_get (pc := 100) (ref := "LotSheet$Choices") (ci := 1) (C := RX1) (T := TX1) (N := 8) hx hb hts iw_X5_state_X1 hown Z 7 rfl rfl 2 (by decide) (List.mem_of_getElem? (i := 9) rfl) rfl rfl dX5_state_100 ?_
            cases hf
            exact z_iret (pc := 103) hx hb hr hlocks Z rfl rfl dX5_state_103
          · replace hf := o_neg c7 hf
            by_cases c8 : p1 = (5 : Int32)
            · replace hf := o_pos c8 hf
              refine lv_tableIn (pc := 1) (tgt := 104) hx hb dX5_state_1 (by rw [c8]; decide) (by rw [c8]; decide) (by rw [c8]; rfl) (by decide) ?_
              refine lv_aload_n (pc := 104) hx hb dX5_state_104 rfl (lv_at hl 0 rfl) ?_
              refine z_get (pc := 105) (ref := "LotSheet") (ci := 5) (C := RX5) (T := TX5) (N := 7) hx hb hts iw_X5_state_X5 hown Z 0 rfl rfl 1 (by decide) (List.mem_of_getElem? (i := 3) rfl) rfl rfl dX5_state_105 ?_
              obtain ⟨x9, q10, hf⟩ := o_bindE hf
              refine z_callVi (pc := 108) (As := []) (rest := []) (Wc := (W_X0_slippedLots cA (fun k => h ([3, 4, 5, 6, 7, 8, 9, 10].getD k 0)) b_height b_count b_room b_account b_slipped)) (W1 := (W_X0_slippedLots cA (fun k => h ([3, 4, 5, 6, 7, 8, 9, 10].getD k 0)) b_height b_count b_room b_account b_slipped)) (W2 := (W_X5_state cA h b_height b_count b_room b_account b_estimates b_wanted b_slipped y_usedOn y_pages y_printedLots y_printedLines c_count c_priced x_latestErrorOffset)) ⟨hx, hb, hml, hown, hts⟩ (kX0_slippedLots l D cA (fun k => h ([3, 4, 5, 6, 7, 8, 9, 10].getD k 0)) b_height b_count b_room b_account b_slipped _ q10) (cwV 0 hts zgX5_state_X0_slippedLots_100 rfl rfl rfl (by decide +kernel) ⟨Nat.le_of_ble_eq_true rfl, Nat.le_of_ble_eq_true rfl⟩) Z hA [1, 4] rfl (by decide) rfl (ci := 0) rfl rfl rfl rfl hl.1 rfl (Nat.le_of_ble_eq_true rfl) dX5_state_108 ⟨Nat.zero_le _, Nat.zero_le _⟩ [none, some 0, none, none, some 1, none, none, none] rfl ⟨rfl, rfl, rfl, rfl, rfl, rfl, rfl, rfl, rfl⟩ (fun H locs Z => ?_)
              cases hf
              exact z_iret (pc := 111) hx hb hr hlocks Z rfl rfl dX5_state_111
            · replace hf := o_neg c8 hf
              by_cases c11 : p1 = (6 : Int32)
              · replace hf := o_pos c11 hf
                refine lv_tableIn (pc := 1) (tgt := 112) hx hb dX5_state_1 (by rw [c11]; decide) (by rw [c11]; decide) (by rw [c11]; rfl) (by decide) ?_
                refine lv_aload_n (pc := 112) hx hb dX5_state_112 rfl (lv_at hl 0 rfl) ?_
                refine z_get (pc := 113) (ref := "LotSheet") (ci := 5) (C := RX5) (T := TX5) (N := 7) hx hb hts iw_X5_state_X5 hown Z 0 rfl rfl 4 (by decide) (List.mem_of_getElem? (i := 6) rfl) rfl rfl dX5_state_113 ?_
                refine z_get (pc := 116) (ref := "LotSheet$Layout") (ci := 3) (C := RX3) (T := TX3) (N := 9) hx hb hts iw_X5_state_X3 hown Z 5 rfl rfl 6 (by decide) (List.mem_of_getElem? (i := 10) rfl) rfl rfl dX5_state_116 ?_
                cases hf
                exact z_iret (pc := 119) hx hb hr hlocks Z rfl rfl dX5_state_119
              · replace hf := o_neg c11 hf
                by_cases c12 : p1 = (7 : Int32)
                · replace hf := o_pos c12 hf
                  refine lv_tableIn (pc := 1) (tgt := 120) hx hb dX5_state_1 (by rw [c12]; decide) (by rw [c12]; decide) (by rw [c12]; rfl) (by decide) ?_
                  refine lv_aload_n (pc := 120) hx hb dX5_state_120 rfl (lv_at hl 0 rfl) ?_
                  refine z_get (pc := 121) (ref := "LotSheet") (ci := 5) (C := RX5) (T := TX5) (N := 7) hx hb hts iw_X5_state_X5 hown Z 0 rfl rfl 4 (by decide) (List.mem_of_getElem? (i := 6) rfl) rfl rfl dX5_state_121 ?_
                  obtain ⟨x13, q14, hf⟩ := o_bindE hf
                  refine z_callVi (pc := 124) (As := []) (rest := []) (Wc := (W_X3_gatherings cA (fun k => h ([85, 86, 87, 88, 89, 90, 91].getD k 0)) y_pages y_printedLots y_printedLines)) (W1 := (W_X3_gatherings cA (fun k => h ([85, 86, 87, 88, 89, 90, 91].getD k 0)) y_pages y_printedLots y_printedLines)) (W2 := (W_X5_state cA h b_height b_count b_room b_account b_estimates b_wanted b_slipped y_usedOn y_pages y_printedLots y_printedLines c_count c_priced x_latestErrorOffset)) ⟨hx, hb, hml, hown, hts⟩ (kX3_gatherings l D cA (fun k => h ([85, 86, 87, 88, 89, 90, 91].getD k 0)) y_pages y_printedLots y_printedLines _ q14) (cwV 0 hts zgX5_state_X3_gatherings_106 rfl rfl rfl (by decide +kernel) ⟨Nat.le_of_ble_eq_true rfl, Nat.le_of_ble_eq_true rfl⟩) Z hA [5] rfl (by decide) rfl (ci := 3) rfl rfl rfl rfl hl.1 rfl (Nat.le_of_ble_eq_true rfl) dX5_state_124 ⟨Nat.zero_le _, Nat.zero_le _⟩ [none, none, none, none, none, some 0, none, none] rfl ⟨rfl, rfl, rfl, rfl, rfl, rfl, rfl, rfl, rfl⟩ (fun H locs Z => ?_)
                  cases hf
                  exact z_iret (pc := 127) hx hb hr hlocks Z rfl rfl dX5_state_127
                · replace hf := o_neg c12 hf
                  by_cases c15 : p1 = (8 : Int32)
                  · replace hf := o_pos c15 hf
                    refine lv_tableIn (pc := 1) (tgt := 128) hx hb dX5_state_1 (by rw [c15]; decide) (by rw [c15]; decide) (by rw [c15]; rfl) (by decide) ?_
                    refine lv_aload_n (pc := 128) hx hb dX5_state_128 rfl (lv_at hl 0 rfl) ?_
                    refine z_get (pc := 129) (ref := "LotSheet") (ci := 5) (C := RX5) (T := TX5) (N := 7) hx hb hts iw_X5_state_X5 hown Z 0 rfl rfl 1 (by decide) (List.mem_of_getElem? (i := 3) rfl) rfl rfl dX5_state_129 ?_
                    refine z_get (pc := 132) (ref := "LotSheet$Bill") (ci := 0) (C := RX0) (T := TX0) (N := 11) hx hb hts iw_X5_state_X0 hown Z 1 rfl rfl 3 (by decide) (List.mem_of_getElem? (i := 11) rfl) rfl rfl dX5_state_132 ?_
                    cases hf
                    exact z_iret (pc := 135) hx hb hr hlocks Z rfl rfl dX5_state_135
                  · replace hf := o_neg c15 hf
                    by_cases c16 : p1 = (9 : Int32)
                    · replace hf := o_pos c16 hf
                      refine lv_tableIn (pc := 1) (tgt := 136) hx hb dX5_state_1 (by rw [c16]; decide) (by rw [c16]; decide) (by rw [c16]; rfl) (by decide) ?_
                      refine lv_aload_n (pc := 136) hx hb dX5_state_136 rfl (lv_at hl 0 rfl) ?_
                      refine z_get (pc := 137) (ref := "LotSheet") (ci := 5) (C := RX5) (T := TX5) (N := 7) hx hb hts iw_X5_state_X5 hown Z 0 rfl rfl 1 (by decide) (List.mem_of_getElem? (i := 3) rfl) rfl rfl dX5_state_137 ?_
                      obtain ⟨x17, q18, hf⟩ := o_bindE hf
                      refine z_callVi (pc := 140) (As := []) (rest := []) (Wc := (W_X0_wantedEstimates cA (fun k => h ([3, 4, 5, 6, 7, 8, 9, 10].getD k 0)) b_height b_count b_room b_account b_estimates b_wanted)) (W1 := (W_X0_wantedEstimates cA (fun k => h ([3, 4, 5, 6, 7, 8, 9, 10].getD k 0)) b_height b_count b_room b_account b_estimates b_wanted)) (W2 := (W_X5_state cA h b_height b_count b_room b_account b_estimates b_wanted b_slipped y_usedOn y_pages y_printedLots y_printedLines c_count c_priced x_latestErrorOffset)) ⟨hx, hb, hml, hown, hts⟩ (kX0_wantedEstimates l D cA (fun k => h ([3, 4, 5, 6, 7, 8, 9, 10].getD k 0)) b_height b_count b_room b_account b_estimates b_wanted _ q18) (cwV 0 hts zgX5_state_X0_wantedEstimates_112 rfl rfl rfl (by decide +kernel) ⟨Nat.le_of_ble_eq_true rfl, Nat.le_of_ble_eq_true rfl⟩) Z hA [1, 2, 3] rfl (by decide) rfl (ci := 0) rfl rfl rfl rfl hl.1 rfl (Nat.le_of_ble_eq_true rfl) dX5_state_140 ⟨Nat.zero_le _, Nat.zero_le _⟩ [none, some 0, some 1, some 2, none, none, none, none] rfl ⟨rfl, rfl, rfl, rfl, rfl, rfl, rfl, rfl, rfl⟩ (fun H locs Z => ?_)
                      cases hf
                      exact z_iret (pc := 143) hx hb hr hlocks Z rfl rfl dX5_state_143
                    · replace hf := o_neg c16 hf
                      by_cases c19 : p1 = (10 : Int32)
                      · replace hf := o_pos c19 hf
                        refine lv_tableIn (pc := 1) (tgt := 144) hx hb dX5_state_1 (by rw [c19]; decide) (by rw [c19]; decide) (by rw [c19]; rfl) (by decide) ?_
                        refine lv_aload_n (pc := 144) hx hb dX5_state_144 rfl (lv_at hl 0 rfl) ?_
                        refine z_get (pc := 145) (ref := "LotSheet") (ci := 5) (C := RX5) (T := TX5) (N := 7) hx hb hts iw_X5_state_X5 hown Z 0 rfl rfl 4 (by decide) (List.mem_of_getElem? (i := 6) rfl) rfl rfl dX5_state_145 ?_
                        refine lv_aload_n (pc := 148) hx hb dX5_state_148 rfl (lv_at hl 0 rfl) ?_
                        refine z_get (pc := 149) (ref := "LotSheet") (ci := 5) (C := RX5) (T := TX5) (N := 7) hx hb hts iw_X5_state_X5 hown Z 0 rfl rfl 1 (by decide) (List.mem_of_getElem? (i := 3) rfl) rfl rfl dX5_state_149 ?_
                        refine z_get (pc := 152) (ref := "LotSheet$Bill") (ci := 0) (C := RX0) (T := TX0) (N := 11) hx hb hts iw_X5_state_X0 hown Z 1 rfl rfl 0 (by decide) (List.mem_of_getElem? (i := 4) rfl) rfl rfl dX5_state_152 ?_
                        obtain ⟨x20, q21, hf⟩ := o_bindE hf
                        refine z_callVi (pc := 155) (As := [.int b_height]) (rest := []) (Wc := (W_X3_blankLinesAheadOfLastPage cA (fun k => h ([85, 86, 87, 88, 89, 90, 91].getD k 0)) y_usedOn y_pages y_printedLots y_printedLines)) (W1 := (W_X3_blankLinesAheadOfLastPage cA (fun k => h ([85, 86, 87, 88, 89, 90, 91].getD k 0)) y_usedOn y_pages y_printedLots y_printedLines)) (W2 := (W_X5_state cA h b_height b_count b_room b_account b_estimates b_wanted b_slipped y_usedOn y_pages y_printedLots y_printedLines c_count c_priced x_latestErrorOffset)) ⟨hx, hb, hml, hown, hts⟩ (kX3_blankLinesAheadOfLastPage l D cA (fun k => h ([85, 86, 87, 88, 89, 90, 91].getD k 0)) b_height y_usedOn y_pages y_printedLots y_printedLines _ q21) (cwV 1 hts zgX5_state_X3_blankLinesAheadOfLastPage_115 rfl rfl rfl (by decide +kernel) ⟨Nat.le_of_ble_eq_true rfl, Nat.le_of_ble_eq_true rfl⟩) Z hA [5, 6] rfl (by decide) rfl (ci := 3) rfl rfl rfl rfl hl.1 rfl (Nat.le_of_ble_eq_true rfl) dX5_state_155 ⟨Nat.zero_le _, Nat.zero_le _⟩ [none, none, none, none, none, some 0, some 1, none] rfl ⟨rfl, rfl, rfl, rfl, rfl, rfl, rfl, rfl, rfl⟩ (fun H locs Z => ?_)
                        cases hf
                        exact z_iret (pc := 158) hx hb hr hlocks Z rfl rfl dX5_state_158
                      · replace hf := o_neg c19 hf
                        by_cases c22 : p1 = (11 : Int32)
                        · replace hf := o_pos c22 hf
                          refine lv_tableIn (pc := 1) (tgt := 159) hx hb dX5_state_1 (by rw [c22]; decide) (by rw [c22]; decide) (by rw [c22]; rfl) (by decide) ?_
                          refine lv_aload_n (pc := 159) hx hb dX5_state_159 rfl (lv_at hl 0 rfl) ?_
                          refine z_get (pc := 160) (ref := "LotSheet") (ci := 5) (C := RX5) (T := TX5) (N := 7) hx hb hts iw_X5_state_X5 hown Z 0 rfl rfl 1 (by decide) (List.mem_of_getElem? (i := 3) rfl) rfl rfl dX5_state_160 ?_
                          refine z_get (pc := 163) (ref := "LotSheet$Bill") (ci := 0) (C := RX0) (T := TX0) (N := 11) hx hb hts iw_X5_state_X0 hown Z 1 rfl rfl 2 (by decide) (List.mem_of_getElem? (i := 12) rfl) rfl rfl dX5_state_163 ?_
                          cases hf
                          exact z_iret (pc := 166) hx hb hr hlocks Z rfl rfl dX5_state_166
                        · replace hf := o_neg c22 hf
                          refine lv_tableOut (pc := 1) (tgt := 167) hx hb dX5_state_1 (z_out12 c1 c2 c3 c4 c7 c8 c11 c12 c15 c16 c19 c22) (by decide) ?_
                          cases hf
set_option maxHeartbeats 4000000 in
set_option maxRecDepth 100000 in
theorem tX5_state (l : Launch) (D : va_G) (cA : Nat → ClassId) (h : Nat → Nat) (p1 : Int32) (b_height : Int32) (b_count : Int32) (b_room : Int32) (b_account : Int32) (b_estimates : Nat → Int32) (b_wanted : Nat → Int32) (b_slipped : Nat → Int32) (y_usedOn : Nat → Int32) (y_pages : Int32) (y_printedLots : Int32) (y_printedLines : Int32) (c_count : Int32) (c_priced : Int32) (x_latestErrorOffset : Int32) (E : String) (hf : fX5_state p1 b_height b_count b_room b_account b_estimates b_wanted b_slipped y_usedOn y_pages y_printedLots c_count = some (.inl E)) (hfl : l.stackTraces = false) : zMiT l yX5_state zsX5_state ({ frames := 6, cells := 1, slots := 6, locals := 90 } : Room) D (zTY cA) [.ref (h 0), .int p1] (W_X5_state cA h b_height b_count b_room b_account b_estimates b_wanted b_slipped y_usedOn y_pages y_printedLots y_printedLines c_count c_priced x_latestErrorOffset) E := by
  refine z_startiT (cc := cX5_state) (maxL := 2) (ret := (some .int)) (by decide) rfl (Nat.le_of_ble_eq_true rfl) ?_
  intro p e s m args below meth c A hx hb hr hts hown hlocks hml hA hE hxt Z ls hl
  replace hown : s.vm.findClass RX5 = some m.cls := hown
  replace hl : lv_has ls 2 [(0, .ref (h 0)), (1, .int p1)] := hl
  obtain ⟨H, hH⟩ : ∃ H, H = s.heap := ⟨_, rfl⟩
  rw [← hH] at Z ⊢
  clear hH
  obtain ⟨locs, hlc⟩ : ∃ q : List Loc, q = [] := ⟨_, rfl⟩
  rw [← hlc] at Z ⊢
  clear hlc
  refine lv_iload_n (pc := 0) hx hb dX5_state_0 rfl (lv_at hl 1 rfl) ?_
  by_cases c1 : p1 = (0 : Int32)
  · replace hf := o_pos c1 hf
    refine lv_tableIn (pc := 1) (tgt := 64) hx hb dX5_state_1 (by rw [c1]; decide) (by rw [c1]; decide) (by rw [c1]; rfl) (by decide) ?_
    refine lv_aload_n (pc := 64) hx hb dX5_state_64 rfl (lv_at hl 0 rfl) ?_
    refine z_get (pc := 65) (ref := "LotSheet") (ci := 5) (C := RX5) (T := TX5) (N := 7) hx hb hts iw_X5_state_X5 hown Z 0 rfl rfl 1 (by decide) (List.mem_of_getElem? (i := 3) rfl) rfl rfl dX5_state_65 ?_
    refine z_get (pc := 68) (ref := "LotSheet$Bill") (ci := 0) (C := RX0) (T := TX0) (N := 11) hx hb hts iw_X5_state_X0 hown Z 1 rfl rfl 0 (by decide) (List.mem_of_getElem? (i := 4) rfl) rfl rfl dX5_state_68 ?_
    cases hf
  · replace hf := o_neg c1 hf
    by_cases c2 : p1 = (1 : Int32)
    · replace hf := o_pos c2 hf
      refine lv_tableIn (pc := 1) (tgt := 72) hx hb dX5_state_1 (by rw [c2]; decide) (by rw [c2]; decide) (by rw [c2]; rfl) (by decide) ?_
      refine lv_aload_n (pc := 72) hx hb dX5_state_72 rfl (lv_at hl 0 rfl) ?_
      refine z_get (pc := 73) (ref := "LotSheet") (ci := 5) (C := RX5) (T := TX5) (N := 7) hx hb hts iw_X5_state_X5 hown Z 0 rfl rfl 1 (by decide) (List.mem_of_getElem? (i := 3) rfl) rfl rfl dX5_state_73 ?_
      refine z_get (pc := 76) (ref := "LotSheet$Bill") (ci := 0) (C := RX0) (T := TX0) (N := 11) hx hb hts iw_X5_state_X0 hown Z 1 rfl rfl 1 (by decide) (List.mem_of_getElem? (i := 5) rfl) rfl rfl dX5_state_76 ?_
      cases hf
    · replace hf := o_neg c2 hf
      by_cases c3 : p1 = (2 : Int32)
      · replace hf := o_pos c3 hf
        refine lv_tableIn (pc := 1) (tgt := 80) hx hb dX5_state_1 (by rw [c3]; decide) (by rw [c3]; decide) (by rw [c3]; rfl) (by decide) ?_
        refine lv_aload_n (pc := 80) hx hb dX5_state_80 rfl (lv_at hl 0 rfl) ?_
        refine z_get (pc := 81) (ref := "LotSheet") (ci := 5) (C := RX5) (T := TX5) (N := 7) hx hb hts iw_X5_state_X5 hown Z 0 rfl rfl 4 (by decide) (List.mem_of_getElem? (i := 6) rfl) rfl rfl dX5_state_81 ?_
        refine z_get (pc := 84) (ref := "LotSheet$Layout") (ci := 3) (C := RX3) (T := TX3) (N := 9) hx hb hts iw_X5_state_X3 hown Z 5 rfl rfl 7 (by decide) (List.mem_of_getElem? (i := 7) rfl) rfl rfl dX5_state_84 ?_
        cases hf
      · replace hf := o_neg c3 hf
        by_cases c4 : p1 = (3 : Int32)
        · replace hf := o_pos c4 hf
          refine lv_tableIn (pc := 1) (tgt := 88) hx hb dX5_state_1 (by rw [c4]; decide) (by rw [c4]; decide) (by rw [c4]; rfl) (by decide) ?_
          refine lv_aload_n (pc := 88) hx hb dX5_state_88 rfl (lv_at hl 0 rfl) ?_
          refine z_get (pc := 89) (ref := "LotSheet") (ci := 5) (C := RX5) (T := TX5) (N := 7) hx hb hts iw_X5_state_X5 hown Z 0 rfl rfl 1 (by decide) (List.mem_of_getElem? (i := 3) rfl) rfl rfl dX5_state_89 ?_
          obtain ⟨x5, q6, hf⟩ := o_bindE hf
          refine z_callVi (pc := 92) (As := []) (rest := []) (Wc := (W_X0_wantedLots cA (fun k => h ([3, 4, 5, 6, 7, 8, 9, 10].getD k 0)) b_height b_count b_room b_account b_wanted)) (W1 := (W_X0_wantedLots cA (fun k => h ([3, 4, 5, 6, 7, 8, 9, 10].getD k 0)) b_height b_count b_room b_account b_wanted)) (W2 := (W_X5_state cA h b_height b_count b_room b_account b_estimates b_wanted b_slipped y_usedOn y_pages y_printedLots y_printedLines c_count c_priced x_latestErrorOffset)) ⟨hx, hb, hml, hown, hts⟩ (kX0_wantedLots l D cA (fun k => h ([3, 4, 5, 6, 7, 8, 9, 10].getD k 0)) b_height b_count b_room b_account b_wanted _ q6) (cwV 0 hts zgX5_state_X0_wantedLots_95 rfl rfl rfl (by decide +kernel) ⟨Nat.le_of_ble_eq_true rfl, Nat.le_of_ble_eq_true rfl⟩) Z hA [1, 3] rfl (by decide) rfl (ci := 0) rfl rfl rfl rfl hl.1 rfl (Nat.le_of_ble_eq_true rfl) dX5_state_92 ⟨Nat.zero_le _, Nat.zero_le _⟩ [none, some 0, none, some 1, none, none, none, none] rfl ⟨rfl, rfl, rfl, rfl, rfl, rfl, rfl, rfl, rfl⟩ (fun H locs Z => ?_)
          cases hf
        · replace hf := o_neg c4 hf
          by_cases c7 : p1 = (4 : Int32)
          · replace hf := o_pos c7 hf
            refine lv_tableIn (pc := 1) (tgt := 96) hx hb dX5_state_1 (by rw [c7]; decide) (by rw [c7]; decide) (by rw [c7]; rfl) (by decide) ?_
            refine lv_aload_n (pc := 96) hx hb dX5_state_96 rfl (lv_at hl 0 rfl) ?_
            refine z_get (pc := 97) (ref := "LotSheet") (ci := 5) (C := RX5) (T := TX5) (N := 7) hx hb hts iw_X5_state_X5 hown Z 0 rfl rfl 5 (by decide) (List.mem_of_getElem? (i := 8) rfl) rfl rfl dX5_state_97 ?_
            refine z_get (pc := 100) (ref := "LotSheet$Choices") (ci := 1) (C := RX1) (T := TX1) (N := 8) hx hb hts iw_X5_state_X1 hown Z 7 rfl rfl 2 (by decide) (List.mem_of_getElem? (i := 9) rfl) rfl rfl dX5_state_100 ?_
            cases hf
          · replace hf := o_neg c7 hf
            by_cases c8 : p1 = (5 : Int32)
            · replace hf := o_pos c8 hf
              refine lv_tableIn (pc := 1) (tgt := 104) hx hb dX5_state_1 (by rw [c8]; decide) (by rw [c8]; decide) (by rw [c8]; rfl) (by decide) ?_
              refine lv_aload_n (pc := 104) hx hb dX5_state_104 rfl (lv_at hl 0 rfl) ?_
              refine z_get (pc := 105) (ref := "LotSheet") (ci := 5) (C := RX5) (T := TX5) (N := 7) hx hb hts iw_X5_state_X5 hown Z 0 rfl rfl 1 (by decide) (List.mem_of_getElem? (i := 3) rfl) rfl rfl dX5_state_105 ?_
              obtain ⟨x9, q10, hf⟩ := o_bindE hf
              refine z_callVi (pc := 108) (As := []) (rest := []) (Wc := (W_X0_slippedLots cA (fun k => h ([3, 4, 5, 6, 7, 8, 9, 10].getD k 0)) b_height b_count b_room b_account b_slipped)) (W1 := (W_X0_slippedLots cA (fun k => h ([3, 4, 5, 6, 7, 8, 9, 10].getD k 0)) b_height b_count b_room b_account b_slipped)) (W2 := (W_X5_state cA h b_height b_count b_room b_account b_estimates b_wanted b_slipped y_usedOn y_pages y_printedLots y_printedLines c_count c_priced x_latestErrorOffset)) ⟨hx, hb, hml, hown, hts⟩ (kX0_slippedLots l D cA (fun k => h ([3, 4, 5, 6, 7, 8, 9, 10].getD k 0)) b_height b_count b_room b_account b_slipped _ q10) (cwV 0 hts zgX5_state_X0_slippedLots_100 rfl rfl rfl (by decide +kernel) ⟨Nat.le_of_ble_eq_true rfl, Nat.le_of_ble_eq_true rfl⟩) Z hA [1, 4] rfl (by decide) rfl (ci := 0) rfl rfl rfl rfl hl.1 rfl (Nat.le_of_ble_eq_true rfl) dX5_state_108 ⟨Nat.zero_le _, Nat.zero_le _⟩ [none, some 0, none, none, some 1, none, none, none] rfl ⟨rfl, rfl, rfl, rfl, rfl, rfl, rfl, rfl, rfl⟩ (fun H locs Z => ?_)
              cases hf
            · replace hf := o_neg c8 hf
              by_cases c11 : p1 = (6 : Int32)
              · replace hf := o_pos c11 hf
                refine lv_tableIn (pc := 1) (tgt := 112) hx hb dX5_state_1 (by rw [c11]; decide) (by rw [c11]; decide) (by rw [c11]; rfl) (by decide) ?_
                refine lv_aload_n (pc := 112) hx hb dX5_state_112 rfl (lv_at hl 0 rfl) ?_
                refine z_get (pc := 113) (ref := "LotSheet") (ci := 5) (C := RX5) (T := TX5) (N := 7) hx hb hts iw_X5_state_X5 hown Z 0 rfl rfl 4 (by decide) (List.mem_of_getElem? (i := 6) rfl) rfl rfl dX5_state_113 ?_
                refine z_get (pc := 116) (ref := "LotSheet$Layout") (ci := 3) (C := RX3) (T := TX3) (N := 9) hx hb hts iw_X5_state_X3 hown Z 5 rfl rfl 6 (by decide) (List.mem_of_getElem? (i := 10) rfl) rfl rfl dX5_state_116 ?_
                cases hf
              · replace hf := o_neg c11 hf
                by_cases c12 : p1 = (7 : Int32)
                · replace hf := o_pos c12 hf
                  refine lv_tableIn (pc := 1) (tgt := 120) hx hb dX5_state_1 (by rw [c12]; decide) (by rw [c12]; decide) (by rw [c12]; rfl) (by decide) ?_
                  refine lv_aload_n (pc := 120) hx hb dX5_state_120 rfl (lv_at hl 0 rfl) ?_
                  refine z_get (pc := 121) (ref := "LotSheet") (ci := 5) (C := RX5) (T := TX5) (N := 7) hx hb hts iw_X5_state_X5 hown Z 0 rfl rfl 4 (by decide) (List.mem_of_getElem? (i := 6) rfl) rfl rfl dX5_state_121 ?_
                  obtain ⟨x13, q14, hf⟩ := o_bindE hf
                  refine z_callVi (pc := 124) (As := []) (rest := []) (Wc := (W_X3_gatherings cA (fun k => h ([85, 86, 87, 88, 89, 90, 91].getD k 0)) y_pages y_printedLots y_printedLines)) (W1 := (W_X3_gatherings cA (fun k => h ([85, 86, 87, 88, 89, 90, 91].getD k 0)) y_pages y_printedLots y_printedLines)) (W2 := (W_X5_state cA h b_height b_count b_room b_account b_estimates b_wanted b_slipped y_usedOn y_pages y_printedLots y_printedLines c_count c_priced x_latestErrorOffset)) ⟨hx, hb, hml, hown, hts⟩ (kX3_gatherings l D cA (fun k => h ([85, 86, 87, 88, 89, 90, 91].getD k 0)) y_pages y_printedLots y_printedLines _ q14) (cwV 0 hts zgX5_state_X3_gatherings_106 rfl rfl rfl (by decide +kernel) ⟨Nat.le_of_ble_eq_true rfl, Nat.le_of_ble_eq_true rfl⟩) Z hA [5] rfl (by decide) rfl (ci := 3) rfl rfl rfl rfl hl.1 rfl (Nat.le_of_ble_eq_true rfl) dX5_state_124 ⟨Nat.zero_le _, Nat.zero_le _⟩ [none, none, none, none, none, some 0, none, none] rfl ⟨rfl, rfl, rfl, rfl, rfl, rfl, rfl, rfl, rfl⟩ (fun H locs Z => ?_)
                  cases hf
                · replace hf := o_neg c12 hf
                  by_cases c15 : p1 = (8 : Int32)
                  · replace hf := o_pos c15 hf
                    refine lv_tableIn (pc := 1) (tgt := 128) hx hb dX5_state_1 (by rw [c15]; decide) (by rw [c15]; decide) (by rw [c15]; rfl) (by decide) ?_
                    refine lv_aload_n (pc := 128) hx hb dX5_state_128 rfl (lv_at hl 0 rfl) ?_
                    refine z_get (pc := 129) (ref := "LotSheet") (ci := 5) (C := RX5) (T := TX5) (N := 7) hx hb hts iw_X5_state_X5 hown Z 0 rfl rfl 1 (by decide) (List.mem_of_getElem? (i := 3) rfl) rfl rfl dX5_state_129 ?_
                    refine z_get (pc := 132) (ref := "LotSheet$Bill") (ci := 0) (C := RX0) (T := TX0) (N := 11) hx hb hts iw_X5_state_X0 hown Z 1 rfl rfl 3 (by decide) (List.mem_of_getElem? (i := 11) rfl) rfl rfl dX5_state_132 ?_
                    cases hf
                  · replace hf := o_neg c15 hf
                    by_cases c16 : p1 = (9 : Int32)
                    · replace hf := o_pos c16 hf
                      refine lv_tableIn (pc := 1) (tgt := 136) hx hb dX5_state_1 (by rw [c16]; decide) (by rw [c16]; decide) (by rw [c16]; rfl) (by decide) ?_
                      refine lv_aload_n (pc := 136) hx hb dX5_state_136 rfl (lv_at hl 0 rfl) ?_
                      refine z_get (pc := 137) (ref := "LotSheet") (ci := 5) (C := RX5) (T := TX5) (N := 7) hx hb hts iw_X5_state_X5 hown Z 0 rfl rfl 1 (by decide) (List.mem_of_getElem? (i := 3) rfl) rfl rfl dX5_state_137 ?_
                      obtain ⟨x17, q18, hf⟩ := o_bindE hf
                      refine z_callVi (pc := 140) (As := []) (rest := []) (Wc := (W_X0_wantedEstimates cA (fun k => h ([3, 4, 5, 6, 7, 8, 9, 10].getD k 0)) b_height b_count b_room b_account b_estimates b_wanted)) (W1 := (W_X0_wantedEstimates cA (fun k => h ([3, 4, 5, 6, 7, 8, 9, 10].getD k 0)) b_height b_count b_room b_account b_estimates b_wanted)) (W2 := (W_X5_state cA h b_height b_count b_room b_account b_estimates b_wanted b_slipped y_usedOn y_pages y_printedLots y_printedLines c_count c_priced x_latestErrorOffset)) ⟨hx, hb, hml, hown, hts⟩ (kX0_wantedEstimates l D cA (fun k => h ([3, 4, 5, 6, 7, 8, 9, 10].getD k 0)) b_height b_count b_room b_account b_estimates b_wanted _ q18) (cwV 0 hts zgX5_state_X0_wantedEstimates_112 rfl rfl rfl (by decide +kernel) ⟨Nat.le_of_ble_eq_true rfl, Nat.le_of_ble_eq_true rfl⟩) Z hA [1, 2, 3] rfl (by decide) rfl (ci := 0) rfl rfl rfl rfl hl.1 rfl (Nat.le_of_ble_eq_true rfl) dX5_state_140 ⟨Nat.zero_le _, Nat.zero_le _⟩ [none, some 0, some 1, some 2, none, none, none, none] rfl ⟨rfl, rfl, rfl, rfl, rfl, rfl, rfl, rfl, rfl⟩ (fun H locs Z => ?_)
                      cases hf
                    · replace hf := o_neg c16 hf
                      by_cases c19 : p1 = (10 : Int32)
                      · replace hf := o_pos c19 hf
                        refine lv_tableIn (pc := 1) (tgt := 144) hx hb dX5_state_1 (by rw [c19]; decide) (by rw [c19]; decide) (by rw [c19]; rfl) (by decide) ?_
                        refine lv_aload_n (pc := 144) hx hb dX5_state_144 rfl (lv_at hl 0 rfl) ?_
                        refine z_get (pc := 145) (ref := "LotSheet") (ci := 5) (C := RX5) (T := TX5) (N := 7) hx hb hts iw_X5_state_X5 hown Z 0 rfl rfl 4 (by decide) (List.mem_of_getElem? (i := 6) rfl) rfl rfl dX5_state_145 ?_
                        refine lv_aload_n (pc := 148) hx hb dX5_state_148 rfl (lv_at hl 0 rfl) ?_
                        refine z_get (pc := 149) (ref := "LotSheet") (ci := 5) (C := RX5) (T := TX5) (N := 7) hx hb hts iw_X5_state_X5 hown Z 0 rfl rfl 1 (by decide) (List.mem_of_getElem? (i := 3) rfl) rfl rfl dX5_state_149 ?_
                        refine z_get (pc := 152) (ref := "LotSheet$Bill") (ci := 0) (C := RX0) (T := TX0) (N := 11) hx hb hts iw_X5_state_X0 hown Z 1 rfl rfl 0 (by decide) (List.mem_of_getElem? (i := 4) rfl) rfl rfl dX5_state_152 ?_
                        obtain ⟨x20, q21, hf⟩ := o_bindE hf
                        refine z_callVi (pc := 155) (As := [.int b_height]) (rest := []) (Wc := (W_X3_blankLinesAheadOfLastPage cA (fun k => h ([85, 86, 87, 88, 89, 90, 91].getD k 0)) y_usedOn y_pages y_printedLots y_printedLines)) (W1 := (W_X3_blankLinesAheadOfLastPage cA (fun k => h ([85, 86, 87, 88, 89, 90, 91].getD k 0)) y_usedOn y_pages y_printedLots y_printedLines)) (W2 := (W_X5_state cA h b_height b_count b_room b_account b_estimates b_wanted b_slipped y_usedOn y_pages y_printedLots y_printedLines c_count c_priced x_latestErrorOffset)) ⟨hx, hb, hml, hown, hts⟩ (kX3_blankLinesAheadOfLastPage l D cA (fun k => h ([85, 86, 87, 88, 89, 90, 91].getD k 0)) b_height y_usedOn y_pages y_printedLots y_printedLines _ q21) (cwV 1 hts zgX5_state_X3_blankLinesAheadOfLastPage_115 rfl rfl rfl (by decide +kernel) ⟨Nat.le_of_ble_eq_true rfl, Nat.le_of_ble_eq_true rfl⟩) Z hA [5, 6] rfl (by decide) rfl (ci := 3) rfl rfl rfl rfl hl.1 rfl (Nat.le_of_ble_eq_true rfl) dX5_state_155 ⟨Nat.zero_le _, Nat.zero_le _⟩ [none, none, none, none, none, some 0, some 1, none] rfl ⟨rfl, rfl, rfl, rfl, rfl, rfl, rfl, rfl, rfl⟩ (fun H locs Z => ?_)
                        cases hf
                      · replace hf := o_neg c19 hf
                        by_cases c22 : p1 = (11 : Int32)
                        · replace hf := o_pos c22 hf
                          refine lv_tableIn (pc := 1) (tgt := 159) hx hb dX5_state_1 (by rw [c22]; decide) (by rw [c22]; decide) (by rw [c22]; rfl) (by decide) ?_
                          refine lv_aload_n (pc := 159) hx hb dX5_state_159 rfl (lv_at hl 0 rfl) ?_
                          refine z_get (pc := 160) (ref := "LotSheet") (ci := 5) (C := RX5) (T := TX5) (N := 7) hx hb hts iw_X5_state_X5 hown Z 0 rfl rfl 1 (by decide) (List.mem_of_getElem? (i := 3) rfl) rfl rfl dX5_state_160 ?_
                          refine z_get (pc := 163) (ref := "LotSheet$Bill") (ci := 0) (C := RX0) (T := TX0) (N := 11) hx hb hts iw_X5_state_X0 hown Z 1 rfl rfl 2 (by decide) (List.mem_of_getElem? (i := 12) rfl) rfl rfl dX5_state_163 ?_
                          cases hf
                        · replace hf := o_neg c22 hf
                          refine lv_tableOut (pc := 1) (tgt := 167) hx hb dX5_state_1 (z_out12 c1 c2 c3 c4 c7 c8 c11 c12 c15 c16 c19 c22) (by decide) ?_
                          cases hf
                          exact z_throwE (pc := 167) hx hb hfl hown hts (by decide +kernel) (List.mem_of_getElem? (i := 1) rfl) (List.mem_of_getElem? (i := 2) rfl) z_inI (List.mem_of_getElem? (i := 1) rfl) hE Z (hl.1.trans hml.symm) dX5_state_167 dX5_state_170 dX5_state_171 dX5_state_173 dX5_state_176 hxt (Nat.le_of_ble_eq_true rfl) (Nat.le_of_ble_eq_true rfl) (Nat.le_of_ble_eq_true rfl) (Nat.le_of_ble_eq_true rfl) hlocks
