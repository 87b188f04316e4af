def W_X5_lot (cA : Nat → ClassId) (h : Nat → Nat) (b_height : Int32) (b_count : Int32) (b_room : Int32) (b_account : Int32) (b_lines : Nat → Int32) (b_estimates : Nat → Int32) (b_sellers : Nat → Int32) (b_printed : Nat → Int32) (b_wanted : Nat → Int32) (b_slipped : Nat → Int32) (y_numberOf : Nat → Int32) (y_pageOf : Nat → Int32) (y_lineOf : Nat → Int32) (y_pages : Int32) (y_printedLots : Int32) (y_printedLines : Int32) (x_latestErrorOffset : Int32) : va_W := [(h 0, .inr (5, [.ref (h 1), .ref (h 3), .ref (h 11), .ref (h 19), .ref (h 85), .ref (h 92), .int x_latestErrorOffset])), (h 3, .inr (0, [.int b_height, .int b_count, .int b_room, .int b_account, .ref (h 4), .ref (h 5), .ref (h 6), .ref (h 7), .ref (h 8), .ref (h 9), .ref (h 10)])), (h 5, .inl (cA 0, 24, .inl b_lines)), (h 6, .inl (cA 0, 24, .inl b_estimates)), (h 7, .inl (cA 0, 24, .inl b_sellers)), (h 8, .inl (cA 1, 24, .inl b_printed)), (h 9, .inl (cA 1, 24, .inl b_wanted)), (h 10, .inl (cA 1, 24, .inl b_slipped)), (h 85, .inr (3, [.ref (h 86), .ref (h 87), .ref (h 88), .ref (h 89), .ref (h 90), .ref (h 91), .int y_pages, .int y_printedLots, .int y_printedLines])), (h 86, .inl (cA 0, 24, .inl y_numberOf)), (h 87, .inl (cA 0, 24, .inl y_pageOf)), (h 88, .inl (cA 0, 24, .inl y_lineOf))]
def fX5_lot (p1 : Int32) (p2 : Int32) (b_count : Int32) (b_lines : Nat → Int32) (b_estimates : Nat → Int32) (b_sellers : Nat → Int32) (b_printed : Nat → Int32) (b_wanted : Nat → Int32) (b_slipped : Nat → Int32) (y_numberOf : Nat → Int32) (y_pageOf : Nat → Int32) (y_lineOf : Nat → Int32) : Option (String ⊕ (Int32)) := o_try (fX5_needLot p1 b_count) (fun _ => (if p2 = (0 : Int32) then o_rd 24 p1 (some (.inr ((b_lines p1.toNatClampNeg)))) else if p2 = (1 : Int32) then o_rd 24 p1 (some (.inr ((b_estimates p1.toNatClampNeg)))) else if p2 = (2 : Int32) then o_rd 24 p1 (some (.inr ((b_sellers p1.toNatClampNeg)))) else if p2 = (3 : Int32) then o_rd 24 p1 ((if (b_printed p1.toNatClampNeg) = 0 then some (.inr ((0 : Int32))) else some (.inr ((1 : Int32))))) else if p2 = (4 : Int32) then o_rd 24 p1 ((if (b_wanted p1.toNatClampNeg) = 0 then some (.inr ((0 : Int32))) else some (.inr ((1 : Int32))))) else if p2 = (5 : Int32) then o_rd 24 p1 ((if (b_slipped p1.toNatClampNeg) = 0 then some (.inr ((0 : Int32))) else some (.inr ((1 : Int32))))) else if p2 = (6 : Int32) then o_rd 24 p1 (some (.inr ((y_numberOf p1.toNatClampNeg)))) else if p2 = (7 : Int32) then o_rd 24 p1 (some (.inr ((y_pageOf p1.toNatClampNeg)))) else if p2 = (8 : Int32) then o_rd 24 p1 (some (.inr ((y_lineOf p1.toNatClampNeg)))) else some (.inl "java/lang/IllegalArgumentException")))
theorem iw_X5_lot_X5 : ∀ w ∈ u_ws RX5 TX5 7, w ∈ zsX5_lot := z_inr [22, 23, 24, 25, 26, 27, 28] rfl
theorem iw_X5_lot_X0 : ∀ w ∈ u_ws RX0 TX0 11, w ∈ zsX5_lot := z_inr [29, 30, 31, 32, 33, 34, 35, 36, 37, 38, 39] rfl
theorem iw_X5_lot_X3 : ∀ w ∈ u_ws RX3 TX3 9, w ∈ zsX5_lot := z_inr [40, 41, 42, 43, 44, 45, 46, 47, 48] rfl
set_option maxHeartbeats 4000000 in
set_option maxRecDepth 100000 in
theorem kX5_lot (l : Launch) (D : va_G) (cA : Nat → ClassId) (h : Nat → Nat) (p1 : Int32) (p2 : Int32) (b_height : Int32) (b_count : Int32) (b_room : Int32) (b_account : Int32) (b_lines : Nat → Int32) (b_estimates : Nat → Int32) (b_sellers : Nat → Int32) (b_printed : Nat → Int32) (b_wanted : Nat → Int32) (b_slipped : Nat → Int32) (y_numberOf : Nat → Int32) (y_pageOf : Nat → Int32) (y_lineOf : Nat → Int32) (y_pages : Int32) (y_printedLots : Int32) (y_printedLines : Int32) (x_latestErrorOffset : Int32) (u : Int32) (hf : fX5_lot p1 p2 b_count b_lines b_estimates b_sellers b_printed b_wanted b_slipped y_numberOf y_pageOf y_lineOf = some (.inr u)) : zMi l yX5_lot zsX5_lot ({ frames := 7, cells := 0, slots := 0, locals := 111 } : Room) D (zTY cA) [.ref (h 0), .int p1, .int p2] (W_X5_lot cA h b_height b_count b_room b_account b_lines b_estimates b_sellers b_printed b_wanted b_slipped y_numberOf y_pageOf y_lineOf y_pages y_printedLots y_printedLines x_latestErrorOffset) (W_X5_lot cA h b_height b_count b_room b_account b_lines b_estimates b_sellers b_printed b_wanted b_slipped y_numberOf y_pageOf y_lineOf y_pages y_printedLots y_printedLines x_latestErrorOffset) u := by
  refine z_starti (cc := cX5_lot) (maxL := 3) (ret := (some .int)) (by decide) rfl (Nat.le_of_ble_eq_true rfl) ?_
  intro p e s m args below meth c A hx hb hr hts hown hlocks hml hA Z ls hl
  replace hown : s.vm.findClass RX5 = some m.cls := hown
  replace hl : lv_has ls 3 [(0, .ref (h 0)), (1, .int p1), (2, .int p2)] := hl
  obtain ⟨H, hH⟩ : ∃ H, H = s.heap := ⟨_, rfl⟩
  rw [← hH] at Z ⊢
  clear hH
  obtain ⟨locs, hlc⟩ : ∃ q : List Loc, q = [] := ⟨_, rfl⟩
  rw [← hlc] at Z ⊢
  clear hlc
  refine lv_aload_n (pc := 0) hx hb dX5_lot_0 rfl (lv_at hl 0 rfl) ?_
  refine lv_iload_n (pc := 1) hx hb dX5_lot_1 rfl (lv_at hl 1 rfl) ?_
  obtain ⟨_, q1, hf⟩ := o_tryOk hf
  refine z_callVv (pc := 2) (As := [.int p1]) (rest := []) (Wc := (W_X5_needLot cA (fun k => h (k)) b_height b_count b_room b_account x_latestErrorOffset)) (W1 := (W_X5_needLot cA (fun k => h (k)) b_height b_count b_room b_account x_latestErrorOffset)) (W2 := (W_X5_lot cA h b_height b_count b_room b_account b_lines b_estimates b_sellers b_printed b_wanted b_slipped y_numberOf y_pageOf y_lineOf y_pages y_printedLots y_printedLines x_latestErrorOffset)) ⟨hx, hb, hml, hown, hts⟩ (kX5_needLot l D cA (fun k => h (k)) p1 b_height b_count b_room b_account x_latestErrorOffset _ q1) (cwV 1 hts zgX5_lot_X5_needLot_124 rfl rfl rfl (by decide +kernel) ⟨Nat.le_of_ble_eq_true rfl, Nat.le_of_ble_eq_true rfl⟩) Z hA [0, 1] rfl (by decide) rfl (ci := 5) rfl rfl rfl rfl hl.1 rfl (Nat.le_of_ble_eq_true rfl) dX5_lot_2 ⟨Nat.zero_le _, Nat.zero_le _⟩ [some 0, some 1, none, none, none, none, none, none, none, none, none, none] rfl ⟨rfl, rfl, rfl, rfl, rfl, rfl, rfl, rfl, rfl, rfl, rfl, rfl, rfl⟩ (fun H locs Z => ?_)
  refine lv_iload_n (pc := 5) hx hb dX5_lot_5 rfl (lv_at hl 2 rfl) ?_
  by_cases c2 : p2 = (0 : Int32)
  · replace hf := o_pos c2 hf
    refine lv_tableIn (pc := 6) (tgt := 56) hx hb dX5_lot_6 (by rw [c2]; decide) (by rw [c2]; decide) (by rw [c2]; rfl) (by decide) ?_
    refine lv_aload_n (pc := 56) hx hb dX5_lot_56 rfl (lv_at hl 0 rfl) ?_
    refine z_get (pc := 57) (ref := "LotSheet") (ci := 5) (C := RX5) (T := TX5) (N := 7) hx hb hts iw_X5_lot_X5 hown Z 0 rfl rfl 1 (by decide) (List.mem_of_getElem? (i := 3) rfl) rfl rfl dX5_lot_57 ?_
    refine z_get (pc := 60) (ref := "LotSheet$Bill") (ci := 0) (C := RX0) (T := TX0) (N := 11) hx hb hts iw_X5_lot_X0 hown Z 1 rfl rfl 5 (by decide) (List.mem_of_getElem? (i := 4) rfl) rfl rfl dX5_lot_60 ?_
    refine lv_iload_n (pc := 63) hx hb dX5_lot_63 rfl (lv_at hl 1 rfl) ?_
    obtain ⟨i3, hf⟩ := o_rdE hf
    refine z_iald (pc := 64) hx hb Z 2 0 rfl rfl i3 dX5_lot_64 ?_
    cases hf
    exact z_iret (pc := 65) hx hb hr hlocks Z rfl rfl dX5_lot_65
  · replace hf := o_neg c2 hf
    by_cases c4 : p2 = (1 : Int32)
    · replace hf := o_pos c4 hf
      refine lv_tableIn (pc := 6) (tgt := 66) hx hb dX5_lot_6 (by rw [c4]; decide) (by rw [c4]; decide) (by rw [c4]; rfl) (by decide) ?_
      refine lv_aload_n (pc := 66) hx hb dX5_lot_66 rfl (lv_at hl 0 rfl) ?_
      refine z_get (pc := 67) (ref := "LotSheet") (ci := 5) (C := RX5) (T := TX5) (N := 7) hx hb hts iw_X5_lot_X5 hown Z 0 rfl rfl 1 (by decide) (List.mem_of_getElem? (i := 3) rfl) rfl rfl dX5_lot_67 ?_
      refine z_get (pc := 70) (ref := "LotSheet$Bill") (ci := 0) (C := RX0) (T := TX0) (N := 11) hx hb hts iw_X5_lot_X0 hown Z 1 rfl rfl 6 (by decide) (List.mem_of_getElem? (i := 5) rfl) rfl rfl dX5_lot_70 ?_
      refine lv_iload_n (pc := 73) hx hb dX5_lot_73 rfl (lv_at hl 1 rfl) ?_
      obtain ⟨i5, hf⟩ := o_rdE hf
      refine z_iald (pc := 74) hx hb Z 3 0 rfl rfl i5 dX5_lot_74 ?_
      cases hf
      exact z_iret (pc := 75) hx hb hr hlocks Z rfl rfl dX5_lot_75
    · replace hf := o_neg c4 hf
      by_cases c6 : p2 = (2 : Int32)
      · replace hf := o_pos c6 hf
        refine lv_tableIn (pc := 6) (tgt := 76) hx hb dX5_lot_6 (by rw [c6]; decide) (by rw [c6]; decide) (by rw [c6]; rfl) (by decide) ?_
        refine lv_aload_n (pc := 76) hx hb dX5_lot_76 rfl (lv_at hl 0 rfl) ?_
        refine z_get (pc := 77) (ref := "LotSheet") (ci := 5) (C := RX5) (T := TX5) (N := 7) hx hb hts iw_X5_lot_X5 hown Z 0 rfl rfl 1 (by decide) (List.mem_of_getElem? (i := 3) rfl) rfl rfl dX5_lot_77 ?_
        refine z_get (pc := 80) (ref := "LotSheet$Bill") (ci := 0) (C := RX0) (T := TX0) (N := 11) hx hb hts iw_X5_lot_X0 hown Z 1 rfl rfl 7 (by decide) (List.mem_of_getElem? (i := 6) rfl) rfl rfl dX5_lot_80 ?_
        refine lv_iload_n (pc := 83) hx hb dX5_lot_83 rfl (lv_at hl 1 rfl) ?_
        obtain ⟨i7, hf⟩ := o_rdE hf
        refine z_iald (pc := 84) hx hb Z 4 0 rfl rfl i7 dX5_lot_84 ?_
        cases hf
        exact z_iret (pc := 85) hx hb hr hlocks Z rfl rfl dX5_lot_85
      · replace hf := o_neg c6 hf
        by_cases c8 : p2 = (3 : Int32)
        · replace hf := o_pos c8 hf
          refine lv_tableIn (pc := 6) (tgt := 86) hx hb dX5_lot_6 (by rw [c8]; decide) (by rw [c8]; decide) (by rw [c8]; rfl) (by decide) ?_
          refine lv_aload_n (pc := 86) hx hb dX5_lot_86 rfl (lv_at hl 0 rfl) ?_
          refine z_get (pc := 87) (ref := "LotSheet") (ci := 5) (C := RX5) (T := TX5) (N := 7) hx hb hts iw_X5_lot_X5 hown Z 0 rfl rfl 1 (by decide) (List.mem_of_getElem? (i := 3) rfl) rfl rfl dX5_lot_87 ?_
          refine z_get (pc := 90) (ref := "LotSheet$Bill") (ci := 0) (C := RX0) (T := TX0) (N := 11) hx hb hts iw_X5_lot_X0 hown Z 1 rfl rfl 8 (by decide) (List.mem_of_getElem? (i := 7) rfl) rfl rfl dX5_lot_90 ?_
          refine lv_iload_n (pc := 93) hx hb dX5_lot_93 rfl (lv_at hl 1 rfl) ?_
          obtain ⟨i9, hf⟩ := o_rdE hf
          refine z_zald (pc := 94) hx hb Z 5 1 rfl rfl i9 dX5_lot_94 ?_
          refine lv_if_eq (pc := 95) (tgt := 102) hx hb dX5_lot_95 (by decide) (fun c10 => ?_) (fun c10 => ?_)
          · replace hf := o_pos c10 hf
            refine lv_iconst (pc := 102) (v := (0 : Int32)) hx hb dX5_lot_102 (by decide) ?_
            cases hf
            exact z_iret (pc := 103) hx hb hr hlocks Z rfl rfl dX5_lot_103
          · replace hf := o_neg c10 hf
            refine lv_iconst (pc := 98) (v := (1 : Int32)) hx hb dX5_lot_98 (by decide) ?_
            refine lv_goto (pc := 99) (tgt := 103) hx hb dX5_lot_99 (by decide) ?_
            cases hf
            exact z_iret (pc := 103) hx hb hr hlocks Z rfl rfl dX5_lot_103
        · replace hf := o_neg c8 hf
          by_cases c11 : p2 = (4 : Int32)
          · replace hf := o_pos c11 hf
            refine lv_tableIn (pc := 6) (tgt := 104) hx hb dX5_lot_6 (by rw [c11]; decide) (by rw [c11]; decide) (by rw [c11]; rfl) (by decide) ?_
            refine lv_aload_n (pc := 104) hx hb dX5_lot_104 rfl (lv_at hl 0 rfl) ?_
            refine z_get (pc := 105) (ref := "LotSheet") (ci := 5) (C := RX5) (T := TX5) (N := 7) hx hb hts iw_X5_lot_X5 hown Z 0 rfl rfl 1 (by decide) (List.mem_of_getElem? (i := 3) rfl) rfl rfl dX5_lot_105 ?_
            refine z_get (pc := 108) (ref := "LotSheet$Bill") (ci := 0) (C := RX0) (T := TX0) (N := 11) hx hb hts iw_X5_lot_X0 hown Z 1 rfl rfl 9 (by decide) (List.mem_of_getElem? (i := 8) rfl) rfl rfl dX5_lot_108 ?_
            refine lv_iload_n (pc := 111) hx hb dX5_lot_111 rfl (lv_at hl 1 rfl) ?_
            obtain ⟨i12, hf⟩ := o_rdE hf
            refine z_zald (pc := 112) hx hb Z 6 1 rfl rfl i12 dX5_lot_112 ?_
            refine lv_if_eq (pc := 113) (tgt := 120) hx hb dX5_lot_113 (by decide) (fun c13 => ?_) (fun c13 => ?_)
            · replace hf := o_pos c13 hf
              refine lv_iconst (pc := 120) (v := (0 : Int32)) hx hb dX5_lot_120 (by decide) ?_
              cases hf
              exact z_iret (pc := 121) hx hb hr hlocks Z rfl rfl dX5_lot_121
            · replace hf := o_neg c13 hf
              refine lv_iconst (pc := 116) (v := (1 : Int32)) hx hb dX5_lot_116 (by decide) ?_
              refine lv_goto (pc := 117) (tgt := 121) hx hb dX5_lot_117 (by decide) ?_
              cases hf
              exact z_iret (pc := 121) hx hb hr hlocks Z rfl rfl dX5_lot_121
          · replace hf := o_neg c11 hf
            by_cases c14 : p2 = (5 : Int32)
            · replace hf := o_pos c14 hf
              refine lv_tableIn (pc := 6) (tgt := 122) hx hb dX5_lot_6 (by rw [c14]; decide) (by rw [c14]; decide) (by rw [c14]; rfl) (by decide) ?_
              refine lv_aload_n (pc := 122) hx hb dX5_lot_122 rfl (lv_at hl 0 rfl) ?_
              refine z_get (pc := 123) (ref := "LotSheet") (ci := 5) (C := RX5) (T := TX5) (N := 7) hx hb hts iw_X5_lot_X5 hown Z 0 rfl rfl 1 (by decide) (List.mem_of_getElem? (i := 3) rfl) rfl rfl dX5_lot_123 ?_
              refine z_get (pc := 126) (ref := "LotSheet$Bill") (ci := 0) (C := RX0) (T := TX0) (N := 11) hx hb hts iw_X5_lot_X0 hown Z 1 rfl rfl 10 (by decide) (List.mem_of_getElem? (i := 9) rfl) rfl rfl dX5_lot_126 ?_
              refine lv_iload_n (pc := 129) hx hb dX5_lot_129 rfl (lv_at hl 1 rfl) ?_
              obtain ⟨i15, hf⟩ := o_rdE hf
              refine z_zald (pc := 130) hx hb Z 7 1 rfl rfl i15 dX5_lot_130 ?_
              refine lv_if_eq (pc := 131) (tgt := 138) hx hb dX5_lot_131 (by decide) (fun c16 => ?_) (fun c16 => ?_)
              · replace hf := o_pos c16 hf
                refine lv_iconst (pc := 138) (v := (0 : Int32)) hx hb dX5_lot_138 (by decide) ?_
                cases hf
                exact z_iret (pc := 139) hx hb hr hlocks Z rfl rfl dX5_lot_139
              · replace hf := o_neg c16 hf
                refine lv_iconst (pc := 134) (v := (1 : Int32)) hx hb dX5_lot_134 (by decide) ?_
                refine lv_goto (pc := 135) (tgt := 139) hx hb dX5_lot_135 (by decide) ?_
                cases hf
                exact z_iret (pc := 139) hx hb hr hlocks Z rfl rfl dX5_lot_139
            · replace hf := o_neg c14 hf
              by_cases c17 : p2 = (6 : Int32)
              · replace hf := o_pos c17 hf
                refine lv_tableIn (pc := 6) (tgt := 140) hx hb dX5_lot_6 (by rw [c17]; decide) (by rw [c17]; decide) (by rw [c17]; rfl) (by decide) ?_
                refine lv_aload_n (pc := 140) hx hb dX5_lot_140 rfl (lv_at hl 0 rfl) ?_
                refine z_get (pc := 141) (ref := "LotSheet") (ci := 5) (C := RX5) (T := TX5) (N := 7) hx hb hts iw_X5_lot_X5 hown Z 0 rfl rfl 4 (by decide) (List.mem_of_getElem? (i := 10) rfl) rfl rfl dX5_lot_141 ?_
                refine z_get (pc := 144) (ref := "LotSheet$Layout") (ci := 3) (C := RX3) (T := TX3) (N := 9) hx hb hts iw_X5_lot_X3 hown Z 8 rfl rfl 0 (by decide) (List.mem_of_getElem? (i := 11) rfl) rfl rfl dX5_lot_144 ?_
                refine lv_iload_n (pc := 147) hx hb dX5_lot_147 rfl (lv_at hl 1 rfl) ?_
                obtain ⟨i18, hf⟩ := o_rdE hf
                refine z_iald (pc := 148) hx hb Z 9 0 rfl rfl i18 dX5_lot_148 ?_
                cases hf
                exact z_iret (pc := 149) hx hb hr hlocks Z rfl rfl dX5_lot_149
              · replace hf := o_neg c17 hf
                by_cases c19 : p2 = (7 : Int32)
                · replace hf := o_pos c19 hf
                  refine lv_tableIn (pc := 6) (tgt := 150) hx hb dX5_lot_6 (by rw [c19]; decide) (by rw [c19]; decide) (by rw [c19]; rfl) (by decide) ?_
                  refine lv_aload_n (pc := 150) hx hb dX5_lot_150 rfl (lv_at hl 0 rfl) ?_
                  refine z_get (pc := 151) (ref := "LotSheet") (ci := 5) (C := RX5) (T := TX5) (N := 7) hx hb hts iw_X5_lot_X5 hown Z 0 rfl rfl 4 (by decide) (List.mem_of_getElem? (i := 10) rfl) rfl rfl dX5_lot_151 ?_
                  refine z_get (pc := 154) (ref := "LotSheet$Layout") (ci := 3) (C := RX3) (T := TX3) (N := 9) hx hb hts iw_X5_lot_X3 hown Z 8 rfl rfl 1 (by decide) (List.mem_of_getElem? (i := 12) rfl) rfl rfl dX5_lot_154 ?_
                  refine lv_iload_n (pc := 157) hx hb dX5_lot_157 rfl (lv_at hl 1 rfl) ?_
                  obtain ⟨i20, hf⟩ := o_rdE hf
                  refine z_iald (pc := 158) hx hb Z 10 0 rfl rfl i20 dX5_lot_158 ?_
                  cases hf
                  exact z_iret (pc := 159) hx hb hr hlocks Z rfl rfl dX5_lot_159
                · replace hf := o_neg c19 hf
                  by_cases c21 : p2 = (8 : Int32)
                  · replace hf := o_pos c21 hf
                    refine lv_tableIn (pc := 6) (tgt := 160) hx hb dX5_lot_6 (by rw [c21]; decide) (by rw [c21]; decide) (by rw [c21]; rfl) (by decide) ?_
                    refine lv_aload_n (pc := 160) hx hb dX5_lot_160 rfl (lv_at hl 0 rfl) ?_
                    refine z_get (pc := 161) (ref := "LotSheet") (ci := 5) (C := RX5) (T := TX5) (N := 7) hx hb hts iw_X5_lot_X5 hown Z 0 rfl rfl 4 (by decide) (List.mem_of_getElem? (i := 10) rfl) rfl rfl dX5_lot_161 ?_
                    refine z_get (pc := 164) (ref := "LotSheet$Layout") (ci := 3) (C := RX3) (T := TX3) (N := 9) hx hb hts iw_X5_lot_X3 hown Z 8 rfl rfl 2 (by decide) (List.mem_of_getElem? (i := 13) rfl) rfl rfl dX5_lot_164 ?_
                    refine lv_iload_n (pc := 167) hx hb dX5_lot_167 rfl (lv_at hl 1 rfl) ?_
                    obtain ⟨i22, hf⟩ := o_rdE hf
                    refine z_iald (pc := 168) hx hb Z 11 0 rfl rfl i22 dX5_lot_168 ?_
                    cases hf
                    exact z_iret (pc := 169) hx hb hr hlocks Z rfl rfl dX5_lot_169
                  · replace hf := o_neg c21 hf
                    refine lv_tableOut (pc := 6) (tgt := 170) hx hb dX5_lot_6 (z_out9 c2 c4 c6 c8 c11 c14 c17 c19 c21) (by decide) ?_
                    cases hf
set_option maxHeartbeats 4000000 in
set_option maxRecDepth 100000 in
theorem tX5_lot (l : Launch) (D : va_G) (cA : Nat → ClassId) (h : Nat → Nat) (p1 : Int32) (p2 : Int32) (b_height : Int32) (b_count : Int32) (b_room : Int32) (b_account : Int32) (b_lines : Nat → Int32) (b_estimates : Nat → Int32) (b_sellers : Nat → Int32) (b_printed : Nat → Int32) (b_wanted : Nat → Int32) (b_slipped : Nat → Int32) (y_numberOf : Nat → Int32) (y_pageOf : Nat → Int32) (y_lineOf : Nat → Int32) (y_pages : Int32) (y_printedLots : Int32) (y_printedLines : Int32) (x_latestErrorOffset : Int32) (E : String) (hf : fX5_lot p1 p2 b_count b_lines b_estimates b_sellers b_printed b_wanted b_slipped y_numberOf y_pageOf y_lineOf = some (.inl E)) (hfl : l.stackTraces = false) : zMiT l yX5_lot zsX5_lot ({ frames := 7, cells := 1, slots := 6, locals := 111 } : Room) D (zTY cA) [.ref (h 0), .int p1, .int p2] (W_X5_lot cA h b_height b_count b_room b_account b_lines b_estimates b_sellers b_printed b_wanted b_slipped y_numberOf y_pageOf y_lineOf y_pages y_printedLots y_printedLines x_latestErrorOffset) E := by
  refine z_startiT (cc := cX5_lot) (maxL := 3) (ret := (some .int)) (by decide) rfl (Nat.le_of_ble_eq_true rfl) ?_
  intro p e s m args below meth c A hx hb hr hts hown hlocks hml hA hE hxt Z ls hl
  replace hown : s.vm.findClass RX5 = some m.cls := hown
  replace hl : lv_has ls 3 [(0, .ref (h 0)), (1, .int p1), (2, .int p2)] := hl
  obtain ⟨H, hH⟩ : ∃ H, H = s.heap := ⟨_, rfl⟩
  rw [← hH] at Z ⊢
  clear hH
  obtain ⟨locs, hlc⟩ : ∃ q : List Loc, q = [] := ⟨_, rfl⟩
  rw [← hlc] at Z ⊢
  clear hlc
  refine lv_aload_n (pc := 0) hx hb dX5_lot_0 rfl (lv_at hl 0 rfl) ?_
  refine lv_iload_n (pc := 1) hx hb dX5_lot_1 rfl (lv_at hl 1 rfl) ?_
  rcases o_tryX hf with q1 | ⟨_, q1, hf⟩
  · exact z_callVvt (pc := 2) (As := [.int p1]) (rest := []) (Wc := (W_X5_needLot cA (fun k => h (k)) b_height b_count b_room b_account x_latestErrorOffset)) ⟨hx, hb, hml, hown, hts⟩ (tX5_needLot l D cA (fun k => h (k)) p1 b_height b_count b_room b_account x_latestErrorOffset _ q1 hfl) (cwV 1 hts zgX5_lot_X5_needLot_124 rfl rfl rfl (by decide +kernel) ⟨Nat.le_of_ble_eq_true rfl, Nat.le_of_ble_eq_true rfl⟩) hE Z hA [0, 1] rfl (by decide) (ci := 5) rfl rfl rfl rfl hl.1 rfl (Nat.le_of_ble_eq_true rfl) dX5_lot_2 ⟨Nat.le_of_ble_eq_true rfl, Nat.le_of_ble_eq_true rfl⟩ [some 0, some 1, none, none, none, none, none, none, none, none, none, none] rfl ⟨rfl, rfl, rfl, rfl, rfl, rfl, rfl, rfl, rfl, rfl, rfl, rfl, rfl⟩ hxt hlocks
  refine z_callVv (pc := 2) (As := [.int p1]) (rest := []) (Wc := (W_X5_needLot cA (fun k => h (k)) b_height b_count b_room b_account x_latestErrorOffset)) (W1 := (W_X5_needLot cA (fun k => h (k)) b_height b_count b_room b_account x_latestErrorOffset)) (W2 := (W_X5_lot cA h b_height b_count b_room b_account b_lines b_estimates b_sellers b_printed b_wanted b_slipped y_numberOf y_pageOf y_lineOf y_pages y_printedLots y_printedLines x_latestErrorOffset)) ⟨hx, hb, hml, hown, hts⟩ (kX5_needLot l D cA (fun k => h (k)) p1 b_height b_count b_room b_account x_latestErrorOffset _ q1) (cwV 1 hts zgX5_lot_X5_needLot_124 rfl rfl rfl (by decide +kernel) ⟨Nat.le_of_ble_eq_true rfl, Nat.le_of_ble_eq_true rfl⟩) Z hA [0, 1] rfl (by decide) rfl (ci := 5) rfl rfl rfl rfl hl.1 rfl (Nat.le_of_ble_eq_true rfl) dX5_lot_2 ⟨Nat.zero_le _, Nat.zero_le _⟩ [some 0, some 1, none, none, none, none, none, none, none, none, none, none] rfl ⟨rfl, rfl, rfl, rfl, rfl, rfl, rfl, rfl, rfl, rfl, rfl, rfl, rfl⟩ (fun H locs Z => ?_)
  refine lv_iload_n (pc := 5) hx hb dX5_lot_5 rfl (lv_at hl 2 rfl) ?_
  by_cases c2 : p2 = (0 : Int32)
  · replace hf := o_pos c2 hf
    refine lv_tableIn (pc := 6) (tgt := 56) hx hb dX5_lot_6 (by rw [c2]; decide) (by rw [c2]; decide) (by rw [c2]; rfl) (by decide) ?_
    refine lv_aload_n (pc := 56) hx hb dX5_lot_56 rfl (lv_at hl 0 rfl) ?_
    refine z_get (pc := 57) (ref := "LotSheet") (ci := 5) (C := RX5) (T := TX5) (N := 7) hx hb hts iw_X5_lot_X5 hown Z 0 rfl rfl 1 (by decide) (List.mem_of_getElem? (i := 3) rfl) rfl rfl dX5_lot_57 ?_
    refine z_get (pc := 60) (ref := "LotSheet$Bill") (ci := 0) (C := RX0) (T := TX0) (N := 11) hx hb hts iw_X5_lot_X0 hown Z 1 rfl rfl 5 (by decide) (List.mem_of_getElem? (i := 4) rfl) rfl rfl dX5_lot_60 ?_
    refine lv_iload_n (pc := 63) hx hb dX5_lot_63 rfl (lv_at hl 1 rfl) ?_
    obtain ⟨i3, hf⟩ := o_rdE hf
    refine z_iald (pc := 64) hx hb Z 2 0 rfl rfl i3 dX5_lot_64 ?_
    cases hf
  · replace hf := o_neg c2 hf
    by_cases c4 : p2 = (1 : Int32)
    · replace hf := o_pos c4 hf
      refine lv_tableIn (pc := 6) (tgt := 66) hx hb dX5_lot_6 (by rw [c4]; decide) (by rw [c4]; decide) (by rw [c4]; rfl) (by decide) ?_
      refine lv_aload_n (pc := 66) hx hb dX5_lot_66 rfl (lv_at hl 0 rfl) ?_
      refine z_get (pc := 67) (ref := "LotSheet") (ci := 5) (C := RX5) (T := TX5) (N := 7) hx hb hts iw_X5_lot_X5 hown Z 0 rfl rfl 1 (by decide) (List.mem_of_getElem? (i := 3) rfl) rfl rfl dX5_lot_67 ?_
      refine z_get (pc := 70) (ref := "LotSheet$Bill") (ci := 0) (C := RX0) (T := TX0) (N := 11) hx hb hts iw_X5_lot_X0 hown Z 1 rfl rfl 6 (by decide) (List.mem_of_getElem? (i := 5) rfl) rfl rfl dX5_lot_70 ?_
      refine lv_iload_n (pc := 73) hx hb dX5_lot_73 rfl (lv_at hl 1 rfl) ?_
      obtain ⟨i5, hf⟩ := o_rdE hf
      refine z_iald (pc := 74) hx hb Z 3 0 rfl rfl i5 dX5_lot_74 ?_
      cases hf
    · replace hf := o_neg c4 hf
      by_cases c6 : p2 = (2 : Int32)
      · replace hf := o_pos c6 hf
        refine lv_tableIn (pc := 6) (tgt := 76) hx hb dX5_lot_6 (by rw [c6]; decide) (by rw [c6]; decide) (by rw [c6]; rfl) (by decide) ?_
        refine lv_aload_n (pc := 76) hx hb dX5_lot_76 rfl (lv_at hl 0 rfl) ?_
        refine z_get (pc := 77) (ref := "LotSheet") (ci := 5) (C := RX5) (T := TX5) (N := 7) hx hb hts iw_X5_lot_X5 hown Z 0 rfl rfl 1 (by decide) (List.mem_of_getElem? (i := 3) rfl) rfl rfl dX5_lot_77 ?_
        refine z_get (pc := 80) (ref := "LotSheet$Bill") (ci := 0) (C := RX0) (T := TX0) (N := 11) hx hb hts iw_X5_lot_X0 hown Z 1 rfl rfl 7 (by decide) (List.mem_of_getElem? (i := 6) rfl) rfl rfl dX5_lot_80 ?_
        refine lv_iload_n (pc := 83) hx hb dX5_lot_83 rfl (lv_at hl 1 rfl) ?_
        obtain ⟨i7, hf⟩ := o_rdE hf
        refine z_iald (pc := 84) hx hb Z 4 0 rfl rfl i7 dX5_lot_84 ?_
        cases hf
      · replace hf := o_neg c6 hf
        by_cases c8 : p2 = (3 : Int32)
        · replace hf := o_pos c8 hf
          refine lv_tableIn (pc := 6) (tgt := 86) hx hb dX5_lot_6 (by rw [c8]; decide) (by rw [c8]; decide) (by rw [c8]; rfl) (by decide) ?_
          refine lv_aload_n (pc := 86) hx hb dX5_lot_86 rfl (lv_at hl 0 rfl) ?_
          refine z_get (pc := 87) (ref := "LotSheet") (ci := 5) (C := RX5) (T := TX5) (N := 7) hx hb hts iw_X5_lot_X5 hown Z 0 rfl rfl 1 (by decide) (List.mem_of_getElem? (i := 3) rfl) rfl rfl dX5_lot_87 ?_
          refine z_get (pc := 90) (ref := "LotSheet$Bill") (ci := 0) (C := RX0) (T := TX0) (N := 11) hx hb hts iw_X5_lot_X0 hown Z 1 rfl rfl 8 (by decide) (List.mem_of_getElem? (i := 7) rfl) rfl rfl dX5_lot_90 ?_
          refine lv_iload_n (pc := 93) hx hb dX5_lot_93 rfl (lv_at hl 1 rfl) ?_
          obtain ⟨i9, hf⟩ := o_rdE hf
          refine z_zald (pc := 94) hx hb Z 5 1 rfl rfl i9 dX5_lot_94 ?_
          refine lv_if_eq (pc := 95) (tgt := 102) hx hb dX5_lot_95 (by decide) (fun c10 => ?_) (fun c10 => ?_)
          · replace hf := o_pos c10 hf
            refine lv_iconst (pc := 102) (v := (0 : Int32)) hx hb dX5_lot_102 (by decide) ?_
            cases hf
          · replace hf := o_neg c10 hf
            refine lv_iconst (pc := 98) (v := (1 : Int32)) hx hb dX5_lot_98 (by decide) ?_
            refine lv_goto (pc := 99) (tgt := 103) hx hb dX5_lot_99 (by decide) ?_
            cases hf
        · replace hf := o_neg c8 hf
          by_cases c11 : p2 = (4 : Int32)
          · replace hf := o_pos c11 hf
            refine lv_tableIn (pc := 6) (tgt := 104) hx hb dX5_lot_6 (by rw [c11]; decide) (by rw [c11]; decide) (by rw [c11]; rfl) (by decide) ?_
            refine lv_aload_n (pc := 104) hx hb dX5_lot_104 rfl (lv_at hl 0 rfl) ?_
            refine z_get (pc := 105) (ref := "LotSheet") (ci := 5) (C := RX5) (T := TX5) (N := 7) hx hb hts iw_X5_lot_X5 hown Z 0 rfl rfl 1 (by decide) (List.mem_of_getElem? (i := 3) rfl) rfl rfl dX5_lot_105 ?_
            refine z_get (pc := 108) (ref := "LotSheet$Bill") (ci := 0) (C := RX0) (T := TX0) (N := 11) hx hb hts iw_X5_lot_X0 hown Z 1 rfl rfl 9 (by decide) (List.mem_of_getElem? (i := 8) rfl) rfl rfl dX5_lot_108 ?_
            refine lv_iload_n (pc := 111) hx hb dX5_lot_111 rfl (lv_at hl 1 rfl) ?_
            obtain ⟨i12, hf⟩ := o_rdE hf
            refine z_zald (pc := 112) hx hb Z 6 1 rfl rfl i12 dX5_lot_112 ?_
            refine lv_if_eq (pc := 113) (tgt := 120) hx hb dX5_lot_113 (by decide) (fun c13 => ?_) (fun c13 => ?_)
            · replace hf := o_pos c13 hf
              refine lv_iconst (pc := 120) (v := (0 : Int32)) hx hb dX5_lot_120 (by decide) ?_
              cases hf
            · replace hf := o_neg c13 hf
              refine lv_iconst (pc := 116) (v := (1 : Int32)) hx hb dX5_lot_116 (by decide) ?_
              refine lv_goto (pc := 117) (tgt := 121) hx hb dX5_lot_117 (by decide) ?_
              cases hf
          · replace hf := o_neg c11 hf
            by_cases c14 : p2 = (5 : Int32)
            · replace hf := o_pos c14 hf
              refine lv_tableIn (pc := 6) (tgt := 122) hx hb dX5_lot_6 (by rw [c14]; decide) (by rw [c14]; decide) (by rw [c14]; rfl) (by decide) ?_
              refine lv_aload_n (pc := 122) hx hb dX5_lot_122 rfl (lv_at hl 0 rfl) ?_
              refine z_get (pc := 123) (ref := "LotSheet") (ci := 5) (C := RX5) (T := TX5) (N := 7) hx hb hts iw_X5_lot_X5 hown Z 0 rfl rfl 1 (by decide) (List.mem_of_getElem? (i := 3) rfl) rfl rfl dX5_lot_123 ?_
              refine z_get (pc := 126) (ref := "LotSheet$Bill") (ci := 0) (C := RX0) (T := TX0) (N := 11) hx hb hts iw_X5_lot_X0 hown Z 1 rfl rfl 10 (by decide) (List.mem_of_getElem? (i := 9) rfl) rfl rfl dX5_lot_126 ?_
              refine lv_iload_n (pc := 129) hx hb dX5_lot_129 rfl (lv_at hl 1 rfl) ?_
              obtain ⟨i15, hf⟩ := o_rdE hf
              refine z_zald (pc := 130) hx hb Z 7 1 rfl rfl i15 dX5_lot_130 ?_
              refine lv_if_eq (pc := 131) (tgt := 138) hx hb dX5_lot_131 (by decide) (fun c16 => ?_) (fun c16 => ?_)
              · replace hf := o_pos c16 hf
                refine lv_iconst (pc := 138) (v := (0 : Int32)) hx hb dX5_lot_138 (by decide) ?_
                cases hf
              · replace hf := o_neg c16 hf
                refine lv_iconst (pc := 134) (v := (1 : Int32)) hx hb dX5_lot_134 (by decide) ?_
                refine lv_goto (pc := 135) (tgt := 139) hx hb dX5_lot_135 (by decide) ?_
                cases hf
            · replace hf := o_neg c14 hf
              by_cases c17 : p2 = (6 : Int32)
              · replace hf := o_pos c17 hf
                refine lv_tableIn (pc := 6) (tgt := 140) hx hb dX5_lot_6 (by rw [c17]; decide) (by rw [c17]; decide) (by rw [c17]; rfl) (by decide) ?_
                refine lv_aload_n (pc := 140) hx hb dX5_lot_140 rfl (lv_at hl 0 rfl) ?_
                refine z_get (pc := 141) (ref := "LotSheet") (ci := 5) (C := RX5) (T := TX5) (N := 7) hx hb hts iw_X5_lot_X5 hown Z 0 rfl rfl 4 (by decide) (List.mem_of_getElem? (i := 10) rfl) rfl rfl dX5_lot_141 ?_
                refine z_get (pc := 144) (ref := "LotSheet$Layout") (ci := 3) (C := RX3) (T := TX3) (N := 9) hx hb hts iw_X5_lot_X3 hown Z 8 rfl rfl 0 (by decide) (List.mem_of_getElem? (i := 11) rfl) rfl rfl dX5_lot_144 ?_
                refine lv_iload_n (pc := 147) hx hb dX5_lot_147 rfl (lv_at hl 1 rfl) ?_
                obtain ⟨i18, hf⟩ := o_rdE hf
                refine z_iald (pc := 148) hx hb Z 9 0 rfl rfl i18 dX5_lot_148 ?_
                cases hf
              · replace hf := o_neg c17 hf
                by_cases c19 : p2 = (7 : Int32)
                · replace hf := o_pos c19 hf
                  refine lv_tableIn (pc := 6) (tgt := 150) hx hb dX5_lot_6 (by rw [c19]; decide) (by rw [c19]; decide) (by rw [c19]; rfl) (by decide) ?_
                  refine lv_aload_n (pc := 150) hx hb dX5_lot_150 rfl (lv_at hl 0 rfl) ?_
                  refine z_get (pc := 151) (ref := "LotSheet") (ci := 5) (C := RX5) (T := TX5) (N := 7) hx hb hts iw_X5_lot_X5 hown Z 0 rfl rfl 4 (by decide) (List.mem_of_getElem? (i := 10) rfl) rfl rfl dX5_lot_151 ?_
                  refine z_get (pc := 154) (ref := "LotSheet$Layout") (ci := 3) (C := RX3) (T := TX3) (N := 9) hx hb hts iw_X5_lot_X3 hown Z 8 rfl rfl 1 (by decide) (List.mem_of_getElem? (i := 12) rfl) rfl rfl dX5_lot_154 ?_
                  refine lv_iload_n (pc := 157) hx hb dX5_lot_157 rfl (lv_at hl 1 rfl) ?_
                  obtain ⟨i20, hf⟩ := o_rdE hf
                  refine z_iald (pc := 158) hx hb Z 10 0 rfl rfl i20 dX5_lot_158 ?_
                  cases hf
                · replace hf := o_neg c19 hf
                  by_cases c21 : p2 = (8 : Int32)
                  · replace hf := o_pos c21 hf
                    refine lv_tableIn (pc := 6) (tgt := 160) hx hb dX5_lot_6 (by rw [c21]; decide) (by rw [c21]; decide) (by rw [c21]; rfl) (by decide) ?_
                    refine lv_aload_n (pc := 160) hx hb dX5_lot_160 rfl (lv_at hl 0 rfl) ?_
                    refine z_get (pc := 161) (ref := "LotSheet") (ci := 5) (C := RX5) (T := TX5) (N := 7) hx hb hts iw_X5_lot_X5 hown Z 0 rfl rfl 4 (by decide) (List.mem_of_getElem? (i := 10) rfl) rfl rfl dX5_lot_161 ?_
                    refine z_get (pc := 164) (ref := "LotSheet$Layout") (ci := 3) (C := RX3) (T := TX3) (N := 9) hx hb hts iw_X5_lot_X3 hown Z 8 rfl rfl 2 (by decide) (List.mem_of_getElem? (i := 13) rfl) rfl rfl dX5_lot_164 ?_
                    refine lv_iload_n (pc := 167) hx hb dX5_lot_167 rfl (lv_at hl 1 rfl) ?_
                    obtain ⟨i22, hf⟩ := o_rdE hf
                    refine z_iald (pc := 168) hx hb Z 11 0 rfl rfl i22 dX5_lot_168 ?_
                    cases hf
                  · replace hf := o_neg c21 hf
                    refine lv_tableOut (pc := 6) (tgt := 170) hx hb dX5_lot_6 (z_out9 c2 c4 c6 c8 c11 c14 c17 c19 c21) (by decide) ?_
                    cases hf
                    exact z_throwE (pc := 170) hx hb hfl hown hts (by decide +kernel) (List.mem_of_getElem? (i := 1) rfl) (List.mem_of_getElem? (i := 2) rfl) z_inI (List.mem_of_getElem? (i := 2) rfl) hE Z (hl.1.trans hml.symm) dX5_lot_170 dX5_lot_173 dX5_lot_174 dX5_lot_176 dX5_lot_179 hxt (Nat.le_of_ble_eq_true rfl) (Nat.le_of_ble_eq_true rfl) (Nat.le_of_ble_eq_true rfl) (Nat.le_of_ble_eq_true rfl) hlocks
