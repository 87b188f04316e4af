def W_X5_seller (cA : Nat → ClassId) (h : Nat → Nat) (b_height : Int32) (b_count : Int32) (b_room : Int32) (b_account : Int32) (b_lines : Nat → Int32) (b_estimates : Nat → Int32) (b_sellers : Nat → Int32) (b_printed : Nat → Int32) (b_wanted : Nat → Int32) (x_latestErrorOffset : Int32) : va_W := [(h 0, .inr (5, [.ref (h 1), .ref (h 3), .ref (h 11), .ref (h 19), .ref (h 85), .ref (h 92), .int x_latestErrorOffset])), (h 3, .inr (0, [.int b_height, .int b_count, .int b_room, .int b_account, .ref (h 4), .ref (h 5), .ref (h 6), .ref (h 7), .ref (h 8), .ref (h 9), .ref (h 10)])), (h 5, .inl (cA 0, 24, .inl b_lines)), (h 6, .inl (cA 0, 24, .inl b_estimates)), (h 7, .inl (cA 0, 24, .inl b_sellers)), (h 8, .inl (cA 1, 24, .inl b_printed)), (h 9, .inl (cA 1, 24, .inl b_wanted))]
def fX5_seller (p1 : Int32) (p2 : Int32) (b_count : Int32) (b_lines : Nat → Int32) (b_estimates : Nat → Int32) (b_sellers : Nat → Int32) (b_printed : Nat → Int32) (b_wanted : Nat → Int32) : Option (String ⊕ (Int32)) := (if p1 < 0 then some (.inl "java/lang/IllegalArgumentException") else (if p1 ≤ (9 : Int32) then (if p2 = (0 : Int32) then o_bind (fX0_wantedLotsOf p1 b_count b_sellers b_wanted) (fun x4 => some (.inr (x4))) else if p2 = (1 : Int32) then o_bind (fX0_wantedEstimatesOf p1 b_count b_estimates b_sellers b_wanted) (fun x7 => some (.inr (x7))) else if p2 = (2 : Int32) then o_bind (fX0_printedLinesOf p1 b_count b_lines b_sellers b_printed) (fun x10 => some (.inr (x10))) else some (.inl "java/lang/IllegalArgumentException")) else some (.inl "java/lang/IllegalArgumentException")))
theorem iw_X5_seller_X5 : ∀ w ∈ u_ws RX5 TX5 7, w ∈ zsX5_seller := z_inr [23, 24, 25, 26, 27, 28, 29] rfl
set_option maxHeartbeats 4000000 in
set_option maxRecDepth 100000 in
theorem kX5_seller (l : Launch) (D : va_G) (cA : Nat → ClassId) (h : Nat → Nat) (p1 : Int32) (p2 : Int32) (b_height : Int32) (b_count : Int32) (b_room : Int32) (b_account : Int32) (b_lines : Nat → Int32) (b_estimates : Nat → Int32) (b_sellers : Nat → Int32) (b_printed : Nat → Int32) (b_wanted : Nat → Int32) (x_latestErrorOffset : Int32) (u : Int32) (hf : fX5_seller p1 p2 b_count b_lines b_estimates b_sellers b_printed b_wanted = some (.inr u)) : zMi l yX5_seller zsX5_seller ({ frames := 6, cells := 0, slots := 0, locals := 90 } : Room) D (zTY cA) [.ref (h 0), .int p1, .int p2] (W_X5_seller cA h b_height b_count b_room b_account b_lines b_estimates b_sellers b_printed b_wanted x_latestErrorOffset) (W_X5_seller cA h b_height b_count b_room b_account b_lines b_estimates b_sellers b_printed b_wanted x_latestErrorOffset) u := by
  refine z_starti (cc := cX5_seller) (maxL := 3) (ret := (some .int)) (by decide) rfl (Nat.le_of_ble_eq_true rfl) ?_
  intro p e s m args below meth c A hx hb hr hts hown hlocks hml hA Z ls hl
  replace hown : s.vm.findClass RX5 = some m.cls := hown
  replace hl : lv_has ls 3 [(0, .ref (h 0)), (1, .int p1), (2, .int p2)] := hl
  obtain ⟨H, hH⟩ : ∃ H, H = s.heap := ⟨_, rfl⟩
  rw [← hH] at Z ⊢
  clear hH
  obtain ⟨locs, hlc⟩ : ∃ q : List Loc, q = [] := ⟨_, rfl⟩
  rw [← hlc] at Z ⊢
  clear hlc
  refine lv_iload_n (pc := 0) hx hb dX5_seller_0 rfl (lv_at hl 1 rfl) ?_
  refine lv_if_lt (pc := 1) (tgt := 10) hx hb dX5_seller_1 (by decide) (fun c1 => ?_) (fun c1 => ?_)
  · replace hf := o_pos c1 hf
    cases hf
  · replace hf := o_neg c1 hf
    refine lv_iload_n (pc := 4) hx hb dX5_seller_4 rfl (lv_at hl 1 rfl) ?_
    refine lv_bipush (pc := 5) (v := (9 : Int32)) hx hb dX5_seller_5 (by decide) ?_
    refine lv_icmp_le (pc := 7) (tgt := 20) hx hb dX5_seller_7 (by decide) (fun c2 => ?_) (fun c2 => ?_)
    · replace hf := o_pos c2 hf
      refine lv_iload_n (pc := 20) hx hb dX5_seller_20 rfl (lv_at hl 2 rfl) ?_
      by_cases c3 : p2 = (0 : Int32)
      · replace hf := o_pos c3 hf
        refine lv_tableIn (pc := 21) (tgt := 48) hx hb dX5_seller_21 (by rw [c3]; decide) (by rw [c3]; decide) (by rw [c3]; rfl) (by decide) ?_
        refine lv_aload_n (pc := 48) hx hb dX5_seller_48 rfl (lv_at hl 0 rfl) ?_
        refine z_get (pc := 49) (ref := "LotSheet") (ci := 5) (C := RX5) (T := TX5) (N := 7) hx hb hts iw_X5_seller_X5 hown Z 0 rfl rfl 1 (by decide) (List.mem_of_getElem? (i := 3) rfl) rfl rfl dX5_seller_49 ?_
        refine lv_iload_n (pc := 52) hx hb dX5_seller_52 rfl (lv_at hl 1 rfl) ?_
        obtain ⟨x4, q5, hf⟩ := o_bindE hf
        refine z_callVi (pc := 53) (As := [.int p1]) (rest := []) (Wc := (W_X0_wantedLotsOf cA (fun k => h ([3, 4, 5, 6, 7, 8, 9, 10].getD k 0)) b_height b_count b_room b_account b_sellers b_wanted)) (W1 := (W_X0_wantedLotsOf cA (fun k => h ([3, 4, 5, 6, 7, 8, 9, 10].getD k 0)) b_height b_count b_room b_account b_sellers b_wanted)) (W2 := (W_X5_seller cA h b_height b_count b_room b_account b_lines b_estimates b_sellers b_printed b_wanted x_latestErrorOffset)) ⟨hx, hb, hml, hown, hts⟩ (kX0_wantedLotsOf l D cA (fun k => h ([3, 4, 5, 6, 7, 8, 9, 10].getD k 0)) p1 b_height b_count b_room b_account b_sellers b_wanted _ q5) (cwV 1 hts zgX5_seller_X0_wantedLotsOf_216 rfl rfl rfl (by decide +kernel) ⟨Nat.le_of_ble_eq_true rfl, Nat.le_of_ble_eq_true rfl⟩) Z hA [1, 4, 6] rfl (by decide) rfl (ci := 0) rfl rfl rfl rfl hl.1 rfl (Nat.le_of_ble_eq_true rfl) dX5_seller_53 ⟨Nat.zero_le _, Nat.zero_le _⟩ [none, some 0, none, none, some 1, none, some 2] rfl ⟨rfl, rfl, rfl, rfl, rfl, rfl, rfl, rfl⟩ (fun H locs Z => ?_)
        cases hf
        exact z_iret (pc := 56) hx hb hr hlocks Z rfl rfl dX5_seller_56
      · replace hf := o_neg c3 hf
        by_cases c6 : p2 = (1 : Int32)
        · replace hf := o_pos c6 hf
          refine lv_tableIn (pc := 21) (tgt := 57) hx hb dX5_seller_21 (by rw [c6]; decide) (by rw [c6]; decide) (by rw [c6]; rfl) (by decide) ?_
          refine lv_aload_n (pc := 57) hx hb dX5_seller_57 rfl (lv_at hl 0 rfl) ?_
          refine z_get (pc := 58) (ref := "LotSheet") (ci := 5) (C := RX5) (T := TX5) (N := 7) hx hb hts iw_X5_seller_X5 hown Z 0 rfl rfl 1 (by decide) (List.mem_of_getElem? (i := 3) rfl) rfl rfl dX5_seller_58 ?_
          refine lv_iload_n (pc := 61) hx hb dX5_seller_61 rfl (lv_at hl 1 rfl) ?_
          obtain ⟨x7, q8, hf⟩ := o_bindE hf
          refine z_callVi (pc := 62) (As := [.int p1]) (rest := []) (Wc := (W_X0_wantedEstimatesOf cA (fun k => h ([3, 4, 5, 6, 7, 8, 9, 10].getD k 0)) b_height b_count b_room b_account b_estimates b_sellers b_wanted)) (W1 := (W_X0_wantedEstimatesOf cA (fun k => h ([3, 4, 5, 6, 7, 8, 9, 10].getD k 0)) b_height b_count b_room b_account b_estimates b_sellers b_wanted)) (W2 := (W_X5_seller cA h b_height b_count b_room b_account b_lines b_estimates b_sellers b_printed b_wanted x_latestErrorOffset)) ⟨hx, hb, hml, hown, hts⟩ (kX0_wantedEstimatesOf l D cA (fun k => h ([3, 4, 5, 6, 7, 8, 9, 10].getD k 0)) p1 b_height b_count b_room b_account b_estimates b_sellers b_wanted _ q8) (cwV 1 hts zgX5_seller_X0_wantedEstimatesOf_219 rfl rfl rfl (by decide +kernel) ⟨Nat.le_of_ble_eq_true rfl, Nat.le_of_ble_eq_true rfl⟩) Z hA [1, 3, 4, 6] rfl (by decide) rfl (ci := 0) rfl rfl rfl rfl hl.1 rfl (Nat.le_of_ble_eq_true rfl) dX5_seller_62 ⟨Nat.zero_le _, Nat.zero_le _⟩ [none, some 0, none, some 1, some 2, none, some 3] rfl ⟨rfl, rfl, rfl, rfl, rfl, rfl, rfl, rfl⟩ (fun H locs Z => ?_)
          cases hf
          exact z_iret (pc := 65) hx hb hr hlocks Z rfl rfl dX5_seller_65
        · replace hf := o_neg c6 hf
          by_cases c9 : p2 = (2 : Int32)
          · replace hf := o_pos c9 hf
            refine lv_tableIn (pc := 21) (tgt := 66) hx hb dX5_seller_21 (by rw [c9]; decide) (by rw [c9]; decide) (by rw [c9]; rfl) (by decide) ?_
            refine lv_aload_n (pc := 66) hx hb dX5_seller_66 rfl (lv_at hl 0 rfl) ?_
            refine z_get (pc := 67) (ref := "LotSheet") (ci := 5) (C := RX5) (T := TX5) (N := 7) hx hb hts iw_X5_seller_X5 hown Z 0 rfl rfl 1 (by decide) (List.mem_of_getElem? (i := 3) rfl) rfl rfl dX5_seller_67 ?_
            refine lv_iload_n (pc := 70) hx hb dX5_seller_70 rfl (lv_at hl 1 rfl) ?_
            obtain ⟨x10, q11, hf⟩ := o_bindE hf
            refine z_callVi (pc := 71) (As := [.int p1]) (rest := []) (Wc := (W_X0_printedLinesOf cA (fun k => h ([3, 4, 5, 6, 7, 8, 9, 10].getD k 0)) b_height b_count b_room b_account b_lines b_sellers b_printed)) (W1 := (W_X0_printedLinesOf cA (fun k => h ([3, 4, 5, 6, 7, 8, 9, 10].getD k 0)) b_height b_count b_room b_account b_lines b_sellers b_printed)) (W2 := (W_X5_seller cA h b_height b_count b_room b_account b_lines b_estimates b_sellers b_printed b_wanted x_latestErrorOffset)) ⟨hx, hb, hml, hown, hts⟩ (kX0_printedLinesOf l D cA (fun k => h ([3, 4, 5, 6, 7, 8, 9, 10].getD k 0)) p1 b_height b_count b_room b_account b_lines b_sellers b_printed _ q11) (cwV 1 hts zgX5_seller_X0_printedLinesOf_222 rfl rfl rfl (by decide +kernel) ⟨Nat.le_of_ble_eq_true rfl, Nat.le_of_ble_eq_true rfl⟩) Z hA [1, 2, 4, 5] rfl (by decide) rfl (ci := 0) rfl rfl rfl rfl hl.1 rfl (Nat.le_of_ble_eq_true rfl) dX5_seller_71 ⟨Nat.zero_le _, Nat.zero_le _⟩ [none, some 0, some 1, none, some 2, some 3, none] rfl ⟨rfl, rfl, rfl, rfl, rfl, rfl, rfl, rfl⟩ (fun H locs Z => ?_)
            cases hf
            exact z_iret (pc := 74) hx hb hr hlocks Z rfl rfl dX5_seller_74
          · replace hf := o_neg c9 hf
            refine lv_tableOut (pc := 21) (tgt := 75) hx hb dX5_seller_21 (z_out3 c3 c6 c9) (by decide) ?_
            cases hf
    · replace hf := o_neg c2 hf
      cases hf
set_option maxHeartbeats 4000000 in
set_option maxRecDepth 100000 in
theorem tX5_seller (l : Launch) (D : va_G) (cA : Nat → ClassId) (h : Nat → Nat) (p1 : Int32) (p2 : Int32) (b_height : Int32) (b_count : Int32) (b_room : Int32) (b_account : Int32) (b_lines : Nat → Int32) (b_estimates : Nat → Int32) (b_sellers : Nat → Int32) (b_printed : Nat → Int32) (b_wanted : Nat → Int32) (x_latestErrorOffset : Int32) (E : String) (hf : fX5_seller p1 p2 b_count b_lines b_estimates b_sellers b_printed b_wanted = some (.inl E)) (hfl : l.stackTraces = false) : zMiT l yX5_seller zsX5_seller ({ frames := 6, cells := 1, slots := 6, locals := 90 } : Room) D (zTY cA) [.ref (h 0), .int p1, .int p2] (W_X5_seller cA h b_height b_count b_room b_account b_lines b_estimates b_sellers b_printed b_wanted x_latestErrorOffset) E := by
  refine z_startiT (cc := cX5_seller) (maxL := 3) (ret := (some .int)) (by decide) rfl (Nat.le_of_ble_eq_true rfl) ?_
  intro p e s m args below meth c A hx hb hr hts hown hlocks hml hA hE hxt Z ls hl
  replace hown : s.vm.findClass RX5 = some m.cls := hown
  replace hl : lv_has ls 3 [(0, .ref (h 0)), (1, .int p1), (2, .int p2)] := hl
  obtain ⟨H, hH⟩ : ∃ H, H = s.heap := ⟨_, rfl⟩
  rw [← hH] at Z ⊢
  clear hH
  obtain ⟨locs, hlc⟩ : ∃ q : List Loc, q = [] := ⟨_, rfl⟩
  rw [← hlc] at Z ⊢
  clear hlc
  refine lv_iload_n (pc := 0) hx hb dX5_seller_0 rfl (lv_at hl 1 rfl) ?_
  refine lv_if_lt (pc := 1) (tgt := 10) hx hb dX5_seller_1 (by decide) (fun c1 => ?_) (fun c1 => ?_)
  · replace hf := o_pos c1 hf
    cases hf
    exact z_throwE (pc := 10) hx hb hfl hown hts (by decide +kernel) (List.mem_of_getElem? (i := 1) rfl) (List.mem_of_getElem? (i := 2) rfl) z_inI (List.mem_of_getElem? (i := 9) rfl) hE Z (hl.1.trans hml.symm) dX5_seller_10 dX5_seller_13 dX5_seller_14 dX5_seller_16 dX5_seller_19 hxt (Nat.le_of_ble_eq_true rfl) (Nat.le_of_ble_eq_true rfl) (Nat.le_of_ble_eq_true rfl) (Nat.le_of_ble_eq_true rfl) hlocks
  · replace hf := o_neg c1 hf
    refine lv_iload_n (pc := 4) hx hb dX5_seller_4 rfl (lv_at hl 1 rfl) ?_
    refine lv_bipush (pc := 5) (v := (9 : Int32)) hx hb dX5_seller_5 (by decide) ?_
    refine lv_icmp_le (pc := 7) (tgt := 20) hx hb dX5_seller_7 (by decide) (fun c2 => ?_) (fun c2 => ?_)
    · replace hf := o_pos c2 hf
      refine lv_iload_n (pc := 20) hx hb dX5_seller_20 rfl (lv_at hl 2 rfl) ?_
      by_cases c3 : p2 = (0 : Int32)
      · replace hf := o_pos c3 hf
        refine lv_tableIn (pc := 21) (tgt := 48) hx hb dX5_seller_21 (by rw [c3]; decide) (by rw [c3]; decide) (by rw [c3]; rfl) (by decide) ?_
        refine lv_aload_n (pc := 48) hx hb dX5_seller_48 rfl (lv_at hl 0 rfl) ?_
        refine z_get (pc := 49) (ref := "LotSheet") (ci := 5) (C := RX5) (T := TX5) (N := 7) hx hb hts iw_X5_seller_X5 hown Z 0 rfl rfl 1 (by decide) (List.mem_of_getElem? (i := 3) rfl) rfl rfl dX5_seller_49 ?_
        refine lv_iload_n (pc := 52) hx hb dX5_seller_52 rfl (lv_at hl 1 rfl) ?_
        obtain ⟨x4, q5, hf⟩ := o_bindE hf
        refine z_callVi (pc := 53) (As := [.int p1]) (rest := []) (Wc := (W_X0_wantedLotsOf cA (fun k => h ([3, 4, 5, 6, 7, 8, 9, 10].getD k 0)) b_height b_count b_room b_account b_sellers b_wanted)) (W1 := (W_X0_wantedLotsOf cA (fun k => h ([3, 4, 5, 6, 7, 8, 9, 10].getD k 0)) b_height b_count b_room b_account b_sellers b_wanted)) (W2 := (W_X5_seller cA h b_height b_count b_room b_account b_lines b_estimates b_sellers b_printed b_wanted x_latestErrorOffset)) ⟨hx, hb, hml, hown, hts⟩ (kX0_wantedLotsOf l D cA (fun k => h ([3, 4, 5, 6, 7, 8, 9, 10].getD k 0)) p1 b_height b_count b_room b_account b_sellers b_wanted _ q5) (cwV 1 hts zgX5_seller_X0_wantedLotsOf_216 rfl rfl rfl (by decide +kernel) ⟨Nat.le_of_ble_eq_true rfl, Nat.le_of_ble_eq_true rfl⟩) Z hA [1, 4, 6] rfl (by decide) rfl (ci := 0) rfl rfl rfl rfl hl.1 rfl (Nat.le_of_ble_eq_true rfl) dX5_seller_53 ⟨Nat.zero_le _, Nat.zero_le _⟩ [none, some 0, none, none, some 1, none, some 2] rfl ⟨rfl, rfl, rfl, rfl, rfl, rfl, rfl, rfl⟩ (fun H locs Z => ?_)
        cases hf
      · replace hf := o_neg c3 hf
        by_cases c6 : p2 = (1 : Int32)
        · replace hf := o_pos c6 hf
          refine lv_tableIn (pc := 21) (tgt := 57) hx hb dX5_seller_21 (by rw [c6]; decide) (by rw [c6]; decide) (by rw [c6]; rfl) (by decide) ?_
          refine lv_aload_n (pc := 57) hx hb dX5_seller_57 rfl (lv_at hl 0 rfl) ?_
          refine z_get (pc := 58) (ref := "LotSheet") (ci := 5) (C := RX5) (T := TX5) (N := 7) hx hb hts iw_X5_seller_X5 hown Z 0 rfl rfl 1 (by decide) (List.mem_of_getElem? (i := 3) rfl) rfl rfl dX5_seller_58 ?_
          refine lv_iload_n (pc := 61) hx hb dX5_seller_61 rfl (lv_at hl 1 rfl) ?_
          obtain ⟨x7, q8, hf⟩ := o_bindE hf
          refine z_callVi (pc := 62) (As := [.int p1]) (rest := []) (Wc := (W_X0_wantedEstimatesOf cA (fun k => h ([3, 4, 5, 6, 7, 8, 9, 10].getD k 0)) b_height b_count b_room b_account b_estimates b_sellers b_wanted)) (W1 := (W_X0_wantedEstimatesOf cA (fun k => h ([3, 4, 5, 6, 7, 8, 9, 10].getD k 0)) b_height b_count b_room b_account b_estimates b_sellers b_wanted)) (W2 := (W_X5_seller cA h b_height b_count b_room b_account b_lines b_estimates b_sellers b_printed b_wanted x_latestErrorOffset)) ⟨hx, hb, hml, hown, hts⟩ (kX0_wantedEstimatesOf l D cA (fun k => h ([3, 4, 5, 6, 7, 8, 9, 10].getD k 0)) p1 b_height b_count b_room b_account b_estimates b_sellers b_wanted _ q8) (cwV 1 hts zgX5_seller_X0_wantedEstimatesOf_219 rfl rfl rfl (by decide +kernel) ⟨Nat.le_of_ble_eq_true rfl, Nat.le_of_ble_eq_true rfl⟩) Z hA [1, 3, 4, 6] rfl (by decide) rfl (ci := 0) rfl rfl rfl rfl hl.1 rfl (Nat.le_of_ble_eq_true rfl) dX5_seller_62 ⟨Nat.zero_le _, Nat.zero_le _⟩ [none, some 0, none, some 1, some 2, none, some 3] rfl ⟨rfl, rfl, rfl, rfl, rfl, rfl, rfl, rfl⟩ (fun H locs Z => ?_)
          cases hf
        · replace hf := o_neg c6 hf
          by_cases c9 : p2 = (2 : Int32)
          · replace hf := o_pos c9 hf
            refine lv_tableIn (pc := 21) (tgt := 66) hx hb dX5_seller_21 (by rw [c9]; decide) (by rw [c9]; decide) (by rw [c9]; rfl) (by decide) ?_
            refine lv_aload_n (pc := 66) hx hb dX5_seller_66 rfl (lv_at hl 0 rfl) ?_
            refine z_get (pc := 67) (ref := "LotSheet") (ci := 5) (C := RX5) (T := TX5) (N := 7) hx hb hts iw_X5_seller_X5 hown Z 0 rfl rfl 1 (by decide) (List.mem_of_getElem? (i := 3) rfl) rfl rfl dX5_seller_67 ?_
            refine lv_iload_n (pc := 70) hx hb dX5_seller_70 rfl (lv_at hl 1 rfl) ?_
            obtain ⟨x10, q11, hf⟩ := o_bindE hf
            refine z_callVi (pc := 71) (As := [.int p1]) (rest := []) (Wc := (W_X0_printedLinesOf cA (fun k => h ([3, 4, 5, 6, 7, 8, 9, 10].getD k 0)) b_height b_count b_room b_account b_lines b_sellers b_printed)) (W1 := (W_X0_printedLinesOf cA (fun k => h ([3, 4, 5, 6, 7, 8, 9, 10].getD k 0)) b_height b_count b_room b_account b_lines b_sellers b_printed)) (W2 := (W_X5_seller cA h b_height b_count b_room b_account b_lines b_estimates b_sellers b_printed b_wanted x_latestErrorOffset)) ⟨hx, hb, hml, hown, hts⟩ (kX0_printedLinesOf l D cA (fun k => h ([3, 4, 5, 6, 7, 8, 9, 10].getD k 0)) p1 b_height b_count b_room b_account b_lines b_sellers b_printed _ q11) (cwV 1 hts zgX5_seller_X0_printedLinesOf_222 rfl rfl rfl (by decide +kernel) ⟨Nat.le_of_ble_eq_true rfl, Nat.le_of_ble_eq_true rfl⟩) Z hA [1, 2, 4, 5] rfl (by decide) rfl (ci := 0) rfl rfl rfl rfl hl.1 rfl (Nat.le_of_ble_eq_true rfl) dX5_seller_71 ⟨Nat.zero_le _, Nat.zero_le _⟩ [none, some 0, some 1, none, some 2, some 3, none] rfl ⟨rfl, rfl, rfl, rfl, rfl, rfl, rfl, rfl⟩ (fun H locs Z => ?_)
            cases hf
          · replace hf := o_neg c9 hf
            refine lv_tableOut (pc := 21) (tgt := 75) hx hb dX5_seller_21 (z_out3 c3 c6 c9) (by decide) ?_
            cases hf
            exact z_throwE (pc := 75) hx hb hfl hown hts (by decide +kernel) (List.mem_of_getElem? (i := 1) rfl) (List.mem_of_getElem? (i := 2) rfl) z_inI (List.mem_of_getElem? (i := 10) rfl) hE Z (hl.1.trans hml.symm) dX5_seller_75 dX5_seller_78 dX5_seller_79 dX5_seller_81 dX5_seller_84 hxt (Nat.le_of_ble_eq_true rfl) (Nat.le_of_ble_eq_true rfl) (Nat.le_of_ble_eq_true rfl) (Nat.le_of_ble_eq_true rfl) hlocks
    · replace hf := o_neg c2 hf
      cases hf
      exact z_throwE (pc := 10) hx hb hfl hown hts (by decide +kernel) (List.mem_of_getElem? (i := 1) rfl) (List.mem_of_getElem? (i := 2) rfl) z_inI (List.mem_of_getElem? (i := 9) rfl) hE Z (hl.1.trans hml.symm) dX5_seller_10 dX5_seller_13 dX5_seller_14 dX5_seller_16 dX5_seller_19 hxt (Nat.le_of_ble_eq_true rfl) (Nat.le_of_ble_eq_true rfl) (Nat.le_of_ble_eq_true rfl) (Nat.le_of_ble_eq_true rfl) hlocks
