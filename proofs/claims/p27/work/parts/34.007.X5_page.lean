def W_X5_page (cA : Nat → ClassId) (h : Nat → Nat) (b_height : Int32) (b_count : Int32) (b_room : Int32) (b_account : Int32) (b_estimates : Nat → Int32) (b_wanted : Nat → Int32) (y_pageOf : Nat → Int32) (y_usedOn : Nat → Int32) (y_lotsOn : Nat → Int32) (y_firstOn : Nat → Int32) (y_pages : Int32) (y_printedLots : Int32) (y_printedLines : Int32) (x_latestErrorOffset : Int32) : va_W := [(h 0, .inr (5, [.ref (h 1), .ref (h 3), .ref (h 11), .ref (h 19), .ref (h 85), .ref (h 92), .int x_latestErrorOffset])), (h 3, .inr (0, [.int b_height, .int b_count, .int b_room, .int b_account, .ref (h 4), .ref (h 5), .ref (h 6), .ref (h 7), .ref (h 8), .ref (h 9), .ref (h 10)])), (h 6, .inl (cA 0, 24, .inl b_estimates)), (h 9, .inl (cA 1, 24, .inl b_wanted)), (h 85, .inr (3, [.ref (h 86), .ref (h 87), .ref (h 88), .ref (h 89), .ref (h 90), .ref (h 91), .int y_pages, .int y_printedLots, .int y_printedLines])), (h 87, .inl (cA 0, 24, .inl y_pageOf)), (h 89, .inl (cA 0, 24, .inl y_usedOn)), (h 90, .inl (cA 0, 24, .inl y_lotsOn)), (h 91, .inl (cA 0, 24, .inl y_firstOn))]
def fX5_page (p1 : Int32) (p2 : Int32) (b_height : Int32) (b_count : Int32) (b_estimates : Nat → Int32) (b_wanted : Nat → Int32) (y_pageOf : Nat → Int32) (y_usedOn : Nat → Int32) (y_lotsOn : Nat → Int32) (y_firstOn : Nat → Int32) (y_pages : Int32) : Option (String ⊕ (Int32)) := o_try (fX5_needPage p1 y_pages) (fun _ => (if p2 = (0 : Int32) then o_rd 24 p1 (some (.inr ((y_lotsOn p1.toNatClampNeg)))) else if p2 = (1 : Int32) then o_rd 24 p1 (some (.inr ((y_firstOn p1.toNatClampNeg)))) else if p2 = (2 : Int32) then o_rd 24 p1 (some (.inr ((b_height - (y_usedOn p1.toNatClampNeg))))) else if p2 = (3 : Int32) then o_bind (fX5_wantedEstimatesOn p1 b_count b_estimates b_wanted y_pageOf) (fun x9 => some (.inr (x9))) else some (.inl "java/lang/IllegalArgumentException")))
theorem iw_X5_page_X5 : ∀ w ∈ u_ws RX5 TX5 7, w ∈ zsX5_page := z_inr [25, 26, 27, 28, 29, 30, 31] rfl
theorem iw_X5_page_X3 : ∀ w ∈ u_ws RX3 TX3 9, w ∈ zsX5_page := z_inr [32, 33, 34, 35, 36, 37, 38, 39, 40] rfl
theorem iw_X5_page_X0 : ∀ w ∈ u_ws RX0 TX0 11, w ∈ zsX5_page := z_inr [41, 42, 43, 44, 45, 46, 47, 48, 49, 50, 51] rfl
set_option maxHeartbeats 4000000 in
set_option maxRecDepth 100000 in
theorem kX5_page (l : Launch) (D : va_G) (cA : Nat → ClassId) (h : Nat → Nat) (p1 : Int32) (p2 : Int32) (b_height : Int32) (b_count : Int32) (b_room : Int32) (b_account : Int32) (b_estimates : Nat → Int32) (b_wanted : Nat → Int32) (y_pageOf : Nat → Int32) (y_usedOn : Nat → Int32) (y_lotsOn : Nat → Int32) (y_firstOn : Nat → Int32) (y_pages : Int32) (y_printedLots : Int32) (y_printedLines : Int32) (x_latestErrorOffset : Int32) (u : Int32) (hf : fX5_page p1 p2 b_height b_count b_estimates b_wanted y_pageOf y_usedOn y_lotsOn y_firstOn y_pages = some (.inr u)) : zMi l yX5_page zsX5_page ({ frames := 7, cells := 0, slots := 0, locals := 111 } : Room) D (zTY cA) [.ref (h 0), .int p1, .int p2] (W_X5_page cA h b_height b_count b_room b_account b_estimates b_wanted y_pageOf y_usedOn y_lotsOn y_firstOn y_pages y_printedLots y_printedLines x_latestErrorOffset) (W_X5_page cA h b_height b_count b_room b_account b_estimates b_wanted y_pageOf y_usedOn y_lotsOn y_firstOn y_pages y_printedLots y_printedLines x_latestErrorOffset) u := by
  refine z_starti (cc := cX5_page) (maxL := 3) (ret := (some .int)) (by decide) rfl (Nat.le_of_ble_eq_true rfl) ?_
  intro p e s m args below meth c A hx hb hr hts hown hlocks hml hA Z ls hl
  replace hown : s.vm.findClass RX5 = some m.cls := hown
  replace hl : lv_has ls 3 [(0, .ref (h 0)), (1, .int p1), (2, .int p2)] := hl
  obtain ⟨H, hH⟩ : ∃ H, H = s.heap := ⟨_, rfl⟩
  rw [← hH] at Z ⊢
  clear hH
  obtain ⟨locs, hlc⟩ : ∃ q : List Loc, q = [] := ⟨_, rfl⟩
  rw [← hlc] at Z ⊢
  clear hlc
  refine lv_aload_n (pc := 0) hx hb dX5_page_0 rfl (lv_at hl 0 rfl) ?_
  refine lv_iload_n (pc := 1) hx hb dX5_page_1 rfl (lv_at hl 1 rfl) ?_
  obtain ⟨_, q1, hf⟩ := o_tryOk hf
  refine z_callVv (pc := 2) (As := [.int p1]) (rest := []) (Wc := (W_X5_needPage cA (fun k => h (k)) y_pages y_printedLots y_printedLines x_latestErrorOffset)) (W1 := (W_X5_needPage cA (fun k => h (k)) y_pages y_printedLots y_printedLines x_latestErrorOffset)) (W2 := (W_X5_page cA h b_height b_count b_room b_account b_estimates b_wanted y_pageOf y_usedOn y_lotsOn y_firstOn y_pages y_printedLots y_printedLines x_latestErrorOffset)) ⟨hx, hb, hml, hown, hts⟩ (kX5_needPage l D cA (fun k => h (k)) p1 y_pages y_printedLots y_printedLines x_latestErrorOffset _ q1) (cwV 1 hts zgX5_page_X5_needPage_158 rfl rfl rfl (by decide +kernel) ⟨Nat.le_of_ble_eq_true rfl, Nat.le_of_ble_eq_true rfl⟩) Z hA [0, 4] rfl (by decide) rfl (ci := 5) rfl rfl rfl rfl hl.1 rfl (Nat.le_of_ble_eq_true rfl) dX5_page_2 ⟨Nat.zero_le _, Nat.zero_le _⟩ [some 0, none, none, none, some 1, none, none, none, none] rfl ⟨rfl, rfl, rfl, rfl, rfl, rfl, rfl, rfl, rfl, rfl⟩ (fun H locs Z => ?_)
  refine lv_iload_n (pc := 5) hx hb dX5_page_5 rfl (lv_at hl 2 rfl) ?_
  by_cases c2 : p2 = (0 : Int32)
  · replace hf := o_pos c2 hf
    refine lv_tableIn (pc := 6) (tgt := 36) hx hb dX5_page_6 (by rw [c2]; decide) (by rw [c2]; decide) (by rw [c2]; rfl) (by decide) ?_
    refine lv_aload_n (pc := 36) hx hb dX5_page_36 rfl (lv_at hl 0 rfl) ?_
    refine z_get (pc := 37) (ref := "LotSheet") (ci := 5) (C := RX5) (T := TX5) (N := 7) hx hb hts iw_X5_page_X5 hown Z 0 rfl rfl 4 (by decide) (List.mem_of_getElem? (i := 3) rfl) rfl rfl dX5_page_37 ?_
    refine z_get (pc := 40) (ref := "LotSheet$Layout") (ci := 3) (C := RX3) (T := TX3) (N := 9) hx hb hts iw_X5_page_X3 hown Z 4 rfl rfl 4 (by decide) (List.mem_of_getElem? (i := 4) rfl) rfl rfl dX5_page_40 ?_
    refine lv_iload_n (pc := 43) hx hb dX5_page_43 rfl (lv_at hl 1 rfl) ?_
    obtain ⟨i3, hf⟩ := o_rdE hf
    refine z_iald (pc := 44) hx hb Z 7 0 rfl rfl i3 dX5_page_44 ?_
    cases hf
    exact z_iret (pc := 45) hx hb hr hlocks Z rfl rfl dX5_page_45
  · replace hf := o_neg c2 hf
    by_cases c4 : p2 = (1 : Int32)
    · replace hf := o_pos c4 hf
      refine lv_tableIn (pc := 6) (tgt := 46) hx hb dX5_page_6 (by rw [c4]; decide) (by rw [c4]; decide) (by rw [c4]; rfl) (by decide) ?_
      refine lv_aload_n (pc := 46) hx hb dX5_page_46 rfl (lv_at hl 0 rfl) ?_
      refine z_get (pc := 47) (ref := "LotSheet") (ci := 5) (C := RX5) (T := TX5) (N := 7) hx hb hts iw_X5_page_X5 hown Z 0 rfl rfl 4 (by decide) (List.mem_of_getElem? (i := 3) rfl) rfl rfl dX5_page_47 ?_
      refine z_get (pc := 50) (ref := "LotSheet$Layout") (ci := 3) (C := RX3) (T := TX3) (N := 9) hx hb hts iw_X5_page_X3 hown Z 4 rfl rfl 5 (by decide) (List.mem_of_getElem? (i := 5) rfl) rfl rfl dX5_page_50 ?_
      refine lv_iload_n (pc := 53) hx hb dX5_page_53 rfl (lv_at hl 1 rfl) ?_
      obtain ⟨i5, hf⟩ := o_rdE hf
      refine z_iald (pc := 54) hx hb Z 8 0 rfl rfl i5 dX5_page_54 ?_
      cases hf
      exact z_iret (pc := 55) hx hb hr hlocks Z rfl rfl dX5_page_55
    · replace hf := o_neg c4 hf
      by_cases c6 : p2 = (2 : Int32)
      · replace hf := o_pos c6 hf
        refine lv_tableIn (pc := 6) (tgt := 56) hx hb dX5_page_6 (by rw [c6]; decide) (by rw [c6]; decide) (by rw [c6]; rfl) (by decide) ?_
        refine lv_aload_n (pc := 56) hx hb dX5_page_56 rfl (lv_at hl 0 rfl) ?_
        refine z_get (pc := 57) (ref := "LotSheet") (ci := 5) (C := RX5) (T := TX5) (N := 7) hx hb hts iw_X5_page_X5 hown Z 0 rfl rfl 1 (by decide) (List.mem_of_getElem? (i := 6) rfl) rfl rfl dX5_page_57 ?_
        refine z_get (pc := 60) (ref := "LotSheet$Bill") (ci := 0) (C := RX0) (T := TX0) (N := 11) hx hb hts iw_X5_page_X0 hown Z 1 rfl rfl 0 (by decide) (List.mem_of_getElem? (i := 7) rfl) rfl rfl dX5_page_60 ?_
        refine lv_aload_n (pc := 63) hx hb dX5_page_63 rfl (lv_at hl 0 rfl) ?_
        refine z_get (pc := 64) (ref := "LotSheet") (ci := 5) (C := RX5) (T := TX5) (N := 7) hx hb hts iw_X5_page_X5 hown Z 0 rfl rfl 4 (by decide) (List.mem_of_getElem? (i := 3) rfl) rfl rfl dX5_page_64 ?_
        refine z_get (pc := 67) (ref := "LotSheet$Layout") (ci := 3) (C := RX3) (T := TX3) (N := 9) hx hb hts iw_X5_page_X3 hown Z 4 rfl rfl 3 (by decide) (List.mem_of_getElem? (i := 8) rfl) rfl rfl dX5_page_67 ?_
        refine lv_iload_n (pc := 70) hx hb dX5_page_70 rfl (lv_at hl 1 rfl) ?_
        obtain ⟨i7, hf⟩ := o_rdE hf
        refine z_iald (pc := 71) hx hb Z 6 0 rfl rfl i7 dX5_page_71 ?_
        refine lv_isub (pc := 72) hx hb dX5_page_72 ?_
        cases hf
        exact z_iret (pc := 73) hx hb hr hlocks Z rfl rfl dX5_page_73
      · replace hf := o_neg c6 hf
        by_cases c8 : p2 = (3 : Int32)
        · replace hf := o_pos c8 hf
          refine lv_tableIn (pc := 6) (tgt := 74) hx hb dX5_page_6 (by rw [c8]; decide) (by rw [c8]; decide) (by rw [c8]; rfl) (by decide) ?_
          refine lv_aload_n (pc := 74) hx hb dX5_page_74 rfl (lv_at hl 0 rfl) ?_
          refine lv_iload_n (pc := 75) hx hb dX5_page_75 rfl (lv_at hl 1 rfl) ?_
          obtain ⟨x9, q10, hf⟩ := o_bindE hf
          refine z_callVi (pc := 76) (As := [.int p1]) (rest := []) (Wc := (W_X5_wantedEstimatesOn cA (fun k => h (k)) b_height b_count b_room b_account b_estimates b_wanted y_pageOf y_pages y_printedLots y_printedLines x_latestErrorOffset)) (W1 := (W_X5_wantedEstimatesOn cA (fun k => h (k)) b_height b_count b_room b_account b_estimates b_wanted y_pageOf y_pages y_printedLots y_printedLines x_latestErrorOffset)) (W2 := (W_X5_page cA h b_height b_count b_room b_account b_estimates b_wanted y_pageOf y_usedOn y_lotsOn y_firstOn y_pages y_printedLots y_printedLines x_latestErrorOffset)) ⟨hx, hb, hml, hown, hts⟩ (kX5_wantedEstimatesOn l D cA (fun k => h (k)) p1 b_height b_count b_room b_account b_estimates b_wanted y_pageOf y_pages y_printedLots y_printedLines x_latestErrorOffset _ q10) (cwV 1 hts zgX5_page_X5_wantedEstimatesOn_170 rfl rfl rfl (by decide +kernel) ⟨Nat.le_of_ble_eq_true rfl, Nat.le_of_ble_eq_true rfl⟩) Z hA [0, 1, 2, 3, 4, 5] rfl (by decide) rfl (ci := 5) rfl rfl rfl rfl hl.1 rfl (Nat.le_of_ble_eq_true rfl) dX5_page_76 ⟨Nat.zero_le _, Nat.zero_le _⟩ [some 0, some 1, some 2, some 3, some 4, some 5, none, none, none] rfl ⟨rfl, rfl, rfl, rfl, rfl, rfl, rfl, rfl, rfl, rfl⟩ (fun H locs Z => ?_)
          cases hf
          exact z_iret (pc := 79) hx hb hr hlocks Z rfl rfl dX5_page_79
        · replace hf := o_neg c8 hf
          refine lv_tableOut (pc := 6) (tgt := 80) hx hb dX5_page_6 (z_out4 c2 c4 c6 c8) (by decide) ?_
          cases hf
set_option maxHeartbeats 4000000 in
set_option maxRecDepth 100000 in
theorem tX5_page (l : Launch) (D : va_G) (cA : Nat → ClassId) (h : Nat → Nat) (p1 : Int32) (p2 : Int32) (b_height : Int32) (b_count : Int32) (b_room : Int32) (b_account : Int32) (b_estimates : Nat → Int32) (b_wanted : Nat → Int32) (y_pageOf : Nat → Int32) (y_usedOn : Nat → Int32) (y_lotsOn : Nat → Int32) (y_firstOn : Nat → Int32) (y_pages : Int32) (y_printedLots : Int32) (y_printedLines : Int32) (x_latestErrorOffset : Int32) (E : String) (hf : fX5_page p1 p2 b_height b_count b_estimates b_wanted y_pageOf y_usedOn y_lotsOn y_firstOn y_pages = some (.inl E)) (hfl : l.stackTraces = false) : zMiT l yX5_page zsX5_page ({ frames := 7, cells := 1, slots := 6, locals := 111 } : Room) D (zTY cA) [.ref (h 0), .int p1, .int p2] (W_X5_page cA h b_height b_count b_room b_account b_estimates b_wanted y_pageOf y_usedOn y_lotsOn y_firstOn y_pages y_printedLots y_printedLines x_latestErrorOffset) E := by
  refine z_startiT (cc := cX5_page) (maxL := 3) (ret := (some .int)) (by decide) rfl (Nat.le_of_ble_eq_true rfl) ?_
  intro p e s m args below meth c A hx hb hr hts hown hlocks hml hA hE hxt Z ls hl
  replace hown : s.vm.findClass RX5 = some m.cls := hown
  replace hl : lv_has ls 3 [(0, .ref (h 0)), (1, .int p1), (2, .int p2)] := hl
  obtain ⟨H, hH⟩ : ∃ H, H = s.heap := ⟨_, rfl⟩
  rw [← hH] at Z ⊢
  clear hH
  obtain ⟨locs, hlc⟩ : ∃ q : List Loc, q = [] := ⟨_, rfl⟩
  rw [← hlc] at Z ⊢
  clear hlc
  refine lv_aload_n (pc := 0) hx hb dX5_page_0 rfl (lv_at hl 0 rfl) ?_
  refine lv_iload_n (pc := 1) hx hb dX5_page_1 rfl (lv_at hl 1 rfl) ?_
  rcases o_tryX hf with q1 | ⟨_, q1, hf⟩
  · exact z_callVvt (pc := 2) (As := [.int p1]) (rest := []) (Wc := (W_X5_needPage cA (fun k => h (k)) y_pages y_printedLots y_printedLines x_latestErrorOffset)) ⟨hx, hb, hml, hown, hts⟩ (tX5_needPage l D cA (fun k => h (k)) p1 y_pages y_printedLots y_printedLines x_latestErrorOffset _ q1 hfl) (cwV 1 hts zgX5_page_X5_needPage_158 rfl rfl rfl (by decide +kernel) ⟨Nat.le_of_ble_eq_true rfl, Nat.le_of_ble_eq_true rfl⟩) hE Z hA [0, 4] rfl (by decide) (ci := 5) rfl rfl rfl rfl hl.1 rfl (Nat.le_of_ble_eq_true rfl) dX5_page_2 ⟨Nat.le_of_ble_eq_true rfl, Nat.le_of_ble_eq_true rfl⟩ [some 0, none, none, none, some 1, none, none, none, none] rfl ⟨rfl, rfl, rfl, rfl, rfl, rfl, rfl, rfl, rfl, rfl⟩ hxt hlocks
  refine z_callVv (pc := 2) (As := [.int p1]) (rest := []) (Wc := (W_X5_needPage cA (fun k => h (k)) y_pages y_printedLots y_printedLines x_latestErrorOffset)) (W1 := (W_X5_needPage cA (fun k => h (k)) y_pages y_printedLots y_printedLines x_latestErrorOffset)) (W2 := (W_X5_page cA h b_height b_count b_room b_account b_estimates b_wanted y_pageOf y_usedOn y_lotsOn y_firstOn y_pages y_printedLots y_printedLines x_latestErrorOffset)) ⟨hx, hb, hml, hown, hts⟩ (kX5_needPage l D cA (fun k => h (k)) p1 y_pages y_printedLots y_printedLines x_latestErrorOffset _ q1) (cwV 1 hts zgX5_page_X5_needPage_158 rfl rfl rfl (by decide +kernel) ⟨Nat.le_of_ble_eq_true rfl, Nat.le_of_ble_eq_true rfl⟩) Z hA [0, 4] rfl (by decide) rfl (ci := 5) rfl rfl rfl rfl hl.1 rfl (Nat.le_of_ble_eq_true rfl) dX5_page_2 ⟨Nat.zero_le _, Nat.zero_le _⟩ [some 0, none, none, none, some 1, none, none, none, none] rfl ⟨rfl, rfl, rfl, rfl, rfl, rfl, rfl, rfl, rfl, rfl⟩ (fun H locs Z => ?_)
  refine lv_iload_n (pc := 5) hx hb dX5_page_5 rfl (lv_at hl 2 rfl) ?_
  by_cases c2 : p2 = (0 : Int32)
  · replace hf := o_pos c2 hf
    refine lv_tableIn (pc := 6) (tgt := 36) hx hb dX5_page_6 (by rw [c2]; decide) (by rw [c2]; decide) (by rw [c2]; rfl) (by decide) ?_
    refine lv_aload_n (pc := 36) hx hb dX5_page_36 rfl (lv_at hl 0 rfl) ?_
    refine z_get (pc := 37) (ref := "LotSheet") (ci := 5) (C := RX5) (T := TX5) (N := 7) hx hb hts iw_X5_page_X5 hown Z 0 rfl rfl 4 (by decide) (List.mem_of_getElem? (i := 3) rfl) rfl rfl dX5_page_37 ?_
    refine z_get (pc := 40) (ref := "LotSheet$Layout") (ci := 3) (C := RX3) (T := TX3) (N := 9) hx hb hts iw_X5_page_X3 hown Z 4 rfl rfl 4 (by decide) (List.mem_of_getElem? (i := 4) rfl) rfl rfl dX5_page_40 ?_
    refine lv_iload_n (pc := 43) hx hb dX5_page_43 rfl (lv_at hl 1 rfl) ?_
    obtain ⟨i3, hf⟩ := o_rdE hf
    refine z_iald (pc := 44) hx hb Z 7 0 rfl rfl i3 dX5_page_44 ?_
    cases hf
  · replace hf := o_neg c2 hf
    by_cases c4 : p2 = (1 : Int32)
    · replace hf := o_pos c4 hf
      refine lv_tableIn (pc := 6) (tgt := 46) hx hb dX5_page_6 (by rw [c4]; decide) (by rw [c4]; decide) (by rw [c4]; rfl) (by decide) ?_
      refine lv_aload_n (pc := 46) hx hb dX5_page_46 rfl (lv_at hl 0 rfl) ?_
      refine z_get (pc := 47) (ref := "LotSheet") (ci := 5) (C := RX5) (T := TX5) (N := 7) hx hb hts iw_X5_page_X5 hown Z 0 rfl rfl 4 (by decide) (List.mem_of_getElem? (i := 3) rfl) rfl rfl dX5_page_47 ?_
      refine z_get (pc := 50) (ref := "LotSheet$Layout") (ci := 3) (C := RX3) (T := TX3) (N := 9) hx hb hts iw_X5_page_X3 hown Z 4 rfl rfl 5 (by decide) (List.mem_of_getElem? (i := 5) rfl) rfl rfl dX5_page_50 ?_
      refine lv_iload_n (pc := 53) hx hb dX5_page_53 rfl (lv_at hl 1 rfl) ?_
      obtain ⟨i5, hf⟩ := o_rdE hf
      refine z_iald (pc := 54) hx hb Z 8 0 rfl rfl i5 dX5_page_54 ?_
      cases hf
    · replace hf := o_neg c4 hf
      by_cases c6 : p2 = (2 : Int32)
      · replace hf := o_pos c6 hf
        refine lv_tableIn (pc := 6) (tgt := 56) hx hb dX5_page_6 (by rw [c6]; decide) (by rw [c6]; decide) (by rw [c6]; rfl) (by decide) ?_
        refine lv_aload_n (pc := 56) hx hb dX5_page_56 rfl (lv_at hl 0 rfl) ?_
        refine z_get (pc := 57) (ref := "LotSheet") (ci := 5) (C := RX5) (T := TX5) (N := 7) hx hb hts iw_X5_page_X5 hown Z 0 rfl rfl 1 (by decide) (List.mem_of_getElem? (i := 6) rfl) rfl rfl dX5_page_57 ?_
        refine z_get (pc := 60) (ref := "LotSheet$Bill") (ci := 0) (C := RX0) (T := TX0) (N := 11) hx hb hts iw_X5_page_X0 hown Z 1 rfl rfl 0 (by decide) (List.mem_of_getElem? (i := 7) rfl) rfl rfl dX5_page_60 ?_
        refine lv_aload_n (pc := 63) hx hb dX5_page_63 rfl (lv_at hl 0 rfl) ?_
        refine z_get (pc := 64) (ref := "LotSheet") (ci := 5) (C := RX5) (T := TX5) (N := 7) hx hb hts iw_X5_page_X5 hown Z 0 rfl rfl 4 (by decide) (List.mem_of_getElem? (i := 3) rfl) rfl rfl dX5_page_64 ?_
        refine z_get (pc := 67) (ref := "LotSheet$Layout") (ci := 3) (C := RX3) (T := TX3) (N := 9) hx hb hts iw_X5_page_X3 hown Z 4 rfl rfl 3 (by decide) (List.mem_of_getElem? (i := 8) rfl) rfl rfl dX5_page_67 ?_
        refine lv_iload_n (pc := 70) hx hb dX5_page_70 rfl (lv_at hl 1 rfl) ?_
        obtain ⟨i7, hf⟩ := o_rdE hf
        refine z_iald (pc := 71) hx hb Z 6 0 rfl rfl i7 dX5_page_71 ?_
        refine lv_isub (pc := 72) hx hb dX5_page_72 ?_
        cases hf
      · replace hf := o_neg c6 hf
        by_cases c8 : p2 = (3 : Int32)
        · replace hf := o_pos c8 hf
          refine lv_tableIn (pc := 6) (tgt := 74) hx hb dX5_page_6 (by rw [c8]; decide) (by rw [c8]; decide) (by rw [c8]; rfl) (by decide) ?_
          refine lv_aload_n (pc := 74) hx hb dX5_page_74 rfl (lv_at hl 0 rfl) ?_
          refine lv_iload_n (pc := 75) hx hb dX5_page_75 rfl (lv_at hl 1 rfl) ?_
          obtain ⟨x9, q10, hf⟩ := o_bindE hf
          refine z_callVi (pc := 76) (As := [.int p1]) (rest := []) (Wc := (W_X5_wantedEstimatesOn cA (fun k => h (k)) b_height b_count b_room b_account b_estimates b_wanted y_pageOf y_pages y_printedLots y_printedLines x_latestErrorOffset)) (W1 := (W_X5_wantedEstimatesOn cA (fun k => h (k)) b_height b_count b_room b_account b_estimates b_wanted y_pageOf y_pages y_printedLots y_printedLines x_latestErrorOffset)) (W2 := (W_X5_page cA h b_height b_count b_room b_account b_estimates b_wanted y_pageOf y_usedOn y_lotsOn y_firstOn y_pages y_printedLots y_printedLines x_latestErrorOffset)) ⟨hx, hb, hml, hown, hts⟩ (kX5_wantedEstimatesOn l D cA (fun k => h (k)) p1 b_height b_count b_room b_account b_estimates b_wanted y_pageOf y_pages y_printedLots y_printedLines x_latestErrorOffset _ q10) (cwV 1 hts zgX5_page_X5_wantedEstimatesOn_170 rfl rfl rfl (by decide +kernel) ⟨Nat.le_of_ble_eq_true rfl, Nat.le_of_ble_eq_true rfl⟩) Z hA [0, 1, 2, 3, 4, 5] rfl (by decide) rfl (ci := 5) rfl rfl rfl rfl hl.1 rfl (Nat.le_of_ble_eq_true rfl) dX5_page_76 ⟨Nat.zero_le _, Nat.zero_le _⟩ [some 0, some 1, some 2, some 3, some 4, some 5, none, none, none] rfl ⟨rfl, rfl, rfl, rfl, rfl, rfl, rfl, rfl, rfl, rfl⟩ (fun H locs Z => ?_)
          cases hf
        · replace hf := o_neg c8 hf
          refine lv_tableOut (pc := 6) (tgt := 80) hx hb dX5_page_6 (z_out4 c2 c4 c6 c8) (by decide) ?_
          cases hf
          exact z_throwE (pc := 80) hx hb hfl hown hts (by decide +kernel) (List.mem_of_getElem? (i := 1) rfl) (List.mem_of_getElem? (i := 2) rfl) z_inI (List.mem_of_getElem? (i := 3) rfl) hE Z (hl.1.trans hml.symm) dX5_page_80 dX5_page_83 dX5_page_84 dX5_page_86 dX5_page_89 hxt (Nat.le_of_ble_eq_true rfl) (Nat.le_of_ble_eq_true rfl) (Nat.le_of_ble_eq_true rfl) (Nat.le_of_ble_eq_true rfl) hlocks
