set_option maxHeartbeats 4000000 in
set_option maxRecDepth 100000 in
theorem kL_lot (l : Launch) (D : va_G) (cA : Nat → ClassId) (h : Nat → Nat) (g : Nat) (p1 : Int32) (p2 : Int32) (b_height : Int32) (b_count : Int32) (b_room : Int32) (b_account : Int32) (b_lines : Nat → Int32) (b_estimates : Nat → Int32) (b_sellers : Nat → Int32) (b_printed : Nat → Int32) (b_wanted : Nat → Int32) (b_slipped : Nat → Int32) (y_numberOf : Nat → Int32) (y_pageOf : Nat → Int32) (y_lineOf : Nat → Int32) (y_pages : Int32) (y_printedLots : Int32) (y_printedLines : Int32) (x_latestErrorOffset : Int32) (told : Nat → Int64) (u : Int32) (hf : fX5_lot p1 p2 b_count b_lines b_estimates b_sellers b_printed b_wanted b_slipped y_numberOf y_pageOf y_lineOf = some (.inr u)) : zH l yL_lot zsL_lot ({ frames := 8, cells := 1, slots := 6, locals := 133 } : Room) D (zTY cA) [.ref (h 0), .int p1, .int p2, .ref g] ((W_X5_lot cA h b_height b_count b_room b_account b_lines b_estimates b_sellers b_printed b_wanted b_slipped y_numberOf y_pageOf y_lineOf y_pages y_printedLots y_printedLines x_latestErrorOffset) ++ [zTold cA g told]) ((W_X5_lot cA h b_height b_count b_room b_account b_lines b_estimates b_sellers b_printed b_wanted b_slipped y_numberOf y_pageOf y_lineOf y_pages y_printedLots y_printedLines x_latestErrorOffset) ++ [zTold cA g (vp_updL told (0 : Int32).toNatClampNeg u.toInt64)]) 0 := by
  refine z_startH (cc := cL_lot) (maxL := 5) (ret := some .int) (by decide) rfl (Nat.le_of_ble_eq_true rfl) ?_
  intro p e s m args below meth c A hx hb hr hts hown hlocks hml hA hF hxt Z ls hl
  have hE := hF.1
  replace hown : s.vm.findClass RL = some m.cls := hown
  replace hl : lv_has ls 5 [(0, .ref (h 0)), (1, .int p1), (2, .int p2), (3, .ref g)] := hl
  obtain ⟨H, hH⟩ : ∃ H, H = s.heap := ⟨_, rfl⟩
  rw [← hH] at Z ⊢
  clear hH
  obtain ⟨locs, hlc⟩ : ∃ q : List Loc, q = [] := ⟨_, rfl⟩
  rw [← hlc] at Z ⊢
  clear hlc
  refine lv_aload_n (pc := 0) hx hb dL_lot_0 rfl (lv_at hl 3 rfl) ?_
  refine lv_iconst (v := (0 : Int32)) (pc := 1) hx hb dL_lot_1 (by decide) ?_
  refine lv_aload_n (pc := 2) hx hb dL_lot_2 rfl (lv_at hl 0 rfl) ?_
  refine lv_iload_n (pc := 3) hx hb dL_lot_3 rfl (lv_at hl 1 rfl) ?_
  refine lv_iload_n (pc := 4) hx hb dL_lot_4 rfl (lv_at hl 2 rfl) ?_
  refine z_callVi (pc := 5) (As := [.int p1, .int p2]) (rest := [.int (0 : Int32), .ref g]) (Wc := (W_X5_lot cA h b_height b_count b_room b_account b_lines b_estimates b_sellers b_printed b_wanted b_slipped y_numberOf y_pageOf y_lineOf y_pages y_printedLots y_printedLines x_latestErrorOffset)) (W1 := (W_X5_lot cA h b_height b_count b_room b_account b_lines b_estimates b_sellers b_printed b_wanted b_slipped y_numberOf y_pageOf y_lineOf y_pages y_printedLots y_printedLines x_latestErrorOffset)) (W2 := (W_X5_lot cA h b_height b_count b_room b_account b_lines b_estimates b_sellers b_printed b_wanted b_slipped y_numberOf y_pageOf y_lineOf y_pages y_printedLots y_printedLines x_latestErrorOffset) ++ [zTold cA g told]) ⟨hx, hb, hml, hown, hts⟩ (kX5_lot l D cA h p1 p2 b_height b_count b_room b_account b_lines b_estimates b_sellers b_printed b_wanted b_slipped y_numberOf y_pageOf y_lineOf y_pages y_printedLots y_printedLines x_latestErrorOffset u hf) (cwV 2 hts zgL_lot_X5_lot_18 rfl rfl rfl (by decide +kernel) ⟨(Nat.le_of_ble_eq_true rfl), (Nat.le_of_ble_eq_true rfl)⟩) Z hA [0, 1, 2, 3, 4, 5, 6, 7, 8, 9, 10, 11] rfl (by decide) rfl (ci := 5) rfl rfl rfl rfl hl.1 rfl (Nat.le_of_ble_eq_true rfl) dL_lot_5 ⟨Nat.zero_le _, Nat.zero_le _⟩ [some 0, some 1, some 2, some 3, some 4, some 5, some 6, some 7, some 8, some 9, some 10, some 11, none] rfl ⟨rfl, rfl, rfl, rfl, rfl, rfl, rfl, rfl, rfl, rfl, rfl, rfl, rfl, rfl⟩ (fun H locs Z => ?_)
  refine lv_i2l (pc := 8) hx hb dL_lot_8 rfl ?_
  refine z_last (pc := 9) (W1 := (W_X5_lot cA h b_height b_count b_room b_account b_lines b_estimates b_sellers b_printed b_wanted b_slipped y_numberOf y_pageOf y_lineOf y_pages y_printedLots y_printedLines x_latestErrorOffset) ++ [zTold cA g (vp_updL told (0 : Int32).toNatClampNeg u.toInt64)]) hx hb Z 12 5 rfl rfl (show ¬ ((0 : Int32) < 0 ∨ 1 ≤ (0 : Int32).toNatClampNeg) by decide) dL_lot_9 rfl (fun H locs Z => ?_)
  refine lv_goto (tgt := 21) (pc := 10) hx hb dL_lot_10 (by decide) ?_
  refine lv_iconst (v := (0 : Int32)) (pc := 21) hx hb dL_lot_21 (by decide) ?_
  exact z_iretH (pc := 22) (Nat.zero_le _) (Nat.zero_le _) hx hb hr hlocks Z rfl rfl dL_lot_22
set_option maxHeartbeats 4000000 in
set_option maxRecDepth 100000 in
theorem tL_lot_1 (l : Launch) (D : va_G) (cA : Nat → ClassId) (h : Nat → Nat) (g : Nat) (p1 : Int32) (p2 : Int32) (b_height : Int32) (b_count : Int32) (b_room : Int32) (b_account : Int32) (b_lines : Nat → Int32) (b_estimates : Nat → Int32) (b_sellers : Nat → Int32) (b_printed : Nat → Int32) (b_wanted : Nat → Int32) (b_slipped : Nat → Int32) (y_numberOf : Nat → Int32) (y_pageOf : Nat → Int32) (y_lineOf : Nat → Int32) (y_pages : Int32) (y_printedLots : Int32) (y_printedLines : Int32) (x_latestErrorOffset : Int32) (told : Nat → Int64) (hf : fX5_lot p1 p2 b_count b_lines b_estimates b_sellers b_printed b_wanted b_slipped y_numberOf y_pageOf y_lineOf = some (.inl "java/lang/IndexOutOfBoundsException")) (hfl : l.stackTraces = false) : zH l yL_lot zsL_lot ({ frames := 8, cells := 1, slots := 6, locals := 133 } : Room) D (zTY cA) [.ref (h 0), .int p1, .int p2, .ref g] ((W_X5_lot cA h b_height b_count b_room b_account b_lines b_estimates b_sellers b_printed b_wanted b_slipped y_numberOf y_pageOf y_lineOf y_pages y_printedLots y_printedLines x_latestErrorOffset) ++ [zTold cA g told]) ((W_X5_lot cA h b_height b_count b_room b_account b_lines b_estimates b_sellers b_printed b_wanted b_slipped y_numberOf y_pageOf y_lineOf y_pages y_printedLots y_printedLines x_latestErrorOffset) ++ [zTold cA g told]) 1 := by
  refine z_startH (cc := cL_lot) (maxL := 5) (ret := some .int) (by decide) rfl (Nat.le_of_ble_eq_true rfl) ?_
  intro p e s m args below meth c A hx hb hr hts hown hlocks hml hA hF hxt Z ls hl
  have hE := hF.1
  replace hown : s.vm.findClass RL = some m.cls := hown
  replace hl : lv_has ls 5 [(0, .ref (h 0)), (1, .int p1), (2, .int p2), (3, .ref g)] := hl
  obtain ⟨H, hH⟩ : ∃ H, H = s.heap := ⟨_, rfl⟩
  rw [← hH] at Z ⊢
  clear hH
  obtain ⟨locs, hlc⟩ : ∃ q : List Loc, q = [] := ⟨_, rfl⟩
  rw [← hlc] at Z ⊢
  clear hlc
  refine lv_aload_n (pc := 0) hx hb dL_lot_0 rfl (lv_at hl 3 rfl) ?_
  refine lv_iconst (v := (0 : Int32)) (pc := 1) hx hb dL_lot_1 (by decide) ?_
  refine lv_aload_n (pc := 2) hx hb dL_lot_2 rfl (lv_at hl 0 rfl) ?_
  refine lv_iload_n (pc := 3) hx hb dL_lot_3 rfl (lv_at hl 1 rfl) ?_
  refine lv_iload_n (pc := 4) hx hb dL_lot_4 rfl (lv_at hl 2 rfl) ?_
  refine z_callVic (name := "java/lang/IndexOutOfBoundsException") (pc := 5) (As := [.int p1, .int p2]) (rest := [.int (0 : Int32), .ref g]) (Wc := (W_X5_lot cA h b_height b_count b_room b_account b_lines b_estimates b_sellers b_printed b_wanted b_slipped y_numberOf y_pageOf y_lineOf y_pages y_printedLots y_printedLines x_latestErrorOffset)) ⟨hx, hb, hml, hown, hts⟩ (tX5_lot l D cA h p1 p2 b_height b_count b_room b_account b_lines b_estimates b_sellers b_printed b_wanted b_slipped y_numberOf y_pageOf y_lineOf y_pages y_printedLots y_printedLines x_latestErrorOffset "java/lang/IndexOutOfBoundsException" hf hfl) (cwV 2 hts zgL_lot_X5_lot_18 rfl rfl rfl (by decide +kernel) ⟨(Nat.le_of_ble_eq_true rfl), (Nat.le_of_ble_eq_true rfl)⟩) hE Z hA [0, 1, 2, 3, 4, 5, 6, 7, 8, 9, 10, 11] rfl (by decide) (ci := 5) rfl rfl rfl rfl hl.1 rfl (Nat.le_of_ble_eq_true rfl) dL_lot_5 ⟨(Nat.le_of_ble_eq_true rfl), (Nat.le_of_ble_eq_true rfl)⟩ [some 0, some 1, some 2, some 3, some 4, some 5, some 6, some 7, some 8, some 9, some 10, some 11, none] rfl ⟨rfl, rfl, rfl, rfl, rfl, rfl, rfl, rfl, rfl, rfl, rfl, rfl, rfl, rfl⟩ [] ⟨0, 10, 13, 22⟩ [⟨0, 10, 17, 13⟩] hxt (fun z hz => absurd hz List.not_mem_nil) rfl (by decide) hown (hts _ (List.mem_of_getElem? (i := 1) rfl)) (va_Nw.use rfl (hF.2.1 "java/lang/IndexOutOfBoundsException" (List.mem_of_getElem? (i := 1) rfl))) (fun q9 H locs Z => ?_)
  refine lv_astore (pc := 13) (lv' := [(4, .ref q9), (0, .ref (h 0)), (1, .int p1), (2, .int p2), (3, .ref g)]) hx hb dL_lot_13 hl (by decide) rfl (fun ls hl => ?_)
  refine lv_iconst (v := (1 : Int32)) (pc := 15) hx hb dL_lot_15 (by decide) ?_
  exact z_iretH (pc := 16) (Nat.le_of_ble_eq_true rfl) (Nat.le_of_ble_eq_true rfl) hx hb hr hlocks Z rfl rfl dL_lot_16
set_option maxHeartbeats 4000000 in
set_option maxRecDepth 100000 in
theorem tL_lot_2 (l : Launch) (D : va_G) (cA : Nat → ClassId) (h : Nat → Nat) (g : Nat) (p1 : Int32) (p2 : Int32) (b_height : Int32) (b_count : Int32) (b_room : Int32) (b_account : Int32) (b_lines : Nat → Int32) (b_estimates : Nat → Int32) (b_sellers : Nat → Int32) (b_printed : Nat → Int32) (b_wanted : Nat → Int32) (b_slipped : Nat → Int32) (y_numberOf : Nat → Int32) (y_pageOf : Nat → Int32) (y_lineOf : Nat → Int32) (y_pages : Int32) (y_printedLots : Int32) (y_printedLines : Int32) (x_latestErrorOffset : Int32) (told : Nat → Int64) (hf : fX5_lot p1 p2 b_count b_lines b_estimates b_sellers b_printed b_wanted b_slipped y_numberOf y_pageOf y_lineOf = some (.inl "java/lang/IllegalArgumentException")) (hfl : l.stackTraces = false) : zH l yL_lot zsL_lot ({ frames := 8, cells := 1, slots := 6, locals := 133 } : Room) D (zTY cA) [.ref (h 0), .int p1, .int p2, .ref g] ((W_X5_lot cA h b_height b_count b_room b_account b_lines b_estimates b_sellers b_printed b_wanted b_slipped y_numberOf y_pageOf y_lineOf y_pages y_printedLots y_printedLines x_latestErrorOffset) ++ [zTold cA g told]) ((W_X5_lot cA h b_height b_count b_room b_account b_lines b_estimates b_sellers b_printed b_wanted b_slipped y_numberOf y_pageOf y_lineOf y_pages y_printedLots y_printedLines x_latestErrorOffset) ++ [zTold cA g told]) 2 := by
  refine z_startH (cc := cL_lot) (maxL := 5) (ret := some .int) (by decide) rfl (Nat.le_of_ble_eq_true rfl) ?_
  intro p e s m args below meth c A hx hb hr hts hown hlocks hml hA hF hxt Z ls hl
  have hE := hF.1
  replace hown : s.vm.findClass RL = some m.cls := hown
  replace hl : lv_has ls 5 [(0, .ref (h 0)), (1, .int p1), (2, .int p2), (3, .ref g)] := hl
  obtain ⟨H, hH⟩ : ∃ H, H = s.heap := ⟨_, rfl⟩
  rw [← hH] at Z ⊢
  clear hH
  obtain ⟨locs, hlc⟩ : ∃ q : List Loc, q = [] := ⟨_, rfl⟩
  rw [← hlc] at Z ⊢
  clear hlc
  refine lv_aload_n (pc := 0) hx hb dL_lot_0 rfl (lv_at hl 3 rfl) ?_
  refine lv_iconst (v := (0 : Int32)) (pc := 1) hx hb dL_lot_1 (by decide) ?_
  refine lv_aload_n (pc := 2) hx hb dL_lot_2 rfl (lv_at hl 0 rfl) ?_
  refine lv_iload_n (pc := 3) hx hb dL_lot_3 rfl (lv_at hl 1 rfl) ?_
  refine lv_iload_n (pc := 4) hx hb dL_lot_4 rfl (lv_at hl 2 rfl) ?_
  refine z_callVic (name := "java/lang/IllegalArgumentException") (pc := 5) (As := [.int p1, .int p2]) (rest := [.int (0 : Int32), .ref g]) (Wc := (W_X5_lot cA h b_height b_count b_room b_account b_lines b_estimates b_sellers b_printed b_wanted b_slipped y_numberOf y_pageOf y_lineOf y_pages y_printedLots y_printedLines x_latestErrorOffset)) ⟨hx, hb, hml, hown, hts⟩ (tX5_lot l D cA h p1 p2 b_height b_count b_room b_account b_lines b_estimates b_sellers b_printed b_wanted b_slipped y_numberOf y_pageOf y_lineOf y_pages y_printedLots y_printedLines x_latestErrorOffset "java/lang/IllegalArgumentException" hf hfl) (cwV 2 hts zgL_lot_X5_lot_18 rfl rfl rfl (by decide +kernel) ⟨(Nat.le_of_ble_eq_true rfl), (Nat.le_of_ble_eq_true rfl)⟩) hE Z hA [0, 1, 2, 3, 4, 5, 6, 7, 8, 9, 10, 11] rfl (by decide) (ci := 5) rfl rfl rfl rfl hl.1 rfl (Nat.le_of_ble_eq_true rfl) dL_lot_5 ⟨(Nat.le_of_ble_eq_true rfl), (Nat.le_of_ble_eq_true rfl)⟩ [some 0, some 1, some 2, some 3, some 4, some 5, some 6, some 7, some 8, some 9, some 10, some 11, none] rfl ⟨rfl, rfl, rfl, rfl, rfl, rfl, rfl, rfl, rfl, rfl, rfl, rfl, rfl, rfl⟩ [⟨0, 10, 13, 22⟩] ⟨0, 10, 17, 13⟩ [] hxt (fun z hz => by rw [List.mem_singleton.mp hz]; exact Or.inr ⟨(by decide), "java/lang/IndexOutOfBoundsException", hts _ (List.mem_of_getElem? (i := 1) rfl), hF.2.2 ("java/lang/IllegalArgumentException", "java/lang/IndexOutOfBoundsException") (List.mem_of_getElem? (i := 0) rfl)⟩) rfl (by decide) hown (hts _ (List.mem_of_getElem? (i := 2) rfl)) (va_Nw.use rfl (hF.2.1 "java/lang/IllegalArgumentException" (List.mem_of_getElem? (i := 0) rfl))) (fun q9 H locs Z => ?_)
  refine lv_astore (pc := 17) (lv' := [(4, .ref q9), (0, .ref (h 0)), (1, .int p1), (2, .int p2), (3, .ref g)]) hx hb dL_lot_17 hl (by decide) rfl (fun ls hl => ?_)
  refine lv_iconst (v := (2 : Int32)) (pc := 19) hx hb dL_lot_19 (by decide) ?_
  exact z_iretH (pc := 20) (Nat.le_of_ble_eq_true rfl) (Nat.le_of_ble_eq_true rfl) hx hb hr hlocks Z rfl rfl dL_lot_20
def fL_lot (p1 : Int32) (p2 : Int32) (b_count : Int32) (b_lines : Nat → Int32) (b_estimates : Nat → Int32) (b_sellers : Nat → Int32) (b_printed : Nat → Int32) (b_wanted : Nat → Int32) (b_slipped : Nat → Int32) (y_numberOf : Nat → Int32) (y_pageOf : Nat → Int32) (y_lineOf : Nat → Int32) (told : Nat → Int64) : Option (Int32 × (Nat → Int64)) := o_hlp (fX5_lot p1 p2 b_count b_lines b_estimates b_sellers b_printed b_wanted b_slipped y_numberOf y_pageOf y_lineOf) (fun v => ((0 : Int32), vp_updL told (0 : Int32).toNatClampNeg v.toInt64)) [("java/lang/IndexOutOfBoundsException", ((1 : Int32), told)), ("java/lang/IllegalArgumentException", ((2 : Int32), told))]
theorem hL_lot (l : Launch) (D : va_G) (cA : Nat → ClassId) (h : Nat → Nat) (g : Nat) (p1 : Int32) (p2 : Int32) (b_height : Int32) (b_count : Int32) (b_room : Int32) (b_account : Int32) (b_lines : Nat → Int32) (b_estimates : Nat → Int32) (b_sellers : Nat → Int32) (b_printed : Nat → Int32) (b_wanted : Nat → Int32) (b_slipped : Nat → Int32) (y_numberOf : Nat → Int32) (y_pageOf : Nat → Int32) (y_lineOf : Nat → Int32) (y_pages : Int32) (y_printedLots : Int32) (y_printedLines : Int32) (x_latestErrorOffset : Int32) (told : Nat → Int64) (u : Int32 × (Nat → Int64)) (hf : fL_lot p1 p2 b_count b_lines b_estimates b_sellers b_printed b_wanted b_slipped y_numberOf y_pageOf y_lineOf told = some u) (hfl : l.stackTraces = false) : zH l yL_lot zsL_lot ({ frames := 8, cells := 1, slots := 6, locals := 133 } : Room) D (zTY cA) [.ref (h 0), .int p1, .int p2, .ref g] ((W_X5_lot cA h b_height b_count b_room b_account b_lines b_estimates b_sellers b_printed b_wanted b_slipped y_numberOf y_pageOf y_lineOf y_pages y_printedLots y_printedLines x_latestErrorOffset) ++ [zTold cA g told]) ((W_X5_lot cA h b_height b_count b_room b_account b_lines b_estimates b_sellers b_printed b_wanted b_slipped y_numberOf y_pageOf y_lineOf y_pages y_printedLots y_printedLines x_latestErrorOffset) ++ [zTold cA g (u.2)]) u.1 := by
  rcases o_hlpE hf with ⟨a, ha, rfl⟩ | ⟨E, hE, hc⟩
  · exact kL_lot l D cA h g p1 p2 b_height b_count b_room b_account b_lines b_estimates b_sellers b_printed b_wanted b_slipped y_numberOf y_pageOf y_lineOf y_pages y_printedLots y_printedLines x_latestErrorOffset told a ha
  · rcases o_cat2 hc with ⟨rfl, rfl⟩ | ⟨rfl, rfl⟩
    · exact tL_lot_1 l D cA h g p1 p2 b_height b_count b_room b_account b_lines b_estimates b_sellers b_printed b_wanted b_slipped y_numberOf y_pageOf y_lineOf y_pages y_printedLots y_printedLines x_latestErrorOffset told hE hfl
    · exact tL_lot_2 l D cA h g p1 p2 b_height b_count b_room b_account b_lines b_estimates b_sellers b_printed b_wanted b_slipped y_numberOf y_pageOf y_lineOf y_pages y_printedLots y_printedLines x_latestErrorOffset told hE hfl
