set_option maxHeartbeats 4000000 in
set_option maxRecDepth 100000 in
theorem kL_state (l : Launch) (D : va_G) (cA : Nat → ClassId) (h : Nat → Nat) (g : Nat) (p1 : Int32) (b_height : Int32) (b_count : Int32) (b_room : Int32) (b_account : Int32) (b_estimates : Nat → Int32) (b_wanted : Nat → Int32) (b_slipped : Nat → Int32) (y_usedOn : Nat → Int32) (y_pages : Int32) (y_printedLots : Int32) (y_printedLines : Int32) (c_count : Int32) (c_priced : Int32) (x_latestErrorOffset : Int32) (told : Nat → Int64) (u : Int32) (hf : fX5_state p1 b_height b_count b_room b_account b_estimates b_wanted b_slipped y_usedOn y_pages y_printedLots c_count = some (.inr u)) : zH l yL_state zsL_state ({ frames := 7, cells := 1, slots := 6, locals := 111 } : Room) D (zTY cA) [.ref (h 0), .int p1, .ref g] ((W_X5_state cA h b_height b_count b_room b_account b_estimates b_wanted b_slipped y_usedOn y_pages y_printedLots y_printedLines c_count c_priced x_latestErrorOffset) ++ [zTold cA g told]) ((W_X5_state cA h b_height b_count b_room b_account b_estimates b_wanted b_slipped y_usedOn y_pages y_printedLots y_printedLines c_count c_priced x_latestErrorOffset) ++ [zTold cA g (vp_updL told (0 : Int32).toNatClampNeg u.toInt64)]) 0 := by
  refine z_startH (cc := cL_state) (maxL := 4) (ret := some .int) (by decide) rfl (Nat.le_of_ble_eq_true rfl) ?_
  intro p e s m args below meth c A hx hb hr hts hown hlocks hml hA hF hxt Z ls hl
  have hE := hF.1
  replace hown : s.vm.findClass RL = some m.cls := hown
  replace hl : lv_has ls 4 [(0, .ref (h 0)), (1, .int p1), (2, .ref g)] := hl
  obtain ⟨H, hH⟩ : ∃ H, H = s.heap := ⟨_, rfl⟩
  rw [← hH] at Z ⊢
  clear hH
  obtain ⟨locs, hlc⟩ : ∃ q : List Loc, q = [] := ⟨_, rfl⟩
  rw [← hlc] at Z ⊢
  clear hlc
  refine lv_aload_n (pc := 0) hx hb dL_state_0 rfl (lv_at hl 2 rfl) ?_
  refine lv_iconst (v := (0 : Int32)) (pc := 1) hx hb dL_state_1 (by decide) ?_
  refine lv_aload_n (pc := 2) hx hb dL_state_2 rfl (lv_at hl 0 rfl) ?_
  refine lv_iload_n (pc := 3) hx hb dL_state_3 rfl (lv_at hl 1 rfl) ?_
  refine z_callVi (pc := 4) (As := [.int p1]) (rest := [.int (0 : Int32), .ref g]) (Wc := (W_X5_state cA h b_height b_count b_room b_account b_estimates b_wanted b_slipped y_usedOn y_pages y_printedLots y_printedLines c_count c_priced x_latestErrorOffset)) (W1 := (W_X5_state cA h b_height b_count b_room b_account b_estimates b_wanted b_slipped y_usedOn y_pages y_printedLots y_printedLines c_count c_priced x_latestErrorOffset)) (W2 := (W_X5_state cA h b_height b_count b_room b_account b_estimates b_wanted b_slipped y_usedOn y_pages y_printedLots y_printedLines c_count c_priced x_latestErrorOffset) ++ [zTold cA g told]) ⟨hx, hb, hml, hown, hts⟩ (kX5_state l D cA h p1 b_height b_count b_room b_account b_estimates b_wanted b_slipped y_usedOn y_pages y_printedLots y_printedLines c_count c_priced x_latestErrorOffset u hf) (cwV 1 hts zgL_state_X5_state_15 rfl rfl rfl (by decide +kernel) ⟨(Nat.le_of_ble_eq_true rfl), (Nat.le_of_ble_eq_true rfl)⟩) Z hA [0, 1, 2, 3, 4, 5, 6, 7] rfl (by decide) rfl (ci := 5) rfl rfl rfl rfl hl.1 rfl (Nat.le_of_ble_eq_true rfl) dL_state_4 ⟨Nat.zero_le _, Nat.zero_le _⟩ [some 0, some 1, some 2, some 3, some 4, some 5, some 6, some 7, none] rfl ⟨rfl, rfl, rfl, rfl, rfl, rfl, rfl, rfl, rfl, rfl⟩ (fun H locs Z => ?_)
  refine lv_i2l (pc := 7) hx hb dL_state_7 rfl ?_
  refine z_last (pc := 8) (W1 := (W_X5_state cA h b_height b_count b_room b_account b_estimates b_wanted b_slipped y_usedOn y_pages y_printedLots y_printedLines c_count c_priced x_latestErrorOffset) ++ [zTold cA g (vp_updL told (0 : Int32).toNatClampNeg u.toInt64)]) hx hb Z 8 5 rfl rfl (show ¬ ((0 : Int32) < 0 ∨ 1 ≤ (0 : Int32).toNatClampNeg) by decide) dL_state_8 rfl (fun H locs Z => ?_)
  refine lv_goto (tgt := 15) (pc := 9) hx hb dL_state_9 (by decide) ?_
  refine lv_iconst (v := (0 : Int32)) (pc := 15) hx hb dL_state_15 (by decide) ?_
  exact z_iretH (pc := 16) (Nat.zero_le _) (Nat.zero_le _) hx hb hr hlocks Z rfl rfl dL_state_16
set_option maxHeartbeats 4000000 in
set_option maxRecDepth 100000 in
theorem tL_state_1 (l : Launch) (D : va_G) (cA : Nat → ClassId) (h : Nat → Nat) (g : Nat) (p1 : Int32) (b_height : Int32) (b_count : Int32) (b_room : Int32) (b_account : Int32) (b_estimates : Nat → Int32) (b_wanted : Nat → Int32) (b_slipped : Nat → Int32) (y_usedOn : Nat → Int32) (y_pages : Int32) (y_printedLots : Int32) (y_printedLines : Int32) (c_count : Int32) (c_priced : Int32) (x_latestErrorOffset : Int32) (told : Nat → Int64) (hf : fX5_state p1 b_height b_count b_room b_account b_estimates b_wanted b_slipped y_usedOn y_pages y_printedLots c_count = some (.inl "java/lang/IllegalArgumentException")) (hfl : l.stackTraces = false) : zH l yL_state zsL_state ({ frames := 7, cells := 1, slots := 6, locals := 111 } : Room) D (zTY cA) [.ref (h 0), .int p1, .ref g] ((W_X5_state cA h b_height b_count b_room b_account b_estimates b_wanted b_slipped y_usedOn y_pages y_printedLots y_printedLines c_count c_priced x_latestErrorOffset) ++ [zTold cA g told]) ((W_X5_state cA h b_height b_count b_room b_account b_estimates b_wanted b_slipped y_usedOn y_pages y_printedLots y_printedLines c_count c_priced x_latestErrorOffset) ++ [zTold cA g told]) 1 := by
  refine z_startH (cc := cL_state) (maxL := 4) (ret := some .int) (by decide) rfl (Nat.le_of_ble_eq_true rfl) ?_
  intro p e s m args below meth c A hx hb hr hts hown hlocks hml hA hF hxt Z ls hl
  have hE := hF.1
  replace hown : s.vm.findClass RL = some m.cls := hown
  replace hl : lv_has ls 4 [(0, .ref (h 0)), (1, .int p1), (2, .ref g)] := hl
  obtain ⟨H, hH⟩ : ∃ H, H = s.heap := ⟨_, rfl⟩
  rw [← hH] at Z ⊢
  clear hH
  obtain ⟨locs, hlc⟩ : ∃ q : List Loc, q = [] := ⟨_, rfl⟩
  rw [← hlc] at Z ⊢
  clear hlc
  refine lv_aload_n (pc := 0) hx hb dL_state_0 rfl (lv_at hl 2 rfl) ?_
  refine lv_iconst (v := (0 : Int32)) (pc := 1) hx hb dL_state_1 (by decide) ?_
  refine lv_aload_n (pc := 2) hx hb dL_state_2 rfl (lv_at hl 0 rfl) ?_
  refine lv_iload_n (pc := 3) hx hb dL_state_3 rfl (lv_at hl 1 rfl) ?_
  refine z_callVic (name := "java/lang/IllegalArgumentException") (pc := 4) (As := [.int p1]) (rest := [.int (0 : Int32), .ref g]) (Wc := (W_X5_state cA h b_height b_count b_room b_account b_estimates b_wanted b_slipped y_usedOn y_pages y_printedLots y_printedLines c_count c_priced x_latestErrorOffset)) ⟨hx, hb, hml, hown, hts⟩ (tX5_state l D cA h p1 b_height b_count b_room b_account b_estimates b_wanted b_slipped y_usedOn y_pages y_printedLots y_printedLines c_count c_priced x_latestErrorOffset "java/lang/IllegalArgumentException" hf hfl) (cwV 1 hts zgL_state_X5_state_15 rfl rfl rfl (by decide +kernel) ⟨(Nat.le_of_ble_eq_true rfl), (Nat.le_of_ble_eq_true rfl)⟩) hE Z hA [0, 1, 2, 3, 4, 5, 6, 7] rfl (by decide) (ci := 5) rfl rfl rfl rfl hl.1 rfl (Nat.le_of_ble_eq_true rfl) dL_state_4 ⟨(Nat.le_of_ble_eq_true rfl), (Nat.le_of_ble_eq_true rfl)⟩ [some 0, some 1, some 2, some 3, some 4, some 5, some 6, some 7, none] rfl ⟨rfl, rfl, rfl, rfl, rfl, rfl, rfl, rfl, rfl, rfl⟩ [] ⟨0, 9, 12, 13⟩ [] hxt (fun z hz => absurd hz List.not_mem_nil) rfl (by decide) hown (hts _ (List.mem_of_getElem? (i := 1) rfl)) (va_Nw.use rfl (hF.2.1 "java/lang/IllegalArgumentException" (List.mem_of_getElem? (i := 0) rfl))) (fun q9 H locs Z => ?_)
  refine lv_astore_n (pc := 12) (lv' := [(3, .ref q9), (0, .ref (h 0)), (1, .int p1), (2, .ref g)]) hx hb dL_state_12 rfl hl (by decide) rfl (fun ls hl => ?_)
  refine lv_iconst (v := (1 : Int32)) (pc := 13) hx hb dL_state_13 (by decide) ?_
  exact z_iretH (pc := 14) (Nat.le_of_ble_eq_true rfl) (Nat.le_of_ble_eq_true rfl) hx hb hr hlocks Z rfl rfl dL_state_14
def fL_state (p1 : Int32) (b_height : Int32) (b_count : Int32) (b_room : Int32) (b_account : Int32) (b_estimates : Nat → Int32) (b_wanted : Nat → Int32) (b_slipped : Nat → Int32) (y_usedOn : Nat → Int32) (y_pages : Int32) (y_printedLots : Int32) (c_count : Int32) (told : Nat → Int64) : Option (Int32 × (Nat → Int64)) := o_hlp (fX5_state p1 b_height b_count b_room b_account b_estimates b_wanted b_slipped y_usedOn y_pages y_printedLots c_count) (fun v => ((0 : Int32), vp_updL told (0 : Int32).toNatClampNeg v.toInt64)) [("java/lang/IllegalArgumentException", ((1 : Int32), told))]
theorem hL_state (l : Launch) (D : va_G) (cA : Nat → ClassId) (h : Nat → Nat) (g : Nat) (p1 : Int32) (b_height : Int32) (b_count : Int32) (b_room : Int32) (b_account : Int32) (b_estimates : Nat → Int32) (b_wanted : Nat → Int32) (b_slipped : Nat → Int32) (y_usedOn : Nat → Int32) (y_pages : Int32) (y_printedLots : Int32) (y_printedLines : Int32) (c_count : Int32) (c_priced : Int32) (x_latestErrorOffset : Int32) (told : Nat → Int64) (u : Int32 × (Nat → Int64)) (hf : fL_state p1 b_height b_count b_room b_account b_estimates b_wanted b_slipped y_usedOn y_pages y_printedLots c_count told = some u) (hfl : l.stackTraces = false) : zH l yL_state zsL_state ({ frames := 7, cells := 1, slots := 6, locals := 111 } : Room) D (zTY cA) [.ref (h 0), .int p1, .ref g] ((W_X5_state cA h b_height b_count b_room b_account b_estimates b_wanted b_slipped y_usedOn y_pages y_printedLots y_printedLines c_count c_priced x_latestErrorOffset) ++ [zTold cA g told]) ((W_X5_state cA h b_height b_count b_room b_account b_estimates b_wanted b_slipped y_usedOn y_pages y_printedLots y_printedLines c_count c_priced x_latestErrorOffset) ++ [zTold cA g (u.2)]) u.1 := by
  rcases o_hlpE hf with ⟨a, ha, rfl⟩ | ⟨E, hE, hc⟩
  · exact kL_state l D cA h g p1 b_height b_count b_room b_account b_estimates b_wanted b_slipped y_usedOn y_pages y_printedLots y_printedLines c_count c_priced x_latestErrorOffset told a ha
  · obtain ⟨rfl, rfl⟩ := o_cat1 hc
    exact tL_state_1 l D cA h g p1 b_height b_count b_room b_account b_estimates b_wanted b_slipped y_usedOn y_pages y_printedLots y_printedLines c_count c_priced x_latestErrorOffset told hE hfl
