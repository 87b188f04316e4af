set_option maxHeartbeats 4000000 in
set_option maxRecDepth 100000 in
theorem kL_state (l : Launch) (D : va_G) (cA : Nat → ClassId) (h : Nat → Nat) (p1 : Int32) (b_height : Int32) (b_count : Int32) (b_room : Int32) (b_account : Int32) (b_estimates : Nat → Int32) (b_wanted : Nat → Int32) (b_slipped : Nat → Int32) (y_usedOn : Nat → Int32) (y_pages : Int32) (y_printedLots : Int32) (y_printedLines : Int32) (c_count : Int32) (c_priced : Int32) (x_latestErrorOffset : Int32) (u : Int32) (hf : fX5_state p1 b_height b_count b_room b_account b_estimates b_wanted b_slipped y_usedOn y_pages y_printedLots c_count = some (.inr u)) : zH l yL_state zsL_state ({ frames := 7, cells := 1, slots := 6, locals := 111 } : Room) D (zTY cA) [.ref (h 0), .int p1] (W_X5_state cA h b_height b_count b_room b_account b_estimates b_wanted b_slipped y_usedOn y_pages y_printedLots y_printedLines c_count c_priced x_latestErrorOffset) (W_X5_state cA h b_height b_count b_room b_account b_estimates b_wanted b_slipped y_usedOn y_pages y_printedLots y_printedLines c_count c_priced x_latestErrorOffset) u := by
  refine z_startH (cc := cL_state) (maxL := 3) (ret := some .int) (by decide) rfl (Nat.le_of_ble_eq_true rfl) ?_
  intro p e s m args below meth c A hx hb hr hts hown hlocks hml hA hF hxt Z ls hl
  have hE := hF.1
  replace hown : s.vm.findClass RL = some m.cls := hown
  replace hl : lv_has ls 3 [(0, .ref (h 0)), (1, .int p1)] := hl
  obtain ⟨H, hH⟩ : ∃ H, H = s.heap := ⟨_, rfl⟩
  rw [← hH] at Z ⊢
  clear hH
  obtain ⟨locs, hlc⟩ : ∃ q : List Loc, q = [] := ⟨_, rfl⟩
  rw [← hlc] at Z ⊢
  clear hlc
  refine lv_aload_n (pc := 0) hx hb dL_state_0 rfl (lv_at hl 0 rfl) ?_
  refine lv_iload_n (pc := 1) hx hb dL_state_1 rfl (lv_at hl 1 rfl) ?_
  refine z_callVi (pc := 2) (As := [.int p1]) (rest := []) (Wc := (W_X5_state cA h b_height b_count b_room b_account b_estimates b_wanted b_slipped y_usedOn y_pages y_printedLots y_printedLines c_count c_priced x_latestErrorOffset)) (W1 := (W_X5_state cA h b_height b_count b_room b_account b_estimates b_wanted b_slipped y_usedOn y_pages y_printedLots y_printedLines c_count c_priced x_latestErrorOffset)) (W2 := (W_X5_state cA h b_height b_count b_room b_account b_estimates b_wanted b_slipped y_usedOn y_pages y_printedLots y_printedLines c_count c_priced x_latestErrorOffset)) ⟨hx, hb, hml, hown, hts⟩ (kX5_state l D cA h p1 b_height b_count b_room b_account b_estimates b_wanted b_slipped y_usedOn y_pages y_printedLots y_printedLines c_count c_priced x_latestErrorOffset u hf) (cwV 1 hts zgL_state_X5_state_43 rfl rfl rfl (by decide +kernel) ⟨(Nat.le_of_ble_eq_true rfl), (Nat.le_of_ble_eq_true rfl)⟩) Z hA [0, 1, 2, 3, 4, 5, 6, 7] rfl (by decide) rfl (ci := 5) rfl rfl rfl rfl hl.1 rfl (Nat.le_of_ble_eq_true rfl) dL_state_2 ⟨Nat.zero_le _, Nat.zero_le _⟩ [some 0, some 1, some 2, some 3, some 4, some 5, some 6, some 7] rfl ⟨rfl, rfl, rfl, rfl, rfl, rfl, rfl, rfl, rfl⟩ (fun H locs Z => ?_)
  exact z_iretH (pc := 5) (Nat.zero_le _) (Nat.zero_le _) hx hb hr hlocks Z rfl rfl dL_state_5
set_option maxHeartbeats 4000000 in
set_option maxRecDepth 100000 in
theorem tL_state_0 (l : Launch) (D : va_G) (cA : Nat → ClassId) (h : Nat → Nat) (p1 : Int32) (b_height : Int32) (b_count : Int32) (b_room : Int32) (b_account : Int32) (b_estimates : Nat → Int32) (b_wanted : Nat → Int32) (b_slipped : Nat → Int32) (y_usedOn : Nat → Int32) (y_pages : Int32) (y_printedLots : Int32) (y_printedLines : Int32) (c_count : Int32) (c_priced : Int32) (x_latestErrorOffset : Int32) (hf : fX5_state p1 b_height b_count b_room b_account b_estimates b_wanted b_slipped y_usedOn y_pages y_printedLots c_count = some (.inl "java/lang/IllegalArgumentException")) (hfl : l.stackTraces = false) : zH l yL_state zsL_state ({ frames := 7, cells := 1, slots := 6, locals := 111 } : Room) D (zTY cA) [.ref (h 0), .int p1] (W_X5_state cA h b_height b_count b_room b_account b_estimates b_wanted b_slipped y_usedOn y_pages y_printedLots y_printedLines c_count c_priced x_latestErrorOffset) (W_X5_state cA h b_height b_count b_room b_account b_estimates b_wanted b_slipped y_usedOn y_pages y_printedLots y_printedLines c_count c_priced x_latestErrorOffset) (-2000000098 : Int32) := by
  refine z_startH (cc := cL_state) (maxL := 3) (ret := some .int) (by decide) rfl (Nat.le_of_ble_eq_true rfl) ?_
  intro p e s m args below meth c A hx hb hr hts hown hlocks hml hA hF hxt Z ls hl
  have hE := hF.1
  replace hown : s.vm.findClass RL = some m.cls := hown
  replace hl : lv_has ls 3 [(0, .ref (h 0)), (1, .int p1)] := hl
  obtain ⟨H, hH⟩ : ∃ H, H = s.heap := ⟨_, rfl⟩
  rw [← hH] at Z ⊢
  clear hH
  obtain ⟨locs, hlc⟩ : ∃ q : List Loc, q = [] := ⟨_, rfl⟩
  rw [← hlc] at Z ⊢
  clear hlc
  refine lv_aload_n (pc := 0) hx hb dL_state_0 rfl (lv_at hl 0 rfl) ?_
  refine lv_iload_n (pc := 1) hx hb dL_state_1 rfl (lv_at hl 1 rfl) ?_
  refine z_callVic (name := "java/lang/IllegalArgumentException") (pc := 2) (As := [.int p1]) (rest := []) (Wc := (W_X5_state cA h b_height b_count b_room b_account b_estimates b_wanted b_slipped y_usedOn y_pages y_printedLots y_printedLines c_count c_priced x_latestErrorOffset)) ⟨hx, hb, hml, hown, hts⟩ (tX5_state l D cA h p1 b_height b_count b_room b_account b_estimates b_wanted b_slipped y_usedOn y_pages y_printedLots y_printedLines c_count c_priced x_latestErrorOffset "java/lang/IllegalArgumentException" hf hfl) (cwV 1 hts zgL_state_X5_state_43 rfl rfl rfl (by decide +kernel) ⟨(Nat.le_of_ble_eq_true rfl), (Nat.le_of_ble_eq_true rfl)⟩) hE Z hA [0, 1, 2, 3, 4, 5, 6, 7] rfl (by decide) (ci := 5) rfl rfl rfl rfl hl.1 rfl (Nat.le_of_ble_eq_true rfl) dL_state_2 ⟨(Nat.le_of_ble_eq_true rfl), (Nat.le_of_ble_eq_true rfl)⟩ [some 0, some 1, some 2, some 3, some 4, some 5, some 6, some 7] rfl ⟨rfl, rfl, rfl, rfl, rfl, rfl, rfl, rfl, rfl⟩ [] ⟨0, 5, 6, 40⟩ [] hxt (fun z hz => absurd hz List.not_mem_nil) rfl (by decide) hown (hts _ (List.mem_of_getElem? (i := 1) rfl)) (va_Nw.use rfl (hF.2.1 "java/lang/IllegalArgumentException" (List.mem_of_getElem? (i := 0) rfl))) (fun q9 H locs Z => ?_)
  refine lv_astore_n (pc := 6) (lv' := [(2, .ref q9), (0, .ref (h 0)), (1, .int p1)]) hx hb dL_state_6 rfl hl (by decide) rfl (fun ls hl => ?_)
  refine lv_ldc (v := (-2000000098 : Int32)) (pc := 7) hx hb hown (hts _ (List.mem_of_getElem? (i := 2) rfl)) dL_state_7 ?_
  exact z_iretH (pc := 9) (Nat.le_of_ble_eq_true rfl) (Nat.le_of_ble_eq_true rfl) hx hb hr hlocks Z rfl rfl dL_state_9
def fL_state (p1 : Int32) (b_height : Int32) (b_count : Int32) (b_room : Int32) (b_account : Int32) (b_estimates : Nat → Int32) (b_wanted : Nat → Int32) (b_slipped : Nat → Int32) (y_usedOn : Nat → Int32) (y_pages : Int32) (y_printedLots : Int32) (c_count : Int32) : Option (Int32) := o_hlp (fX5_state p1 b_height b_count b_room b_account b_estimates b_wanted b_slipped y_usedOn y_pages y_printedLots c_count) (fun v => v) [("java/lang/IllegalArgumentException", ((-2000000098 : Int32)))]
theorem hL_state (l : Launch) (D : va_G) (cA : Nat → ClassId) (h : Nat → Nat) (p1 : Int32) (b_height : Int32) (b_count : Int32) (b_room : Int32) (b_account : Int32) (b_estimates : Nat → Int32) (b_wanted : Nat → Int32) (b_slipped : Nat → Int32) (y_usedOn : Nat → Int32) (y_pages : Int32) (y_printedLots : Int32) (y_printedLines : Int32) (c_count : Int32) (c_priced : Int32) (x_latestErrorOffset : Int32) (u : Int32) (hf : fL_state p1 b_height b_count b_room b_account b_estimates b_wanted b_slipped y_usedOn y_pages y_printedLots c_count = some u) (hfl : l.stackTraces = false) : zH l yL_state zsL_state ({ frames := 7, cells := 1, slots := 6, locals := 111 } : Room) D (zTY cA) [.ref (h 0), .int p1] (W_X5_state cA h b_height b_count b_room b_account b_estimates b_wanted b_slipped y_usedOn y_pages y_printedLots y_printedLines c_count c_priced x_latestErrorOffset) (W_X5_state cA h b_height b_count b_room b_account b_estimates b_wanted b_slipped y_usedOn y_pages y_printedLots y_printedLines c_count c_priced x_latestErrorOffset) u := by
  rcases o_hlpE hf with ⟨a, ha, rfl⟩ | ⟨E, hE, hc⟩
  · exact kL_state l D cA h p1 b_height b_count b_room b_account b_estimates b_wanted b_slipped y_usedOn y_pages y_printedLots y_printedLines c_count c_priced x_latestErrorOffset a ha
  · obtain ⟨rfl, rfl⟩ := o_cat1 hc
    exact tL_state_0 l D cA h p1 b_height b_count b_room b_account b_estimates b_wanted b_slipped y_usedOn y_pages y_printedLots y_printedLines c_count c_priced x_latestErrorOffset hE hfl
