set_option maxHeartbeats 4000000 in
set_option maxRecDepth 100000 in
theorem kL_through (l : Launch) (D : va_G) (cA : Nat → ClassId) (h : Nat → Nat) (p1 : Int32) (b_height : Int32) (b_count : Int32) (b_room : Int32) (b_account : Int32) (b_lines : Nat → Int32) (b_printed : Nat → Int32) (x_latestErrorOffset : Int32) (u : Int32) (hf : fX5_through p1 b_count b_lines b_printed = some (.inr u)) : zH l yL_through zsL_through ({ frames := 7, cells := 1, slots := 6, locals := 113 } : Room) D (zTY cA) [.ref (h 0), .int p1] (W_X5_through cA h b_height b_count b_room b_account b_lines b_printed x_latestErrorOffset) (W_X5_through cA h b_height b_count b_room b_account b_lines b_printed x_latestErrorOffset) u := by
  refine z_startH (cc := cL_through) (maxL := 3) (ret := some .int) (by decide) rfl (Nat.le_of_ble_eq_true rfl) ?_
  intro p e s m args below meth c A hx hb hr hts hown hlocks hml hA hF hxt Z ls hl
  have hE := hF.1
  replace hown : s.vm.findClass RL = some m.cls := hown
  replace hl : lv_has ls 3 [(0, .ref (h 0)), (1, .int p1)] := hl
  obtain ⟨H, hH⟩ : ∃ H, H = s.heap := ⟨_, rfl⟩
  rw [← hH] at Z ⊢
  clear hH
  obtain ⟨locs, hlc⟩ : ∃ q : List Loc, q = [] := ⟨_, rfl⟩
  rw [← hlc] at Z ⊢
  clear hlc
  refine lv_aload_n (pc := 0) hx hb dL_through_0 rfl (lv_at hl 0 rfl) ?_
  refine lv_iload_n (pc := 1) hx hb dL_through_1 rfl (lv_at hl 1 rfl) ?_
  refine z_callVi (pc := 2) (As := [.int p1]) (rest := []) (Wc := (W_X5_through cA h b_height b_count b_room b_account b_lines b_printed x_latestErrorOffset)) (W1 := (W_X5_through cA h b_height b_count b_room b_account b_lines b_printed x_latestErrorOffset)) (W2 := (W_X5_through cA h b_height b_count b_room b_account b_lines b_printed x_latestErrorOffset)) ⟨hx, hb, hml, hown, hts⟩ (kX5_through l D cA h p1 b_height b_count b_room b_account b_lines b_printed x_latestErrorOffset u hf) (cwV 1 hts zgL_through_X5_through_80 rfl rfl rfl (by decide +kernel) ⟨(Nat.le_of_ble_eq_true rfl), (Nat.le_of_ble_eq_true rfl)⟩) Z hA [0, 1, 2, 3] rfl (by decide) rfl (ci := 5) rfl rfl rfl rfl hl.1 rfl (Nat.le_of_ble_eq_true rfl) dL_through_2 ⟨Nat.zero_le _, Nat.zero_le _⟩ [some 0, some 1, some 2, some 3] rfl ⟨rfl, rfl, rfl, rfl, rfl⟩ (fun H locs Z => ?_)
  exact z_iretH (pc := 5) (Nat.zero_le _) (Nat.zero_le _) hx hb hr hlocks Z rfl rfl dL_through_5
set_option maxHeartbeats 4000000 in
set_option maxRecDepth 100000 in
theorem tL_through_0 (l : Launch) (D : va_G) (cA : Nat → ClassId) (h : Nat → Nat) (p1 : Int32) (b_height : Int32) (b_count : Int32) (b_room : Int32) (b_account : Int32) (b_lines : Nat → Int32) (b_printed : Nat → Int32) (x_latestErrorOffset : Int32) (hf : fX5_through p1 b_count b_lines b_printed = some (.inl "java/util/NoSuchElementException")) (hfl : l.stackTraces = false) : zH l yL_through zsL_through ({ frames := 7, cells := 1, slots := 6, locals := 113 } : Room) D (zTY cA) [.ref (h 0), .int p1] (W_X5_through cA h b_height b_count b_room b_account b_lines b_printed x_latestErrorOffset) (W_X5_through cA h b_height b_count b_room b_account b_lines b_printed x_latestErrorOffset) (-2000000100 : Int32) := by
  refine z_startH (cc := cL_through) (maxL := 3) (ret := some .int) (by decide) rfl (Nat.le_of_ble_eq_true rfl) ?_
  intro p e s m args below meth c A hx hb hr hts hown hlocks hml hA hF hxt Z ls hl
  have hE := hF.1
  replace hown : s.vm.findClass RL = some m.cls := hown
  replace hl : lv_has ls 3 [(0, .ref (h 0)), (1, .int p1)] := hl
  obtain ⟨H, hH⟩ : ∃ H, H = s.heap := ⟨_, rfl⟩
  rw [← hH] at Z ⊢
  clear hH
  obtain ⟨locs, hlc⟩ : ∃ q : List Loc, q = [] := ⟨_, rfl⟩
  rw [← hlc] at Z ⊢
  clear hlc
  refine lv_aload_n (pc := 0) hx hb dL_through_0 rfl (lv_at hl 0 rfl) ?_
  refine lv_iload_n (pc := 1) hx hb dL_through_1 rfl (lv_at hl 1 rfl) ?_
  refine z_callVic (name := "java/util/NoSuchElementException") (pc := 2) (As := [.int p1]) (rest := []) (Wc := (W_X5_through cA h b_height b_count b_room b_account b_lines b_printed x_latestErrorOffset)) ⟨hx, hb, hml, hown, hts⟩ (tX5_through l D cA h p1 b_height b_count b_room b_account b_lines b_printed x_latestErrorOffset "java/util/NoSuchElementException" hf hfl) (cwV 1 hts zgL_through_X5_through_80 rfl rfl rfl (by decide +kernel) ⟨(Nat.le_of_ble_eq_true rfl), (Nat.le_of_ble_eq_true rfl)⟩) hE Z hA [0, 1, 2, 3] rfl (by decide) (ci := 5) rfl rfl rfl rfl hl.1 rfl (Nat.le_of_ble_eq_true rfl) dL_through_2 ⟨(Nat.le_of_ble_eq_true rfl), (Nat.le_of_ble_eq_true rfl)⟩ [some 0, some 1, some 2, some 3] rfl ⟨rfl, rfl, rfl, rfl, rfl⟩ [] ⟨0, 5, 6, 62⟩ [] hxt (fun z hz => absurd hz List.not_mem_nil) rfl (by decide) hown (hts _ (List.mem_of_getElem? (i := 1) rfl)) (va_Nw.use rfl (hF.2.1 "java/util/NoSuchElementException" (List.mem_of_getElem? (i := 2) rfl))) (fun q9 H locs Z => ?_)
  refine lv_astore_n (pc := 6) (lv' := [(2, .ref q9), (0, .ref (h 0)), (1, .int p1)]) hx hb dL_through_6 rfl hl (by decide) rfl (fun ls hl => ?_)
  refine lv_ldc (v := (-2000000100 : Int32)) (pc := 7) hx hb hown (hts _ (List.mem_of_getElem? (i := 2) rfl)) dL_through_7 ?_
  exact z_iretH (pc := 9) (Nat.le_of_ble_eq_true rfl) (Nat.le_of_ble_eq_true rfl) hx hb hr hlocks Z rfl rfl dL_through_9
def fL_through (p1 : Int32) (b_count : Int32) (b_lines : Nat → Int32) (b_printed : Nat → Int32) : Option (Int32) := o_hlp (fX5_through p1 b_count b_lines b_printed) (fun v => v) [("java/util/NoSuchElementException", ((-2000000100 : Int32)))]
theorem hL_through (l : Launch) (D : va_G) (cA : Nat → ClassId) (h : Nat → Nat) (p1 : Int32) (b_height : Int32) (b_count : Int32) (b_room : Int32) (b_account : Int32) (b_lines : Nat → Int32) (b_printed : Nat → Int32) (x_latestErrorOffset : Int32) (u : Int32) (hf : fL_through p1 b_count b_lines b_printed = some u) (hfl : l.stackTraces = false) : zH l yL_through zsL_through ({ frames := 7, cells := 1, slots := 6, locals := 113 } : Room) D (zTY cA) [.ref (h 0), .int p1] (W_X5_through cA h b_height b_count b_room b_account b_lines b_printed x_latestErrorOffset) (W_X5_through cA h b_height b_count b_room b_account b_lines b_printed x_latestErrorOffset) u := by
  rcases o_hlpE hf with ⟨a, ha, rfl⟩ | ⟨E, hE, hc⟩
  · exact kL_through l D cA h p1 b_height b_count b_room b_account b_lines b_printed x_latestErrorOffset a ha
  · obtain ⟨rfl, rfl⟩ := o_cat1 hc
    exact tL_through_0 l D cA h p1 b_height b_count b_room b_account b_lines b_printed x_latestErrorOffset hE hfl
