def W_X0_mostLines (cA : Nat → ClassId) (h : Nat → Nat) (b_height : Int32) (b_count : Int32) (b_room : Int32) (b_account : Int32) : va_W := [(h 0, .inr (0, [.int b_height, .int b_count, .int b_room, .int b_account, .ref (h 1), .ref (h 2), .ref (h 3), .ref (h 4), .ref (h 5), .ref (h 6), .ref (h 7)]))]
def fX0_mostLines (b_height : Int32) : Option (Int32) := some ((if b_height < (9 : Int32) then b_height else (9 : Int32)))
theorem iw_X0_mostLines_X0 : ∀ w ∈ u_ws RX0 TX0 11, w ∈ wsX0_mostLines := z_inr [6, 7, 8, 9, 10, 11, 12, 13, 14, 15, 16] rfl
set_option maxHeartbeats 4000000 in
set_option maxRecDepth 100000 in
theorem kX0_mostLines (l : Launch) (D : va_G) (cA : Nat → ClassId) (h : Nat → Nat) (b_height : Int32) (b_count : Int32) (b_room : Int32) (b_account : Int32) (u : Int32) (hf : fX0_mostLines b_height = some u) : zMi l yX0_mostLines wsX0_mostLines ({ frames := 1, cells := 0, slots := 0, locals := 21 } : Room) D (zTY cA) [.ref (h 0)] (W_X0_mostLines cA h b_height b_count b_room b_account) (W_X0_mostLines cA h b_height b_count b_room b_account) u := by
  refine z_starti (cc := cX0_mostLines) (maxL := 1) (ret := (some .int)) (by decide) rfl (Nat.le_of_ble_eq_true rfl) ?_
  intro p e s m args below meth c A hx hb hr hts hown hlocks hml hA Z ls hl
  replace hown : s.vm.findClass RX0 = some m.cls := hown
  replace hl : lv_has ls 1 [(0, .ref (h 0))] := hl
  obtain ⟨H, hH⟩ : ∃ H, H = s.heap := ⟨_, rfl⟩
  rw [← hH] at Z ⊢
  clear hH
  obtain ⟨locs, hlc⟩ : ∃ q : List Loc, q = [] := ⟨_, rfl⟩
  rw [← hlc] at Z ⊢
  clear hlc
  refine lv_bipush (pc := 0) (v := (9 : Int32)) hx hb dX0_mostLines_0 (by decide) ?_
  refine lv_aload_n (pc := 2) hx hb dX0_mostLines_2 rfl (lv_at hl 0 rfl) ?_
  refine z_get (pc := 3) (ref := "LotSheet$Bill") (ci := 0) (C := RX0) (T := TX0) (N := 11) hx hb hts iw_X0_mostLines_X0 hown Z 0 rfl rfl 0 (by decide) (List.mem_of_getElem? (i := 1) rfl) rfl rfl dX0_mostLines_3 ?_
  refine va_mmin (pc := 6) hx hb (hml.trans hl.1.symm) hown (hts _ (List.mem_of_getElem? (i := 2) rfl)) (hts _ (List.mem_of_getElem? (i := 3) rfl)) (hts _ (List.mem_of_getElem? (i := 4) rfl)) (hts _ (List.mem_of_getElem? (i := 5) rfl)) (Nat.le_of_ble_eq_true rfl) (Nat.le_of_ble_eq_true rfl) (Nat.zero_le _) (Nat.zero_le _) dX0_mostLines_6 ?_
  cases hf
  exact z_iret (pc := 9) hx hb hr hlocks Z rfl rfl dX0_mostLines_9
