def W_X5_needLot (cA : Nat → ClassId) (h : Nat → Nat) (b_height : Int32) (b_count : Int32) (b_room : Int32) (b_account : Int32) (x_latestErrorOffset : Int32) : va_W := [(h 0, .inr (5, [.ref (h 1), .ref (h 3), .ref (h 11), .ref (h 19), .ref (h 85), .ref (h 92), .int x_latestErrorOffset])), (h 3, .inr (0, [.int b_height, .int b_count, .int b_room, .int b_account, .ref (h 4), .ref (h 5), .ref (h 6), .ref (h 7), .ref (h 8), .ref (h 9), .ref (h 10)]))]
def fX5_needLot (p1 : Int32) (b_count : Int32) : Option (String ⊕ (Unit)) := (if p1 < 0 then some (.inl "java/lang/IndexOutOfBoundsException") else (if p1 < b_count then some (.inr ()) else some (.inl "java/lang/IndexOutOfBoundsException")))
theorem iw_X5_needLot_X5 : ∀ w ∈ u_ws RX5 TX5 7, w ∈ zsX5_needLot := z_inr [5, 6, 7, 8, 9, 10, 11] rfl
theorem iw_X5_needLot_X0 : ∀ w ∈ u_ws RX0 TX0 11, w ∈ zsX5_needLot := z_inr [12, 13, 14, 15, 16, 17, 18, 19, 20, 21, 22] rfl
set_option maxHeartbeats 4000000 in
set_option maxRecDepth 100000 in
theorem kX5_needLot (l : Launch) (D : va_G) (cA : Nat → ClassId) (h : Nat → Nat) (p1 : Int32) (b_height : Int32) (b_count : Int32) (b_room : Int32) (b_account : Int32) (x_latestErrorOffset : Int32) (u : Unit) (hf : fX5_needLot p1 b_count = some (.inr u)) : zMv l yX5_needLot zsX5_needLot ({ frames := 6, cells := 0, slots := 0, locals := 90 } : Room) D (zTY cA) [.ref (h 0), .int p1] (W_X5_needLot cA h b_height b_count b_room b_account x_latestErrorOffset) (W_X5_needLot cA h b_height b_count b_room b_account x_latestErrorOffset) := by
  refine z_startv (cc := cX5_needLot) (maxL := 2) (ret := none) (by decide) rfl (Nat.le_of_ble_eq_true rfl) ?_
  intro p e s m args below meth c A hx hb hr hts hown hlocks hml hA Z ls hl
  replace hown : s.vm.findClass RX5 = some m.cls := hown
  replace hl : lv_has ls 2 [(0, .ref (h 0)), (1, .int p1)] := hl
  obtain ⟨H, hH⟩ : ∃ H, H = s.heap := ⟨_, rfl⟩
  rw [← hH] at Z ⊢
  clear hH
  obtain ⟨locs, hlc⟩ : ∃ q : List Loc, q = [] := ⟨_, rfl⟩
  rw [← hlc] at Z ⊢
  clear hlc
  refine lv_iload_n (pc := 0) hx hb dX5_needLot_0 rfl (lv_at hl 1 rfl) ?_
  refine lv_if_lt (pc := 1) (tgt := 15) hx hb dX5_needLot_1 (by decide) (fun c1 => ?_) (fun c1 => ?_)
  · replace hf := o_pos c1 hf
    cases hf
  · replace hf := o_neg c1 hf
    refine lv_iload_n (pc := 4) hx hb dX5_needLot_4 rfl (lv_at hl 1 rfl) ?_
    refine lv_aload_n (pc := 5) hx hb dX5_needLot_5 rfl (lv_at hl 0 rfl) ?_
    refine z_get (pc := 6) (ref := "LotSheet") (ci := 5) (C := RX5) (T := TX5) (N := 7) hx hb hts iw_X5_needLot_X5 hown Z 0 rfl rfl 1 (by decide) (List.mem_of_getElem? (i := 3) rfl) rfl rfl dX5_needLot_6 ?_
    refine z_get (pc := 9) (ref := "LotSheet$Bill") (ci := 0) (C := RX0) (T := TX0) (N := 11) hx hb hts iw_X5_needLot_X0 hown Z 1 rfl rfl 1 (by decide) (List.mem_of_getElem? (i := 4) rfl) rfl rfl dX5_needLot_9 ?_
    refine lv_icmp_lt (pc := 12) (tgt := 26) hx hb dX5_needLot_12 (by decide) (fun c2 => ?_) (fun c2 => ?_)
    · replace hf := o_pos c2 hf
      cases hf
      exact z_vret (pc := 26) hx hb hr hlocks Z rfl dX5_needLot_26
    · replace hf := o_neg c2 hf
      cases hf
set_option maxHeartbeats 4000000 in
set_option maxRecDepth 100000 in
theorem tX5_needLot (l : Launch) (D : va_G) (cA : Nat → ClassId) (h : Nat → Nat) (p1 : Int32) (b_height : Int32) (b_count : Int32) (b_room : Int32) (b_account : Int32) (x_latestErrorOffset : Int32) (E : String) (hf : fX5_needLot p1 b_count = some (.inl E)) (hfl : l.stackTraces = false) : zMvT l yX5_needLot zsX5_needLot ({ frames := 6, cells := 1, slots := 6, locals := 90 } : Room) D (zTY cA) [.ref (h 0), .int p1] (W_X5_needLot cA h b_height b_count b_room b_account x_latestErrorOffset) E := by
  refine z_startvT (cc := cX5_needLot) (maxL := 2) (ret := none) (by decide) rfl (Nat.le_of_ble_eq_true rfl) ?_
  intro p e s m args below meth c A hx hb hr hts hown hlocks hml hA hE hxt Z ls hl
  replace hown : s.vm.findClass RX5 = some m.cls := hown
  replace hl : lv_has ls 2 [(0, .ref (h 0)), (1, .int p1)] := hl
  obtain ⟨H, hH⟩ : ∃ H, H = s.heap := ⟨_, rfl⟩
  rw [← hH] at Z ⊢
  clear hH
  obtain ⟨locs, hlc⟩ : ∃ q : List Loc, q = [] := ⟨_, rfl⟩
  rw [← hlc] at Z ⊢
  clear hlc
  refine lv_iload_n (pc := 0) hx hb dX5_needLot_0 rfl (lv_at hl 1 rfl) ?_
  refine lv_if_lt (pc := 1) (tgt := 15) hx hb dX5_needLot_1 (by decide) (fun c1 => ?_) (fun c1 => ?_)
  · replace hf := o_pos c1 hf
    cases hf
    exact z_throwEW (pc := 15) hx hb hfl hown hts (by decide +kernel) (List.mem_of_getElem? (i := 1) rfl) (List.mem_of_getElem? (i := 2) rfl) z_inX (List.mem_of_getElem? (i := 18) rfl) hE Z (hl.1.trans hml.symm) dX5_needLot_15 dX5_needLot_18 dX5_needLot_19 dX5_needLot_22 dX5_needLot_25 hxt (Nat.le_of_ble_eq_true rfl) (Nat.le_of_ble_eq_true rfl) (Nat.le_of_ble_eq_true rfl) (Nat.le_of_ble_eq_true rfl) hlocks
  · replace hf := o_neg c1 hf
    refine lv_iload_n (pc := 4) hx hb dX5_needLot_4 rfl (lv_at hl 1 rfl) ?_
    refine lv_aload_n (pc := 5) hx hb dX5_needLot_5 rfl (lv_at hl 0 rfl) ?_
    refine z_get (pc := 6) (ref := "LotSheet") (ci := 5) (C := RX5) (T := TX5) (N := 7) hx hb hts iw_X5_needLot_X5 hown Z 0 rfl rfl 1 (by decide) (List.mem_of_getElem? (i := 3) rfl) rfl rfl dX5_needLot_6 ?_
    refine z_get (pc := 9) (ref := "LotSheet$Bill") (ci := 0) (C := RX0) (T := TX0) (N := 11) hx hb hts iw_X5_needLot_X0 hown Z 1 rfl rfl 1 (by decide) (List.mem_of_getElem? (i := 4) rfl) rfl rfl dX5_needLot_9 ?_
    refine lv_icmp_lt (pc := 12) (tgt := 26) hx hb dX5_needLot_12 (by decide) (fun c2 => ?_) (fun c2 => ?_)
    · replace hf := o_pos c2 hf
      cases hf
    · replace hf := o_neg c2 hf
      cases hf
      exact z_throwEW (pc := 15) hx hb hfl hown hts (by decide +kernel) (List.mem_of_getElem? (i := 1) rfl) (List.mem_of_getElem? (i := 2) rfl) z_inX (List.mem_of_getElem? (i := 18) rfl) hE Z (hl.1.trans hml.symm) dX5_needLot_15 dX5_needLot_18 dX5_needLot_19 dX5_needLot_22 dX5_needLot_25 hxt (Nat.le_of_ble_eq_true rfl) (Nat.le_of_ble_eq_true rfl) (Nat.le_of_ble_eq_true rfl) (Nat.le_of_ble_eq_true rfl) hlocks
