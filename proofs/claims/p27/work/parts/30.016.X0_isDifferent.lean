def W_X0_isDifferent (cA : Nat → ClassId) (h : Nat → Nat) (b_height : Int32) (b_count : Int32) (b_room : Int32) (b_account : Int32) (b_printed : Nat → Int32) (b_wanted : Nat → Int32) : va_W := [(h 0, .inr (0, [.int b_height, .int b_count, .int b_room, .int b_account, .ref (h 1), .ref (h 2), .ref (h 3), .ref (h 4), .ref (h 5), .ref (h 6), .ref (h 7)])), (h 5, .inl (cA 1, 24, .inl b_printed)), (h 6, .inl (cA 1, 24, .inl b_wanted))]
def fX0_isDifferent (p1 : Int32) (b_printed : Nat → Int32) (b_wanted : Nat → Int32) : Option (Int32) := o_rd 24 p1 (o_rd 24 p1 ((if (b_printed p1.toNatClampNeg) = (b_wanted p1.toNatClampNeg) then some ((0 : Int32)) else some ((1 : Int32)))))
theorem iw_X0_isDifferent_X0 : ∀ w ∈ u_ws RX0 TX0 11, w ∈ wsX0_isDifferent := z_inr [3, 4, 5, 6, 7, 8, 9, 10, 11, 12, 13] rfl
set_option maxHeartbeats 4000000 in
set_option maxRecDepth 100000 in
theorem kX0_isDifferent (l : Launch) (D : va_G) (cA : Nat → ClassId) (h : Nat → Nat) (p1 : Int32) (b_height : Int32) (b_count : Int32) (b_room : Int32) (b_account : Int32) (b_printed : Nat → Int32) (b_wanted : Nat → Int32) (u : Int32) (hf : fX0_isDifferent p1 b_printed b_wanted = some u) : zMi l yX0_isDifferent wsX0_isDifferent ({ frames := 0, cells := 0, slots := 0, locals := 0 } : Room) D (zTY cA) [.ref (h 0), .int p1] (W_X0_isDifferent cA h b_height b_count b_room b_account b_printed b_wanted) (W_X0_isDifferent cA h b_height b_count b_room b_account b_printed b_wanted) u := by
  refine z_starti (cc := cX0_isDifferent) (maxL := 2) (ret := (some .boolean)) (by decide) rfl (Nat.le_of_ble_eq_true rfl) ?_
  intro p e s m args below meth c A hx hb hr hts hown hlocks hml hA Z ls hl
  replace hown : s.vm.findClass RX0 = some m.cls := hown
  replace hl : lv_has ls 2 [(0, .ref (h 0)), (1, .int p1)] := hl
  obtain ⟨H, hH⟩ : ∃ H, H = s.heap := ⟨_, rfl⟩
  rw [← hH] at Z ⊢
  clear hH
  obtain ⟨locs, hlc⟩ : ∃ q : List Loc, q = [] := ⟨_, rfl⟩
  rw [← hlc] at Z ⊢
  clear hlc
  refine lv_aload_n (pc := 0) hx hb dX0_isDifferent_0 rfl (lv_at hl 0 rfl) ?_
  refine z_get (pc := 1) (ref := "LotSheet$Bill") (ci := 0) (C := RX0) (T := TX0) (N := 11) hx hb hts iw_X0_isDifferent_X0 hown Z 0 rfl rfl 8 (by decide) (List.mem_of_getElem? (i := 1) rfl) rfl rfl dX0_isDifferent_1 ?_
  refine lv_iload_n (pc := 4) hx hb dX0_isDifferent_4 rfl (lv_at hl 1 rfl) ?_
  obtain ⟨i1, hf⟩ := o_rdE hf
  refine z_zald (pc := 5) hx hb Z 1 1 rfl rfl i1 dX0_isDifferent_5 ?_
  refine lv_aload_n (pc := 6) hx hb dX0_isDifferent_6 rfl (lv_at hl 0 rfl) ?_
  refine z_get (pc := 7) (ref := "LotSheet$Bill") (ci := 0) (C := RX0) (T := TX0) (N := 11) hx hb hts iw_X0_isDifferent_X0 hown Z 0 rfl rfl 9 (by decide) (List.mem_of_getElem? (i := 2) rfl) rfl rfl dX0_isDifferent_7 ?_
  refine lv_iload_n (pc := 10) hx hb dX0_isDifferent_10 rfl (lv_at hl 1 rfl) ?_
  obtain ⟨i2, hf⟩ := o_rdE hf
  refine z_zald (pc := 11) hx hb Z 2 1 rfl rfl i2 dX0_isDifferent_11 ?_
  refine lv_icmp_eq (pc := 12) (tgt := 19) hx hb dX0_isDifferent_12 (by decide) (fun c3 => ?_) (fun c3 => ?_)
  · replace hf := o_pos c3 hf
    refine lv_iconst (pc := 19) (v := (0 : Int32)) hx hb dX0_isDifferent_19 (by decide) ?_
    cases hf
    exact z_zret (pc := 20) hx hb hr hlocks Z rfl rfl (by decide) dX0_isDifferent_20
  · replace hf := o_neg c3 hf
    refine lv_iconst (pc := 15) (v := (1 : Int32)) hx hb dX0_isDifferent_15 (by decide) ?_
    refine lv_goto (pc := 16) (tgt := 20) hx hb dX0_isDifferent_16 (by decide) ?_
    cases hf
    exact z_zret (pc := 20) hx hb hr hlocks Z rfl rfl (by decide) dX0_isDifferent_20
