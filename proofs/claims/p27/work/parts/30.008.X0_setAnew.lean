def W_X0_setAnew (cA : Nat → ClassId) (h : Nat → Nat) (b_height : Int32) (b_count : Int32) (b_room : Int32) (b_account : Int32) (b_printed : Nat → Int32) (b_wanted : Nat → Int32) (b_slipped : Nat → Int32) : va_W := [(h 0, .inr (0, [.int b_height, .int b_count, .int b_room, .int b_account, .ref (h 1), .ref (h 2), .ref (h 3), .ref (h 4), .ref (h 5), .ref (h 6), .ref (h 7)])), (h 5, .inl (cA 1, 24, .inl b_printed)), (h 6, .inl (cA 1, 24, .inl b_wanted)), (h 7, .inl (cA 1, 24, .inl b_slipped))]
def fX0_setAnew (p1 : Int32) (b_printed : Nat → Int32) (b_wanted : Nat → Int32) (b_slipped : Nat → Int32) : Option ((Nat → Int32) × (Nat → Int32)) := o_rd 24 p1 (o_rd 24 p1 (o_let (upd b_printed p1.toNatClampNeg (vp_nar .boolean (b_wanted p1.toNatClampNeg))) (fun a3 => o_rd 24 p1 (o_let (upd b_slipped p1.toNatClampNeg (vp_nar .boolean (0 : Int32))) (fun a5 => some (a3, a5))))))
theorem iw_X0_setAnew_X0 : ∀ w ∈ u_ws RX0 TX0 11, w ∈ wsX0_setAnew := z_inr [4, 5, 6, 7, 8, 9, 10, 11, 12, 13, 14] rfl
set_option maxHeartbeats 4000000 in
set_option maxRecDepth 100000 in
theorem kX0_setAnew (l : Launch) (D : va_G) (cA : Nat → ClassId) (h : Nat → Nat) (p1 : Int32) (b_height : Int32) (b_count : Int32) (b_room : Int32) (b_account : Int32) (b_printed : Nat → Int32) (b_wanted : Nat → Int32) (b_slipped : Nat → Int32) (u : (Nat → Int32) × (Nat → Int32)) (hf : fX0_setAnew p1 b_printed b_wanted b_slipped = some u) : zMv l yX0_setAnew wsX0_setAnew ({ frames := 0, cells := 0, slots := 0, locals := 0 } : Room) D (zTY cA) [.ref (h 0), .int p1] (W_X0_setAnew cA h b_height b_count b_room b_account b_printed b_wanted b_slipped) (W_X0_setAnew cA h b_height b_count b_room b_account (u.1) b_wanted (u.2)) := by
  refine z_startv (cc := cX0_setAnew) (maxL := 2) (ret := none) (by decide) rfl (Nat.le_of_ble_eq_true rfl) ?_
  intro p e s m args below meth c A hx hb hr hts hown hlocks hml hA Z ls hl
  replace hown : s.vm.findClass RX0 = some m.cls := hown
  replace hl : lv_has ls 2 [(0, .ref (h 0)), (1, .int p1)] := hl
  obtain ⟨H, hH⟩ : ∃ H, H = s.heap := ⟨_, rfl⟩
  rw [← hH] at Z ⊢
  clear hH
  obtain ⟨locs, hlc⟩ : ∃ q : List Loc, q = [] := ⟨_, rfl⟩
  rw [← hlc] at Z ⊢
  clear hlc
  refine lv_aload_n (pc := 0) hx hb dX0_setAnew_0 rfl (lv_at hl 0 rfl) ?_
  refine z_get (pc := 1) (ref := "LotSheet$Bill") (ci := 0) (C := RX0) (T := TX0) (N := 11) hx hb hts iw_X0_setAnew_X0 hown Z 0 rfl rfl 8 (by decide) (List.mem_of_getElem? (i := 1) rfl) rfl rfl dX0_setAnew_1 ?_
  refine lv_iload_n (pc := 4) hx hb dX0_setAnew_4 rfl (lv_at hl 1 rfl) ?_
  refine lv_aload_n (pc := 5) hx hb dX0_setAnew_5 rfl (lv_at hl 0 rfl) ?_
  refine z_get (pc := 6) (ref := "LotSheet$Bill") (ci := 0) (C := RX0) (T := TX0) (N := 11) hx hb hts iw_X0_setAnew_X0 hown Z 0 rfl rfl 9 (by decide) (List.mem_of_getElem? (i := 2) rfl) rfl rfl dX0_setAnew_6 ?_
  refine lv_iload_n (pc := 9) hx hb dX0_setAnew_9 rfl (lv_at hl 1 rfl) ?_
  obtain ⟨i1, hf⟩ := o_rdE hf
  refine z_zald (pc := 10) hx hb Z 2 1 rfl rfl i1 dX0_setAnew_10 ?_
  obtain ⟨i2, hf⟩ := o_rdE hf
  refine z_zast (pc := 11) hx hb Z 1 1 rfl rfl i2 dX0_setAnew_11 (fun g => (W_X0_setAnew cA h b_height b_count b_room b_account g b_wanted b_slipped)) (fun _ => rfl) (fun a3 H locs ea3 Z => ?_)
  replace hf := o_letE ea3 hf
  refine lv_aload_n (pc := 12) hx hb dX0_setAnew_12 rfl (lv_at hl 0 rfl) ?_
  refine z_get (pc := 13) (ref := "LotSheet$Bill") (ci := 0) (C := RX0) (T := TX0) (N := 11) hx hb hts iw_X0_setAnew_X0 hown Z 0 rfl rfl 10 (by decide) (List.mem_of_getElem? (i := 3) rfl) rfl rfl dX0_setAnew_13 ?_
  refine lv_iload_n (pc := 16) hx hb dX0_setAnew_16 rfl (lv_at hl 1 rfl) ?_
  refine lv_iconst (pc := 17) (v := (0 : Int32)) hx hb dX0_setAnew_17 (by decide) ?_
  obtain ⟨i4, hf⟩ := o_rdE hf
  refine z_zast (pc := 18) hx hb Z 3 1 rfl rfl i4 dX0_setAnew_18 (fun g => (W_X0_setAnew cA h b_height b_count b_room b_account a3 b_wanted g)) (fun _ => rfl) (fun a5 H locs ea5 Z => ?_)
  replace hf := o_letE ea5 hf
  cases hf
  exact z_vret (pc := 19) hx hb hr hlocks Z rfl dX0_setAnew_19
