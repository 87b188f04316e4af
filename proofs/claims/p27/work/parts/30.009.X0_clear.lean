def W_X0_clear (cA : Nat → ClassId) (h : Nat → Nat) (b_height : Int32) (b_count : Int32) (b_room : Int32) (b_account : Int32) (b_costs : Nat → Int32) : va_W := [(h 0, .inr (0, [.int b_height, .int b_count, .int b_room, .int b_account, .ref (h 1), .ref (h 2), .ref (h 3), .ref (h 4), .ref (h 5), .ref (h 6), .ref (h 7)])), (h 1, .inl (cA 0, 5, .inl b_costs))]
def fX0_clear (b_height : Int32) (b_count : Int32) (b_room : Int32) (b_account : Int32) (b_costs : Nat → Int32) : Option (Int32 × Int32 × Int32 × Int32 × (Nat → Int32)) := o_let (upd b_costs (0 : Int32).toNatClampNeg (1 : Int32)) (fun a1 => o_let (upd a1 (1 : Int32).toNatClampNeg (5 : Int32)) (fun a2 => o_let (upd a2 (2 : Int32).toNatClampNeg (10 : Int32)) (fun a3 => o_let (upd a3 (3 : Int32).toNatClampNeg (8 : Int32)) (fun a4 => o_let (upd a4 (4 : Int32).toNatClampNeg (2 : Int32)) (fun a5 => some ((20 : Int32), (0 : Int32), (3 : Int32), (0 : Int32), a5))))))
theorem iw_X0_clear_X0 : ∀ w ∈ u_ws RX0 TX0 11, w ∈ wsX0_clear := z_inr [6, 7, 8, 9, 10, 11, 12, 13, 14, 15, 16] rfl
set_option maxHeartbeats 4000000 in
set_option maxRecDepth 100000 in
theorem kX0_clear (l : Launch) (D : va_G) (cA : Nat → ClassId) (h : Nat → Nat) (b_height : Int32) (b_count : Int32) (b_room : Int32) (b_account : Int32) (b_costs : Nat → Int32) (u : Int32 × Int32 × Int32 × Int32 × (Nat → Int32)) (hf : fX0_clear b_height b_count b_room b_account b_costs = some u) : zMv l yX0_clear wsX0_clear ({ frames := 0, cells := 0, slots := 0, locals := 0 } : Room) D (zTY cA) [.ref (h 0)] (W_X0_clear cA h b_height b_count b_room b_account b_costs) (W_X0_clear cA h (u.1) (u.2.1) (u.2.2.1) (u.2.2.2.1) (u.2.2.2.2)) := by
  refine z_startv (cc := cX0_clear) (maxL := 1) (ret := none) (by decide) rfl (Nat.le_of_ble_eq_true rfl) ?_
  intro p e s m args below meth c A hx hb hr hts hown hlocks hml hA Z ls hl
  replace hown : s.vm.findClass RX0 = some m.cls := hown
  replace hl : lv_has ls 1 [(0, .ref (h 0))] := hl
  obtain ⟨H, hH⟩ : ∃ H, H = s.heap := ⟨_, rfl⟩
  rw [← hH] at Z ⊢
  clear hH
  obtain ⟨locs, hlc⟩ : ∃ q : List Loc, q = [] := ⟨_, rfl⟩
  rw [← hlc] at Z ⊢
  clear hlc
  refine lv_aload_n (pc := 0) hx hb dX0_clear_0 rfl (lv_at hl 0 rfl) ?_
  refine lv_bipush (pc := 1) (v := (20 : Int32)) hx hb dX0_clear_1 (by decide) ?_
  refine z_put (pc := 3) (ref := "LotSheet$Bill") (ci := 0) (C := RX0) (T := TX0) (N := 11) (W1 := (W_X0_clear cA h (20 : Int32) b_count b_room b_account b_costs)) hx hb hts iw_X0_clear_X0 tyX0 tyX0_ok nmX0 hown Z 0 rfl rfl 0 (by decide) (List.mem_of_getElem? (i := 1) rfl) rfl rfl rfl rfl (Nat.le_of_ble_eq_true rfl) dX0_clear_3 rfl (fun H locs Z => ?_)
  refine lv_aload_n (pc := 6) hx hb dX0_clear_6 rfl (lv_at hl 0 rfl) ?_
  refine lv_iconst (pc := 7) (v := (0 : Int32)) hx hb dX0_clear_7 (by decide) ?_
  refine z_put (pc := 8) (ref := "LotSheet$Bill") (ci := 0) (C := RX0) (T := TX0) (N := 11) (W1 := (W_X0_clear cA h (20 : Int32) (0 : Int32) b_room b_account b_costs)) hx hb hts iw_X0_clear_X0 tyX0 tyX0_ok nmX0 hown Z 0 rfl rfl 1 (by decide) (List.mem_of_getElem? (i := 2) rfl) rfl rfl rfl rfl (Nat.le_of_ble_eq_true rfl) dX0_clear_8 rfl (fun H locs Z => ?_)
  refine lv_aload_n (pc := 11) hx hb dX0_clear_11 rfl (lv_at hl 0 rfl) ?_
  refine lv_iconst (pc := 12) (v := (3 : Int32)) hx hb dX0_clear_12 (by decide) ?_
  refine z_put (pc := 13) (ref := "LotSheet$Bill") (ci := 0) (C := RX0) (T := TX0) (N := 11) (W1 := (W_X0_clear cA h (20 : Int32) (0 : Int32) (3 : Int32) b_account b_costs)) hx hb hts iw_X0_clear_X0 tyX0 tyX0_ok nmX0 hown Z 0 rfl rfl 2 (by decide) (List.mem_of_getElem? (i := 3) rfl) rfl rfl rfl rfl (Nat.le_of_ble_eq_true rfl) dX0_clear_13 rfl (fun H locs Z => ?_)
  refine lv_aload_n (pc := 16) hx hb dX0_clear_16 rfl (lv_at hl 0 rfl) ?_
  refine lv_iconst (pc := 17) (v := (0 : Int32)) hx hb dX0_clear_17 (by decide) ?_
  refine z_put (pc := 18) (ref := "LotSheet$Bill") (ci := 0) (C := RX0) (T := TX0) (N := 11) (W1 := (W_X0_clear cA h (20 : Int32) (0 : Int32) (3 : Int32) (0 : Int32) b_costs)) hx hb hts iw_X0_clear_X0 tyX0 tyX0_ok nmX0 hown Z 0 rfl rfl 3 (by decide) (List.mem_of_getElem? (i := 4) rfl) rfl rfl rfl rfl (Nat.le_of_ble_eq_true rfl) dX0_clear_18 rfl (fun H locs Z => ?_)
  refine lv_aload_n (pc := 21) hx hb dX0_clear_21 rfl (lv_at hl 0 rfl) ?_
  refine z_get (pc := 22) (ref := "LotSheet$Bill") (ci := 0) (C := RX0) (T := TX0) (N := 11) hx hb hts iw_X0_clear_X0 hown Z 0 rfl rfl 4 (by decide) (List.mem_of_getElem? (i := 5) rfl) rfl rfl dX0_clear_22 ?_
  refine lv_iconst (pc := 25) (v := (0 : Int32)) hx hb dX0_clear_25 (by decide) ?_
  refine lv_iconst (pc := 26) (v := (1 : Int32)) hx hb dX0_clear_26 (by decide) ?_
  refine z_iast (pc := 27) hx hb Z 1 0 rfl rfl (show ¬ ((0 : Int32) < 0 ∨ 5 ≤ (0 : Int32).toNatClampNeg) by decide) dX0_clear_27 (fun g => (W_X0_clear cA h (20 : Int32) (0 : Int32) (3 : Int32) (0 : Int32) g)) (fun _ => rfl) (fun a1 H locs ea1 Z => ?_)
  replace hf := o_letE ea1 hf
  refine lv_aload_n (pc := 28) hx hb dX0_clear_28 rfl (lv_at hl 0 rfl) ?_
  refine z_get (pc := 29) (ref := "LotSheet$Bill") (ci := 0) (C := RX0) (T := TX0) (N := 11) hx hb hts iw_X0_clear_X0 hown Z 0 rfl rfl 4 (by decide) (List.mem_of_getElem? (i := 5) rfl) rfl rfl dX0_clear_29 ?_
  refine lv_iconst (pc := 32) (v := (1 : Int32)) hx hb dX0_clear_32 (by decide) ?_
  refine lv_iconst (pc := 33) (v := (5 : Int32)) hx hb dX0_clear_33 (by decide) ?_
  refine z_iast (pc := 34) hx hb Z 1 0 rfl rfl (show ¬ ((1 : Int32) < 0 ∨ 5 ≤ (1 : Int32).toNatClampNeg) by decide) dX0_clear_34 (fun g => (W_X0_clear cA h (20 : Int32) (0 : Int32) (3 : Int32) (0 : Int32) g)) (fun _ => rfl) (fun a2 H locs ea2 Z => ?_)
  replace hf := o_letE ea2 hf
  refine lv_aload_n (pc := 35) hx hb dX0_clear_35 rfl (lv_at hl 0 rfl) ?_
  refine z_get (pc := 36) (ref := "LotSheet$Bill") (ci := 0) (C := RX0) (T := TX0) (N := 11) hx hb hts iw_X0_clear_X0 hown Z 0 rfl rfl 4 (by decide) (List.mem_of_getElem? (i := 5) rfl) rfl rfl dX0_clear_36 ?_
  refine lv_iconst (pc := 39) (v := (2 : Int32)) hx hb dX0_clear_39 (by decide) ?_
  refine lv_bipush (pc := 40) (v := (10 : Int32)) hx hb dX0_clear_40 (by decide) ?_
  refine z_iast (pc := 42) hx hb Z 1 0 rfl rfl (show ¬ ((2 : Int32) < 0 ∨ 5 ≤ (2 : Int32).toNatClampNeg) by decide) dX0_clear_42 (fun g => (W_X0_clear cA h (20 : Int32) (0 : Int32) (3 : Int32) (0 : Int32) g)) (fun _ => rfl) (fun a3 H locs ea3 Z => ?_)
  replace hf := o_letE ea3 hf
  refine lv_aload_n (pc := 43) hx hb dX0_clear_43 rfl (lv_at hl 0 rfl) ?_
  refine z_get (pc := 44) (ref := "LotSheet$Bill") (ci := 0) (C := RX0) (T := TX0) (N := 11) hx hb hts iw_X0_clear_X0 hown Z 0 rfl rfl 4 (by decide) (List.mem_of_getElem? (i := 5) rfl) rfl rfl dX0_clear_44 ?_
  refine lv_iconst (pc := 47) (v := (3 : Int32)) hx hb dX0_clear_47 (by decide) ?_
  refine lv_bipush (pc := 48) (v := (8 : Int32)) hx hb dX0_clear_48 (by decide) ?_
  refine z_iast (pc := 50) hx hb Z 1 0 rfl rfl (show ¬ ((3 : Int32) < 0 ∨ 5 ≤ (3 : Int32).toNatClampNeg) by decide) dX0_clear_50 (fun g => (W_X0_clear cA h (20 : Int32) (0 : Int32) (3 : Int32) (0 : Int32) g)) (fun _ => rfl) (fun a4 H locs ea4 Z => ?_)
  replace hf := o_letE ea4 hf
  refine lv_aload_n (pc := 51) hx hb dX0_clear_51 rfl (lv_at hl 0 rfl) ?_
  refine z_get (pc := 52) (ref := "LotSheet$Bill") (ci := 0) (C := RX0) (T := TX0) (N := 11) hx hb hts iw_X0_clear_X0 hown Z 0 rfl rfl 4 (by decide) (List.mem_of_getElem? (i := 5) rfl) rfl rfl dX0_clear_52 ?_
  refine lv_iconst (pc := 55) (v := (4 : Int32)) hx hb dX0_clear_55 (by decide) ?_
  refine lv_iconst (pc := 56) (v := (2 : Int32)) hx hb dX0_clear_56 (by decide) ?_
  refine z_iast (pc := 57) hx hb Z 1 0 rfl rfl (show ¬ ((4 : Int32) < 0 ∨ 5 ≤ (4 : Int32).toNatClampNeg) by decide) dX0_clear_57 (fun g => (W_X0_clear cA h (20 : Int32) (0 : Int32) (3 : Int32) (0 : Int32) g)) (fun _ => rfl) (fun a5 H locs ea5 Z => ?_)
  replace hf := o_letE ea5 hf
  cases hf
  exact z_vret (pc := 58) hx hb hr hlocks Z rfl dX0_clear_58
