def V_X4 (cA : Nat → ClassId) (h : Nat → Nat) : va_W := [(h 0, .inr (4, [.int 0, .int (-1), .ref (h 1), .int 0, .int 0, .int 0, .int 0, .int 0])), (h 1, .inl (cA 2, 500, .inl (fun _ => 0)))]
theorem iwn_X4_X4 : ∀ w ∈ u_ws RX4 TX4 8, w ∈ wsX4_init := z_inr [7, 8, 9, 10, 11, 12, 13, 14] rfl
set_option maxHeartbeats 4000000 in
set_option maxRecDepth 100000 in
theorem nX4 (l : Launch) (D : va_G) (cA : Nat → ClassId) (b : Nat) : zMn l yX4_init wsX4_init ({ frames := 1, cells := 1, slots := 500, locals := 12 } : Room) D (zTY cA) b (.inr (4, [.int 0, .int 0, .null, .int 0, .int 0, .int 0, .int 0, .int 0])) (fun h => V_X4 cA h) := by
  refine z_startn (cc := cX4_init) (maxL := 1) (ret := none) (by decide) rfl rfl (Nat.le_of_ble_eq_true rfl) ?_
  intro p e s m args below meth c A hx hb hr hts hown hlocks hml hA hin hXA Z ls hl
  replace hown : s.vm.findClass RX4 = some m.cls := hown
  obtain ⟨H, hH⟩ : ∃ H, H = s.heap := ⟨_, rfl⟩
  rw [← hH] at Z ⊢
  clear hH
  obtain ⟨locs, hlc⟩ : ∃ q : List Loc, q = [] := ⟨_, rfl⟩
  rw [← hlc] at Z ⊢
  clear hlc
  refine lv_aload_n (pc := 0) hx hb dX4_init_0 rfl (lv_at hl 0 rfl) ?_
  refine z_obj (pc := 1) hx hb hown hts (List.mem_of_getElem? (i := 1) rfl) (List.mem_of_getElem? (i := 2) rfl) (List.mem_of_getElem? (i := 3) rfl) (hml.trans hl.1.symm) dX4_init_1 (Nat.le_of_ble_eq_true rfl) (Nat.le_of_ble_eq_true rfl) ?_
  refine lv_aload_n (pc := 4) hx hb dX4_init_4 rfl (lv_at hl 0 rfl) ?_
  refine lv_iconst (v := (-1 : Int32)) (pc := 5) hx hb dX4_init_5 (by decide) ?_
  refine z_put (ref := "LotSheet$SetupText") (ci := 4) (C := RX4) (T := TX4) (N := 8) (W1 := [(b, .inr (4, [.int 0, .int (-1 : Int32), .null, .int 0, .int 0, .int 0, .int 0, .int 0]))]) (pc := 6) hx hb hts iwn_X4_X4 tyX4 tyX4_ok nmX4 hown Z 0 rfl rfl 1 (by decide) (List.mem_of_getElem? (i := 4) rfl) rfl rfl rfl rfl (Nat.le_of_ble_eq_true rfl) dX4_init_6 rfl (fun H locs Z => ?_)
  refine lv_aload_n (pc := 9) hx hb dX4_init_9 rfl (lv_at hl 0 rfl) ?_
  refine lv_sipush (v := (500 : Int32)) (pc := 10) hx hb dX4_init_10 (by decide) ?_
  refine z_newa (atype := .byte) (ty := .byte) (a0 := (500, .inl (fun _ => 0))) 2 (pc := 13) hx hb hts (List.mem_of_getElem? (i := 5) rfl) rfl (fun _ => rfl) rfl Z hA (fun _ => rfl) (by decide +kernel) (by decide +kernel) (Nat.le_of_ble_eq_true rfl) (Nat.le_of_ble_eq_true rfl) (Nat.le_of_ble_eq_true rfl) dX4_init_13 (fun q1 H Z => ?_)
  replace Z : zw D (zTY cA) s A [(b, .inr (4, [.int 0, .int (-1 : Int32), .null, .int 0, .int 0, .int 0, .int 0, .int 0])), (q1, .inl (cA 2, 500, .inl (fun _ => 0)))] H locs := Z
  refine z_putF (ref := "LotSheet$SetupText") (ci := 4) (C := RX4) (T := TX4) (N := 8) (W1 := [(b, .inr (4, [.int 0, .int (-1 : Int32), .ref q1, .int 0, .int 0, .int 0, .int 0, .int 0])), (q1, .inl (cA 2, 500, .inl (fun _ => 0)))]) (pc := 15) hx hb hts iwn_X4_X4 tyX4 tyX4_ok nmX4 hown Z 0 rfl rfl 2 (by decide) (List.mem_of_getElem? (i := 6) rfl) rfl rfl hin rfl rfl rfl (Nat.le_of_ble_eq_true rfl) dX4_init_15 rfl (fun H locs Z => ?_)
  exact z_nret (pc := 18) hx hb hr hlocks Z (fun k => [b, q1].getD k 0) rfl [0, 1] rfl (by decide) dX4_init_18
