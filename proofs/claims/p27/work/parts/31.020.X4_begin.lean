def W_X4_begin (cA : Nat → ClassId) (h : Nat → Nat) (t_size : Int32) (t_errorAt : Int32) (t_length : Int32) (t_at : Int32) (t_error : Int32) (t_costsRead : Int32) (t_slipRead : Int32) : va_W := [(h 0, .inr (4, [.int t_size, .int t_errorAt, .ref (h 1), .int t_length, .int t_at, .int t_error, .int t_costsRead, .int t_slipRead]))]
def fX4_begin (p1 : Int32) (t_size : Int32) (t_errorAt : Int32) (t_length : Int32) (t_at : Int32) (t_error : Int32) (t_costsRead : Int32) (t_slipRead : Int32) : Option (Int32 × Int32 × Int32 × Int32 × Int32 × Int32) := o_let (if t_size < p1 then t_size else p1) (fun x1 => some ((-1 : Int32), x1, (0 : Int32), (0 : Int32), (0 : Int32), (0 : Int32)))
theorem iw_X4_begin_X4 : ∀ w ∈ u_ws RX4 TX4 8, w ∈ wsX4_begin := z_inr [12, 13, 14, 15, 16, 17, 18, 19] rfl
set_option maxHeartbeats 4000000 in
set_option maxRecDepth 100000 in
theorem kX4_begin (l : Launch) (D : va_G) (cA : Nat → ClassId) (h : Nat → Nat) (p1 : Int32) (t_size : Int32) (t_errorAt : Int32) (t_length : Int32) (t_at : Int32) (t_error : Int32) (t_costsRead : Int32) (t_slipRead : Int32) (u : Int32 × Int32 × Int32 × Int32 × Int32 × Int32) (hf : fX4_begin p1 t_size t_errorAt t_length t_at t_error t_costsRead t_slipRead = some u) : zMv l yX4_begin wsX4_begin ({ frames := 1, cells := 0, slots := 0, locals := 21 } : Room) D (zTY cA) [.ref (h 0), .int p1] (W_X4_begin cA h t_size t_errorAt t_length t_at t_error t_costsRead t_slipRead) (W_X4_begin cA h t_size (u.1) (u.2.1) (u.2.2.1) (u.2.2.2.1) (u.2.2.2.2.1) (u.2.2.2.2.2)) := by
  refine z_startv (cc := cX4_begin) (maxL := 2) (ret := none) (by decide) rfl (Nat.le_of_ble_eq_true rfl) ?_
  intro p e s m args below meth c A hx hb hr hts hown hlocks hml hA Z ls hl
  replace hown : s.vm.findClass RX4 = some m.cls := hown
  replace hl : lv_has ls 2 [(0, .ref (h 0)), (1, .int p1)] := hl
  obtain ⟨H, hH⟩ : ∃ H, H = s.heap := ⟨_, rfl⟩
  rw [← hH] at Z ⊢
  clear hH
  obtain ⟨locs, hlc⟩ : ∃ q : List Loc, q = [] := ⟨_, rfl⟩
  rw [← hlc] at Z ⊢
  clear hlc
  refine lv_aload_n (pc := 0) hx hb dX4_begin_0 rfl (lv_at hl 0 rfl) ?_
  refine lv_iload_n (pc := 1) hx hb dX4_begin_1 rfl (lv_at hl 1 rfl) ?_
  refine lv_aload_n (pc := 2) hx hb dX4_begin_2 rfl (lv_at hl 0 rfl) ?_
  refine z_get (pc := 3) (ref := "LotSheet$SetupText") (ci := 4) (C := RX4) (T := TX4) (N := 8) hx hb hts iw_X4_begin_X4 hown Z 0 rfl rfl 0 (by decide) (List.mem_of_getElem? (i := 1) rfl) rfl rfl dX4_begin_3 ?_
  refine va_mmin (pc := 6) hx hb (hml.trans hl.1.symm) hown (hts _ (List.mem_of_getElem? (i := 2) rfl)) (hts _ (List.mem_of_getElem? (i := 3) rfl)) (hts _ (List.mem_of_getElem? (i := 4) rfl)) (hts _ (List.mem_of_getElem? (i := 5) rfl)) (Nat.le_of_ble_eq_true rfl) (Nat.le_of_ble_eq_true rfl) (Nat.zero_le _) (Nat.zero_le _) dX4_begin_6 ?_
  refine lv_topi (fun x1 ex1 => ?_)
  replace hf := o_letE ex1 hf
  refine z_put (pc := 9) (ref := "LotSheet$SetupText") (ci := 4) (C := RX4) (T := TX4) (N := 8) (W1 := (W_X4_begin cA h t_size t_errorAt x1 t_at t_error t_costsRead t_slipRead)) hx hb hts iw_X4_begin_X4 tyX4 tyX4_ok nmX4 hown Z 0 rfl rfl 3 (by decide) (List.mem_of_getElem? (i := 6) rfl) rfl rfl rfl rfl (Nat.le_of_ble_eq_true rfl) dX4_begin_9 rfl (fun H locs Z => ?_)
  refine lv_aload_n (pc := 12) hx hb dX4_begin_12 rfl (lv_at hl 0 rfl) ?_
  refine lv_iconst (pc := 13) (v := (0 : Int32)) hx hb dX4_begin_13 (by decide) ?_
  refine z_put (pc := 14) (ref := "LotSheet$SetupText") (ci := 4) (C := RX4) (T := TX4) (N := 8) (W1 := (W_X4_begin cA h t_size t_errorAt x1 (0 : Int32) t_error t_costsRead t_slipRead)) hx hb hts iw_X4_begin_X4 tyX4 tyX4_ok nmX4 hown Z 0 rfl rfl 4 (by decide) (List.mem_of_getElem? (i := 7) rfl) rfl rfl rfl rfl (Nat.le_of_ble_eq_true rfl) dX4_begin_14 rfl (fun H locs Z => ?_)
  refine lv_aload_n (pc := 17) hx hb dX4_begin_17 rfl (lv_at hl 0 rfl) ?_
  refine lv_iconst (pc := 18) (v := (0 : Int32)) hx hb dX4_begin_18 (by decide) ?_
  refine z_put (pc := 19) (ref := "LotSheet$SetupText") (ci := 4) (C := RX4) (T := TX4) (N := 8) (W1 := (W_X4_begin cA h t_size t_errorAt x1 (0 : Int32) (0 : Int32) t_costsRead t_slipRead)) hx hb hts iw_X4_begin_X4 tyX4 tyX4_ok nmX4 hown Z 0 rfl rfl 5 (by decide) (List.mem_of_getElem? (i := 8) rfl) rfl rfl rfl rfl (Nat.le_of_ble_eq_true rfl) dX4_begin_19 rfl (fun H locs Z => ?_)
  refine lv_aload_n (pc := 22) hx hb dX4_begin_22 rfl (lv_at hl 0 rfl) ?_
  refine lv_iconst (pc := 23) (v := (-1 : Int32)) hx hb dX4_begin_23 (by decide) ?_
  refine z_put (pc := 24) (ref := "LotSheet$SetupText") (ci := 4) (C := RX4) (T := TX4) (N := 8) (W1 := (W_X4_begin cA h t_size (-1 : Int32) x1 (0 : Int32) (0 : Int32) t_costsRead t_slipRead)) hx hb hts iw_X4_begin_X4 tyX4 tyX4_ok nmX4 hown Z 0 rfl rfl 1 (by decide) (List.mem_of_getElem? (i := 9) rfl) rfl rfl rfl rfl (Nat.le_of_ble_eq_true rfl) dX4_begin_24 rfl (fun H locs Z => ?_)
  refine lv_aload_n (pc := 27) hx hb dX4_begin_27 rfl (lv_at hl 0 rfl) ?_
  refine lv_iconst (pc := 28) (v := (0 : Int32)) hx hb dX4_begin_28 (by decide) ?_
  refine z_put (pc := 29) (ref := "LotSheet$SetupText") (ci := 4) (C := RX4) (T := TX4) (N := 8) (W1 := (W_X4_begin cA h t_size (-1 : Int32) x1 (0 : Int32) (0 : Int32) (0 : Int32) t_slipRead)) hx hb hts iw_X4_begin_X4 tyX4 tyX4_ok nmX4 hown Z 0 rfl rfl 6 (by decide) (List.mem_of_getElem? (i := 10) rfl) rfl rfl rfl rfl (Nat.le_of_ble_eq_true rfl) dX4_begin_29 rfl (fun H locs Z => ?_)
  refine lv_aload_n (pc := 32) hx hb dX4_begin_32 rfl (lv_at hl 0 rfl) ?_
  refine lv_iconst (pc := 33) (v := (0 : Int32)) hx hb dX4_begin_33 (by decide) ?_
  refine z_put (pc := 34) (ref := "LotSheet$SetupText") (ci := 4) (C := RX4) (T := TX4) (N := 8) (W1 := (W_X4_begin cA h t_size (-1 : Int32) x1 (0 : Int32) (0 : Int32) (0 : Int32) (0 : Int32))) hx hb hts iw_X4_begin_X4 tyX4 tyX4_ok nmX4 hown Z 0 rfl rfl 7 (by decide) (List.mem_of_getElem? (i := 11) rfl) rfl rfl rfl rfl (Nat.le_of_ble_eq_true rfl) dX4_begin_34 rfl (fun H locs Z => ?_)
  cases hf
  exact z_vret (pc := 37) hx hb hr hlocks Z rfl dX4_begin_37
