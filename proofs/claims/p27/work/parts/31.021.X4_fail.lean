def W_X4_fail (cA : Nat → ClassId) (h : Nat → Nat) (t_size : Int32) (t_errorAt : Int32) (t_length : Int32) (t_at : Int32) (t_error : Int32) (t_costsRead : Int32) (t_slipRead : Int32) : va_W := [(h 0, .inr (4, [.int t_size, .int t_errorAt, .ref (h 1), .int t_length, .int t_at, .int t_error, .int t_costsRead, .int t_slipRead]))]
def fX4_fail (p1 : Int32) (t_errorAt : Int32) (t_at : Int32) (t_error : Int32) : Option (Int32 × Int32) := (if t_error = 0 then some (t_at, p1) else some (t_errorAt, t_error))
theorem iw_X4_fail_X4 : ∀ w ∈ u_ws RX4 TX4 8, w ∈ wsX4_fail := z_inr [4, 5, 6, 7, 8, 9, 10, 11] rfl
set_option maxHeartbeats 4000000 in
set_option maxRecDepth 100000 in
theorem kX4_fail (l : Launch) (D : va_G) (cA : Nat → ClassId) (h : Nat → Nat) (p1 : Int32) (t_size : Int32) (t_errorAt : Int32) (t_length : Int32) (t_at : Int32) (t_error : Int32) (t_costsRead : Int32) (t_slipRead : Int32) (u : Int32 × Int32) (hf : fX4_fail p1 t_errorAt t_at t_error = some u) : zMv l yX4_fail wsX4_fail ({ frames := 0, cells := 0, slots := 0, locals := 0 } : Room) D (zTY cA) [.ref (h 0), .int p1] (W_X4_fail cA h t_size t_errorAt t_length t_at t_error t_costsRead t_slipRead) (W_X4_fail cA h t_size (u.1) t_length t_at (u.2) t_costsRead t_slipRead) := by
  refine z_startv (cc := cX4_fail) (maxL := 2) (ret := none) (by decide) rfl (Nat.le_of_ble_eq_true rfl) ?_
  intro p e s m args below meth c A hx hb hr hts hown hlocks hml hA Z ls hl
  replace hown : s.vm.findClass RX4 = some m.cls := hown
  replace hl : lv_has ls 2 [(0, .ref (h 0)), (1, .int p1)] := hl
  obtain ⟨H, hH⟩ : ∃ H, H = s.heap := ⟨_, rfl⟩
  rw [← hH] at Z ⊢
  clear hH
  obtain ⟨locs, hlc⟩ : ∃ q : List Loc, q = [] := ⟨_, rfl⟩
  rw [← hlc] at Z ⊢
  clear hlc
  refine lv_aload_n (pc := 0) hx hb dX4_fail_0 rfl (lv_at hl 0 rfl) ?_
  refine z_get (pc := 1) (ref := "LotSheet$SetupText") (ci := 4) (C := RX4) (T := TX4) (N := 8) hx hb hts iw_X4_fail_X4 hown Z 0 rfl rfl 5 (by decide) (List.mem_of_getElem? (i := 1) rfl) rfl rfl dX4_fail_1 ?_
  refine lv_if_ne (pc := 4) (tgt := 20) hx hb dX4_fail_4 (by decide) (fun c1 => ?_) (fun c1 => ?_)
  · replace hf := o_neg c1 hf
    cases hf
    exact z_vret (pc := 20) hx hb hr hlocks Z rfl dX4_fail_20
  · replace hf := o_pos c1 hf
    refine lv_aload_n (pc := 7) hx hb dX4_fail_7 rfl (lv_at hl 0 rfl) ?_
    refine lv_iload_n (pc := 8) hx hb dX4_fail_8 rfl (lv_at hl 1 rfl) ?_
    refine z_put (pc := 9) (ref := "LotSheet$SetupText") (ci := 4) (C := RX4) (T := TX4) (N := 8) (W1 := (W_X4_fail cA h t_size t_errorAt t_length t_at p1 t_costsRead t_slipRead)) hx hb hts iw_X4_fail_X4 tyX4 tyX4_ok nmX4 hown Z 0 rfl rfl 5 (by decide) (List.mem_of_getElem? (i := 1) rfl) rfl rfl rfl rfl (Nat.le_of_ble_eq_true rfl) dX4_fail_9 rfl (fun H locs Z => ?_)
    refine lv_aload_n (pc := 12) hx hb dX4_fail_12 rfl (lv_at hl 0 rfl) ?_
    refine lv_aload_n (pc := 13) hx hb dX4_fail_13 rfl (lv_at hl 0 rfl) ?_
    refine z_get (pc := 14) (ref := "LotSheet$SetupText") (ci := 4) (C := RX4) (T := TX4) (N := 8) hx hb hts iw_X4_fail_X4 hown Z 0 rfl rfl 4 (by decide) (List.mem_of_getElem? (i := 2) rfl) rfl rfl dX4_fail_14 ?_
    refine z_put (pc := 17) (ref := "LotSheet$SetupText") (ci := 4) (C := RX4) (T := TX4) (N := 8) (W1 := (W_X4_fail cA h t_size t_at t_length t_at p1 t_costsRead t_slipRead)) hx hb hts iw_X4_fail_X4 tyX4 tyX4_ok nmX4 hown Z 0 rfl rfl 1 (by decide) (List.mem_of_getElem? (i := 3) rfl) rfl rfl rfl rfl (Nat.le_of_ble_eq_true rfl) dX4_fail_17 rfl (fun H locs Z => ?_)
    cases hf
    exact z_vret (pc := 20) hx hb hr hlocks Z rfl dX4_fail_20
