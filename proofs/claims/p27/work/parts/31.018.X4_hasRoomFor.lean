def W_X4_hasRoomFor (cA : Nat → ClassId) (h : Nat → Nat) (t_size : Int32) (t_errorAt : Int32) (t_length : Int32) (t_at : Int32) (t_error : Int32) (t_costsRead : Int32) (t_slipRead : Int32) : va_W := [(h 0, .inr (4, [.int t_size, .int t_errorAt, .ref (h 1), .int t_length, .int t_at, .int t_error, .int t_costsRead, .int t_slipRead]))]
def fX4_hasRoomFor (p1 : Int32) (t_size : Int32) : Option (Int32) := (if (500 : Int32) < (t_size + p1) then some ((0 : Int32)) else some ((1 : Int32)))
theorem iw_X4_hasRoomFor_X4 : ∀ w ∈ u_ws RX4 TX4 8, w ∈ wsX4_hasRoomFor := z_inr [2, 3, 4, 5, 6, 7, 8, 9] rfl
set_option maxHeartbeats 4000000 in
set_option maxRecDepth 100000 in
theorem kX4_hasRoomFor (l : Launch) (D : va_G) (cA : Nat → ClassId) (h : Nat → Nat) (p1 : Int32) (t_size : Int32) (t_errorAt : Int32) (t_length : Int32) (t_at : Int32) (t_error : Int32) (t_costsRead : Int32) (t_slipRead : Int32) (u : Int32) (hf : fX4_hasRoomFor p1 t_size = some u) : zMi l yX4_hasRoomFor wsX4_hasRoomFor ({ frames := 0, cells := 0, slots := 0, locals := 0 } : Room) D (zTY cA) [.ref (h 0), .int p1] (W_X4_hasRoomFor cA h t_size t_errorAt t_length t_at t_error t_costsRead t_slipRead) (W_X4_hasRoomFor cA h t_size t_errorAt t_length t_at t_error t_costsRead t_slipRead) u := by
  refine z_starti (cc := cX4_hasRoomFor) (maxL := 2) (ret := (some .boolean)) (by decide) rfl (Nat.le_of_ble_eq_true rfl) ?_
  intro p e s m args below meth c A hx hb hr hts hown hlocks hml hA Z ls hl
  replace hown : s.vm.findClass RX4 = some m.cls := hown
  replace hl : lv_has ls 2 [(0, .ref (h 0)), (1, .int p1)] := hl
  obtain ⟨H, hH⟩ : ∃ H, H = s.heap := ⟨_, rfl⟩
  rw [← hH] at Z ⊢
  clear hH
  obtain ⟨locs, hlc⟩ : ∃ q : List Loc, q = [] := ⟨_, rfl⟩
  rw [← hlc] at Z ⊢
  clear hlc
  refine lv_aload_n (pc := 0) hx hb dX4_hasRoomFor_0 rfl (lv_at hl 0 rfl) ?_
  refine z_get (pc := 1) (ref := "LotSheet$SetupText") (ci := 4) (C := RX4) (T := TX4) (N := 8) hx hb hts iw_X4_hasRoomFor_X4 hown Z 0 rfl rfl 0 (by decide) (List.mem_of_getElem? (i := 1) rfl) rfl rfl dX4_hasRoomFor_1 ?_
  refine lv_iload_n (pc := 4) hx hb dX4_hasRoomFor_4 rfl (lv_at hl 1 rfl) ?_
  refine lv_iadd (pc := 5) hx hb dX4_hasRoomFor_5 ?_
  refine lv_sipush (pc := 6) (v := (500 : Int32)) hx hb dX4_hasRoomFor_6 (by decide) ?_
  refine lv_icmp_gt (pc := 9) (tgt := 16) hx hb dX4_hasRoomFor_9 (by decide) (fun c1 => ?_) (fun c1 => ?_)
  · replace hf := o_pos c1 hf
    refine lv_iconst (pc := 16) (v := (0 : Int32)) hx hb dX4_hasRoomFor_16 (by decide) ?_
    cases hf
    exact z_zret (pc := 17) hx hb hr hlocks Z rfl rfl (by decide) dX4_hasRoomFor_17
  · replace hf := o_neg c1 hf
    refine lv_iconst (pc := 12) (v := (1 : Int32)) hx hb dX4_hasRoomFor_12 (by decide) ?_
    refine lv_goto (pc := 13) (tgt := 17) hx hb dX4_hasRoomFor_13 (by decide) ?_
    cases hf
    exact z_zret (pc := 17) hx hb hr hlocks Z rfl rfl (by decide) dX4_hasRoomFor_17
