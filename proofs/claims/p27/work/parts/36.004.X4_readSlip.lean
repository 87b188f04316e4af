def W_X4_readSlip (cA : Nat → ClassId) (h : Nat → Nat) (t_size : Int32) (t_errorAt : Int32) (t_bytes : Nat → Int32) (t_length : Int32) (t_at : Int32) (t_error : Int32) (t_costsRead : Int32) (t_slipRead : Int32) (b_height : Int32) (b_count : Int32) (b_room : Int32) (b_account : Int32) : va_W := [(h 0, .inr (4, [.int t_size, .int t_errorAt, .ref (h 1), .int t_length, .int t_at, .int t_error, .int t_costsRead, .int t_slipRead])), (h 1, .inl (cA 2, 500, .inl t_bytes)), (h 2, .inr (0, [.int b_height, .int b_count, .int b_room, .int b_account, .ref (h 3), .ref (h 4), .ref (h 5), .ref (h 6), .ref (h 7), .ref (h 8), .ref (h 9)]))]
def fX4_readSlip (t_errorAt : Int32) (t_bytes : Nat → Int32) (t_length : Int32) (t_at : Int32) (t_error : Int32) (t_slipRead : Int32) (b_room : Int32) : Option (Int32 × Int32 × Int32 × Int32 × Int32) := o_let (t_at + (4 : Int32)) (fun x1 => o_bind (fX4_takeNumber (1 : Int32) (9 : Int32) t_errorAt t_bytes t_length x1 t_error) (fun (x2, x3, x4, x5) => some (x3, x4, x5, (1 : Int32), x2)))
theorem iw_X4_readSlip_X4 : ∀ w ∈ u_ws RX4 TX4 8, w ∈ wsX4_readSlip := z_inr [32, 33, 34, 35, 36, 37, 38, 39] rfl
theorem iw_X4_readSlip_X0 : ∀ w ∈ u_ws RX0 TX0 11, w ∈ wsX4_readSlip := z_inr [40, 41, 42, 43, 44, 45, 46, 47, 48, 49, 50] rfl
set_option maxHeartbeats 4000000 in
set_option maxRecDepth 100000 in
theorem kX4_readSlip (l : Launch) (D : va_G) (cA : Nat → ClassId) (h : Nat → Nat) (t_size : Int32) (t_errorAt : Int32) (t_bytes : Nat → Int32) (t_length : Int32) (t_at : Int32) (t_error : Int32) (t_costsRead : Int32) (t_slipRead : Int32) (b_height : Int32) (b_count : Int32) (b_room : Int32) (b_account : Int32) (u : Int32 × Int32 × Int32 × Int32 × Int32) (hf : fX4_readSlip t_errorAt t_bytes t_length t_at t_error t_slipRead b_room = some u) : zMv l yX4_readSlip wsX4_readSlip ({ frames := 3, cells := 0, slots := 0, locals := 65 } : Room) D (zTY cA) [.ref (h 0), .ref (h 2)] (W_X4_readSlip cA h t_size t_errorAt t_bytes t_length t_at t_error t_costsRead t_slipRead b_height b_count b_room b_account) (W_X4_readSlip cA h t_size (u.1) t_bytes t_length (u.2.1) (u.2.2.1) t_costsRead (u.2.2.2.1) b_height b_count (u.2.2.2.2) b_account) := by
  refine z_startv (cc := cX4_readSlip) (maxL := 2) (ret := none) (by decide) rfl (Nat.le_of_ble_eq_true rfl) ?_
  intro p e s m args below meth c A hx hb hr hts hown hlocks hml hA Z ls hl
  replace hown : s.vm.findClass RX4 = some m.cls := hown
  replace hl : lv_has ls 2 [(0, .ref (h 0)), (1, .ref (h 2))] := hl
  obtain ⟨H, hH⟩ : ∃ H, H = s.heap := ⟨_, rfl⟩
  rw [← hH] at Z ⊢
  clear hH
  obtain ⟨locs, hlc⟩ : ∃ q : List Loc, q = [] := ⟨_, rfl⟩
  rw [← hlc] at Z ⊢
  clear hlc
  refine lv_aload_n (pc := 0) hx hb dX4_readSlip_0 rfl (lv_at hl 0 rfl) ?_
  refine lv_iconst (pc := 1) (v := (1 : Int32)) hx hb dX4_readSlip_1 (by decide) ?_
  refine z_put (pc := 2) (ref := "LotSheet$SetupText") (ci := 4) (C := RX4) (T := TX4) (N := 8) (W1 := (W_X4_readSlip cA h t_size t_errorAt t_bytes t_length t_at t_error t_costsRead (1 : Int32) b_height b_count b_room b_account)) hx hb hts iw_X4_readSlip_X4 tyX4 tyX4_ok nmX4 hown Z 0 rfl rfl 7 (by decide) (List.mem_of_getElem? (i := 1) rfl) rfl rfl rfl rfl (Nat.le_of_ble_eq_true rfl) dX4_readSlip_2 rfl (fun H locs Z => ?_)
  refine lv_aload_n (pc := 5) hx hb dX4_readSlip_5 rfl (lv_at hl 0 rfl) ?_
  refine lv_dup (pc := 6) hx hb dX4_readSlip_6 rfl ?_
  refine z_get (pc := 7) (ref := "LotSheet$SetupText") (ci := 4) (C := RX4) (T := TX4) (N := 8) hx hb hts iw_X4_readSlip_X4 hown Z 0 rfl rfl 4 (by decide) (List.mem_of_getElem? (i := 2) rfl) rfl rfl dX4_readSlip_7 ?_
  refine lv_iconst (pc := 10) (v := (4 : Int32)) hx hb dX4_readSlip_10 (by decide) ?_
  refine lv_iadd (pc := 11) hx hb dX4_readSlip_11 ?_
  refine lv_topi (fun x1 ex1 => ?_)
  replace hf := o_letE ex1 hf
  refine z_put (pc := 12) (ref := "LotSheet$SetupText") (ci := 4) (C := RX4) (T := TX4) (N := 8) (W1 := (W_X4_readSlip cA h t_size t_errorAt t_bytes t_length x1 t_error t_costsRead (1 : Int32) b_height b_count b_room b_account)) hx hb hts iw_X4_readSlip_X4 tyX4 tyX4_ok nmX4 hown Z 0 rfl rfl 4 (by decide) (List.mem_of_getElem? (i := 2) rfl) rfl rfl rfl rfl (Nat.le_of_ble_eq_true rfl) dX4_readSlip_12 rfl (fun H locs Z => ?_)
  refine lv_aload_n (pc := 15) hx hb dX4_readSlip_15 rfl (lv_at hl 1 rfl) ?_
  refine lv_aload_n (pc := 16) hx hb dX4_readSlip_16 rfl (lv_at hl 0 rfl) ?_
  refine lv_iconst (pc := 17) (v := (1 : Int32)) hx hb dX4_readSlip_17 (by decide) ?_
  refine lv_bipush (pc := 18) (v := (9 : Int32)) hx hb dX4_readSlip_18 (by decide) ?_
  obtain ⟨⟨x2, x3, x4, x5⟩, q6, hf⟩ := o_bindE hf
  refine z_callVi (pc := 20) (As := [.int (1 : Int32), .int (9 : Int32)]) (rest := [.ref (h 2)]) (Wc := (W_X4_takeNumber cA (fun k => h ([0, 1].getD k 0)) t_size t_errorAt t_bytes t_length x1 t_error t_costsRead (1 : Int32))) (W1 := (W_X4_takeNumber cA (fun k => h ([0, 1].getD k 0)) t_size x3 t_bytes t_length x4 x5 t_costsRead (1 : Int32))) (W2 := (W_X4_readSlip cA h t_size x3 t_bytes t_length x4 x5 t_costsRead (1 : Int32) b_height b_count b_room b_account)) ⟨hx, hb, hml, hown, hts⟩ (kX4_takeNumber l D cA (fun k => h ([0, 1].getD k 0)) (1 : Int32) (9 : Int32) t_size t_errorAt t_bytes t_length x1 t_error t_costsRead (1 : Int32) _ q6) (cwV 2 hts gX4_readSlip_X4_takeNumber rfl rfl rfl (by decide +kernel) ⟨Nat.le_of_ble_eq_true rfl, Nat.le_of_ble_eq_true rfl⟩) Z hA [0, 1] rfl (by decide) rfl (ci := 4) rfl rfl rfl rfl hl.1 rfl (Nat.le_of_ble_eq_true rfl) dX4_readSlip_20 ⟨Nat.zero_le _, Nat.zero_le _⟩ [some 0, some 1, none] rfl ⟨rfl, rfl, rfl, rfl⟩ (fun H locs Z => ?_)
  refine z_put (pc := 23) (ref := "LotSheet$Bill") (ci := 0) (C := RX0) (T := TX0) (N := 11) (W1 := (W_X4_readSlip cA h t_size x3 t_bytes t_length x4 x5 t_costsRead (1 : Int32) b_height b_count x2 b_account)) hx hb hts iw_X4_readSlip_X0 tyX0 tyX0_ok nmX0 hown Z 2 rfl rfl 2 (by decide) (List.mem_of_getElem? (i := 3) rfl) rfl rfl rfl rfl (Nat.le_of_ble_eq_true rfl) dX4_readSlip_23 rfl (fun H locs Z => ?_)
  cases hf
  exact z_vret (pc := 26) hx hb hr hlocks Z rfl dX4_readSlip_26
