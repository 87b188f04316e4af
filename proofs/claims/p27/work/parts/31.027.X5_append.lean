def W_X5_append (cA : Nat → ClassId) (h : Nat → Nat) (t_size : Int32) (t_errorAt : Int32) (t_bytes : Nat → Int32) (t_length : Int32) (t_at : Int32) (t_error : Int32) (t_costsRead : Int32) (t_slipRead : Int32) (x_latestErrorOffset : Int32) : va_W := [(h 0, .inr (5, [.ref (h 1), .ref (h 3), .ref (h 11), .ref (h 19), .ref (h 85), .ref (h 92), .int x_latestErrorOffset])), (h 1, .inr (4, [.int t_size, .int t_errorAt, .ref (h 2), .int t_length, .int t_at, .int t_error, .int t_costsRead, .int t_slipRead])), (h 2, .inl (cA 2, 500, .inl t_bytes))]
def fX5_append (p1 : Int32) (p2 : Int32) (p3 : Int32) (p4 : Int32) (p5 : Int32) (t_size : Int32) (t_bytes : Nat → Int32) : Option (Int32 × Int32 × (Nat → Int32)) := o_bind (fX4_hasRoomFor (20 : Int32) t_size) (fun x1 => (if x1 = 0 then some ((-1 : Int32), t_size, t_bytes) else o_bind (fX4_putWord p1 t_size t_bytes) (fun (x4, a5) => o_bind (fX4_putWord p2 x4 a5) (fun (x7, a8) => o_bind (fX4_putWord p3 x7 a8) (fun (x10, a11) => o_bind (fX4_putWord p4 x10 a11) (fun (x13, a14) => o_bind (fX4_putWord p5 x13 a14) (fun (x16, a17) => some (x16, x16, a17))))))))
theorem iw_X5_append_X5 : ∀ w ∈ u_ws RX5 TX5 7, w ∈ wsX5_append := z_inr [14, 15, 16, 17, 18, 19, 20] rfl
theorem iw_X5_append_X4 : ∀ w ∈ u_ws RX4 TX4 8, w ∈ wsX5_append := z_inr [21, 22, 23, 24, 25, 26, 27, 28] rfl
set_option maxHeartbeats 4000000 in
set_option maxRecDepth 100000 in
theorem kX5_append (l : Launch) (D : va_G) (cA : Nat → ClassId) (h : Nat → Nat) (p1 : Int32) (p2 : Int32) (p3 : Int32) (p4 : Int32) (p5 : Int32) (t_size : Int32) (t_errorAt : Int32) (t_bytes : Nat → Int32) (t_length : Int32) (t_at : Int32) (t_error : Int32) (t_costsRead : Int32) (t_slipRead : Int32) (x_latestErrorOffset : Int32) (u : Int32 × Int32 × (Nat → Int32)) (hf : fX5_append p1 p2 p3 p4 p5 t_size t_bytes = some u) : zMi l yX5_append wsX5_append ({ frames := 1, cells := 0, slots := 0, locals := 22 } : Room) D (zTY cA) [.ref (h 0), .int p1, .int p2, .int p3, .int p4, .int p5] (W_X5_append cA h t_size t_errorAt t_bytes t_length t_at t_error t_costsRead t_slipRead x_latestErrorOffset) (W_X5_append cA h (u.2.1) t_errorAt (u.2.2) t_length t_at t_error t_costsRead t_slipRead x_latestErrorOffset) u.1 := by
  refine z_starti (cc := cX5_append) (maxL := 6) (ret := (some .int)) (by decide) rfl (Nat.le_of_ble_eq_true rfl) ?_
  intro p e s m args below meth c A hx hb hr hts hown hlocks hml hA Z ls hl
  replace hown : s.vm.findClass RX5 = some m.cls := hown
  replace hl : lv_has ls 6 [(0, .ref (h 0)), (1, .int p1), (2, .int p2), (3, .int p3), (4, .int p4), (5, .int p5)] := hl
  obtain ⟨H, hH⟩ : ∃ H, H = s.heap := ⟨_, rfl⟩
  rw [← hH] at Z ⊢
  clear hH
  obtain ⟨locs, hlc⟩ : ∃ q : List Loc, q = [] := ⟨_, rfl⟩
  rw [← hlc] at Z ⊢
  clear hlc
  refine lv_aload_n (pc := 0) hx hb dX5_append_0 rfl (lv_at hl 0 rfl) ?_
  refine z_get (pc := 1) (ref := "LotSheet") (ci := 5) (C := RX5) (T := TX5) (N := 7) hx hb hts iw_X5_append_X5 hown Z 0 rfl rfl 0 (by decide) (List.mem_of_getElem? (i := 1) rfl) rfl rfl dX5_append_1 ?_
  refine lv_bipush (pc := 4) (v := (20 : Int32)) hx hb dX5_append_4 (by decide) ?_
  obtain ⟨x1, q2, hf⟩ := o_bindE hf
  refine z_callVi (pc := 6) (As := [.int (20 : Int32)]) (rest := []) (Wc := (W_X4_hasRoomFor cA (fun k => h ([1, 2].getD k 0)) t_size t_errorAt t_length t_at t_error t_costsRead t_slipRead)) (W1 := (W_X4_hasRoomFor cA (fun k => h ([1, 2].getD k 0)) t_size t_errorAt t_length t_at t_error t_costsRead t_slipRead)) (W2 := (W_X5_append cA h t_size t_errorAt t_bytes t_length t_at t_error t_costsRead t_slipRead x_latestErrorOffset)) ⟨hx, hb, hml, hown, hts⟩ (kX4_hasRoomFor l D cA (fun k => h ([1, 2].getD k 0)) (20 : Int32) t_size t_errorAt t_length t_at t_error t_costsRead t_slipRead _ q2) (cwV 1 hts gX5_append_X4_hasRoomFor rfl rfl rfl (by decide +kernel) ⟨Nat.le_of_ble_eq_true rfl, Nat.le_of_ble_eq_true rfl⟩) Z hA [1] rfl (by decide) rfl (ci := 4) rfl rfl rfl rfl hl.1 rfl (Nat.le_of_ble_eq_true rfl) dX5_append_6 ⟨Nat.zero_le _, Nat.zero_le _⟩ [none, some 0, none] rfl ⟨rfl, rfl, rfl, rfl⟩ (fun H locs Z => ?_)
  refine lv_if_ne (pc := 9) (tgt := 14) hx hb dX5_append_9 (by decide) (fun c3 => ?_) (fun c3 => ?_)
  · replace hf := o_neg c3 hf
    refine lv_aload_n (pc := 14) hx hb dX5_append_14 rfl (lv_at hl 0 rfl) ?_
    refine z_get (pc := 15) (ref := "LotSheet") (ci := 5) (C := RX5) (T := TX5) (N := 7) hx hb hts iw_X5_append_X5 hown Z 0 rfl rfl 0 (by decide) (List.mem_of_getElem? (i := 1) rfl) rfl rfl dX5_append_15 ?_
    refine lv_iload_n (pc := 18) hx hb dX5_append_18 rfl (lv_at hl 1 rfl) ?_
    obtain ⟨⟨x4, a5⟩, q6, hf⟩ := o_bindE hf
    refine z_callVv (pc := 19) (As := [.int p1]) (rest := []) (Wc := (W_X4_putWord cA (fun k => h ([1, 2].getD k 0)) t_size t_errorAt t_bytes t_length t_at t_error t_costsRead t_slipRead)) (W1 := (W_X4_putWord cA (fun k => h ([1, 2].getD k 0)) x4 t_errorAt a5 t_length t_at t_error t_costsRead t_slipRead)) (W2 := (W_X5_append cA h x4 t_errorAt a5 t_length t_at t_error t_costsRead t_slipRead x_latestErrorOffset)) ⟨hx, hb, hml, hown, hts⟩ (kX4_putWord l D cA (fun k => h ([1, 2].getD k 0)) p1 t_size t_errorAt t_bytes t_length t_at t_error t_costsRead t_slipRead _ q6) (cwV 1 hts gX5_append_X4_putWord rfl rfl rfl (by decide +kernel) ⟨Nat.le_of_ble_eq_true rfl, Nat.le_of_ble_eq_true rfl⟩) Z hA [1, 2] rfl (by decide) rfl (ci := 4) rfl rfl rfl rfl hl.1 rfl (Nat.le_of_ble_eq_true rfl) dX5_append_19 ⟨Nat.zero_le _, Nat.zero_le _⟩ [none, some 0, some 1] rfl ⟨rfl, rfl, rfl, rfl⟩ (fun H locs Z => ?_)
    refine lv_aload_n (pc := 22) hx hb dX5_append_22 rfl (lv_at hl 0 rfl) ?_
    refine z_get (pc := 23) (ref := "LotSheet") (ci := 5) (C := RX5) (T := TX5) (N := 7) hx hb hts iw_X5_append_X5 hown Z 0 rfl rfl 0 (by decide) (List.mem_of_getElem? (i := 1) rfl) rfl rfl dX5_append_23 ?_
    refine lv_iload_n (pc := 26) hx hb dX5_append_26 rfl (lv_at hl 2 rfl) ?_
    obtain ⟨⟨x7, a8⟩, q9, hf⟩ := o_bindE hf
    refine z_callVv (pc := 27) (As := [.int p2]) (rest := []) (Wc := (W_X4_putWord cA (fun k => h ([1, 2].getD k 0)) x4 t_errorAt a5 t_length t_at t_error t_costsRead t_slipRead)) (W1 := (W_X4_putWord cA (fun k => h ([1, 2].getD k 0)) x7 t_errorAt a8 t_length t_at t_error t_costsRead t_slipRead)) (W2 := (W_X5_append cA h x7 t_errorAt a8 t_length t_at t_error t_costsRead t_slipRead x_latestErrorOffset)) ⟨hx, hb, hml, hown, hts⟩ (kX4_putWord l D cA (fun k => h ([1, 2].getD k 0)) p2 x4 t_errorAt a5 t_length t_at t_error t_costsRead t_slipRead _ q9) (cwV 1 hts gX5_append_X4_putWord rfl rfl rfl (by decide +kernel) ⟨Nat.le_of_ble_eq_true rfl, Nat.le_of_ble_eq_true rfl⟩) Z hA [1, 2] rfl (by decide) rfl (ci := 4) rfl rfl rfl rfl hl.1 rfl (Nat.le_of_ble_eq_true rfl) dX5_append_27 ⟨Nat.zero_le _, Nat.zero_le _⟩ [none, some 0, some 1] rfl ⟨rfl, rfl, rfl, rfl⟩ (fun H locs Z => ?_)
    refine lv_aload_n (pc := 30) hx hb dX5_append_30 rfl (lv_at hl 0 rfl) ?_
    refine z_get (pc := 31) (ref := "LotSheet") (ci := 5) (C := RX5) (T := TX5) (N := 7) hx hb hts iw_X5_append_X5 hown Z 0 rfl rfl 0 (by decide) (List.mem_of_getElem? (i := 1) rfl) rfl rfl dX5_append_31 ?_
    refine lv_iload_n (pc := 34) hx hb dX5_append_34 rfl (lv_at hl 3 rfl) ?_
    obtain ⟨⟨x10, a11⟩, q12, hf⟩ := o_bindE hf
    refine z_callVv (pc := 35) (As := [.int p3]) (rest := []) (Wc := (W_X4_putWord cA (fun k => h ([1, 2].getD k 0)) x7 t_errorAt a8 t_length t_at t_error t_costsRead t_slipRead)) (W1 := (W_X4_putWord cA (fun k => h ([1, 2].getD k 0)) x10 t_errorAt a11 t_length t_at t_error t_costsRead t_slipRead)) (W2 := (W_X5_append cA h x10 t_errorAt a11 t_length t_at t_error t_costsRead t_slipRead x_latestErrorOffset)) ⟨hx, hb, hml, hown, hts⟩ (kX4_putWord l D cA (fun k => h ([1, 2].getD k 0)) p3 x7 t_errorAt a8 t_length t_at t_error t_costsRead t_slipRead _ q12) (cwV 1 hts gX5_append_X4_putWord rfl rfl rfl (by decide +kernel) ⟨Nat.le_of_ble_eq_true rfl, Nat.le_of_ble_eq_true rfl⟩) Z hA [1, 2] rfl (by decide) rfl (ci := 4) rfl rfl rfl rfl hl.1 rfl (Nat.le_of_ble_eq_true rfl) dX5_append_35 ⟨Nat.zero_le _, Nat.zero_le _⟩ [none, some 0, some 1] rfl ⟨rfl, rfl, rfl, rfl⟩ (fun H locs Z => ?_)
    refine lv_aload_n (pc := 38) hx hb dX5_append_38 rfl (lv_at hl 0 rfl) ?_
    refine z_get (pc := 39) (ref := "LotSheet") (ci := 5) (C := RX5) (T := TX5) (N := 7) hx hb hts iw_X5_append_X5 hown Z 0 rfl rfl 0 (by decide) (List.mem_of_getElem? (i := 1) rfl) rfl rfl dX5_append_39 ?_
    refine lv_iload (pc := 42) hx hb dX5_append_42 (lv_at hl 4 rfl) ?_
    obtain ⟨⟨x13, a14⟩, q15, hf⟩ := o_bindE hf
    refine z_callVv (pc := 44) (As := [.int p4]) (rest := []) (Wc := (W_X4_putWord cA (fun k => h ([1, 2].getD k 0)) x10 t_errorAt a11 t_length t_at t_error t_costsRead t_slipRead)) (W1 := (W_X4_putWord cA (fun k => h ([1, 2].getD k 0)) x13 t_errorAt a14 t_length t_at t_error t_costsRead t_slipRead)) (W2 := (W_X5_append cA h x13 t_errorAt a14 t_length t_at t_error t_costsRead t_slipRead x_latestErrorOffset)) ⟨hx, hb, hml, hown, hts⟩ (kX4_putWord l D cA (fun k => h ([1, 2].getD k 0)) p4 x10 t_errorAt a11 t_length t_at t_error t_costsRead t_slipRead _ q15) (cwV 1 hts gX5_append_X4_putWord rfl rfl rfl (by decide +kernel) ⟨Nat.le_of_ble_eq_true rfl, Nat.le_of_ble_eq_true rfl⟩) Z hA [1, 2] rfl (by decide) rfl (ci := 4) rfl rfl rfl rfl hl.1 rfl (Nat.le_of_ble_eq_true rfl) dX5_append_44 ⟨Nat.zero_le _, Nat.zero_le _⟩ [none, some 0, some 1] rfl ⟨rfl, rfl, rfl, rfl⟩ (fun H locs Z => ?_)
    refine lv_aload_n (pc := 47) hx hb dX5_append_47 rfl (lv_at hl 0 rfl) ?_
    refine z_get (pc := 48) (ref := "LotSheet") (ci := 5) (C := RX5) (T := TX5) (N := 7) hx hb hts iw_X5_append_X5 hown Z 0 rfl rfl 0 (by decide) (List.mem_of_getElem? (i := 1) rfl) rfl rfl dX5_append_48 ?_
    refine lv_iload (pc := 51) hx hb dX5_append_51 (lv_at hl 5 rfl) ?_
    obtain ⟨⟨x16, a17⟩, q18, hf⟩ := o_bindE hf
    refine z_callVv (pc := 53) (As := [.int p5]) (rest := []) (Wc := (W_X4_putWord cA (fun k => h ([1, 2].getD k 0)) x13 t_errorAt a14 t_length t_at t_error t_costsRead t_slipRead)) (W1 := (W_X4_putWord cA (fun k => h ([1, 2].getD k 0)) x16 t_errorAt a17 t_length t_at t_error t_costsRead t_slipRead)) (W2 := (W_X5_append cA h x16 t_errorAt a17 t_length t_at t_error t_costsRead t_slipRead x_latestErrorOffset)) ⟨hx, hb, hml, hown, hts⟩ (kX4_putWord l D cA (fun k => h ([1, 2].getD k 0)) p5 x13 t_errorAt a14 t_length t_at t_error t_costsRead t_slipRead _ q18) (cwV 1 hts gX5_append_X4_putWord rfl rfl rfl (by decide +kernel) ⟨Nat.le_of_ble_eq_true rfl, Nat.le_of_ble_eq_true rfl⟩) Z hA [1, 2] rfl (by decide) rfl (ci := 4) rfl rfl rfl rfl hl.1 rfl (Nat.le_of_ble_eq_true rfl) dX5_append_53 ⟨Nat.zero_le _, Nat.zero_le _⟩ [none, some 0, some 1] rfl ⟨rfl, rfl, rfl, rfl⟩ (fun H locs Z => ?_)
    refine lv_aload_n (pc := 56) hx hb dX5_append_56 rfl (lv_at hl 0 rfl) ?_
    refine z_get (pc := 57) (ref := "LotSheet") (ci := 5) (C := RX5) (T := TX5) (N := 7) hx hb hts iw_X5_append_X5 hown Z 0 rfl rfl 0 (by decide) (List.mem_of_getElem? (i := 1) rfl) rfl rfl dX5_append_57 ?_
    refine z_get (pc := 60) (ref := "LotSheet$SetupText") (ci := 4) (C := RX4) (T := TX4) (N := 8) hx hb hts iw_X5_append_X4 hown Z 1 rfl rfl 0 (by decide) (List.mem_of_getElem? (i := 2) rfl) rfl rfl dX5_append_60 ?_
    cases hf
    exact z_iret (pc := 63) hx hb hr hlocks Z rfl rfl dX5_append_63
  · replace hf := o_pos c3 hf
    refine lv_iconst (pc := 12) (v := (-1 : Int32)) hx hb dX5_append_12 (by decide) ?_
    cases hf
    exact z_iret (pc := 13) hx hb hr hlocks Z rfl rfl dX5_append_13
