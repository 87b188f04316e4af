def W_X4_readHead (cA : Nat → ClassId) (h : Nat → Nat) (t_size : Int32) (t_errorAt : Int32) (t_bytes : Nat → Int32) (t_length : Int32) (t_at : Int32) (t_error : Int32) (t_costsRead : Int32) (t_slipRead : Int32) (b_height : Int32) (b_count : Int32) (b_room : Int32) (b_account : Int32) : va_W := [(h 0, .inr (4, [.int t_size, .int t_errorAt, .ref (h 1), .int t_length, .int t_at, .int t_error, .int t_costsRead, .int t_slipRead])), (h 1, .inl (cA 2, 500, .inl t_bytes)), (h 2, .inr (0, [.int b_height, .int b_count, .int b_room, .int b_account, .ref (h 3), .ref (h 4), .ref (h 5), .ref (h 6), .ref (h 7), .ref (h 8), .ref (h 9)]))]
def fX4_readHead (t_errorAt : Int32) (t_bytes : Nat → Int32) (t_length : Int32) (t_at : Int32) (t_error : Int32) (b_height : Int32) : Option (Int32 × Int32 × Int32 × Int32) := o_bind (fX4_nextIsWord [98, 105, 108, 108] t_bytes t_length t_at) (fun (x2, x3) => o_let (fun (x6 : Int32) (x7 : Int32) => o_let (x3 + (4 : Int32)) (fun x9 => o_bind (fX4_takeNumber (4 : Int32) (40 : Int32) x6 t_bytes t_length x9 x7) (fun (x10, x11, x12, x13) => o_bind (fX4_takeSemicolon x11 t_bytes t_length x12 x13) (fun (x15, x16, x17) => some (x15, x16, x17, x10))))) (fun (j15_8 : Int32 → Int32 → Option (Int32 × Int32 × Int32 × Int32)) => (if x2 = 0 then o_bind (fX4_fail (-2 : Int32) t_errorAt x3 t_error) (fun (x19, x20) => (j15_8 x19 x20)) else (j15_8 t_errorAt t_error))))
theorem iw_X4_readHead_X4 : ∀ w ∈ u_ws RX4 TX4 8, w ∈ wsX4_readHead := z_inr [91, 92, 93, 94, 95, 96, 97, 98] rfl
theorem iw_X4_readHead_X0 : ∀ w ∈ u_ws RX0 TX0 11, w ∈ wsX4_readHead := z_inr [99, 100, 101, 102, 103, 104, 105, 106, 107, 108, 109] rfl
set_option maxHeartbeats 4000000 in
set_option maxRecDepth 100000 in
theorem kX4_readHead (l : Launch) (D : va_G) (cA : Nat → ClassId) (h : Nat → Nat) (t_size : Int32) (t_errorAt : Int32) (t_bytes : Nat → Int32) (t_length : Int32) (t_at : Int32) (t_error : Int32) (t_costsRead : Int32) (t_slipRead : Int32) (b_height : Int32) (b_count : Int32) (b_room : Int32) (b_account : Int32) (u : Int32 × Int32 × Int32 × Int32) (hf : fX4_readHead t_errorAt t_bytes t_length t_at t_error b_height = some u) : zMvX zE l yX4_readHead wsX4_readHead ({ frames := 5, cells := 0, slots := 0, locals := 107 } : Room) D (zTY cA) [.ref (h 0), .ref (h 2)] (W_X4_readHead cA h t_size t_errorAt t_bytes t_length t_at t_error t_costsRead t_slipRead b_height b_count b_room b_account) (W_X4_readHead cA h t_size (u.1) t_bytes t_length (u.2.1) (u.2.2.1) t_costsRead t_slipRead (u.2.2.2) b_count b_room b_account) := by
  refine z_startvX (cc := cX4_readHead) (maxL := 2) (ret := none) (by decide) rfl (Nat.le_of_ble_eq_true rfl) ?_
  intro p e s m args below meth c A hx hb hr hts hown hlocks hml hA hE Z ls hl
  replace hown : s.vm.findClass RX4 = some m.cls := hown
  replace hl : lv_has ls 2 [(0, .ref (h 0)), (1, .ref (h 2))] := hl
  obtain ⟨H, hH⟩ : ∃ H, H = s.heap := ⟨_, rfl⟩
  rw [← hH] at Z ⊢
  clear hH
  obtain ⟨locs, hlc⟩ : ∃ q : List Loc, q = [] := ⟨_, rfl⟩
  rw [← hlc] at Z ⊢
  clear hlc
  refine lv_aload_n (pc := 0) hx hb dX4_readHead_0 rfl (lv_at hl 0 rfl) ?_
  obtain ⟨sa1, hr1, hs1⟩ := hE.2.2.2.2.2 ("LotSheet$SetupText", 67, "bill", [98, 105, 108, 108]) (List.mem_of_getElem? (i := 0) rfl)
  replace hr1 : vk_R RX4 67 "bill" sa1 s := hr1
  replace hs1 : zStr sa1 [98, 105, 108, 108] A s s.heap := hs1
  refine va_ldcS (pc := 1) hx hb hown hr1 dX4_readHead_1 ?_
  obtain ⟨⟨x2, x3⟩, q4, hf⟩ := o_bindE hf
  refine z_callViX (pc := 3) (As := [.ref sa1]) (rest := []) (Wc := (W_X4_nextIsWord cA (fun k => h ([0, 1].getD k 0)) t_size t_errorAt t_bytes t_length t_at t_error t_costsRead t_slipRead)) (W1 := (W_X4_nextIsWord cA (fun k => h ([0, 1].getD k 0)) t_size t_errorAt t_bytes t_length x3 t_error t_costsRead t_slipRead)) (W2 := (W_X4_readHead cA h t_size t_errorAt t_bytes t_length x3 t_error t_costsRead t_slipRead b_height b_count b_room b_account)) (zXS_pass sa1 [98, 105, 108, 108]) ⟨hE.1, hs1⟩ ⟨hx, hb, hml, hown, hts⟩ (kX4_nextIsWord l D cA (fun k => h ([0, 1].getD k 0)) sa1 [98, 105, 108, 108] t_size t_errorAt t_bytes t_length t_at t_error t_costsRead t_slipRead _ q4) (cwV 1 hts gX4_readHead_X4_nextIsWord rfl rfl rfl (by decide +kernel) ⟨Nat.le_of_ble_eq_true rfl, Nat.le_of_ble_eq_true rfl⟩) Z hA [0, 1] rfl (by decide) rfl (ci := 4) rfl rfl rfl rfl hl.1 rfl (Nat.le_of_ble_eq_true rfl) dX4_readHead_3 ⟨Nat.zero_le _, Nat.zero_le _⟩ [some 0, some 1, none] rfl ⟨rfl, rfl, rfl, rfl⟩ (fun H locs Z => ?_)
  obtain ⟨j15_8, ej15_8, hf⟩ := o_jnE hf
  have hj15_8 : ∀ (x6 : Int32) (x7 : Int32) (H : Heap) (locs : List Loc) (ls : Array Slot), zw D (zTY cA) s A (W_X4_readHead cA h t_size x6 t_bytes t_length x3 x7 t_costsRead t_slipRead b_height b_count b_room b_account) H locs → lv_has ls 2 [(0, .ref (h 0)), (1, .ref (h 2))] → j15_8 x6 x7 = some u → W p l e ({ frames := 5, cells := 0, slots := 0, locals := 107 } : Room) s m args below meth c H locs 0 0 (MQ below (zQv D (zTY cA) A (W_X4_readHead cA h t_size (u.1) t_bytes t_length (u.2.1) (u.2.2.1) t_costsRead t_slipRead (u.2.2.2) b_count b_room b_account)) args s 0 0 A) (F0 m 15 ls []) := by
    intro x6 x7 H locs ls Z hl hf
    rw [ej15_8] at hf
    refine lv_aload_n (pc := 15) hx hb dX4_readHead_15 rfl (lv_at hl 0 rfl) ?_
    refine lv_dup (pc := 16) hx hb dX4_readHead_16 rfl ?_
    refine z_get (pc := 17) (ref := "LotSheet$SetupText") (ci := 4) (C := RX4) (T := TX4) (N := 8) hx hb hts iw_X4_readHead_X4 hown Z 0 rfl rfl 4 (by decide) (List.mem_of_getElem? (i := 1) rfl) rfl rfl dX4_readHead_17 ?_
    refine lv_iconst (pc := 20) (v := (4 : Int32)) hx hb dX4_readHead_20 (by decide) ?_
    refine lv_iadd (pc := 21) hx hb dX4_readHead_21 ?_
    refine lv_topi (fun x9 ex9 => ?_)
    replace hf := o_letE ex9 hf
    refine z_put (pc := 22) (ref := "LotSheet$SetupText") (ci := 4) (C := RX4) (T := TX4) (N := 8) (W1 := (W_X4_readHead cA h t_size x6 t_bytes t_length x9 x7 t_costsRead t_slipRead b_height b_count b_room b_account)) hx hb hts iw_X4_readHead_X4 tyX4 tyX4_ok nmX4 hown Z 0 rfl rfl 4 (by decide) (List.mem_of_getElem? (i := 1) rfl) rfl rfl rfl rfl (Nat.le_of_ble_eq_true rfl) dX4_readHead_22 rfl (fun H locs Z => ?_)
    refine lv_aload_n (pc := 25) hx hb dX4_readHead_25 rfl (lv_at hl 1 rfl) ?_
    refine lv_aload_n (pc := 26) hx hb dX4_readHead_26 rfl (lv_at hl 0 rfl) ?_
    refine lv_iconst (pc := 27) (v := (4 : Int32)) hx hb dX4_readHead_27 (by decide) ?_
    refine lv_bipush (pc := 28) (v := (40 : Int32)) hx hb dX4_readHead_28 (by decide) ?_
    obtain ⟨⟨x10, x11, x12, x13⟩, q14, hf⟩ := o_bindE hf
    refine z_callVi (pc := 30) (As := [.int (4 : Int32), .int (40 : Int32)]) (rest := [.ref (h 2)]) (Wc := (W_X4_takeNumber cA (fun k => h ([0, 1].getD k 0)) t_size x6 t_bytes t_length x9 x7 t_costsRead t_slipRead)) (W1 := (W_X4_takeNumber cA (fun k => h ([0, 1].getD k 0)) t_size x11 t_bytes t_length x12 x13 t_costsRead t_slipRead)) (W2 := (W_X4_readHead cA h t_size x11 t_bytes t_length x12 x13 t_costsRead t_slipRead b_height b_count b_room b_account)) ⟨hx, hb, hml, hown, hts⟩ (kX4_takeNumber l D cA (fun k => h ([0, 1].getD k 0)) (4 : Int32) (40 : Int32) t_size x6 t_bytes t_length x9 x7 t_costsRead t_slipRead _ q14) (cwV 2 hts gX4_readHead_X4_takeNumber rfl rfl rfl (by decide +kernel) ⟨Nat.le_of_ble_eq_true rfl, Nat.le_of_ble_eq_true rfl⟩) Z hA [0, 1] rfl (by decide) rfl (ci := 4) rfl rfl rfl rfl hl.1 rfl (Nat.le_of_ble_eq_true rfl) dX4_readHead_30 ⟨Nat.zero_le _, Nat.zero_le _⟩ [some 0, some 1, none] rfl ⟨rfl, rfl, rfl, rfl⟩ (fun H locs Z => ?_)
    refine z_put (pc := 33) (ref := "LotSheet$Bill") (ci := 0) (C := RX0) (T := TX0) (N := 11) (W1 := (W_X4_readHead cA h t_size x11 t_bytes t_length x12 x13 t_costsRead t_slipRead x10 b_count b_room b_account)) hx hb hts iw_X4_readHead_X0 tyX0 tyX0_ok nmX0 hown Z 2 rfl rfl 0 (by decide) (List.mem_of_getElem? (i := 2) rfl) rfl rfl rfl rfl (Nat.le_of_ble_eq_true rfl) dX4_readHead_33 rfl (fun H locs Z => ?_)
    refine lv_aload_n (pc := 36) hx hb dX4_readHead_36 rfl (lv_at hl 0 rfl) ?_
    obtain ⟨⟨x15, x16, x17⟩, q18, hf⟩ := o_bindE hf
    refine z_callVv (pc := 37) (As := []) (rest := []) (Wc := (W_X4_takeSemicolon cA (fun k => h ([0, 1].getD k 0)) t_size x11 t_bytes t_length x12 x13 t_costsRead t_slipRead)) (W1 := (W_X4_takeSemicolon cA (fun k => h ([0, 1].getD k 0)) t_size x15 t_bytes t_length x16 x17 t_costsRead t_slipRead)) (W2 := (W_X4_readHead cA h t_size x15 t_bytes t_length x16 x17 t_costsRead t_slipRead x10 b_count b_room b_account)) ⟨hx, hb, hml, hown, hts⟩ (kX4_takeSemicolon l D cA (fun k => h ([0, 1].getD k 0)) t_size x11 t_bytes t_length x12 x13 t_costsRead t_slipRead _ q18) (cwV 0 hts gX4_readHead_X4_takeSemicolon rfl rfl rfl (by decide +kernel) ⟨Nat.le_of_ble_eq_true rfl, Nat.le_of_ble_eq_true rfl⟩) Z hA [0, 1] rfl (by decide) rfl (ci := 4) rfl rfl rfl rfl hl.1 rfl (Nat.le_of_ble_eq_true rfl) dX4_readHead_37 ⟨Nat.zero_le _, Nat.zero_le _⟩ [some 0, some 1, none] rfl ⟨rfl, rfl, rfl, rfl⟩ (fun H locs Z => ?_)
    cases hf
    exact z_vret (pc := 40) hx hb hr hlocks Z rfl dX4_readHead_40
  refine lv_if_ne (pc := 6) (tgt := 15) hx hb dX4_readHead_6 (by decide) (fun c5 => ?_) (fun c5 => ?_)
  · replace hf := o_neg c5 hf
    exact hj15_8 t_errorAt t_error H locs ls Z (lv_sub hl [0, 1] rfl) hf
  · replace hf := o_pos c5 hf
    refine lv_aload_n (pc := 9) hx hb dX4_readHead_9 rfl (lv_at hl 0 rfl) ?_
    refine lv_bipush (pc := 10) (v := (-2 : Int32)) hx hb dX4_readHead_10 (by decide) ?_
    obtain ⟨⟨x19, x20⟩, q21, hf⟩ := o_bindE hf
    refine z_callVv (pc := 12) (As := [.int (-2 : Int32)]) (rest := []) (Wc := (W_X4_fail cA (fun k => h ([0, 1].getD k 0)) t_size t_errorAt t_length x3 t_error t_costsRead t_slipRead)) (W1 := (W_X4_fail cA (fun k => h ([0, 1].getD k 0)) t_size x19 t_length x3 x20 t_costsRead t_slipRead)) (W2 := (W_X4_readHead cA h t_size x19 t_bytes t_length x3 x20 t_costsRead t_slipRead b_height b_count b_room b_account)) ⟨hx, hb, hml, hown, hts⟩ (kX4_fail l D cA (fun k => h ([0, 1].getD k 0)) (-2 : Int32) t_size t_errorAt t_length x3 t_error t_costsRead t_slipRead _ q21) (cwV 1 hts gX4_readHead_X4_fail rfl rfl rfl (by decide +kernel) ⟨Nat.le_of_ble_eq_true rfl, Nat.le_of_ble_eq_true rfl⟩) Z hA [0] rfl (by decide) rfl (ci := 4) rfl rfl rfl rfl hl.1 rfl (Nat.le_of_ble_eq_true rfl) dX4_readHead_12 ⟨Nat.zero_le _, Nat.zero_le _⟩ [some 0, none, none] rfl ⟨rfl, rfl, rfl, rfl⟩ (fun H locs Z => ?_)
    exact hj15_8 x19 x20 H locs ls Z (lv_sub hl [0, 1] rfl) hf
