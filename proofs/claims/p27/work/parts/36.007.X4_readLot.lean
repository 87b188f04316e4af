def W_X4_readLot (cA : Nat → ClassId) (h : Nat → Nat) (t_size : Int32) (t_errorAt : Int32) (t_bytes : Nat → Int32) (t_length : Int32) (t_at : Int32) (t_error : Int32) (t_costsRead : Int32) (t_slipRead : Int32) (b_height : Int32) (b_count : Int32) (b_room : Int32) (b_account : Int32) (b_lines : Nat → Int32) (b_estimates : Nat → Int32) (b_sellers : Nat → Int32) (b_printed : Nat → Int32) (b_wanted : Nat → Int32) (b_slipped : Nat → Int32) : va_W := [(h 0, .inr (4, [.int t_size, .int t_errorAt, .ref (h 1), .int t_length, .int t_at, .int t_error, .int t_costsRead, .int t_slipRead])), (h 1, .inl (cA 2, 500, .inl t_bytes)), (h 2, .inr (0, [.int b_height, .int b_count, .int b_room, .int b_account, .ref (h 3), .ref (h 4), .ref (h 5), .ref (h 6), .ref (h 7), .ref (h 8), .ref (h 9)])), (h 4, .inl (cA 0, 24, .inl b_lines)), (h 5, .inl (cA 0, 24, .inl b_estimates)), (h 6, .inl (cA 0, 24, .inl b_sellers)), (h 7, .inl (cA 1, 24, .inl b_printed)), (h 8, .inl (cA 1, 24, .inl b_wanted)), (h 9, .inl (cA 1, 24, .inl b_slipped))]
def fX4_readLot (t_errorAt : Int32) (t_bytes : Nat → Int32) (t_length : Int32) (t_at : Int32) (t_error : Int32) (b_height : Int32) (b_count : Int32) (b_lines : Nat → Int32) (b_estimates : Nat → Int32) (b_sellers : Nat → Int32) (b_printed : Nat → Int32) (b_wanted : Nat → Int32) (b_slipped : Nat → Int32) : Option (Int32 × Int32 × Int32 × Int32 × (Nat → Int32) × (Nat → Int32) × (Nat → Int32) × (Nat → Int32) × (Nat → Int32) × (Nat → Int32)) := (if b_count < (24 : Int32) then o_let (t_at + (3 : Int32)) (fun x2 => o_bind (fX0_mostLines b_height) (fun x3 => o_bind (fX4_takeNumber (1 : Int32) x3 t_errorAt t_bytes t_length x2 t_error) (fun (x5, x6, x7, x8) => o_bind (fX4_takeNumber (0 : Int32) (9999 : Int32) x6 t_bytes t_length x7 x8) (fun (x10, x11, x12, x13) => o_bind (fX4_takeNumber (0 : Int32) (9 : Int32) x11 t_bytes t_length x12 x13) (fun (x15, x16, x17, x18) => o_bind (fX4_nextIsWord [111, 117, 116] t_bytes t_length x17) (fun (x21, x22) => o_bind (fX4_nextIsWord [105, 110] t_bytes t_length x22) (fun (x25, x26) => o_let (fun (x29 : Int32) (x30 : Int32) => (if x30 = 0 then o_let (fun (x34 : Int32) => o_let (x26 + x34) (fun x36 => o_bind (fX0_insert b_count x5 x10 x15 b_count b_lines b_estimates b_sellers b_printed b_wanted b_slipped) (fun (x37, a38, a39, a40, a41, a42, a43) => o_let (fun (x46 : Int32) => o_rd 24 b_count (o_let (upd a41 b_count.toNatClampNeg (vp_nar .boolean x46)) (fun a49 => o_let (fun (x51 : Int32) => o_rd 24 b_count (o_let (upd a42 b_count.toNatClampNeg (vp_nar .boolean x51)) (fun a54 => some (x29, x36, x30, x37, a38, a39, a40, a49, a54, a43)))) (fun (j180_52 : Int32 → Option (Int32 × Int32 × Int32 × Int32 × (Nat → Int32) × (Nat → Int32) × (Nat → Int32) × (Nat → Int32) × (Nat → Int32) × (Nat → Int32))) => (if x21 = 0 then (j180_52 (1 : Int32)) else (j180_52 (0 : Int32))))))) (fun (j163_47 : Int32 → Option (Int32 × Int32 × Int32 × Int32 × (Nat → Int32) × (Nat → Int32) × (Nat → Int32) × (Nat → Int32) × (Nat → Int32) × (Nat → Int32))) => (if x25 = 0 then (j163_47 (1 : Int32)) else (j163_47 (0 : Int32))))))) (fun (j127_35 : Int32 → Option (Int32 × Int32 × Int32 × Int32 × (Nat → Int32) × (Nat → Int32) × (Nat → Int32) × (Nat → Int32) × (Nat → Int32) × (Nat → Int32))) => (if x21 = 0 then (if x25 = 0 then (j127_35 (0 : Int32)) else (j127_35 (2 : Int32))) else (j127_35 (3 : Int32)))) else some (x29, x26, x30, b_count, b_lines, b_estimates, b_sellers, b_printed, b_wanted, b_slipped))) (fun (j95_31 : Int32 → Int32 → Option (Int32 × Int32 × Int32 × Int32 × (Nat → Int32) × (Nat → Int32) × (Nat → Int32) × (Nat → Int32) × (Nat → Int32) × (Nat → Int32))) => o_let (o_bind (fX0_differentLots b_count b_printed b_wanted) (fun x57 => (if x57 < (8 : Int32) then (j95_31 x16 x18) else o_bind (fX4_fail (-4 : Int32) x16 x26 x18) (fun (x60, x61) => (j95_31 x60 x61))))) (fun (j80_56 : Option (Int32 × Int32 × Int32 × Int32 × (Nat → Int32) × (Nat → Int32) × (Nat → Int32) × (Nat → Int32) × (Nat → Int32) × (Nat → Int32))) => (if x21 = 0 then (if x25 = 0 then (j95_31 x16 x18) else j80_56) else j80_56)))))))))) else o_bind (fX4_fail (-4 : Int32) t_errorAt t_at t_error) (fun (x64, x65) => some (x64, t_at, x65, b_count, b_lines, b_estimates, b_sellers, b_printed, b_wanted, b_slipped)))
theorem iw_X4_readLot_X0 : ∀ w ∈ u_ws RX0 TX0 11, w ∈ wsX4_readLot := z_inr [119, 120, 121, 122, 123, 124, 125, 126, 127, 128, 129] rfl
theorem iw_X4_readLot_X4 : ∀ w ∈ u_ws RX4 TX4 8, w ∈ wsX4_readLot := z_inr [130, 131, 132, 133, 134, 135, 136, 137] rfl
set_option maxHeartbeats 4000000 in
set_option maxRecDepth 100000 in
theorem kX4_readLot (l : Launch) (D : va_G) (cA : Nat → ClassId) (h : Nat → Nat) (t_size : Int32) (t_errorAt : Int32) (t_bytes : Nat → Int32) (t_length : Int32) (t_at : Int32) (t_error : Int32) (t_costsRead : Int32) (t_slipRead : Int32) (b_height : Int32) (b_count : Int32) (b_room : Int32) (b_account : Int32) (b_lines : Nat → Int32) (b_estimates : Nat → Int32) (b_sellers : Nat → Int32) (b_printed : Nat → Int32) (b_wanted : Nat → Int32) (b_slipped : Nat → Int32) (u : Int32 × Int32 × Int32 × Int32 × (Nat → Int32) × (Nat → Int32) × (Nat → Int32) × (Nat → Int32) × (Nat → Int32) × (Nat → Int32)) (hf : fX4_readLot t_errorAt t_bytes t_length t_at t_error b_height b_count b_lines b_estimates b_sellers b_printed b_wanted b_slipped = some u) : zMvX zE l yX4_readLot wsX4_readLot ({ frames := 5, cells := 0, slots := 0, locals := 107 } : Room) D (zTY cA) [.ref (h 0), .ref (h 2)] (W_X4_readLot cA h t_size t_errorAt t_bytes t_length t_at t_error t_costsRead t_slipRead b_height b_count b_room b_account b_lines b_estimates b_sellers b_printed b_wanted b_slipped) (W_X4_readLot cA h t_size (u.1) t_bytes t_length (u.2.1) (u.2.2.1) t_costsRead t_slipRead b_height (u.2.2.2.1) b_room b_account (u.2.2.2.2.1) (u.2.2.2.2.2.1) (u.2.2.2.2.2.2.1) (u.2.2.2.2.2.2.2.1) (u.2.2.2.2.2.2.2.2.1) (u.2.2.2.2.2.2.2.2.2)) := by
  refine z_startvX (cc := cX4_readLot) (maxL := 8) (ret := none) (by decide) rfl (Nat.le_of_ble_eq_true rfl) ?_
  intro p e s m args below meth c A hx hb hr hts hown hlocks hml hA hE Z ls hl
  replace hown : s.vm.findClass RX4 = some m.cls := hown
  replace hl : lv_has ls 8 [(0, .ref (h 0)), (1, .ref (h 2))] := hl
  obtain ⟨H, hH⟩ : ∃ H, H = s.heap := ⟨_, rfl⟩
  rw [← hH] at Z ⊢
  clear hH
  obtain ⟨locs, hlc⟩ : ∃ q : List Loc, q = [] := ⟨_, rfl⟩
  rw [← hlc] at Z ⊢
  clear hlc
  refine lv_aload_n (pc := 0) hx hb dX4_readLot_0 rfl (lv_at hl 1 rfl) ?_
  refine z_get (pc := 1) (ref := "LotSheet$Bill") (ci := 0) (C := RX0) (T := TX0) (N := 11) hx hb hts iw_X4_readLot_X0 hown Z 2 rfl rfl 1 (by decide) (List.mem_of_getElem? (i := 1) rfl) rfl rfl dX4_readLot_1 ?_
  refine lv_bipush (pc := 4) (v := (24 : Int32)) hx hb dX4_readLot_4 (by decide) ?_
  refine lv_icmp_lt (pc := 6) (tgt := 16) hx hb dX4_readLot_6 (by decide) (fun c1 => ?_) (fun c1 => ?_)
  · replace hf := o_pos c1 hf
    refine lv_aload_n (pc := 16) hx hb dX4_readLot_16 rfl (lv_at hl 0 rfl) ?_
    refine lv_dup (pc := 17) hx hb dX4_readLot_17 rfl ?_
    refine z_get (pc := 18) (ref := "LotSheet$SetupText") (ci := 4) (C := RX4) (T := TX4) (N := 8) hx hb hts iw_X4_readLot_X4 hown Z 0 rfl rfl 4 (by decide) (List.mem_of_getElem? (i := 2) rfl) rfl rfl dX4_readLot_18 ?_
    refine lv_iconst (pc := 21) (v := (3 : Int32)) hx hb dX4_readLot_21 (by decide) ?_
    refine lv_iadd (pc := 22) hx hb dX4_readLot_22 ?_
    refine lv_topi (fun x2 ex2 => ?_)
    replace hf := o_letE ex2 hf
    refine z_put (pc := 23) (ref := "LotSheet$SetupText") (ci := 4) (C := RX4) (T := TX4) (N := 8) (W1 := (W_X4_readLot cA h t_size t_errorAt t_bytes t_length x2 t_error t_costsRead t_slipRead b_height b_count b_room b_account b_lines b_estimates b_sellers b_printed b_wanted b_slipped)) hx hb hts iw_X4_readLot_X4 tyX4 tyX4_ok nmX4 hown Z 0 rfl rfl 4 (by decide) (List.mem_of_getElem? (i := 2) rfl) rfl rfl rfl rfl (Nat.le_of_ble_eq_true rfl) dX4_readLot_23 rfl (fun H locs Z => ?_)
    refine lv_aload_n (pc := 26) hx hb dX4_readLot_26 rfl (lv_at hl 0 rfl) ?_
    refine lv_iconst (pc := 27) (v := (1 : Int32)) hx hb dX4_readLot_27 (by decide) ?_
    refine lv_aload_n (pc := 28) hx hb dX4_readLot_28 rfl (lv_at hl 1 rfl) ?_
    obtain ⟨x3, q4, hf⟩ := o_bindE hf
    refine z_callVi (pc := 29) (As := []) (rest := [.int (1 : Int32), .ref (h 0)]) (Wc := (W_X0_mostLines cA (fun k => h ([2, 3, 4, 5, 6, 7, 8, 9].getD k 0)) b_height b_count b_room b_account)) (W1 := (W_X0_mostLines cA (fun k => h ([2, 3, 4, 5, 6, 7, 8, 9].getD k 0)) b_height b_count b_room b_account)) (W2 := (W_X4_readLot cA h t_size t_errorAt t_bytes t_length x2 t_error t_costsRead t_slipRead b_height b_count b_room b_account b_lines b_estimates b_sellers b_printed b_wanted b_slipped)) ⟨hx, hb, hml, hown, hts⟩ (kX0_mostLines l D cA (fun k => h ([2, 3, 4, 5, 6, 7, 8, 9].getD k 0)) b_height b_count b_room b_account _ q4) (cwV 0 hts gX4_readLot_X0_mostLines rfl rfl rfl (by decide +kernel) ⟨Nat.le_of_ble_eq_true rfl, Nat.le_of_ble_eq_true rfl⟩) Z hA [2] rfl (by decide) rfl (ci := 0) rfl rfl rfl rfl hl.1 rfl (Nat.le_of_ble_eq_true rfl) dX4_readLot_29 ⟨Nat.zero_le _, Nat.zero_le _⟩ [none, none, some 0, none, none, none, none, none, none] rfl ⟨rfl, rfl, rfl, rfl, rfl, rfl, rfl, rfl, rfl, rfl⟩ (fun H locs Z => ?_)
    obtain ⟨⟨x5, x6, x7, x8⟩, q9, hf⟩ := o_bindE hf
    refine z_callVi (pc := 32) (As := [.int (1 : Int32), .int x3]) (rest := []) (Wc := (W_X4_takeNumber cA (fun k => h ([0, 1].getD k 0)) t_size t_errorAt t_bytes t_length x2 t_error t_costsRead t_slipRead)) (W1 := (W_X4_takeNumber cA (fun k => h ([0, 1].getD k 0)) t_size x6 t_bytes t_length x7 x8 t_costsRead t_slipRead)) (W2 := (W_X4_readLot cA h t_size x6 t_bytes t_length x7 x8 t_costsRead t_slipRead b_height b_count b_room b_account b_lines b_estimates b_sellers b_printed b_wanted b_slipped)) ⟨hx, hb, hml, hown, hts⟩ (kX4_takeNumber l D cA (fun k => h ([0, 1].getD k 0)) (1 : Int32) x3 t_size t_errorAt t_bytes t_length x2 t_error t_costsRead t_slipRead _ q9) (cwV 2 hts gX4_readLot_X4_takeNumber rfl rfl rfl (by decide +kernel) ⟨Nat.le_of_ble_eq_true rfl, Nat.le_of_ble_eq_true rfl⟩) Z hA [0, 1] rfl (by decide) rfl (ci := 4) rfl rfl rfl rfl hl.1 rfl (Nat.le_of_ble_eq_true rfl) dX4_readLot_32 ⟨Nat.zero_le _, Nat.zero_le _⟩ [some 0, some 1, none, none, none, none, none, none, none] rfl ⟨rfl, rfl, rfl, rfl, rfl, rfl, rfl, rfl, rfl, rfl⟩ (fun H locs Z => ?_)
    refine lv_istore_n (pc := 35) (lv' := [(2, .int x5), (0, .ref (h 0)), (1, .ref (h 2))]) hx hb dX4_readLot_35 rfl hl (by decide) rfl (fun ls hl => ?_)
    refine lv_aload_n (pc := 36) hx hb dX4_readLot_36 rfl (lv_at hl 1 rfl) ?_
    refine lv_iconst (pc := 37) (v := (0 : Int32)) hx hb dX4_readLot_37 (by decide) ?_
    refine lv_sipush (pc := 38) (v := (9999 : Int32)) hx hb dX4_readLot_38 (by decide) ?_
    obtain ⟨⟨x10, x11, x12, x13⟩, q14, hf⟩ := o_bindE hf
    refine z_callVi (pc := 41) (As := [.int (0 : Int32), .int (9999 : Int32)]) (rest := []) (Wc := (W_X4_takeNumber cA (fun k => h ([0, 1].getD k 0)) t_size x6 t_bytes t_length x7 x8 t_costsRead t_slipRead)) (W1 := (W_X4_takeNumber cA (fun k => h ([0, 1].getD k 0)) t_size x11 t_bytes t_length x12 x13 t_costsRead t_slipRead)) (W2 := (W_X4_readLot cA h t_size x11 t_bytes t_length x12 x13 t_costsRead t_slipRead b_height b_count b_room b_account b_lines b_estimates b_sellers b_printed b_wanted b_slipped)) ⟨hx, hb, hml, hown, hts⟩ (kX4_takeNumber l D cA (fun k => h ([0, 1].getD k 0)) (0 : Int32) (9999 : Int32) t_size x6 t_bytes t_length x7 x8 t_costsRead t_slipRead _ q14) (cwV 2 hts gX4_readLot_X4_takeNumber rfl rfl rfl (by decide +kernel) ⟨Nat.le_of_ble_eq_true rfl, Nat.le_of_ble_eq_true rfl⟩) Z hA [0, 1] rfl (by decide) rfl (ci := 4) rfl rfl rfl rfl hl.1 rfl (Nat.le_of_ble_eq_true rfl) dX4_readLot_41 ⟨Nat.zero_le _, Nat.zero_le _⟩ [some 0, some 1, none, none, none, none, none, none, none] rfl ⟨rfl, rfl, rfl, rfl, rfl, rfl, rfl, rfl, rfl, rfl⟩ (fun H locs Z => ?_)
    refine lv_istore_n (pc := 44) (lv' := [(3, .int x10), (2, .int x5), (0, .ref (h 0)), (1, .ref (h 2))]) hx hb dX4_readLot_44 rfl hl (by decide) rfl (fun ls hl => ?_)
    refine lv_aload_n (pc := 45) hx hb dX4_readLot_45 rfl (lv_at hl 2 rfl) ?_
    refine lv_iconst (pc := 46) (v := (0 : Int32)) hx hb dX4_readLot_46 (by decide) ?_
    refine lv_bipush (pc := 47) (v := (9 : Int32)) hx hb dX4_readLot_47 (by decide) ?_
    obtain ⟨⟨x15, x16, x17, x18⟩, q19, hf⟩ := o_bindE hf
    refine z_callVi (pc := 49) (As := [.int (0 : Int32), .int (9 : Int32)]) (rest := []) (Wc := (W_X4_takeNumber cA (fun k => h ([0, 1].getD k 0)) t_size x11 t_bytes t_length x12 x13 t_costsRead t_slipRead)) (W1 := (W_X4_takeNumber cA (fun k => h ([0, 1].getD k 0)) t_size x16 t_bytes t_length x17 x18 t_costsRead t_slipRead)) (W2 := (W_X4_readLot cA h t_size x16 t_bytes t_length x17 x18 t_costsRead t_slipRead b_height b_count b_room b_account b_lines b_estimates b_sellers b_printed b_wanted b_slipped)) ⟨hx, hb, hml, hown, hts⟩ (kX4_takeNumber l D cA (fun k => h ([0, 1].getD k 0)) (0 : Int32) (9 : Int32) t_size x11 t_bytes t_length x12 x13 t_costsRead t_slipRead _ q19) (cwV 2 hts gX4_readLot_X4_takeNumber rfl rfl rfl (by decide +kernel) ⟨Nat.le_of_ble_eq_true rfl, Nat.le_of_ble_eq_true rfl⟩) Z hA [0, 1] rfl (by decide) rfl (ci := 4) rfl rfl rfl rfl hl.1 rfl (Nat.le_of_ble_eq_true rfl) dX4_readLot_49 ⟨Nat.zero_le _, Nat.zero_le _⟩ [some 0, some 1, none, none, none, none, none, none, none] rfl ⟨rfl, rfl, rfl, rfl, rfl, rfl, rfl, rfl, rfl, rfl⟩ (fun H locs Z => ?_)
    refine lv_istore (pc := 52) (lv' := [(4, .int x15), (3, .int x10), (2, .int x5), (0, .ref (h 0)), (1, .ref (h 2))]) hx hb dX4_readLot_52 hl (by decide) rfl (fun ls hl => ?_)
    refine lv_aload_n (pc := 54) hx hb dX4_readLot_54 rfl (lv_at hl 3 rfl) ?_
    obtain ⟨sa20, hr20, hs20⟩ := hE.2.2.2.2.2 ("LotSheet$SetupText", 103, "out", [111, 117, 116]) (List.mem_of_getElem? (i := 4) rfl)
    replace hr20 : vk_R RX4 103 "out" sa20 s := hr20
    replace hs20 : zStr sa20 [111, 117, 116] A s s.heap := hs20
    refine va_ldcS (pc := 55) hx hb hown hr20 dX4_readLot_55 ?_
    obtain ⟨⟨x21, x22⟩, q23, hf⟩ := o_bindE hf
    refine z_callViX (pc := 57) (As := [.ref sa20]) (rest := []) (Wc := (W_X4_nextIsWord cA (fun k => h ([0, 1].getD k 0)) t_size x16 t_bytes t_length x17 x18 t_costsRead t_slipRead)) (W1 := (W_X4_nextIsWord cA (fun k => h ([0, 1].getD k 0)) t_size x16 t_bytes t_length x22 x18 t_costsRead t_slipRead)) (W2 := (W_X4_readLot cA h t_size x16 t_bytes t_length x22 x18 t_costsRead t_slipRead b_height b_count b_room b_account b_lines b_estimates b_sellers b_printed b_wanted b_slipped)) (zXS_pass sa20 [111, 117, 116]) ⟨hE.1, hs20⟩ ⟨hx, hb, hml, hown, hts⟩ (kX4_nextIsWord l D cA (fun k => h ([0, 1].getD k 0)) sa20 [111, 117, 116] t_size x16 t_bytes t_length x17 x18 t_costsRead t_slipRead _ q23) (cwV 1 hts gX4_readLot_X4_nextIsWord rfl rfl rfl (by decide +kernel) ⟨Nat.le_of_ble_eq_true rfl, Nat.le_of_ble_eq_true rfl⟩) Z hA [0, 1] rfl (by decide) rfl (ci := 4) rfl rfl rfl rfl hl.1 rfl (Nat.le_of_ble_eq_true rfl) dX4_readLot_57 ⟨Nat.zero_le _, Nat.zero_le _⟩ [some 0, some 1, none, none, none, none, none, none, none] rfl ⟨rfl, rfl, rfl, rfl, rfl, rfl, rfl, rfl, rfl, rfl⟩ (fun H locs Z => ?_)
    refine lv_istore (pc := 60) (lv' := [(5, .int x21), (4, .int x15), (3, .int x10), (2, .int x5), (0, .ref (h 0)), (1, .ref (h 2))]) hx hb dX4_readLot_60 hl (by decide) rfl (fun ls hl => ?_)
    refine lv_aload_n (pc := 62) hx hb dX4_readLot_62 rfl (lv_at hl 4 rfl) ?_
    obtain ⟨sa24, hr24, hs24⟩ := hE.2.2.2.2.2 ("LotSheet$SetupText", 105, "in", [105, 110]) (List.mem_of_getElem? (i := 5) rfl)
    replace hr24 : vk_R RX4 105 "in" sa24 s := hr24
    replace hs24 : zStr sa24 [105, 110] A s s.heap := hs24
    refine va_ldcS (pc := 63) hx hb hown hr24 dX4_readLot_63 ?_
    obtain ⟨⟨x25, x26⟩, q27, hf⟩ := o_bindE hf
    refine z_callViX (pc := 65) (As := [.ref sa24]) (rest := []) (Wc := (W_X4_nextIsWord cA (fun k => h ([0, 1].getD k 0)) t_size x16 t_bytes t_length x22 x18 t_costsRead t_slipRead)) (W1 := (W_X4_nextIsWord cA (fun k => h ([0, 1].getD k 0)) t_size x16 t_bytes t_length x26 x18 t_costsRead t_slipRead)) (W2 := (W_X4_readLot cA h t_size x16 t_bytes t_length x26 x18 t_costsRead t_slipRead b_height b_count b_room b_account b_lines b_estimates b_sellers b_printed b_wanted b_slipped)) (zXS_pass sa24 [105, 110]) ⟨hE.1, hs24⟩ ⟨hx, hb, hml, hown, hts⟩ (kX4_nextIsWord l D cA (fun k => h ([0, 1].getD k 0)) sa24 [105, 110] t_size x16 t_bytes t_length x22 x18 t_costsRead t_slipRead _ q27) (cwV 1 hts gX4_readLot_X4_nextIsWord rfl rfl rfl (by decide +kernel) ⟨Nat.le_of_ble_eq_true rfl, Nat.le_of_ble_eq_true rfl⟩) Z hA [0, 1] rfl (by decide) rfl (ci := 4) rfl rfl rfl rfl hl.1 rfl (Nat.le_of_ble_eq_true rfl) dX4_readLot_65 ⟨Nat.zero_le _, Nat.zero_le _⟩ [some 0, some 1, none, none, none, none, none, none, none] rfl ⟨rfl, rfl, rfl, rfl, rfl, rfl, rfl, rfl, rfl, rfl⟩ (fun H locs Z => ?_)
    refine lv_istore (pc := 68) (lv' := [(6, .int x25), (5, .int x21), (4, .int x15), (3, .int x10), (2, .int x5), (0, .ref (h 0)), (1, .ref (h 2))]) hx hb dX4_readLot_68 hl (by decide) rfl (fun ls hl => ?_)
    refine lv_iload (pc := 70) hx hb dX4_readLot_70 (lv_at hl 1 rfl) ?_
    obtain ⟨j95_31, ej95_31, hf⟩ := o_jnE hf
    have hj95_31 : ∀ (x29 : Int32) (x30 : Int32) (H : Heap) (locs : List Loc) (ls : Array Slot), zw D (zTY cA) s A (W_X4_readLot cA h t_size x29 t_bytes t_length x26 x30 t_costsRead t_slipRead b_height b_count b_room b_account b_lines b_estimates b_sellers b_printed b_wanted b_slipped) H locs → lv_has ls 8 [(0, .ref (h 0)), (1, .ref (h 2)), (2, .int x5), (3, .int x10), (4, .int x15), (5, .int x21), (6, .int x25)] → j95_31 x29 x30 = some u → W p l e ({ frames := 5, cells := 0, slots := 0, locals := 107 } : Room) s m args below meth c H locs 0 0 (MQ below (zQv D (zTY cA) A (W_X4_readLot cA h t_size (u.1) t_bytes t_length (u.2.1) (u.2.2.1) t_costsRead t_slipRead b_height (u.2.2.2.1) b_room b_account (u.2.2.2.2.1) (u.2.2.2.2.2.1) (u.2.2.2.2.2.2.1) (u.2.2.2.2.2.2.2.1) (u.2.2.2.2.2.2.2.2.1) (u.2.2.2.2.2.2.2.2.2))) args s 0 0 A) (F0 m 95 ls []) := by
      intro x29 x30 H locs ls Z hl hf
      rw [ej95_31] at hf
      refine lv_aload_n (pc := 95) hx hb dX4_readLot_95 rfl (lv_at hl 0 rfl) ?_
      refine z_get (pc := 96) (ref := "LotSheet$SetupText") (ci := 4) (C := RX4) (T := TX4) (N := 8) hx hb hts iw_X4_readLot_X4 hown Z 0 rfl rfl 5 (by decide) (List.mem_of_getElem? (i := 3) rfl) rfl rfl dX4_readLot_96 ?_
      refine lv_if_eq (pc := 99) (tgt := 103) hx hb dX4_readLot_99 (by decide) (fun c32 => ?_) (fun c32 => ?_)
      · replace hf := o_pos c32 hf
        refine lv_aload_n (pc := 103) hx hb dX4_readLot_103 rfl (lv_at hl 0 rfl) ?_
        refine lv_dup (pc := 104) hx hb dX4_readLot_104 rfl ?_
        refine z_get (pc := 105) (ref := "LotSheet$SetupText") (ci := 4) (C := RX4) (T := TX4) (N := 8) hx hb hts iw_X4_readLot_X4 hown Z 0 rfl rfl 4 (by decide) (List.mem_of_getElem? (i := 2) rfl) rfl rfl dX4_readLot_105 ?_
        refine lv_iload (pc := 108) hx hb dX4_readLot_108 (lv_at hl 5 rfl) ?_
        obtain ⟨j127_35, ej127_35, hf⟩ := o_jnE hf
        have hj127_35 : ∀ (x34 : Int32) (H : Heap) (locs : List Loc) (ls : Array Slot), zw D (zTY cA) s A (W_X4_readLot cA h t_size x29 t_bytes t_length x26 x30 t_costsRead t_slipRead b_height b_count b_room b_account b_lines b_estimates b_sellers b_printed b_wanted b_slipped) H locs → lv_has ls 8 [(1, .ref (h 2)), (2, .int x5), (3, .int x10), (4, .int x15), (5, .int x21), (6, .int x25)] → j127_35 x34 = some u → W p l e ({ frames := 5, cells := 0, slots := 0, locals := 107 } : Room) s m args below meth c H locs 0 0 (MQ below (zQv D (zTY cA) A (W_X4_readLot cA h t_size (u.1) t_bytes t_length (u.2.1) (u.2.2.1) t_costsRead t_slipRead b_height (u.2.2.2.1) b_room b_account (u.2.2.2.2.1) (u.2.2.2.2.2.1) (u.2.2.2.2.2.2.1) (u.2.2.2.2.2.2.2.1) (u.2.2.2.2.2.2.2.2.1) (u.2.2.2.2.2.2.2.2.2))) args s 0 0 A) (F0 m 127 ls [.int x34, .int x26, .ref (h 0)]) := by
          intro x34 H locs ls Z hl hf
          rw [ej127_35] at hf
          refine lv_iadd (pc := 127) hx hb dX4_readLot_127 ?_
          refine lv_topi (fun x36 ex36 => ?_)
          replace hf := o_letE ex36 hf
          refine z_put (pc := 128) (ref := "LotSheet$SetupText") (ci := 4) (C := RX4) (T := TX4) (N := 8) (W1 := (W_X4_readLot cA h t_size x29 t_bytes t_length x36 x30 t_costsRead t_slipRead b_height b_count b_room b_account b_lines b_estimates b_sellers b_printed b_wanted b_slipped)) hx hb hts iw_X4_readLot_X4 tyX4 tyX4_ok nmX4 hown Z 0 rfl rfl 4 (by decide) (List.mem_of_getElem? (i := 2) rfl) rfl rfl rfl rfl (Nat.le_of_ble_eq_true rfl) dX4_readLot_128 rfl (fun H locs Z => ?_)
          refine lv_aload_n (pc := 131) hx hb dX4_readLot_131 rfl (lv_at hl 0 rfl) ?_
          refine z_get (pc := 132) (ref := "LotSheet$Bill") (ci := 0) (C := RX0) (T := TX0) (N := 11) hx hb hts iw_X4_readLot_X0 hown Z 2 rfl rfl 1 (by decide) (List.mem_of_getElem? (i := 1) rfl) rfl rfl dX4_readLot_132 ?_
          refine lv_istore (pc := 135) (lv' := [(7, .int b_count), (1, .ref (h 2)), (2, .int x5), (3, .int x10), (4, .int x15), (5, .int x21), (6, .int x25)]) hx hb dX4_readLot_135 hl (by decide) rfl (fun ls hl => ?_)
          refine lv_aload_n (pc := 137) hx hb dX4_readLot_137 rfl (lv_at hl 1 rfl) ?_
          refine lv_iload (pc := 138) hx hb dX4_readLot_138 (lv_at hl 0 rfl) ?_
          refine lv_iload_n (pc := 140) hx hb dX4_readLot_140 rfl (lv_at hl 2 rfl) ?_
          refine lv_iload_n (pc := 141) hx hb dX4_readLot_141 rfl (lv_at hl 3 rfl) ?_
          refine lv_iload (pc := 142) hx hb dX4_readLot_142 (lv_at hl 4 rfl) ?_
          obtain ⟨⟨x37, a38, a39, a40, a41, a42, a43⟩, q44, hf⟩ := o_bindE hf
          refine z_callVv (pc := 144) (As := [.int b_count, .int x5, .int x10, .int x15]) (rest := []) (Wc := (W_X0_insert cA (fun k => h ([2, 3, 4, 5, 6, 7, 8, 9].getD k 0)) b_height b_count b_room b_account b_lines b_estimates b_sellers b_printed b_wanted b_slipped)) (W1 := (W_X0_insert cA (fun k => h ([2, 3, 4, 5, 6, 7, 8, 9].getD k 0)) b_height x37 b_room b_account a38 a39 a40 a41 a42 a43)) (W2 := (W_X4_readLot cA h t_size x29 t_bytes t_length x36 x30 t_costsRead t_slipRead b_height x37 b_room b_account a38 a39 a40 a41 a42 a43)) ⟨hx, hb, hml, hown, hts⟩ (kX0_insert l D cA (fun k => h ([2, 3, 4, 5, 6, 7, 8, 9].getD k 0)) b_count x5 x10 x15 b_height b_count b_room b_account b_lines b_estimates b_sellers b_printed b_wanted b_slipped _ q44) (cwV 4 hts gX4_readLot_X0_insert rfl rfl rfl (by decide +kernel) ⟨Nat.le_of_ble_eq_true rfl, Nat.le_of_ble_eq_true rfl⟩) Z hA [2, 3, 4, 5, 6, 7, 8] rfl (by decide) rfl (ci := 0) rfl rfl rfl rfl hl.1 rfl (Nat.le_of_ble_eq_true rfl) dX4_readLot_144 ⟨Nat.zero_le _, Nat.zero_le _⟩ [none, none, some 0, some 1, some 2, some 3, some 4, some 5, some 6] rfl ⟨rfl, rfl, rfl, rfl, rfl, rfl, rfl, rfl, rfl, rfl⟩ (fun H locs Z => ?_)
          refine lv_aload_n (pc := 147) hx hb dX4_readLot_147 rfl (lv_at hl 1 rfl) ?_
          refine z_get (pc := 148) (ref := "LotSheet$Bill") (ci := 0) (C := RX0) (T := TX0) (N := 11) hx hb hts iw_X4_readLot_X0 hown Z 2 rfl rfl 8 (by decide) (List.mem_of_getElem? (i := 4) rfl) rfl rfl dX4_readLot_148 ?_
          refine lv_iload (pc := 151) hx hb dX4_readLot_151 (lv_at hl 0 rfl) ?_
          refine lv_iload (pc := 153) hx hb dX4_readLot_153 (lv_at hl 6 rfl) ?_
          obtain ⟨j163_47, ej163_47, hf⟩ := o_jnE hf
          have hj163_47 : ∀ (x46 : Int32) (H : Heap) (locs : List Loc) (ls : Array Slot), zw D (zTY cA) s A (W_X4_readLot cA h t_size x29 t_bytes t_length x36 x30 t_costsRead t_slipRead b_height x37 b_room b_account a38 a39 a40 a41 a42 a43) H locs → lv_has ls 8 [(1, .ref (h 2)), (5, .int x21), (7, .int b_count)] → j163_47 x46 = some u → W p l e ({ frames := 5, cells := 0, slots := 0, locals := 107 } : Room) s m args below meth c H locs 0 0 (MQ below (zQv D (zTY cA) A (W_X4_readLot cA h t_size (u.1) t_bytes t_length (u.2.1) (u.2.2.1) t_costsRead t_slipRead b_height (u.2.2.2.1) b_room b_account (u.2.2.2.2.1) (u.2.2.2.2.2.1) (u.2.2.2.2.2.2.1) (u.2.2.2.2.2.2.2.1) (u.2.2.2.2.2.2.2.2.1) (u.2.2.2.2.2.2.2.2.2))) args s 0 0 A) (F0 m 163 ls [.int x46, .int b_count, .ref (h 7)]) := by
            intro x46 H locs ls Z hl hf
            rw [ej163_47] at hf
            obtain ⟨i48, hf⟩ := o_rdE hf
            refine z_zast (pc := 163) hx hb Z 6 1 rfl rfl i48 dX4_readLot_163 (fun g => (W_X4_readLot cA h t_size x29 t_bytes t_length x36 x30 t_costsRead t_slipRead b_height x37 b_room b_account a38 a39 a40 g a42 a43)) (fun _ => rfl) (fun a49 H locs ea49 Z => ?_)
            replace hf := o_letE ea49 hf
            refine lv_aload_n (pc := 164) hx hb dX4_readLot_164 rfl (lv_at hl 0 rfl) ?_
            refine z_get (pc := 165) (ref := "LotSheet$Bill") (ci := 0) (C := RX0) (T := TX0) (N := 11) hx hb hts iw_X4_readLot_X0 hown Z 2 rfl rfl 9 (by decide) (List.mem_of_getElem? (i := 5) rfl) rfl rfl dX4_readLot_165 ?_
            refine lv_iload (pc := 168) hx hb dX4_readLot_168 (lv_at hl 2 rfl) ?_
            refine lv_iload (pc := 170) hx hb dX4_readLot_170 (lv_at hl 1 rfl) ?_
            obtain ⟨j180_52, ej180_52, hf⟩ := o_jnE hf
            have hj180_52 : ∀ (x51 : Int32) (H : Heap) (locs : List Loc) (ls : Array Slot), zw D (zTY cA) s A (W_X4_readLot cA h t_size x29 t_bytes t_length x36 x30 t_costsRead t_slipRead b_height x37 b_room b_account a38 a39 a40 a49 a42 a43) H locs → lv_has ls 8 [] → j180_52 x51 = some u → W p l e ({ frames := 5, cells := 0, slots := 0, locals := 107 } : Room) s m args below meth c H locs 0 0 (MQ below (zQv D (zTY cA) A (W_X4_readLot cA h t_size (u.1) t_bytes t_length (u.2.1) (u.2.2.1) t_costsRead t_slipRead b_height (u.2.2.2.1) b_room b_account (u.2.2.2.2.1) (u.2.2.2.2.2.1) (u.2.2.2.2.2.2.1) (u.2.2.2.2.2.2.2.1) (u.2.2.2.2.2.2.2.2.1) (u.2.2.2.2.2.2.2.2.2))) args s 0 0 A) (F0 m 180 ls [.int x51, .int b_count, .ref (h 8)]) := by
              intro x51 H locs ls Z hl hf
              rw [ej180_52] at hf
              obtain ⟨i53, hf⟩ := o_rdE hf
              refine z_zast (pc := 180) hx hb Z 7 1 rfl rfl i53 dX4_readLot_180 (fun g => (W_X4_readLot cA h t_size x29 t_bytes t_length x36 x30 t_costsRead t_slipRead b_height x37 b_room b_account a38 a39 a40 a49 g a43)) (fun _ => rfl) (fun a54 H locs ea54 Z => ?_)
              replace hf := o_letE ea54 hf
              cases hf
              exact z_vret (pc := 181) hx hb hr hlocks Z rfl dX4_readLot_181
            refine lv_if_ne (pc := 172) (tgt := 179) hx hb dX4_readLot_172 (by decide) (fun c50 => ?_) (fun c50 => ?_)
            · replace hf := o_neg c50 hf
              refine lv_iconst (pc := 179) (v := (0 : Int32)) hx hb dX4_readLot_179 (by decide) ?_
              exact hj180_52 (0 : Int32) H locs ls Z (lv_sub hl [] rfl) hf
            · replace hf := o_pos c50 hf
              refine lv_iconst (pc := 175) (v := (1 : Int32)) hx hb dX4_readLot_175 (by decide) ?_
              refine lv_goto (pc := 176) (tgt := 180) hx hb dX4_readLot_176 (by decide) ?_
              exact hj180_52 (1 : Int32) H locs ls Z (lv_sub hl [] rfl) hf
          refine lv_if_ne (pc := 155) (tgt := 162) hx hb dX4_readLot_155 (by decide) (fun c45 => ?_) (fun c45 => ?_)
          · replace hf := o_neg c45 hf
            refine lv_iconst (pc := 162) (v := (0 : Int32)) hx hb dX4_readLot_162 (by decide) ?_
            exact hj163_47 (0 : Int32) H locs ls Z (lv_sub hl [1, 5, 0] rfl) hf
          · replace hf := o_pos c45 hf
            refine lv_iconst (pc := 158) (v := (1 : Int32)) hx hb dX4_readLot_158 (by decide) ?_
            refine lv_goto (pc := 159) (tgt := 163) hx hb dX4_readLot_159 (by decide) ?_
            exact hj163_47 (1 : Int32) H locs ls Z (lv_sub hl [1, 5, 0] rfl) hf
        refine lv_if_eq (pc := 110) (tgt := 117) hx hb dX4_readLot_110 (by decide) (fun c33 => ?_) (fun c33 => ?_)
        · replace hf := o_pos c33 hf
          refine lv_iload (pc := 117) hx hb dX4_readLot_117 (lv_at hl 6 rfl) ?_
          refine lv_if_eq (pc := 119) (tgt := 126) hx hb dX4_readLot_119 (by decide) (fun c55 => ?_) (fun c55 => ?_)
          · replace hf := o_pos c55 hf
            refine lv_iconst (pc := 126) (v := (0 : Int32)) hx hb dX4_readLot_126 (by decide) ?_
            exact hj127_35 (0 : Int32) H locs ls Z (lv_sub hl [1, 2, 3, 4, 5, 6] rfl) hf
          · replace hf := o_neg c55 hf
            refine lv_iconst (pc := 122) (v := (2 : Int32)) hx hb dX4_readLot_122 (by decide) ?_
            refine lv_goto (pc := 123) (tgt := 127) hx hb dX4_readLot_123 (by decide) ?_
            exact hj127_35 (2 : Int32) H locs ls Z (lv_sub hl [1, 2, 3, 4, 5, 6] rfl) hf
        · replace hf := o_neg c33 hf
          refine lv_iconst (pc := 113) (v := (3 : Int32)) hx hb dX4_readLot_113 (by decide) ?_
          refine lv_goto (pc := 114) (tgt := 127) hx hb dX4_readLot_114 (by decide) ?_
          exact hj127_35 (3 : Int32) H locs ls Z (lv_sub hl [1, 2, 3, 4, 5, 6] rfl) hf
      · replace hf := o_neg c32 hf
        cases hf
        exact z_vret (pc := 102) hx hb hr hlocks Z rfl dX4_readLot_102
    obtain ⟨j80_56, ej80_56, hf⟩ := o_jnE hf
    have hj80_56 : ∀ (H : Heap) (locs : List Loc) (ls : Array Slot), zw D (zTY cA) s A (W_X4_readLot cA h t_size x16 t_bytes t_length x26 x18 t_costsRead t_slipRead b_height b_count b_room b_account b_lines b_estimates b_sellers b_printed b_wanted b_slipped) H locs → lv_has ls 8 [(0, .ref (h 0)), (1, .ref (h 2)), (2, .int x5), (3, .int x10), (4, .int x15), (5, .int x21), (6, .int x25)] → j80_56 = some u → W p l e ({ frames := 5, cells := 0, slots := 0, locals := 107 } : Room) s m args below meth c H locs 0 0 (MQ below (zQv D (zTY cA) A (W_X4_readLot cA h t_size (u.1) t_bytes t_length (u.2.1) (u.2.2.1) t_costsRead t_slipRead b_height (u.2.2.2.1) b_room b_account (u.2.2.2.2.1) (u.2.2.2.2.2.1) (u.2.2.2.2.2.2.1) (u.2.2.2.2.2.2.2.1) (u.2.2.2.2.2.2.2.2.1) (u.2.2.2.2.2.2.2.2.2))) args s 0 0 A) (F0 m 80 ls []) := by
      intro H locs ls Z hl hf
      rw [ej80_56] at hf
      refine lv_aload_n (pc := 80) hx hb dX4_readLot_80 rfl (lv_at hl 1 rfl) ?_
      obtain ⟨x57, q58, hf⟩ := o_bindE hf
      refine z_callVi (pc := 81) (As := []) (rest := []) (Wc := (W_X0_differentLots cA (fun k => h ([2, 3, 4, 5, 6, 7, 8, 9].getD k 0)) b_height b_count b_room b_account b_printed b_wanted)) (W1 := (W_X0_differentLots cA (fun k => h ([2, 3, 4, 5, 6, 7, 8, 9].getD k 0)) b_height b_count b_room b_account b_printed b_wanted)) (W2 := (W_X4_readLot cA h t_size x16 t_bytes t_length x26 x18 t_costsRead t_slipRead b_height b_count b_room b_account b_lines b_estimates b_sellers b_printed b_wanted b_slipped)) ⟨hx, hb, hml, hown, hts⟩ (kX0_differentLots l D cA (fun k => h ([2, 3, 4, 5, 6, 7, 8, 9].getD k 0)) b_height b_count b_room b_account b_printed b_wanted _ q58) (cwV 0 hts gX4_readLot_X0_differentLots rfl rfl rfl (by decide +kernel) ⟨Nat.le_of_ble_eq_true rfl, Nat.le_of_ble_eq_true rfl⟩) Z hA [2, 6, 7] rfl (by decide) rfl (ci := 0) rfl rfl rfl rfl hl.1 rfl (Nat.le_of_ble_eq_true rfl) dX4_readLot_81 ⟨Nat.zero_le _, Nat.zero_le _⟩ [none, none, some 0, none, none, none, some 1, some 2, none] rfl ⟨rfl, rfl, rfl, rfl, rfl, rfl, rfl, rfl, rfl, rfl⟩ (fun H locs Z => ?_)
      refine lv_bipush (pc := 84) (v := (8 : Int32)) hx hb dX4_readLot_84 (by decide) ?_
      refine lv_icmp_lt (pc := 86) (tgt := 95) hx hb dX4_readLot_86 (by decide) (fun c59 => ?_) (fun c59 => ?_)
      · replace hf := o_pos c59 hf
        exact hj95_31 x16 x18 H locs ls Z (lv_sub hl [0, 1, 2, 3, 4, 5, 6] rfl) hf
      · replace hf := o_neg c59 hf
        refine lv_aload_n (pc := 89) hx hb dX4_readLot_89 rfl (lv_at hl 0 rfl) ?_
        refine lv_bipush (pc := 90) (v := (-4 : Int32)) hx hb dX4_readLot_90 (by decide) ?_
        obtain ⟨⟨x60, x61⟩, q62, hf⟩ := o_bindE hf
        refine z_callVv (pc := 92) (As := [.int (-4 : Int32)]) (rest := []) (Wc := (W_X4_fail cA (fun k => h ([0, 1].getD k 0)) t_size x16 t_length x26 x18 t_costsRead t_slipRead)) (W1 := (W_X4_fail cA (fun k => h ([0, 1].getD k 0)) t_size x60 t_length x26 x61 t_costsRead t_slipRead)) (W2 := (W_X4_readLot cA h t_size x60 t_bytes t_length x26 x61 t_costsRead t_slipRead b_height b_count b_room b_account b_lines b_estimates b_sellers b_printed b_wanted b_slipped)) ⟨hx, hb, hml, hown, hts⟩ (kX4_fail l D cA (fun k => h ([0, 1].getD k 0)) (-4 : Int32) t_size x16 t_length x26 x18 t_costsRead t_slipRead _ q62) (cwV 1 hts gX4_readLot_X4_fail rfl rfl rfl (by decide +kernel) ⟨Nat.le_of_ble_eq_true rfl, Nat.le_of_ble_eq_true rfl⟩) Z hA [0] rfl (by decide) rfl (ci := 4) rfl rfl rfl rfl hl.1 rfl (Nat.le_of_ble_eq_true rfl) dX4_readLot_92 ⟨Nat.zero_le _, Nat.zero_le _⟩ [some 0, none, none, none, none, none, none, none, none] rfl ⟨rfl, rfl, rfl, rfl, rfl, rfl, rfl, rfl, rfl, rfl⟩ (fun H locs Z => ?_)
        exact hj95_31 x60 x61 H locs ls Z (lv_sub hl [0, 1, 2, 3, 4, 5, 6] rfl) hf
    refine lv_if_ne (pc := 72) (tgt := 80) hx hb dX4_readLot_72 (by decide) (fun c28 => ?_) (fun c28 => ?_)
    · replace hf := o_neg c28 hf
      exact hj80_56 H locs ls Z (lv_sub hl [5, 6, 4, 3, 2, 1, 0] rfl) hf
    · replace hf := o_pos c28 hf
      refine lv_iload (pc := 75) hx hb dX4_readLot_75 (lv_at hl 0 rfl) ?_
      refine lv_if_eq (pc := 77) (tgt := 95) hx hb dX4_readLot_77 (by decide) (fun c63 => ?_) (fun c63 => ?_)
      · replace hf := o_pos c63 hf
        exact hj95_31 x16 x18 H locs ls Z (lv_sub hl [5, 6, 4, 3, 2, 1, 0] rfl) hf
      · replace hf := o_neg c63 hf
        exact hj80_56 H locs ls Z (lv_sub hl [5, 6, 4, 3, 2, 1, 0] rfl) hf
  · replace hf := o_neg c1 hf
    refine lv_aload_n (pc := 9) hx hb dX4_readLot_9 rfl (lv_at hl 0 rfl) ?_
    refine lv_bipush (pc := 10) (v := (-4 : Int32)) hx hb dX4_readLot_10 (by decide) ?_
    obtain ⟨⟨x64, x65⟩, q66, hf⟩ := o_bindE hf
    refine z_callVv (pc := 12) (As := [.int (-4 : Int32)]) (rest := []) (Wc := (W_X4_fail cA (fun k => h ([0, 1].getD k 0)) t_size t_errorAt t_length t_at t_error t_costsRead t_slipRead)) (W1 := (W_X4_fail cA (fun k => h ([0, 1].getD k 0)) t_size x64 t_length t_at x65 t_costsRead t_slipRead)) (W2 := (W_X4_readLot cA h t_size x64 t_bytes t_length t_at x65 t_costsRead t_slipRead b_height b_count b_room b_account b_lines b_estimates b_sellers b_printed b_wanted b_slipped)) ⟨hx, hb, hml, hown, hts⟩ (kX4_fail l D cA (fun k => h ([0, 1].getD k 0)) (-4 : Int32) t_size t_errorAt t_length t_at t_error t_costsRead t_slipRead _ q66) (cwV 1 hts gX4_readLot_X4_fail rfl rfl rfl (by decide +kernel) ⟨Nat.le_of_ble_eq_true rfl, Nat.le_of_ble_eq_true rfl⟩) Z hA [0] rfl (by decide) rfl (ci := 4) rfl rfl rfl rfl hl.1 rfl (Nat.le_of_ble_eq_true rfl) dX4_readLot_12 ⟨Nat.zero_le _, Nat.zero_le _⟩ [some 0, none, none, none, none, none, none, none, none] rfl ⟨rfl, rfl, rfl, rfl, rfl, rfl, rfl, rfl, rfl, rfl⟩ (fun H locs Z => ?_)
    cases hf
    exact z_vret (pc := 15) hx hb hr hlocks Z rfl dX4_readLot_15
