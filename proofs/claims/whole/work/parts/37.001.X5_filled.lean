def W_X5_filled (cA : Nat → ClassId) (h : Nat → Nat) (b_height : Int32) (b_count : Int32) (b_room : Int32) (b_account : Int32) (y_pages : Int32) (y_printedLots : Int32) (y_printedLines : Int32) (x_latestErrorOffset : Int32) : va_W := [(h 0, .inr (5, [.ref (h 1), .ref (h 3), .ref (h 11), .ref (h 19), .ref (h 85), .ref (h 92), .int x_latestErrorOffset])), (h 3, .inr (0, [.int b_height, .int b_count, .int b_room, .int b_account, .ref (h 4), .ref (h 5), .ref (h 6), .ref (h 7), .ref (h 8), .ref (h 9), .ref (h 10)])), (h 85, .inr (3, [.ref (h 86), .ref (h 87), .ref (h 88), .ref (h 89), .ref (h 90), .ref (h 91), .int y_pages, .int y_printedLots, .int y_printedLines]))]
def fX5_filled (b_height : Int32) (y_pages : Int32) (y_printedLines : Int32) : Option (UInt64) := o_let (y_pages * b_height) (fun x1 => (if 0 < x1 then o_as (¬ x1 = 0) (some ((FP.ddiv (FP.i2d y_printedLines) (FP.i2d x1)))) else some (FP.dconst0)))
theorem iw_X5_filled_X5 : ∀ w ∈ u_ws RX5 TX5 7, w ∈ wsX5_filled := z_inr [6, 7, 8, 9, 10, 11, 12] rfl
theorem iw_X5_filled_X3 : ∀ w ∈ u_ws RX3 TX3 9, w ∈ wsX5_filled := z_inr [13, 14, 15, 16, 17, 18, 19, 20, 21] rfl
theorem iw_X5_filled_X0 : ∀ w ∈ u_ws RX0 TX0 11, w ∈ wsX5_filled := z_inr [22, 23, 24, 25, 26, 27, 28, 29, 30, 31, 32] rfl
set_option maxHeartbeats 4000000 in
set_option maxRecDepth 100000 in
theorem kX5_filled (l : Launch) (D : va_G) (cA : Nat → ClassId) (h : Nat → Nat) (b_height : Int32) (b_count : Int32) (b_room : Int32) (b_account : Int32) (y_pages : Int32) (y_printedLots : Int32) (y_printedLines : Int32) (x_latestErrorOffset : Int32) (u : UInt64) (hf : fX5_filled b_height y_pages y_printedLines = some u) : zMd l yX5_filled wsX5_filled ({ frames := 0, cells := 0, slots := 0, locals := 0 } : Room) D (zTY cA) [.ref (h 0)] (W_X5_filled cA h b_height b_count b_room b_account y_pages y_printedLots y_printedLines x_latestErrorOffset) (W_X5_filled cA h b_height b_count b_room b_account y_pages y_printedLots y_printedLines x_latestErrorOffset) u := by
  refine z_startd (cc := cX5_filled) (maxL := 2) (ret := (some .double)) (by decide) rfl (Nat.le_of_ble_eq_true rfl) ?_
  intro p e s m args below meth c A hx hb hr hts hown hlocks hml hA Z ls hl
  replace hown : s.vm.findClass RX5 = some m.cls := hown
  replace hl : lv_has ls 2 [(0, .ref (h 0))] := hl
  obtain ⟨H, hH⟩ : ∃ H, H = s.heap := ⟨_, rfl⟩
  rw [← hH] at Z ⊢
  clear hH
  obtain ⟨locs, hlc⟩ : ∃ q : List Loc, q = [] := ⟨_, rfl⟩
  rw [← hlc] at Z ⊢
  clear hlc
  refine lv_aload_n (pc := 0) hx hb dX5_filled_0 rfl (lv_at hl 0 rfl) ?_
  refine z_get (pc := 1) (ref := "LotSheet") (ci := 5) (C := RX5) (T := TX5) (N := 7) hx hb hts iw_X5_filled_X5 hown Z 0 rfl rfl 4 (by decide) (List.mem_of_getElem? (i := 1) rfl) rfl rfl dX5_filled_1 ?_
  refine z_get (pc := 4) (ref := "LotSheet$Layout") (ci := 3) (C := RX3) (T := TX3) (N := 9) hx hb hts iw_X5_filled_X3 hown Z 2 rfl rfl 6 (by decide) (List.mem_of_getElem? (i := 2) rfl) rfl rfl dX5_filled_4 ?_
  refine lv_aload_n (pc := 7) hx hb dX5_filled_7 rfl (lv_at hl 0 rfl) ?_
  refine z_get (pc := 8) (ref := "LotSheet") (ci := 5) (C := RX5) (T := TX5) (N := 7) hx hb hts iw_X5_filled_X5 hown Z 0 rfl rfl 1 (by decide) (List.mem_of_getElem? (i := 3) rfl) rfl rfl dX5_filled_8 ?_
  refine z_get (pc := 11) (ref := "LotSheet$Bill") (ci := 0) (C := RX0) (T := TX0) (N := 11) hx hb hts iw_X5_filled_X0 hown Z 1 rfl rfl 0 (by decide) (List.mem_of_getElem? (i := 4) rfl) rfl rfl dX5_filled_11 ?_
  refine lv_imul (pc := 14) hx hb dX5_filled_14 ?_
  refine lv_topi (fun x1 ex1 => ?_)
  replace hf := o_letE ex1 hf
  refine lv_istore_n (pc := 15) (lv' := [(1, .int x1), (0, .ref (h 0))]) hx hb dX5_filled_15 rfl hl (by decide) rfl (fun ls hl => ?_)
  refine lv_iload_n (pc := 16) hx hb dX5_filled_16 rfl (lv_at hl 0 rfl) ?_
  refine lv_if_gt (pc := 17) (tgt := 22) hx hb dX5_filled_17 (by decide) (fun c2 => ?_) (fun c2 => ?_)
  · replace hf := o_pos c2 hf
    refine lv_aload_n (pc := 22) hx hb dX5_filled_22 rfl (lv_at hl 1 rfl) ?_
    refine z_get (pc := 23) (ref := "LotSheet") (ci := 5) (C := RX5) (T := TX5) (N := 7) hx hb hts iw_X5_filled_X5 hown Z 0 rfl rfl 4 (by decide) (List.mem_of_getElem? (i := 1) rfl) rfl rfl dX5_filled_23 ?_
    refine z_get (pc := 26) (ref := "LotSheet$Layout") (ci := 3) (C := RX3) (T := TX3) (N := 9) hx hb hts iw_X5_filled_X3 hown Z 2 rfl rfl 8 (by decide) (List.mem_of_getElem? (i := 5) rfl) rfl rfl dX5_filled_26 ?_
    refine lv_i2d (pc := 29) hx hb dX5_filled_29 ?_
    refine lv_iload_n (pc := 30) hx hb dX5_filled_30 rfl (lv_at hl 0 rfl) ?_
    refine lv_i2d (pc := 31) hx hb dX5_filled_31 ?_
    obtain ⟨nz3, hf⟩ := o_asE hf
    refine lv_ddiv (pc := 32) hx hb dX5_filled_32 (z_dn nz3) ?_
    cases hf
    exact z_dret (pc := 33) hx hb hr hlocks Z rfl rfl dX5_filled_33
  · replace hf := o_neg c2 hf
    refine lv_dconst0 (pc := 20) hx hb dX5_filled_20 ?_
    cases hf
    exact z_dret (pc := 21) hx hb hr hlocks Z rfl rfl dX5_filled_21
