def W_X0_copyFrom (cA : Nat → ClassId) (h : Nat → Nat) (b_height : Int32) (b_count : Int32) (b_room : Int32) (b_account : Int32) (b_costs : Nat → Int32) (b_lines : Nat → Int32) (b_estimates : Nat → Int32) (b_sellers : Nat → Int32) (b_printed : Nat → Int32) (b_wanted : Nat → Int32) (b_slipped : Nat → Int32) (o_height : Int32) (o_count : Int32) (o_room : Int32) (o_account : Int32) (o_costs : Nat → Int32) (o_lines : Nat → Int32) (o_estimates : Nat → Int32) (o_sellers : Nat → Int32) (o_printed : Nat → Int32) (o_wanted : Nat → Int32) (o_slipped : Nat → Int32) : va_W := [(h 0, .inr (0, [.int b_height, .int b_count, .int b_room, .int b_account, .ref (h 1), .ref (h 2), .ref (h 3), .ref (h 4), .ref (h 5), .ref (h 6), .ref (h 7)])), (h 1, .inl (cA 0, 5, .inl b_costs)), (h 2, .inl (cA 0, 24, .inl b_lines)), (h 3, .inl (cA 0, 24, .inl b_estimates)), (h 4, .inl (cA 0, 24, .inl b_sellers)), (h 5, .inl (cA 1, 24, .inl b_printed)), (h 6, .inl (cA 1, 24, .inl b_wanted)), (h 7, .inl (cA 1, 24, .inl b_slipped)), (h 8, .inr (0, [.int o_height, .int o_count, .int o_room, .int o_account, .ref (h 9), .ref (h 10), .ref (h 11), .ref (h 12), .ref (h 13), .ref (h 14), .ref (h 15)])), (h 9, .inl (cA 0, 5, .inl o_costs)), (h 10, .inl (cA 0, 24, .inl o_lines)), (h 11, .inl (cA 0, 24, .inl o_estimates)), (h 12, .inl (cA 0, 24, .inl o_sellers)), (h 13, .inl (cA 1, 24, .inl o_printed)), (h 14, .inl (cA 1, 24, .inl o_wanted)), (h 15, .inl (cA 1, 24, .inl o_slipped))]
def fX0_copyFrom (b_height : Int32) (b_count : Int32) (b_room : Int32) (b_account : Int32) (b_costs : Nat → Int32) (b_lines : Nat → Int32) (b_estimates : Nat → Int32) (b_sellers : Nat → Int32) (b_printed : Nat → Int32) (b_wanted : Nat → Int32) (b_slipped : Nat → Int32) (o_height : Int32) (o_count : Int32) (o_room : Int32) (o_account : Int32) (o_costs : Nat → Int32) (o_lines : Nat → Int32) (o_estimates : Nat → Int32) (o_sellers : Nat → Int32) (o_printed : Nat → Int32) (o_wanted : Nat → Int32) (o_slipped : Nat → Int32) : Option (Int32 × Int32 × Int32 × Int32 × (Nat → Int32) × (Nat → Int32) × (Nat → Int32) × (Nat → Int32) × (Nat → Int32) × (Nat → Int32) × (Nat → Int32)) := o_let (va_cpy o_costs b_costs 0 0 5) (fun a1 => o_let (va_cpy o_lines b_lines 0 0 24) (fun a2 => o_let (va_cpy o_estimates b_estimates 0 0 24) (fun a3 => o_let (va_cpy o_sellers b_sellers 0 0 24) (fun a4 => @o_as _ (o_bo 24 o_printed) (o_boD 24 o_printed) (o_let (va_cpy o_printed b_printed 0 0 24) (fun a6 => @o_as _ (o_bo 24 o_wanted) (o_boD 24 o_wanted) (o_let (va_cpy o_wanted b_wanted 0 0 24) (fun a8 => @o_as _ (o_bo 24 o_slipped) (o_boD 24 o_slipped) (o_let (va_cpy o_slipped b_slipped 0 0 24) (fun a10 => some (o_height, o_count, o_room, o_account, a1, a2, a3, a4, a6, a8, a10)))))))))))
theorem iw_X0_copyFrom_X0 : ∀ w ∈ u_ws RX0 TX0 11, w ∈ wsX0_copyFrom := z_inr [16, 17, 18, 19, 20, 21, 22, 23, 24, 25, 26] rfl
set_option maxHeartbeats 4000000 in
set_option maxRecDepth 100000 in
theorem kX0_copyFrom (l : Launch) (D : va_G) (cA : Nat → ClassId) (h : Nat → Nat) (b_height : Int32) (b_count : Int32) (b_room : Int32) (b_account : Int32) (b_costs : Nat → Int32) (b_lines : Nat → Int32) (b_estimates : Nat → Int32) (b_sellers : Nat → Int32) (b_printed : Nat → Int32) (b_wanted : Nat → Int32) (b_slipped : Nat → Int32) (o_height : Int32) (o_count : Int32) (o_room : Int32) (o_account : Int32) (o_costs : Nat → Int32) (o_lines : Nat → Int32) (o_estimates : Nat → Int32) (o_sellers : Nat → Int32) (o_printed : Nat → Int32) (o_wanted : Nat → Int32) (o_slipped : Nat → Int32) (u : Int32 × Int32 × Int32 × Int32 × (Nat → Int32) × (Nat → Int32) × (Nat → Int32) × (Nat → Int32) × (Nat → Int32) × (Nat → Int32) × (Nat → Int32)) (hf : fX0_copyFrom b_height b_count b_room b_account b_costs b_lines b_estimates b_sellers b_printed b_wanted b_slipped o_height o_count o_room o_account o_costs o_lines o_estimates o_sellers o_printed o_wanted o_slipped = some u) : zMv l yX0_copyFrom wsX0_copyFrom ({ frames := 1, cells := 0, slots := 0, locals := 40 } : Room) D (zTY cA) [.ref (h 0), .ref (h 8)] (W_X0_copyFrom cA h b_height b_count b_room b_account b_costs b_lines b_estimates b_sellers b_printed b_wanted b_slipped o_height o_count o_room o_account o_costs o_lines o_estimates o_sellers o_printed o_wanted o_slipped) (W_X0_copyFrom cA h (u.1) (u.2.1) (u.2.2.1) (u.2.2.2.1) (u.2.2.2.2.1) (u.2.2.2.2.2.1) (u.2.2.2.2.2.2.1) (u.2.2.2.2.2.2.2.1) (u.2.2.2.2.2.2.2.2.1) (u.2.2.2.2.2.2.2.2.2.1) (u.2.2.2.2.2.2.2.2.2.2) o_height o_count o_room o_account o_costs o_lines o_estimates o_sellers o_printed o_wanted o_slipped) := by
  refine z_startv (cc := cX0_copyFrom) (maxL := 2) (ret := none) (by decide) rfl (Nat.le_of_ble_eq_true rfl) ?_
  intro p e s m args below meth c A hx hb hr hts hown hlocks hml hA Z ls hl
  replace hown : s.vm.findClass RX0 = some m.cls := hown
  replace hl : lv_has ls 2 [(0, .ref (h 0)), (1, .ref (h 8))] := hl
  obtain ⟨H, hH⟩ : ∃ H, H = s.heap := ⟨_, rfl⟩
  rw [← hH] at Z ⊢
  clear hH
  obtain ⟨locs, hlc⟩ : ∃ q : List Loc, q = [] := ⟨_, rfl⟩
  rw [← hlc] at Z ⊢
  clear hlc
  refine lv_aload_n (pc := 0) hx hb dX0_copyFrom_0 rfl (lv_at hl 0 rfl) ?_
  refine lv_aload_n (pc := 1) hx hb dX0_copyFrom_1 rfl (lv_at hl 1 rfl) ?_
  refine z_get (pc := 2) (ref := "LotSheet$Bill") (ci := 0) (C := RX0) (T := TX0) (N := 11) hx hb hts iw_X0_copyFrom_X0 hown Z 8 rfl rfl 0 (by decide) (List.mem_of_getElem? (i := 1) rfl) rfl rfl dX0_copyFrom_2 ?_
  refine z_put (pc := 5) (ref := "LotSheet$Bill") (ci := 0) (C := RX0) (T := TX0) (N := 11) (W1 := (W_X0_copyFrom cA h o_height b_count b_room b_account b_costs b_lines b_estimates b_sellers b_printed b_wanted b_slipped o_height o_count o_room o_account o_costs o_lines o_estimates o_sellers o_printed o_wanted o_slipped)) hx hb hts iw_X0_copyFrom_X0 tyX0 tyX0_ok nmX0 hown Z 0 rfl rfl 0 (by decide) (List.mem_of_getElem? (i := 1) rfl) rfl rfl rfl rfl (Nat.le_of_ble_eq_true rfl) dX0_copyFrom_5 rfl (fun H locs Z => ?_)
  refine lv_aload_n (pc := 8) hx hb dX0_copyFrom_8 rfl (lv_at hl 0 rfl) ?_
  refine lv_aload_n (pc := 9) hx hb dX0_copyFrom_9 rfl (lv_at hl 1 rfl) ?_
  refine z_get (pc := 10) (ref := "LotSheet$Bill") (ci := 0) (C := RX0) (T := TX0) (N := 11) hx hb hts iw_X0_copyFrom_X0 hown Z 8 rfl rfl 1 (by decide) (List.mem_of_getElem? (i := 2) rfl) rfl rfl dX0_copyFrom_10 ?_
  refine z_put (pc := 13) (ref := "LotSheet$Bill") (ci := 0) (C := RX0) (T := TX0) (N := 11) (W1 := (W_X0_copyFrom cA h o_height o_count b_room b_account b_costs b_lines b_estimates b_sellers b_printed b_wanted b_slipped o_height o_count o_room o_account o_costs o_lines o_estimates o_sellers o_printed o_wanted o_slipped)) hx hb hts iw_X0_copyFrom_X0 tyX0 tyX0_ok nmX0 hown Z 0 rfl rfl 1 (by decide) (List.mem_of_getElem? (i := 2) rfl) rfl rfl rfl rfl (Nat.le_of_ble_eq_true rfl) dX0_copyFrom_13 rfl (fun H locs Z => ?_)
  refine lv_aload_n (pc := 16) hx hb dX0_copyFrom_16 rfl (lv_at hl 0 rfl) ?_
  refine lv_aload_n (pc := 17) hx hb dX0_copyFrom_17 rfl (lv_at hl 1 rfl) ?_
  refine z_get (pc := 18) (ref := "LotSheet$Bill") (ci := 0) (C := RX0) (T := TX0) (N := 11) hx hb hts iw_X0_copyFrom_X0 hown Z 8 rfl rfl 2 (by decide) (List.mem_of_getElem? (i := 3) rfl) rfl rfl dX0_copyFrom_18 ?_
  refine z_put (pc := 21) (ref := "LotSheet$Bill") (ci := 0) (C := RX0) (T := TX0) (N := 11) (W1 := (W_X0_copyFrom cA h o_height o_count o_room b_account b_costs b_lines b_estimates b_sellers b_printed b_wanted b_slipped o_height o_count o_room o_account o_costs o_lines o_estimates o_sellers o_printed o_wanted o_slipped)) hx hb hts iw_X0_copyFrom_X0 tyX0 tyX0_ok nmX0 hown Z 0 rfl rfl 2 (by decide) (List.mem_of_getElem? (i := 3) rfl) rfl rfl rfl rfl (Nat.le_of_ble_eq_true rfl) dX0_copyFrom_21 rfl (fun H locs Z => ?_)
  refine lv_aload_n (pc := 24) hx hb dX0_copyFrom_24 rfl (lv_at hl 0 rfl) ?_
  refine lv_aload_n (pc := 25) hx hb dX0_copyFrom_25 rfl (lv_at hl 1 rfl) ?_
  refine z_get (pc := 26) (ref := "LotSheet$Bill") (ci := 0) (C := RX0) (T := TX0) (N := 11) hx hb hts iw_X0_copyFrom_X0 hown Z 8 rfl rfl 3 (by decide) (List.mem_of_getElem? (i := 4) rfl) rfl rfl dX0_copyFrom_26 ?_
  refine z_put (pc := 29) (ref := "LotSheet$Bill") (ci := 0) (C := RX0) (T := TX0) (N := 11) (W1 := (W_X0_copyFrom cA h o_height o_count o_room o_account b_costs b_lines b_estimates b_sellers b_printed b_wanted b_slipped o_height o_count o_room o_account o_costs o_lines o_estimates o_sellers o_printed o_wanted o_slipped)) hx hb hts iw_X0_copyFrom_X0 tyX0 tyX0_ok nmX0 hown Z 0 rfl rfl 3 (by decide) (List.mem_of_getElem? (i := 4) rfl) rfl rfl rfl rfl (Nat.le_of_ble_eq_true rfl) dX0_copyFrom_29 rfl (fun H locs Z => ?_)
  refine lv_aload_n (pc := 32) hx hb dX0_copyFrom_32 rfl (lv_at hl 1 rfl) ?_
  refine z_get (pc := 33) (ref := "LotSheet$Bill") (ci := 0) (C := RX0) (T := TX0) (N := 11) hx hb hts iw_X0_copyFrom_X0 hown Z 8 rfl rfl 4 (by decide) (List.mem_of_getElem? (i := 5) rfl) rfl rfl dX0_copyFrom_33 ?_
  refine lv_iconst (pc := 36) (v := (0 : Int32)) hx hb dX0_copyFrom_36 (by decide) ?_
  refine lv_aload_n (pc := 37) hx hb dX0_copyFrom_37 rfl (lv_at hl 0 rfl) ?_
  refine z_get (pc := 38) (ref := "LotSheet$Bill") (ci := 0) (C := RX0) (T := TX0) (N := 11) hx hb hts iw_X0_copyFrom_X0 hown Z 0 rfl rfl 4 (by decide) (List.mem_of_getElem? (i := 5) rfl) rfl rfl dX0_copyFrom_38 ?_
  refine lv_iconst (pc := 41) (v := (0 : Int32)) hx hb dX0_copyFrom_41 (by decide) ?_
  refine lv_iconst (pc := 42) (v := (5 : Int32)) hx hb dX0_copyFrom_42 (by decide) ?_
  refine z_copy (pc := 43) hx hb (hml.trans hl.1.symm) hown hts (List.mem_of_getElem? (i := 6) rfl) (List.mem_of_getElem? (i := 7) rfl) (List.mem_of_getElem? (i := 8) rfl) (List.mem_of_getElem? (i := 9) rfl) Z 9 1 0 rfl rfl rfl rfl rfl (by decide) (by decide) (by decide) (by decide) (by decide) (fun _ _ => rfl) (Nat.le_of_ble_eq_true rfl) (Nat.le_of_ble_eq_true rfl) dX0_copyFrom_43 (fun g => (W_X0_copyFrom cA h o_height o_count o_room o_account g b_lines b_estimates b_sellers b_printed b_wanted b_slipped o_height o_count o_room o_account o_costs o_lines o_estimates o_sellers o_printed o_wanted o_slipped)) (fun _ => rfl) (fun a1 H locs ea1 Z => ?_)
  replace hf := o_letE (show a1 = (va_cpy o_costs b_costs 0 0 5) from ea1) hf
  refine lv_aload_n (pc := 46) hx hb dX0_copyFrom_46 rfl (lv_at hl 1 rfl) ?_
  refine z_get (pc := 47) (ref := "LotSheet$Bill") (ci := 0) (C := RX0) (T := TX0) (N := 11) hx hb hts iw_X0_copyFrom_X0 hown Z 8 rfl rfl 5 (by decide) (List.mem_of_getElem? (i := 10) rfl) rfl rfl dX0_copyFrom_47 ?_
  refine lv_iconst (pc := 50) (v := (0 : Int32)) hx hb dX0_copyFrom_50 (by decide) ?_
  refine lv_aload_n (pc := 51) hx hb dX0_copyFrom_51 rfl (lv_at hl 0 rfl) ?_
  refine z_get (pc := 52) (ref := "LotSheet$Bill") (ci := 0) (C := RX0) (T := TX0) (N := 11) hx hb hts iw_X0_copyFrom_X0 hown Z 0 rfl rfl 5 (by decide) (List.mem_of_getElem? (i := 10) rfl) rfl rfl dX0_copyFrom_52 ?_
  refine lv_iconst (pc := 55) (v := (0 : Int32)) hx hb dX0_copyFrom_55 (by decide) ?_
  refine lv_bipush (pc := 56) (v := (24 : Int32)) hx hb dX0_copyFrom_56 (by decide) ?_
  refine z_copy (pc := 58) hx hb (hml.trans hl.1.symm) hown hts (List.mem_of_getElem? (i := 6) rfl) (List.mem_of_getElem? (i := 7) rfl) (List.mem_of_getElem? (i := 8) rfl) (List.mem_of_getElem? (i := 9) rfl) Z 10 2 0 rfl rfl rfl rfl rfl (by decide) (by decide) (by decide) (by decide) (by decide) (fun _ _ => rfl) (Nat.le_of_ble_eq_true rfl) (Nat.le_of_ble_eq_true rfl) dX0_copyFrom_58 (fun g => (W_X0_copyFrom cA h o_height o_count o_room o_account a1 g b_estimates b_sellers b_printed b_wanted b_slipped o_height o_count o_room o_account o_costs o_lines o_estimates o_sellers o_printed o_wanted o_slipped)) (fun _ => rfl) (fun a2 H locs ea2 Z => ?_)
  replace hf := o_letE (show a2 = (va_cpy o_lines b_lines 0 0 24) from ea2) hf
  refine lv_aload_n (pc := 61) hx hb dX0_copyFrom_61 rfl (lv_at hl 1 rfl) ?_
  refine z_get (pc := 62) (ref := "LotSheet$Bill") (ci := 0) (C := RX0) (T := TX0) (N := 11) hx hb hts iw_X0_copyFrom_X0 hown Z 8 rfl rfl 6 (by decide) (List.mem_of_getElem? (i := 11) rfl) rfl rfl dX0_copyFrom_62 ?_
  refine lv_iconst (pc := 65) (v := (0 : Int32)) hx hb dX0_copyFrom_65 (by decide) ?_
  refine lv_aload_n (pc := 66) hx hb dX0_copyFrom_66 rfl (lv_at hl 0 rfl) ?_
  refine z_get (pc := 67) (ref := "LotSheet$Bill") (ci := 0) (C := RX0) (T := TX0) (N := 11) hx hb hts iw_X0_copyFrom_X0 hown Z 0 rfl rfl 6 (by decide) (List.mem_of_getElem? (i := 11) rfl) rfl rfl dX0_copyFrom_67 ?_
  refine lv_iconst (pc := 70) (v := (0 : Int32)) hx hb dX0_copyFrom_70 (by decide) ?_
  refine lv_bipush (pc := 71) (v := (24 : Int32)) hx hb dX0_copyFrom_71 (by decide) ?_
  refine z_copy (pc := 73) hx hb (hml.trans hl.1.symm) hown hts (List.mem_of_getElem? (i := 6) rfl) (List.mem_of_getElem? (i := 7) rfl) (List.mem_of_getElem? (i := 8) rfl) (List.mem_of_getElem? (i := 9) rfl) Z 11 3 0 rfl rfl rfl rfl rfl (by decide) (by decide) (by decide) (by decide) (by decide) (fun _ _ => rfl) (Nat.le_of_ble_eq_true rfl) (Nat.le_of_ble_eq_true rfl) dX0_copyFrom_73 (fun g => (W_X0_copyFrom cA h o_height o_count o_room o_account a1 a2 g b_sellers b_printed b_wanted b_slipped o_height o_count o_room o_account o_costs o_lines o_estimates o_sellers o_printed o_wanted o_slipped)) (fun _ => rfl) (fun a3 H locs ea3 Z => ?_)
  replace hf := o_letE (show a3 = (va_cpy o_estimates b_estimates 0 0 24) from ea3) hf
  refine lv_aload_n (pc := 76) hx hb dX0_copyFrom_76 rfl (lv_at hl 1 rfl) ?_
  refine z_get (pc := 77) (ref := "LotSheet$Bill") (ci := 0) (C := RX0) (T := TX0) (N := 11) hx hb hts iw_X0_copyFrom_X0 hown Z 8 rfl rfl 7 (by decide) (List.mem_of_getElem? (i := 12) rfl) rfl rfl dX0_copyFrom_77 ?_
  refine lv_iconst (pc := 80) (v := (0 : Int32)) hx hb dX0_copyFrom_80 (by decide) ?_
  refine lv_aload_n (pc := 81) hx hb dX0_copyFrom_81 rfl (lv_at hl 0 rfl) ?_
  refine z_get (pc := 82) (ref := "LotSheet$Bill") (ci := 0) (C := RX0) (T := TX0) (N := 11) hx hb hts iw_X0_copyFrom_X0 hown Z 0 rfl rfl 7 (by decide) (List.mem_of_getElem? (i := 12) rfl) rfl rfl dX0_copyFrom_82 ?_
  refine lv_iconst (pc := 85) (v := (0 : Int32)) hx hb dX0_copyFrom_85 (by decide) ?_
  refine lv_bipush (pc := 86) (v := (24 : Int32)) hx hb dX0_copyFrom_86 (by decide) ?_
  refine z_copy (pc := 88) hx hb (hml.trans hl.1.symm) hown hts (List.mem_of_getElem? (i := 6) rfl) (List.mem_of_getElem? (i := 7) rfl) (List.mem_of_getElem? (i := 8) rfl) (List.mem_of_getElem? (i := 9) rfl) Z 12 4 0 rfl rfl rfl rfl rfl (by decide) (by decide) (by decide) (by decide) (by decide) (fun _ _ => rfl) (Nat.le_of_ble_eq_true rfl) (Nat.le_of_ble_eq_true rfl) dX0_copyFrom_88 (fun g => (W_X0_copyFrom cA h o_height o_count o_room o_account a1 a2 a3 g b_printed b_wanted b_slipped o_height o_count o_room o_account o_costs o_lines o_estimates o_sellers o_printed o_wanted o_slipped)) (fun _ => rfl) (fun a4 H locs ea4 Z => ?_)
  replace hf := o_letE (show a4 = (va_cpy o_sellers b_sellers 0 0 24) from ea4) hf
  refine lv_aload_n (pc := 91) hx hb dX0_copyFrom_91 rfl (lv_at hl 1 rfl) ?_
  refine z_get (pc := 92) (ref := "LotSheet$Bill") (ci := 0) (C := RX0) (T := TX0) (N := 11) hx hb hts iw_X0_copyFrom_X0 hown Z 8 rfl rfl 8 (by decide) (List.mem_of_getElem? (i := 13) rfl) rfl rfl dX0_copyFrom_92 ?_
  refine lv_iconst (pc := 95) (v := (0 : Int32)) hx hb dX0_copyFrom_95 (by decide) ?_
  refine lv_aload_n (pc := 96) hx hb dX0_copyFrom_96 rfl (lv_at hl 0 rfl) ?_
  refine z_get (pc := 97) (ref := "LotSheet$Bill") (ci := 0) (C := RX0) (T := TX0) (N := 11) hx hb hts iw_X0_copyFrom_X0 hown Z 0 rfl rfl 8 (by decide) (List.mem_of_getElem? (i := 13) rfl) rfl rfl dX0_copyFrom_97 ?_
  refine lv_iconst (pc := 100) (v := (0 : Int32)) hx hb dX0_copyFrom_100 (by decide) ?_
  refine lv_bipush (pc := 101) (v := (24 : Int32)) hx hb dX0_copyFrom_101 (by decide) ?_
  obtain ⟨ft5, hf⟩ := o_asE hf
  refine z_copy (pc := 103) hx hb (hml.trans hl.1.symm) hown hts (List.mem_of_getElem? (i := 6) rfl) (List.mem_of_getElem? (i := 7) rfl) (List.mem_of_getElem? (i := 8) rfl) (List.mem_of_getElem? (i := 9) rfl) Z 13 5 1 rfl rfl rfl rfl rfl (by decide) (by decide) (by decide) (by decide) (by decide) (o_boE ft5) (Nat.le_of_ble_eq_true rfl) (Nat.le_of_ble_eq_true rfl) dX0_copyFrom_103 (fun g => (W_X0_copyFrom cA h o_height o_count o_room o_account a1 a2 a3 a4 g b_wanted b_slipped o_height o_count o_room o_account o_costs o_lines o_estimates o_sellers o_printed o_wanted o_slipped)) (fun _ => rfl) (fun a6 H locs ea6 Z => ?_)
  replace hf := o_letE (show a6 = (va_cpy o_printed b_printed 0 0 24) from ea6) hf
  refine lv_aload_n (pc := 106) hx hb dX0_copyFrom_106 rfl (lv_at hl 1 rfl) ?_
  refine z_get (pc := 107) (ref := "LotSheet$Bill") (ci := 0) (C := RX0) (T := TX0) (N := 11) hx hb hts iw_X0_copyFrom_X0 hown Z 8 rfl rfl 9 (by decide) (List.mem_of_getElem? (i := 14) rfl) rfl rfl dX0_copyFrom_107 ?_
  refine lv_iconst (pc := 110) (v := (0 : Int32)) hx hb dX0_copyFrom_110 (by decide) ?_
  refine lv_aload_n (pc := 111) hx hb dX0_copyFrom_111 rfl (lv_at hl 0 rfl) ?_
  refine z_get (pc := 112) (ref := "LotSheet$Bill") (ci := 0) (C := RX0) (T := TX0) (N := 11) hx hb hts iw_X0_copyFrom_X0 hown Z 0 rfl rfl 9 (by decide) (List.mem_of_getElem? (i := 14) rfl) rfl rfl dX0_copyFrom_112 ?_
  refine lv_iconst (pc := 115) (v := (0 : Int32)) hx hb dX0_copyFrom_115 (by decide) ?_
  refine lv_bipush (pc := 116) (v := (24 : Int32)) hx hb dX0_copyFrom_116 (by decide) ?_
  obtain ⟨ft7, hf⟩ := o_asE hf
  refine z_copy (pc := 118) hx hb (hml.trans hl.1.symm) hown hts (List.mem_of_getElem? (i := 6) rfl) (List.mem_of_getElem? (i := 7) rfl) (List.mem_of_getElem? (i := 8) rfl) (List.mem_of_getElem? (i := 9) rfl) Z 14 6 1 rfl rfl rfl rfl rfl (by decide) (by decide) (by decide) (by decide) (by decide) (o_boE ft7) (Nat.le_of_ble_eq_true rfl) (Nat.le_of_ble_eq_true rfl) dX0_copyFrom_118 (fun g => (W_X0_copyFrom cA h o_height o_count o_room o_account a1 a2 a3 a4 a6 g b_slipped o_height o_count o_room o_account o_costs o_lines o_estimates o_sellers o_printed o_wanted o_slipped)) (fun _ => rfl) (fun a8 H locs ea8 Z => ?_)
  replace hf := o_letE (show a8 = (va_cpy o_wanted b_wanted 0 0 24) from ea8) hf
  refine lv_aload_n (pc := 121) hx hb dX0_copyFrom_121 rfl (lv_at hl 1 rfl) ?_
  refine z_get (pc := 122) (ref := "LotSheet$Bill") (ci := 0) (C := RX0) (T := TX0) (N := 11) hx hb hts iw_X0_copyFrom_X0 hown Z 8 rfl rfl 10 (by decide) (List.mem_of_getElem? (i := 15) rfl) rfl rfl dX0_copyFrom_122 ?_
  refine lv_iconst (pc := 125) (v := (0 : Int32)) hx hb dX0_copyFrom_125 (by decide) ?_
  refine lv_aload_n (pc := 126) hx hb dX0_copyFrom_126 rfl (lv_at hl 0 rfl) ?_
  refine z_get (pc := 127) (ref := "LotSheet$Bill") (ci := 0) (C := RX0) (T := TX0) (N := 11) hx hb hts iw_X0_copyFrom_X0 hown Z 0 rfl rfl 10 (by decide) (List.mem_of_getElem? (i := 15) rfl) rfl rfl dX0_copyFrom_127 ?_
  refine lv_iconst (pc := 130) (v := (0 : Int32)) hx hb dX0_copyFrom_130 (by decide) ?_
  refine lv_bipush (pc := 131) (v := (24 : Int32)) hx hb dX0_copyFrom_131 (by decide) ?_
  obtain ⟨ft9, hf⟩ := o_asE hf
  refine z_copy (pc := 133) hx hb (hml.trans hl.1.symm) hown hts (List.mem_of_getElem? (i := 6) rfl) (List.mem_of_getElem? (i := 7) rfl) (List.mem_of_getElem? (i := 8) rfl) (List.mem_of_getElem? (i := 9) rfl) Z 15 7 1 rfl rfl rfl rfl rfl (by decide) (by decide) (by decide) (by decide) (by decide) (o_boE ft9) (Nat.le_of_ble_eq_true rfl) (Nat.le_of_ble_eq_true rfl) dX0_copyFrom_133 (fun g => (W_X0_copyFrom cA h o_height o_count o_room o_account a1 a2 a3 a4 a6 a8 g o_height o_count o_room o_account o_costs o_lines o_estimates o_sellers o_printed o_wanted o_slipped)) (fun _ => rfl) (fun a10 H locs ea10 Z => ?_)
  replace hf := o_letE (show a10 = (va_cpy o_slipped b_slipped 0 0 24) from ea10) hf
  cases hf
  exact z_vret (pc := 136) hx hb hr hlocks Z rfl dX0_copyFrom_136
