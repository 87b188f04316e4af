def W_X0_copyFrom (cA : Nat → ClassId) (h : Nat → Nat) (b_height : Int32) (b_count : Int32) (b_room : Int32) (b_account : Int32) (b_costs : Nat → Int32) (b_lines : Nat → Int32) (b_estimates : Nat → Int32) (b_sellers : Nat → Int32) (b_printed : Nat → Int32) (b_wanted : Nat → Int32) (b_slipped : Nat → Int32) (o_height : Int32) (o_count : Int32) (o_room : Int32) (o_account : Int32) (o_costs : Nat → Int32) (o_lines : Nat → Int32) (o_estimates : Nat → Int32) (o_sellers : Nat → Int32) (o_printed : Nat → Int32) (o_wanted : Nat → Int32) (o_slipped : Nat → Int32) : va_W := [(h 0, .inr (0, [.int b_height, .int b_count, .int b_room, .int b_account, .ref (h 1), .ref (h 2), .ref (h 3), .ref (h 4), .ref (h 5), .ref (h 6), .ref (h 7)])), (h 1, .inl (cA 0, 5, .inl b_costs)), (h 2, .inl (cA 0, 24, .inl b_lines)), (h 3, .inl (cA 0, 24, .inl b_estimates)), (h 4, .inl (cA 0, 24, .inl b_sellers)), (h 5, .inl (cA 1, 24, .inl b_printed)), (h 6, .inl (cA 1, 24, .inl b_wanted)), (h 7, .inl (cA 1, 24, .inl b_slipped)), (h 8, .inr (0, [.int o_height, .int o_count, .int o_room, .int o_account, .ref (h 9), .ref (h 10), .ref (h 11), .ref (h 12), .ref (h 13), .ref (h 14), .ref (h 15)])), (h 9, .inl (cA 0, 5, .inl o_costs)), (h 10, .inl (cA 0, 24, .inl o_lines)), (h 11, .inl (cA 0, 24, .inl o_estimates)), (h 12, .inl (cA 0, 24, .inl o_sellers)), (h 13, .inl (cA 1, 24, .inl o_printed)), (h 14, .inl (cA 1, 24, .inl o_wanted)), (h 15, .inl (cA 1, 24, .inl o_slipped))]
def fX0_copyFrom_L93 (o_height : Int32) (o_count : Int32) (o_room : Int32) (o_account : Int32) (a1 : Nat → Int32) (a2 : Nat → Int32) (a3 : Nat → Int32) (a4 : Nat → Int32) (o_printed : Nat → Int32) (o_wanted : Nat → Int32) (o_slipped : Nat → Int32) : Nat → Int32 → (Nat → Int32) → (Nat → Int32) → (Nat → Int32) → Option (Int32 × Int32 × Int32 × Int32 × (Nat → Int32) × (Nat → Int32) × (Nat → Int32) × (Nat → Int32) × (Nat → Int32) × (Nat → Int32) × (Nat → Int32))
  | 0, _, _, _, _ => none
  | n0 + 1, x5, a6, a7, a8 => (if (24 : Int32) ≤ x5 then some (o_height, o_count, o_room, o_account, a1, a2, a3, a4, a6, a7, a8) else o_rd 24 x5 (o_rd 24 x5 (o_let (upd a6 x5.toNatClampNeg (vp_nar .boolean (o_printed x5.toNatClampNeg))) (fun a12 => o_rd 24 x5 (o_rd 24 x5 (o_let (upd a7 x5.toNatClampNeg (vp_nar .boolean (o_wanted x5.toNatClampNeg))) (fun a15 => o_rd 24 x5 (o_rd 24 x5 (o_let (upd a8 x5.toNatClampNeg (vp_nar .boolean (o_slipped x5.toNatClampNeg))) (fun a18 => o_let (x5 + (1 : Int32)) (fun x19 => (fX0_copyFrom_L93 o_height o_count o_room o_account a1 a2 a3 a4 o_printed o_wanted o_slipped n0 x19 a12 a15 a18))))))))))))
def fX0_copyFrom (b_height : Int32) (b_count : Int32) (b_room : Int32) (b_account : Int32) (b_costs : Nat → Int32) (b_lines : Nat → Int32) (b_estimates : Nat → Int32) (b_sellers : Nat → Int32) (b_printed : Nat → Int32) (b_wanted : Nat → Int32) (b_slipped : Nat → Int32) (o_height : Int32) (o_count : Int32) (o_room : Int32) (o_account : Int32) (o_costs : Nat → Int32) (o_lines : Nat → Int32) (o_estimates : Nat → Int32) (o_sellers : Nat → Int32) (o_printed : Nat → Int32) (o_wanted : Nat → Int32) (o_slipped : Nat → Int32) : Option (Int32 × Int32 × Int32 × Int32 × (Nat → Int32) × (Nat → Int32) × (Nat → Int32) × (Nat → Int32) × (Nat → Int32) × (Nat → Int32) × (Nat → Int32)) := o_let (va_cpy o_costs b_costs 0 0 5) (fun a1 => o_let (va_cpy o_lines b_lines 0 0 24) (fun a2 => o_let (va_cpy o_estimates b_estimates 0 0 24) (fun a3 => o_let (va_cpy o_sellers b_sellers 0 0 24) (fun a4 => (fX0_copyFrom_L93 o_height o_count o_room o_account a1 a2 a3 a4 o_printed o_wanted o_slipped 1024 (0 : Int32) b_printed b_wanted b_slipped)))))
theorem iw_X0_copyFrom_X0 : ∀ w ∈ u_ws RX0 TX0 11, w ∈ wsX0_copyFrom := z_inr [16, 17, 18, 19, 20, 21, 22, 23, 24, 25, 26] rfl
set_option maxHeartbeats 4000000 in
set_option maxRecDepth 100000 in
theorem kX0_copyFrom (l : Launch) (D : va_G) (cA : Nat → ClassId) (h : Nat → Nat) (b_height : Int32) (b_count : Int32) (b_room : Int32) (b_account : Int32) (b_costs : Nat → Int32) (b_lines : Nat → Int32) (b_estimates : Nat → Int32) (b_sellers : Nat → Int32) (b_printed : Nat → Int32) (b_wanted : Nat → Int32) (b_slipped : Nat → Int32) (o_height : Int32) (o_count : Int32) (o_room : Int32) (o_account : Int32) (o_costs : Nat → Int32) (o_lines : Nat → Int32) (o_estimates : Nat → Int32) (o_sellers : Nat → Int32) (o_printed : Nat → Int32) (o_wanted : Nat → Int32) (o_slipped : Nat → Int32) (u : Int32 × Int32 × Int32 × Int32 × (Nat → Int32) × (Nat → Int32) × (Nat → Int32) × (Nat → Int32) × (Nat → Int32) × (Nat → Int32) × (Nat → Int32)) (hf : fX0_copyFrom b_height b_count b_room b_account b_costs b_lines b_estimates b_sellers b_printed b_wanted b_slipped o_height o_count o_room o_account o_costs o_lines o_estimates o_sellers o_printed o_wanted o_slipped = some u) : zMv l yX0_copyFrom wsX0_copyFrom ({ frames := 1, cells := 0, slots := 0, locals := 40 } : Room) D (zTY cA) [.ref (h 0), .ref (h 8)] (W_X0_copyFrom cA h b_height b_count b_room b_account b_costs b_lines b_estimates b_sellers b_printed b_wanted b_slipped o_height o_count o_room o_account o_costs o_lines o_estimates o_sellers o_printed o_wanted o_slipped) (W_X0_copyFrom cA h (u.1) (u.2.1) (u.2.2.1) (u.2.2.2.1) (u.2.2.2.2.1) (u.2.2.2.2.2.1) (u.2.2.2.2.2.2.1) (u.2.2.2.2.2.2.2.1) (u.2.2.2.2.2.2.2.2.1) (u.2.2.2.2.2.2.2.2.2.1) (u.2.2.2.2.2.2.2.2.2.2) o_height o_count o_room o_account o_costs o_lines o_estimates o_sellers o_printed o_wanted o_slipped) := by
  refine z_startv (cc := cX0_copyFrom) (maxL := 3) (ret := none) (by decide) rfl (Nat.le_of_ble_eq_true rfl) ?_
  intro p e s m args below meth c A hx hb hr hts hown hlocks hml hA Z ls hl
  replace hown : s.vm.findClass RX0 = some m.cls := hown
  replace hl : lv_has ls 3 [(0, .ref (h 0)), (1, .ref (h 8))] := hl
  obtain ⟨H, hH⟩ : ∃ H, H = s.heap := ⟨_, rfl⟩
  rw [← hH] at Z ⊢
  clear hH
  obtain ⟨locs, hlc⟩ : ∃ q : List Loc, q = [] := ⟨_, rfl⟩
  rw [← hlc] at Z ⊢
  clear hlc
  refine lv_aload_n (pc := 0) hx hb dX0_copyFrom_0 rfl (lv_at hl 0 rfl) ?_
  refine lv_aload_n (pc := 1) hx hb dX0_copyFrom_1 rfl (lv_at hl 1 rfl) ?_
  refine z_get (pc := 2) (ref := "LotSheet$Bill") (ci := 0) (C := RX0) (T := TX0) (N := 11) hx hb hts iw_X0_copyFrom_X0 hown Z 8 rfl rfl 0 (by decide) (List.mem_of_getElem? (i := 1) rfl) rfl rfl dX0_copyFrom_2 ?_
  refine z_put (pc := 5) (ref := "LotSheet$Bill") (ci := 0) (C := RX0) (T := TX0) (N := 11) (W1 := (W_X0_copyFrom cA h o_height b_count b_room b_account b_costs b_lines b_estimates b_sellers b_printed b_wanted b_slipped o_height o_count o_room o_account o_costs o_lines o_estimates o_sellers o_printed o_wanted o_slipped)) hx hb hts iw_X0_copyFrom_X0 tyX0 tyX0_ok nmX0 hown Z 0 rfl rfl 0 (by decide) (List.mem_of_getElem? (i := 1) rfl) rfl rfl rfl rfl (Nat.le_of_ble_eq_true rfl) dX0_copyFrom_5 rfl (fun H locs Z => ?_)
  refine lv_aload_n (pc := 8) hx hb dX0_copyFrom_8 rfl (lv_at hl 0 rfl) ?_
  refine lv_aload_n (pc := 9) hx hb dX0_copyFrom_9 rfl (lv_at hl 1 rfl) ?_
  refine z_get (pc := 10) (ref := "LotSheet$Bill") (ci := 0) (C := RX0) (T := TX0) (N := 11) hx hb hts iw_X0_copyFrom_X0 hown Z 8 rfl rfl 1 (by decide) (List.mem_of_getElem? (i := 2) rfl) rfl rfl dX0_copyFrom_10 ?_
  refine z_put (pc := 13) (ref := "LotSheet$Bill") (ci := 0) (C := RX0) (T := TX0) (N := 11) (W1 := (W_X0_copyFrom cA h o_height o_count b_room b_account b_costs b_lines b_estimates b_sellers b_printed b_wanted b_slipped o_height o_count o_room o_account o_costs o_lines o_estimates o_sellers o_printed o_wanted o_slipped)) hx hb hts iw_X0_copyFrom_X0 tyX0 tyX0_ok nmX0 hown Z 0 rfl rfl 1 (by decide) (List.mem_of_getElem? (i := 2) rfl) rfl rfl rfl rfl (Nat.le_of_ble_eq_true rfl) dX0_copyFrom_13 rfl (fun H locs Z => ?_)
  refine lv_aload_n (pc := 16) hx hb dX0_copyFrom_16 rfl (lv_at hl 0 rfl) ?_
  refine lv_aload_n (pc := 17) hx hb dX0_copyFrom_17 rfl (lv_at hl 1 rfl) ?_
  refine z_get (pc := 18) (ref := "LotSheet$Bill") (ci := 0) (C := RX0) (T := TX0) (N := 11) hx hb hts iw_X0_copyFrom_X0 hown Z 8 rfl rfl 2 (by decide) (List.mem_of_getElem? (i := 3) rfl) rfl rfl dX0_copyFrom_18 ?_
  refine z_put (pc := 21) (ref := "LotSheet$Bill") (ci := 0) (C := RX0) (T := TX0) (N := 11) (W1 := (W_X0_copyFrom cA h o_height o_count o_room b_account b_costs b_lines b_estimates b_sellers b_printed b_wanted b_slipped o_height o_count o_room o_account o_costs o_lines o_estimates o_sellers o_printed o_wanted o_slipped)) hx hb hts iw_X0_copyFrom_X0 tyX0 tyX0_ok nmX0 hown Z 0 rfl rfl 2 (by decide) (List.mem_of_getElem? (i := 3) rfl) rfl rfl rfl rfl (Nat.le_of_ble_eq_true rfl) dX0_copyFrom_21 rfl (fun H locs Z => ?_)
  refine lv_aload_n (pc := 24) hx hb dX0_copyFrom_24 rfl (lv_at hl 0 rfl) ?_
  refine lv_aload_n (pc := 25) hx hb dX0_copyFrom_25 rfl (lv_at hl 1 rfl) ?_
  refine z_get (pc := 26) (ref := "LotSheet$Bill") (ci := 0) (C := RX0) (T := TX0) (N := 11) hx hb hts iw_X0_copyFrom_X0 hown Z 8 rfl rfl 3 (by decide) (List.mem_of_getElem? (i := 4) rfl) rfl rfl dX0_copyFrom_26 ?_
  refine z_put (pc := 29) (ref := "LotSheet$Bill") (ci := 0) (C := RX0) (T := TX0) (N := 11) (W1 := (W_X0_copyFrom cA h o_height o_count o_room o_account b_costs b_lines b_estimates b_sellers b_printed b_wanted b_slipped o_height o_count o_room o_account o_costs o_lines o_estimates o_sellers o_printed o_wanted o_slipped)) hx hb hts iw_X0_copyFrom_X0 tyX0 tyX0_ok nmX0 hown Z 0 rfl rfl 3 (by decide) (List.mem_of_getElem? (i := 4) rfl) rfl rfl rfl rfl (Nat.le_of_ble_eq_true rfl) dX0_copyFrom_29 rfl (fun H locs Z => ?_)
  refine lv_aload_n (pc := 32) hx hb dX0_copyFrom_32 rfl (lv_at hl 1 rfl) ?_
  refine z_get (pc := 33) (ref := "LotSheet$Bill") (ci := 0) (C := RX0) (T := TX0) (N := 11) hx hb hts iw_X0_copyFrom_X0 hown Z 8 rfl rfl 4 (by decide) (List.mem_of_getElem? (i := 5) rfl) rfl rfl dX0_copyFrom_33 ?_
  refine lv_iconst (pc := 36) (v := (0 : Int32)) hx hb dX0_copyFrom_36 (by decide) ?_
  refine lv_aload_n (pc := 37) hx hb dX0_copyFrom_37 rfl (lv_at hl 0 rfl) ?_
  refine z_get (pc := 38) (ref := "LotSheet$Bill") (ci := 0) (C := RX0) (T := TX0) (N := 11) hx hb hts iw_X0_copyFrom_X0 hown Z 0 rfl rfl 4 (by decide) (List.mem_of_getElem? (i := 5) rfl) rfl rfl dX0_copyFrom_38 ?_
  refine lv_iconst (pc := 41) (v := (0 : Int32)) hx hb dX0_copyFrom_41 (by decide) ?_
  refine lv_iconst (pc := 42) (v := (5 : Int32)) hx hb dX0_copyFrom_42 (by decide) ?_
  refine z_copy (pc := 43) hx hb (hml.trans hl.1.symm) hown hts (List.mem_of_getElem? (i := 6) rfl) (List.mem_of_getElem? (i := 7) rfl) (List.mem_of_getElem? (i := 8) rfl) (List.mem_of_getElem? (i := 9) rfl) Z 9 1 0 rfl rfl rfl rfl rfl (by decide) (by decide) (by decide) (by decide) (by decide) (fun _ _ => rfl) (Nat.le_of_ble_eq_true rfl) (Nat.le_of_ble_eq_true rfl) dX0_copyFrom_43 (fun g => (W_X0_copyFrom cA h o_height o_count o_room o_account g b_lines b_estimates b_sellers b_printed b_wanted b_slipped o_height o_count o_room o_account o_costs o_lines o_estimates o_sellers o_printed o_wanted o_slipped)) (fun _ => rfl) (fun a1 H locs ea1 Z => ?_)
  replace hf := o_letE (show a1 = (va_cpy o_costs b_costs 0 0 5) from ea1) hf
  refine lv_aload_n (pc := 46) hx hb dX0_copyFrom_46 rfl (lv_at hl 1 rfl) ?_
  refine z_get (pc := 47) (ref := "LotSheet$Bill") (ci := 0) (C := RX0) (T := TX0) (N := 11) hx hb hts iw_X0_copyFrom_X0 hown Z 8 rfl rfl 5 (by decide) (List.mem_of_getElem? (i := 10) rfl) rfl rfl dX0_copyFrom_47 ?_
  refine lv_iconst (pc := 50) (v := (0 : Int32)) hx hb dX0_copyFrom_50 (by decide) ?_
  refine lv_aload_n (pc := 51) hx hb dX0_copyFrom_51 rfl (lv_at hl 0 rfl) ?_
  refine z_get (pc := 52) (ref := "LotSheet$Bill") (ci := 0) (C := RX0) (T := TX0) (N := 11) hx hb hts iw_X0_copyFrom_X0 hown Z 0 rfl rfl 5 (by decide) (List.mem_of_getElem? (i := 10) rfl) rfl rfl dX0_copyFrom_52 ?_
  refine lv_iconst (pc := 55) (v := (0 : Int32)) hx hb dX0_copyFrom_55 (by decide) ?_
  refine lv_bipush (pc := 56) (v := (24 : Int32)) hx hb dX0_copyFrom_56 (by decide) ?_
  refine z_copy (pc := 58) hx hb (hml.trans hl.1.symm) hown hts (List.mem_of_getElem? (i := 6) rfl) (List.mem_of_getElem? (i := 7) rfl) (List.mem_of_getElem? (i := 8) rfl) (List.mem_of_getElem? (i := 9) rfl) Z 10 2 0 rfl rfl rfl rfl rfl (by decide) (by decide) (by decide) (by decide) (by decide) (fun _ _ => rfl) (Nat.le_of_ble_eq_true rfl) (Nat.le_of_ble_eq_true rfl) dX0_copyFrom_58 (fun g => (W_X0_copyFrom cA h o_height o_count o_room o_account a1 g b_estimates b_sellers b_printed b_wanted b_slipped o_height o_count o_room o_account o_costs o_lines o_estimates o_sellers o_printed o_wanted o_slipped)) (fun _ => rfl) (fun a2 H locs ea2 Z => ?_)
  replace hf := o_letE (show a2 = (va_cpy o_lines b_lines 0 0 24) from ea2) hf
  refine lv_aload_n (pc := 61) hx hb dX0_copyFrom_61 rfl (lv_at hl 1 rfl) ?_
  refine z_get (pc := 62) (ref := "LotSheet$Bill") (ci := 0) (C := RX0) (T := TX0) (N := 11) hx hb hts iw_X0_copyFrom_X0 hown Z 8 rfl rfl 6 (by decide) (List.mem_of_getElem? (i := 11) rfl) rfl rfl dX0_copyFrom_62 ?_
  refine lv_iconst (pc := 65) (v := (0 : Int32)) hx hb dX0_copyFrom_65 (by decide) ?_
  refine lv_aload_n (pc := 66) hx hb dX0_copyFrom_66 rfl (lv_at hl 0 rfl) ?_
  refine z_get (pc := 67) (ref := "LotSheet$Bill") (ci := 0) (C := RX0) (T := TX0) (N := 11) hx hb hts iw_X0_copyFrom_X0 hown Z 0 rfl rfl 6 (by decide) (List.mem_of_getElem? (i := 11) rfl) rfl rfl dX0_copyFrom_67 ?_
  refine lv_iconst (pc := 70) (v := (0 : Int32)) hx hb dX0_copyFrom_70 (by decide) ?_
  refine lv_bipush (pc := 71) (v := (24 : Int32)) hx hb dX0_copyFrom_71 (by decide) ?_
  refine z_copy (pc := 73) hx hb (hml.trans hl.1.symm) hown hts (List.mem_of_getElem? (i := 6) rfl) (List.mem_of_getElem? (i := 7) rfl) (List.mem_of_getElem? (i := 8) rfl) (List.mem_of_getElem? (i := 9) rfl) Z 11 3 0 rfl rfl rfl rfl rfl (by decide) (by decide) (by decide) (by decide) (by decide) (fun _ _ => rfl) (Nat.le_of_ble_eq_true rfl) (Nat.le_of_ble_eq_true rfl) dX0_copyFrom_73 (fun g => (W_X0_copyFrom cA h o_height o_count o_room o_account a1 a2 g b_sellers b_printed b_wanted b_slipped o_height o_count o_room o_account o_costs o_lines o_estimates o_sellers o_printed o_wanted o_slipped)) (fun _ => rfl) (fun a3 H locs ea3 Z => ?_)
  replace hf := o_letE (show a3 = (va_cpy o_estimates b_estimates 0 0 24) from ea3) hf
  refine lv_aload_n (pc := 76) hx hb dX0_copyFrom_76 rfl (lv_at hl 1 rfl) ?_
  refine z_get (pc := 77) (ref := "LotSheet$Bill") (ci := 0) (C := RX0) (T := TX0) (N := 11) hx hb hts iw_X0_copyFrom_X0 hown Z 8 rfl rfl 7 (by decide) (List.mem_of_getElem? (i := 12) rfl) rfl rfl dX0_copyFrom_77 ?_
  refine lv_iconst (pc := 80) (v := (0 : Int32)) hx hb dX0_copyFrom_80 (by decide) ?_
  refine lv_aload_n (pc := 81) hx hb dX0_copyFrom_81 rfl (lv_at hl 0 rfl) ?_
  refine z_get (pc := 82) (ref := "LotSheet$Bill") (ci := 0) (C := RX0) (T := TX0) (N := 11) hx hb hts iw_X0_copyFrom_X0 hown Z 0 rfl rfl 7 (by decide) (List.mem_of_getElem? (i := 12) rfl) rfl rfl dX0_copyFrom_82 ?_
  refine lv_iconst (pc := 85) (v := (0 : Int32)) hx hb dX0_copyFrom_85 (by decide) ?_
  refine lv_bipush (pc := 86) (v := (24 : Int32)) hx hb dX0_copyFrom_86 (by decide) ?_
  refine z_copy (pc := 88) hx hb (hml.trans hl.1.symm) hown hts (List.mem_of_getElem? (i := 6) rfl) (List.mem_of_getElem? (i := 7) rfl) (List.mem_of_getElem? (i := 8) rfl) (List.mem_of_getElem? (i := 9) rfl) Z 12 4 0 rfl rfl rfl rfl rfl (by decide) (by decide) (by decide) (by decide) (by decide) (fun _ _ => rfl) (Nat.le_of_ble_eq_true rfl) (Nat.le_of_ble_eq_true rfl) dX0_copyFrom_88 (fun g => (W_X0_copyFrom cA h o_height o_count o_room o_account a1 a2 a3 g b_printed b_wanted b_slipped o_height o_count o_room o_account o_costs o_lines o_estimates o_sellers o_printed o_wanted o_slipped)) (fun _ => rfl) (fun a4 H locs ea4 Z => ?_)
  replace hf := o_letE (show a4 = (va_cpy o_sellers b_sellers 0 0 24) from ea4) hf
  refine lv_iconst (pc := 91) (v := (0 : Int32)) hx hb dX0_copyFrom_91 (by decide) ?_
  refine lv_istore_n (pc := 92) (lv' := [(2, .int (0 : Int32)), (0, .ref (h 0)), (1, .ref (h 8))]) hx hb dX0_copyFrom_92 rfl hl (by decide) rfl (fun ls hl => ?_)
  have hL93 : ∀ (n0 : Nat) (x5 : Int32) (a6 : Nat → Int32) (a7 : Nat → Int32) (a8 : Nat → Int32) (H : Heap) (locs : List Loc) (ls : Array Slot), zw D (zTY cA) s A (W_X0_copyFrom cA h o_height o_count o_room o_account a1 a2 a3 a4 a6 a7 a8 o_height o_count o_room o_account o_costs o_lines o_estimates o_sellers o_printed o_wanted o_slipped) H locs → lv_has ls 3 [(0, .ref (h 0)), (1, .ref (h 8)), (2, .int x5)] → fX0_copyFrom_L93 o_height o_count o_room o_account a1 a2 a3 a4 o_printed o_wanted o_slipped n0 x5 a6 a7 a8 = some u → W p l e ({ frames := 1, cells := 0, slots := 0, locals := 40 } : Room) s m args below meth c H locs 0 0 (MQ below (zQv D (zTY cA) A (W_X0_copyFrom cA h (u.1) (u.2.1) (u.2.2.1) (u.2.2.2.1) (u.2.2.2.2.1) (u.2.2.2.2.2.1) (u.2.2.2.2.2.2.1) (u.2.2.2.2.2.2.2.1) (u.2.2.2.2.2.2.2.2.1) (u.2.2.2.2.2.2.2.2.2.1) (u.2.2.2.2.2.2.2.2.2.2) o_height o_count o_room o_account o_costs o_lines o_estimates o_sellers o_printed o_wanted o_slipped)) args s 0 0 A) (F0 m 93 ls []) := by
    intro n0
    induction n0 with
    | zero => intro x5 a6 a7 a8 H locs ls Z hl hf; exact o_no hf
    | succ n0 ih0 =>
      intro x5 a6 a7 a8 H locs ls Z hl hf
      refine lv_iload_n (pc := 93) hx hb dX0_copyFrom_93 rfl (lv_at hl 2 rfl) ?_
      refine lv_bipush (pc := 94) (v := (24 : Int32)) hx hb dX0_copyFrom_94 (by decide) ?_
      refine lv_icmp_ge (pc := 96) (tgt := 141) hx hb dX0_copyFrom_96 (by decide) (fun c9 => ?_) (fun c9 => ?_)
      · replace hf := o_pos c9 hf
        cases hf
        exact z_vret (pc := 141) hx hb hr hlocks Z rfl dX0_copyFrom_141
      · replace hf := o_neg c9 hf
        refine lv_aload_n (pc := 99) hx hb dX0_copyFrom_99 rfl (lv_at hl 0 rfl) ?_
        refine z_get (pc := 100) (ref := "LotSheet$Bill") (ci := 0) (C := RX0) (T := TX0) (N := 11) hx hb hts iw_X0_copyFrom_X0 hown Z 0 rfl rfl 8 (by decide) (List.mem_of_getElem? (i := 13) rfl) rfl rfl dX0_copyFrom_100 ?_
        refine lv_iload_n (pc := 103) hx hb dX0_copyFrom_103 rfl (lv_at hl 2 rfl) ?_
        refine lv_aload_n (pc := 104) hx hb dX0_copyFrom_104 rfl (lv_at hl 1 rfl) ?_
        refine z_get (pc := 105) (ref := "LotSheet$Bill") (ci := 0) (C := RX0) (T := TX0) (N := 11) hx hb hts iw_X0_copyFrom_X0 hown Z 8 rfl rfl 8 (by decide) (List.mem_of_getElem? (i := 13) rfl) rfl rfl dX0_copyFrom_105 ?_
        refine lv_iload_n (pc := 108) hx hb dX0_copyFrom_108 rfl (lv_at hl 2 rfl) ?_
        obtain ⟨i10, hf⟩ := o_rdE hf
        refine z_zald (pc := 109) hx hb Z 13 1 rfl rfl i10 dX0_copyFrom_109 ?_
        obtain ⟨i11, hf⟩ := o_rdE hf
        refine z_zast (pc := 110) hx hb Z 5 1 rfl rfl i11 dX0_copyFrom_110 (fun g => (W_X0_copyFrom cA h o_height o_count o_room o_account a1 a2 a3 a4 g a7 a8 o_height o_count o_room o_account o_costs o_lines o_estimates o_sellers o_printed o_wanted o_slipped)) (fun _ => rfl) (fun a12 H locs ea12 Z => ?_)
        replace hf := o_letE ea12 hf
        refine lv_aload_n (pc := 111) hx hb dX0_copyFrom_111 rfl (lv_at hl 0 rfl) ?_
        refine z_get (pc := 112) (ref := "LotSheet$Bill") (ci := 0) (C := RX0) (T := TX0) (N := 11) hx hb hts iw_X0_copyFrom_X0 hown Z 0 rfl rfl 9 (by decide) (List.mem_of_getElem? (i := 14) rfl) rfl rfl dX0_copyFrom_112 ?_
        refine lv_iload_n (pc := 115) hx hb dX0_copyFrom_115 rfl (lv_at hl 2 rfl) ?_
        refine lv_aload_n (pc := 116) hx hb dX0_copyFrom_116 rfl (lv_at hl 1 rfl) ?_
        refine z_get (pc := 117) (ref := "LotSheet$Bill") (ci := 0) (C := RX0) (T := TX0) (N := 11) hx hb hts iw_X0_copyFrom_X0 hown Z 8 rfl rfl 9 (by decide) (List.mem_of_getElem? (i := 14) rfl) rfl rfl dX0_copyFrom_117 ?_
        refine lv_iload_n (pc := 120) hx hb dX0_copyFrom_120 rfl (lv_at hl 2 rfl) ?_
        obtain ⟨i13, hf⟩ := o_rdE hf
        refine z_zald (pc := 121) hx hb Z 14 1 rfl rfl i13 dX0_copyFrom_121 ?_
        obtain ⟨i14, hf⟩ := o_rdE hf
        refine z_zast (pc := 122) hx hb Z 6 1 rfl rfl i14 dX0_copyFrom_122 (fun g => (W_X0_copyFrom cA h o_height o_count o_room o_account a1 a2 a3 a4 a12 g a8 o_height o_count o_room o_account o_costs o_lines o_estimates o_sellers o_printed o_wanted o_slipped)) (fun _ => rfl) (fun a15 H locs ea15 Z => ?_)
        replace hf := o_letE ea15 hf
        refine lv_aload_n (pc := 123) hx hb dX0_copyFrom_123 rfl (lv_at hl 0 rfl) ?_
        refine z_get (pc := 124) (ref := "LotSheet$Bill") (ci := 0) (C := RX0) (T := TX0) (N := 11) hx hb hts iw_X0_copyFrom_X0 hown Z 0 rfl rfl 10 (by decide) (List.mem_of_getElem? (i := 15) rfl) rfl rfl dX0_copyFrom_124 ?_
        refine lv_iload_n (pc := 127) hx hb dX0_copyFrom_127 rfl (lv_at hl 2 rfl) ?_
        refine lv_aload_n (pc := 128) hx hb dX0_copyFrom_128 rfl (lv_at hl 1 rfl) ?_
        refine z_get (pc := 129) (ref := "LotSheet$Bill") (ci := 0) (C := RX0) (T := TX0) (N := 11) hx hb hts iw_X0_copyFrom_X0 hown Z 8 rfl rfl 10 (by decide) (List.mem_of_getElem? (i := 15) rfl) rfl rfl dX0_copyFrom_129 ?_
        refine lv_iload_n (pc := 132) hx hb dX0_copyFrom_132 rfl (lv_at hl 2 rfl) ?_
        obtain ⟨i16, hf⟩ := o_rdE hf
        refine z_zald (pc := 133) hx hb Z 15 1 rfl rfl i16 dX0_copyFrom_133 ?_
        obtain ⟨i17, hf⟩ := o_rdE hf
        refine z_zast (pc := 134) hx hb Z 7 1 rfl rfl i17 dX0_copyFrom_134 (fun g => (W_X0_copyFrom cA h o_height o_count o_room o_account a1 a2 a3 a4 a12 a15 g o_height o_count o_room o_account o_costs o_lines o_estimates o_sellers o_printed o_wanted o_slipped)) (fun _ => rfl) (fun a18 H locs ea18 Z => ?_)
        replace hf := o_letE ea18 hf
        obtain ⟨x19, ex19⟩ : ∃ y : Int32, y = (x5 + (1 : Int32)) := ⟨_, rfl⟩
        replace hf := o_letE ex19 hf
        refine lv_iinc (pc := 135) (v := x19) (lv' := [(2, .int x19), (0, .ref (h 0)), (1, .ref (h 8))]) hx hb dX0_copyFrom_135 hl (k := 2) rfl (by rw [ex19]; rfl) (by decide) rfl (fun ls hl => ?_)
        refine lv_goto (pc := 138) (tgt := 93) hx hb dX0_copyFrom_138 (by decide) ?_
        exact ih0 x19 a12 a15 a18 H locs ls Z (lv_sub hl [1, 2, 0] rfl) hf
  exact hL93 1024 (0 : Int32) b_printed b_wanted b_slipped H locs ls Z (lv_sub hl [1, 2, 0] rfl) hf
