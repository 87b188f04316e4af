def W_X0_moveOneFurther (cA : Nat → ClassId) (h : Nat → Nat) (b_height : Int32) (b_count : Int32) (b_room : Int32) (b_account : Int32) (b_lines : Nat → Int32) (b_estimates : Nat → Int32) (b_sellers : Nat → Int32) (b_printed : Nat → Int32) (b_wanted : Nat → Int32) (b_slipped : Nat → Int32) : va_W := [(h 0, .inr (0, [.int b_height, .int b_count, .int b_room, .int b_account, .ref (h 1), .ref (h 2), .ref (h 3), .ref (h 4), .ref (h 5), .ref (h 6), .ref (h 7)])), (h 2, .inl (cA 0, 24, .inl b_lines)), (h 3, .inl (cA 0, 24, .inl b_estimates)), (h 4, .inl (cA 0, 24, .inl b_sellers)), (h 5, .inl (cA 1, 24, .inl b_printed)), (h 6, .inl (cA 1, 24, .inl b_wanted)), (h 7, .inl (cA 1, 24, .inl b_slipped))]
def fX0_moveOneFurther (p1 : Int32) (b_lines : Nat → Int32) (b_estimates : Nat → Int32) (b_sellers : Nat → Int32) (b_printed : Nat → Int32) (b_wanted : Nat → Int32) (b_slipped : Nat → Int32) : Option ((Nat → Int32) × (Nat → Int32) × (Nat → Int32) × (Nat → Int32) × (Nat → Int32) × (Nat → Int32)) := (if p1 < 0 then some (b_lines, b_estimates, b_sellers, b_printed, b_wanted, b_slipped) else (if (p1 + (1 : Int32)) < (24 : Int32) then o_rd 24 p1 (o_rd 24 (p1 + (1 : Int32)) (o_let (upd b_lines (p1 + (1 : Int32)).toNatClampNeg (b_lines p1.toNatClampNeg)) (fun a5 => o_rd 24 p1 (o_rd 24 (p1 + (1 : Int32)) (o_let (upd b_estimates (p1 + (1 : Int32)).toNatClampNeg (b_estimates p1.toNatClampNeg)) (fun a8 => o_rd 24 p1 (o_rd 24 (p1 + (1 : Int32)) (o_let (upd b_sellers (p1 + (1 : Int32)).toNatClampNeg (b_sellers p1.toNatClampNeg)) (fun a11 => o_rd 24 p1 (o_rd 24 (p1 + (1 : Int32)) (o_let (upd b_printed (p1 + (1 : Int32)).toNatClampNeg (vp_nar .boolean (b_printed p1.toNatClampNeg))) (fun a14 => o_rd 24 p1 (o_rd 24 (p1 + (1 : Int32)) (o_let (upd b_wanted (p1 + (1 : Int32)).toNatClampNeg (vp_nar .boolean (b_wanted p1.toNatClampNeg))) (fun a17 => o_rd 24 p1 (o_rd 24 (p1 + (1 : Int32)) (o_let (upd b_slipped (p1 + (1 : Int32)).toNatClampNeg (vp_nar .boolean (b_slipped p1.toNatClampNeg))) (fun a20 => some (a5, a8, a11, a14, a17, a20))))))))))))))))))) else some (b_lines, b_estimates, b_sellers, b_printed, b_wanted, b_slipped)))
theorem iw_X0_moveOneFurther_X0 : ∀ w ∈ u_ws RX0 TX0 11, w ∈ wsX0_moveOneFurther := z_inr [7, 8, 9, 10, 11, 12, 13, 14, 15, 16, 17] rfl
set_option maxHeartbeats 4000000 in
set_option maxRecDepth 100000 in
theorem kX0_moveOneFurther (l : Launch) (D : va_G) (cA : Nat → ClassId) (h : Nat → Nat) (p1 : Int32) (b_height : Int32) (b_count : Int32) (b_room : Int32) (b_account : Int32) (b_lines : Nat → Int32) (b_estimates : Nat → Int32) (b_sellers : Nat → Int32) (b_printed : Nat → Int32) (b_wanted : Nat → Int32) (b_slipped : Nat → Int32) (u : (Nat → Int32) × (Nat → Int32) × (Nat → Int32) × (Nat → Int32) × (Nat → Int32) × (Nat → Int32)) (hf : fX0_moveOneFurther p1 b_lines b_estimates b_sellers b_printed b_wanted b_slipped = some u) : zMv l yX0_moveOneFurther wsX0_moveOneFurther ({ frames := 0, cells := 0, slots := 0, locals := 0 } : Room) D (zTY cA) [.ref (h 0), .int p1] (W_X0_moveOneFurther cA h b_height b_count b_room b_account b_lines b_estimates b_sellers b_printed b_wanted b_slipped) (W_X0_moveOneFurther cA h b_height b_count b_room b_account (u.1) (u.2.1) (u.2.2.1) (u.2.2.2.1) (u.2.2.2.2.1) (u.2.2.2.2.2)) := by
  refine z_startv (cc := cX0_moveOneFurther) (maxL := 2) (ret := none) (by decide) rfl (Nat.le_of_ble_eq_true rfl) ?_
  intro p e s m args below meth c A hx hb hr hts hown hlocks hml hA Z ls hl
  replace hown : s.vm.findClass RX0 = some m.cls := hown
  replace hl : lv_has ls 2 [(0, .ref (h 0)), (1, .int p1)] := hl
  obtain ⟨H, hH⟩ : ∃ H, H = s.heap := ⟨_, rfl⟩
  rw [← hH] at Z ⊢
  clear hH
  obtain ⟨locs, hlc⟩ : ∃ q : List Loc, q = [] := ⟨_, rfl⟩
  rw [← hlc] at Z ⊢
  clear hlc
  refine lv_iload_n (pc := 0) hx hb dX0_moveOneFurther_0 rfl (lv_at hl 1 rfl) ?_
  refine lv_if_lt (pc := 1) (tgt := 12) hx hb dX0_moveOneFurther_1 (by decide) (fun c1 => ?_) (fun c1 => ?_)
  · replace hf := o_pos c1 hf
    cases hf
    exact z_vret (pc := 12) hx hb hr hlocks Z rfl dX0_moveOneFurther_12
  · replace hf := o_neg c1 hf
    refine lv_iload_n (pc := 4) hx hb dX0_moveOneFurther_4 rfl (lv_at hl 1 rfl) ?_
    refine lv_iconst (pc := 5) (v := (1 : Int32)) hx hb dX0_moveOneFurther_5 (by decide) ?_
    refine lv_iadd (pc := 6) hx hb dX0_moveOneFurther_6 ?_
    refine lv_bipush (pc := 7) (v := (24 : Int32)) hx hb dX0_moveOneFurther_7 (by decide) ?_
    refine lv_icmp_lt (pc := 9) (tgt := 13) hx hb dX0_moveOneFurther_9 (by decide) (fun c2 => ?_) (fun c2 => ?_)
    · replace hf := o_pos c2 hf
      refine lv_aload_n (pc := 13) hx hb dX0_moveOneFurther_13 rfl (lv_at hl 0 rfl) ?_
      refine z_get (pc := 14) (ref := "LotSheet$Bill") (ci := 0) (C := RX0) (T := TX0) (N := 11) hx hb hts iw_X0_moveOneFurther_X0 hown Z 0 rfl rfl 5 (by decide) (List.mem_of_getElem? (i := 1) rfl) rfl rfl dX0_moveOneFurther_14 ?_
      refine lv_iload_n (pc := 17) hx hb dX0_moveOneFurther_17 rfl (lv_at hl 1 rfl) ?_
      refine lv_iconst (pc := 18) (v := (1 : Int32)) hx hb dX0_moveOneFurther_18 (by decide) ?_
      refine lv_iadd (pc := 19) hx hb dX0_moveOneFurther_19 ?_
      refine lv_aload_n (pc := 20) hx hb dX0_moveOneFurther_20 rfl (lv_at hl 0 rfl) ?_
      refine z_get (pc := 21) (ref := "LotSheet$Bill") (ci := 0) (C := RX0) (T := TX0) (N := 11) hx hb hts iw_X0_moveOneFurther_X0 hown Z 0 rfl rfl 5 (by decide) (List.mem_of_getElem? (i := 1) rfl) rfl rfl dX0_moveOneFurther_21 ?_
      refine lv_iload_n (pc := 24) hx hb dX0_moveOneFurther_24 rfl (lv_at hl 1 rfl) ?_
      obtain ⟨i3, hf⟩ := o_rdE hf
      refine z_iald (pc := 25) hx hb Z 1 0 rfl rfl i3 dX0_moveOneFurther_25 ?_
      obtain ⟨i4, hf⟩ := o_rdE hf
      refine z_iast (pc := 26) hx hb Z 1 0 rfl rfl i4 dX0_moveOneFurther_26 (fun g => (W_X0_moveOneFurther cA h b_height b_count b_room b_account g b_estimates b_sellers b_printed b_wanted b_slipped)) (fun _ => rfl) (fun a5 H locs ea5 Z => ?_)
      replace hf := o_letE ea5 hf
      refine lv_aload_n (pc := 27) hx hb dX0_moveOneFurther_27 rfl (lv_at hl 0 rfl) ?_
      refine z_get (pc := 28) (ref := "LotSheet$Bill") (ci := 0) (C := RX0) (T := TX0) (N := 11) hx hb hts iw_X0_moveOneFurther_X0 hown Z 0 rfl rfl 6 (by decide) (List.mem_of_getElem? (i := 2) rfl) rfl rfl dX0_moveOneFurther_28 ?_
      refine lv_iload_n (pc := 31) hx hb dX0_moveOneFurther_31 rfl (lv_at hl 1 rfl) ?_
      refine lv_iconst (pc := 32) (v := (1 : Int32)) hx hb dX0_moveOneFurther_32 (by decide) ?_
      refine lv_iadd (pc := 33) hx hb dX0_moveOneFurther_33 ?_
      refine lv_aload_n (pc := 34) hx hb dX0_moveOneFurther_34 rfl (lv_at hl 0 rfl) ?_
      refine z_get (pc := 35) (ref := "LotSheet$Bill") (ci := 0) (C := RX0) (T := TX0) (N := 11) hx hb hts iw_X0_moveOneFurther_X0 hown Z 0 rfl rfl 6 (by decide) (List.mem_of_getElem? (i := 2) rfl) rfl rfl dX0_moveOneFurther_35 ?_
      refine lv_iload_n (pc := 38) hx hb dX0_moveOneFurther_38 rfl (lv_at hl 1 rfl) ?_
      obtain ⟨i6, hf⟩ := o_rdE hf
      refine z_iald (pc := 39) hx hb Z 2 0 rfl rfl i6 dX0_moveOneFurther_39 ?_
      obtain ⟨i7, hf⟩ := o_rdE hf
      refine z_iast (pc := 40) hx hb Z 2 0 rfl rfl i7 dX0_moveOneFurther_40 (fun g => (W_X0_moveOneFurther cA h b_height b_count b_room b_account a5 g b_sellers b_printed b_wanted b_slipped)) (fun _ => rfl) (fun a8 H locs ea8 Z => ?_)
      replace hf := o_letE ea8 hf
      refine lv_aload_n (pc := 41) hx hb dX0_moveOneFurther_41 rfl (lv_at hl 0 rfl) ?_
      refine z_get (pc := 42) (ref := "LotSheet$Bill") (ci := 0) (C := RX0) (T := TX0) (N := 11) hx hb hts iw_X0_moveOneFurther_X0 hown Z 0 rfl rfl 7 (by decide) (List.mem_of_getElem? (i := 3) rfl) rfl rfl dX0_moveOneFurther_42 ?_
      refine lv_iload_n (pc := 45) hx hb dX0_moveOneFurther_45 rfl (lv_at hl 1 rfl) ?_
      refine lv_iconst (pc := 46) (v := (1 : Int32)) hx hb dX0_moveOneFurther_46 (by decide) ?_
      refine lv_iadd (pc := 47) hx hb dX0_moveOneFurther_47 ?_
      refine lv_aload_n (pc := 48) hx hb dX0_moveOneFurther_48 rfl (lv_at hl 0 rfl) ?_
      refine z_get (pc := 49) (ref := "LotSheet$Bill") (ci := 0) (C := RX0) (T := TX0) (N := 11) hx hb hts iw_X0_moveOneFurther_X0 hown Z 0 rfl rfl 7 (by decide) (List.mem_of_getElem? (i := 3) rfl) rfl rfl dX0_moveOneFurther_49 ?_
      refine lv_iload_n (pc := 52) hx hb dX0_moveOneFurther_52 rfl (lv_at hl 1 rfl) ?_
      obtain ⟨i9, hf⟩ := o_rdE hf
      refine z_iald (pc := 53) hx hb Z 3 0 rfl rfl i9 dX0_moveOneFurther_53 ?_
      obtain ⟨i10, hf⟩ := o_rdE hf
      refine z_iast (pc := 54) hx hb Z 3 0 rfl rfl i10 dX0_moveOneFurther_54 (fun g => (W_X0_moveOneFurther cA h b_height b_count b_room b_account a5 a8 g b_printed b_wanted b_slipped)) (fun _ => rfl) (fun a11 H locs ea11 Z => ?_)
      replace hf := o_letE ea11 hf
      refine lv_aload_n (pc := 55) hx hb dX0_moveOneFurther_55 rfl (lv_at hl 0 rfl) ?_
      refine z_get (pc := 56) (ref := "LotSheet$Bill") (ci := 0) (C := RX0) (T := TX0) (N := 11) hx hb hts iw_X0_moveOneFurther_X0 hown Z 0 rfl rfl 8 (by decide) (List.mem_of_getElem? (i := 4) rfl) rfl rfl dX0_moveOneFurther_56 ?_
      refine lv_iload_n (pc := 59) hx hb dX0_moveOneFurther_59 rfl (lv_at hl 1 rfl) ?_
      refine lv_iconst (pc := 60) (v := (1 : Int32)) hx hb dX0_moveOneFurther_60 (by decide) ?_
      refine lv_iadd (pc := 61) hx hb dX0_moveOneFurther_61 ?_
      refine lv_aload_n (pc := 62) hx hb dX0_moveOneFurther_62 rfl (lv_at hl 0 rfl) ?_
      refine z_get (pc := 63) (ref := "LotSheet$Bill") (ci := 0) (C := RX0) (T := TX0) (N := 11) hx hb hts iw_X0_moveOneFurther_X0 hown Z 0 rfl rfl 8 (by decide) (List.mem_of_getElem? (i := 4) rfl) rfl rfl dX0_moveOneFurther_63 ?_
      refine lv_iload_n (pc := 66) hx hb dX0_moveOneFurther_66 rfl (lv_at hl 1 rfl) ?_
      obtain ⟨i12, hf⟩ := o_rdE hf
      refine z_zald (pc := 67) hx hb Z 4 1 rfl rfl i12 dX0_moveOneFurther_67 ?_
      obtain ⟨i13, hf⟩ := o_rdE hf
      refine z_zast (pc := 68) hx hb Z 4 1 rfl rfl i13 dX0_moveOneFurther_68 (fun g => (W_X0_moveOneFurther cA h b_height b_count b_room b_account a5 a8 a11 g b_wanted b_slipped)) (fun _ => rfl) (fun a14 H locs ea14 Z => ?_)
      replace hf := o_letE ea14 hf
      refine lv_aload_n (pc := 69) hx hb dX0_moveOneFurther_69 rfl (lv_at hl 0 rfl) ?_
      refine z_get (pc := 70) (ref := "LotSheet$Bill") (ci := 0) (C := RX0) (T := TX0) (N := 11) hx hb hts iw_X0_moveOneFurther_X0 hown Z 0 rfl rfl 9 (by decide) (List.mem_of_getElem? (i := 5) rfl) rfl rfl dX0_moveOneFurther_70 ?_
      refine lv_iload_n (pc := 73) hx hb dX0_moveOneFurther_73 rfl (lv_at hl 1 rfl) ?_
      refine lv_iconst (pc := 74) (v := (1 : Int32)) hx hb dX0_moveOneFurther_74 (by decide) ?_
      refine lv_iadd (pc := 75) hx hb dX0_moveOneFurther_75 ?_
      refine lv_aload_n (pc := 76) hx hb dX0_moveOneFurther_76 rfl (lv_at hl 0 rfl) ?_
      refine z_get (pc := 77) (ref := "LotSheet$Bill") (ci := 0) (C := RX0) (T := TX0) (N := 11) hx hb hts iw_X0_moveOneFurther_X0 hown Z 0 rfl rfl 9 (by decide) (List.mem_of_getElem? (i := 5) rfl) rfl rfl dX0_moveOneFurther_77 ?_
      refine lv_iload_n (pc := 80) hx hb dX0_moveOneFurther_80 rfl (lv_at hl 1 rfl) ?_
      obtain ⟨i15, hf⟩ := o_rdE hf
      refine z_zald (pc := 81) hx hb Z 5 1 rfl rfl i15 dX0_moveOneFurther_81 ?_
      obtain ⟨i16, hf⟩ := o_rdE hf
      refine z_zast (pc := 82) hx hb Z 5 1 rfl rfl i16 dX0_moveOneFurther_82 (fun g => (W_X0_moveOneFurther cA h b_height b_count b_room b_account a5 a8 a11 a14 g b_slipped)) (fun _ => rfl) (fun a17 H locs ea17 Z => ?_)
      replace hf := o_letE ea17 hf
      refine lv_aload_n (pc := 83) hx hb dX0_moveOneFurther_83 rfl (lv_at hl 0 rfl) ?_
      refine z_get (pc := 84) (ref := "LotSheet$Bill") (ci := 0) (C := RX0) (T := TX0) (N := 11) hx hb hts iw_X0_moveOneFurther_X0 hown Z 0 rfl rfl 10 (by decide) (List.mem_of_getElem? (i := 6) rfl) rfl rfl dX0_moveOneFurther_84 ?_
      refine lv_iload_n (pc := 87) hx hb dX0_moveOneFurther_87 rfl (lv_at hl 1 rfl) ?_
      refine lv_iconst (pc := 88) (v := (1 : Int32)) hx hb dX0_moveOneFurther_88 (by decide) ?_
      refine lv_iadd (pc := 89) hx hb dX0_moveOneFurther_89 ?_
      refine lv_aload_n (pc := 90) hx hb dX0_moveOneFurther_90 rfl (lv_at hl 0 rfl) ?_
      refine z_get (pc := 91) (ref := "LotSheet$Bill") (ci := 0) (C := RX0) (T := TX0) (N := 11) hx hb hts iw_X0_moveOneFurther_X0 hown Z 0 rfl rfl 10 (by decide) (List.mem_of_getElem? (i := 6) rfl) rfl rfl dX0_moveOneFurther_91 ?_
      refine lv_iload_n (pc := 94) hx hb dX0_moveOneFurther_94 rfl (lv_at hl 1 rfl) ?_
      obtain ⟨i18, hf⟩ := o_rdE hf
      refine z_zald (pc := 95) hx hb Z 6 1 rfl rfl i18 dX0_moveOneFurther_95 ?_
      obtain ⟨i19, hf⟩ := o_rdE hf
      refine z_zast (pc := 96) hx hb Z 6 1 rfl rfl i19 dX0_moveOneFurther_96 (fun g => (W_X0_moveOneFurther cA h b_height b_count b_room b_account a5 a8 a11 a14 a17 g)) (fun _ => rfl) (fun a20 H locs ea20 Z => ?_)
      replace hf := o_letE ea20 hf
      cases hf
      exact z_vret (pc := 97) hx hb hr hlocks Z rfl dX0_moveOneFurther_97
    · replace hf := o_neg c2 hf
      cases hf
      exact z_vret (pc := 12) hx hb hr hlocks Z rfl dX0_moveOneFurther_12
