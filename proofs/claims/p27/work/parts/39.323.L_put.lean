def fL_put (p2 : Int32) (t_size : Int32) (t_bytes : Nat → Int32) (U_f : Nat → Int32) : Option (Int32 × (Nat → Int32) × (Nat → Int32)) := o_let ((U_f (0 : Int32).toNatClampNeg) - (U_f (0 : Int32).toNatClampNeg) / (20 : Int32) * (20 : Int32)) (fun x1 => o_let ((1 : Int32) + (x1 / (4 : Int32))) (fun x2 => o_rd 8 x2 (o_let ((U_f (0 : Int32).toNatClampNeg) - (U_f (0 : Int32).toNatClampNeg) / (4 : Int32) * (4 : Int32)) (fun x4 => o_rd 8 x2 (o_let (upd U_f x2.toNatClampNeg ((U_f x2.toNatClampNeg) ||| (p2 <<< (((24 : Int32) - ((8 : Int32) * x4)) &&& 31)))) (fun a6 => o_let (upd a6 (0 : Int32).toNatClampNeg ((a6 (0 : Int32).toNatClampNeg) + (1 : Int32))) (fun a7 => o_let ((a7 (0 : Int32).toNatClampNeg) - (a7 (0 : Int32).toNatClampNeg) / (20 : Int32) * (20 : Int32)) (fun x8 => (if x8 = 0 then o_bind (fL_flush t_size t_bytes a7) (fun (x10, a11, a12) => some (x10, a11, a12)) else some (t_size, t_bytes, a7))))))))))
set_option maxHeartbeats 8000000 in
set_option maxRecDepth 100000 in
theorem kL_put (l : Launch) (D : va_G) (cA : Nat → ClassId) (h : Nat → Nat) (a_U : Nat) (p2 : Int32) (t_size : Int32) (t_errorAt : Int32) (t_bytes : Nat → Int32) (t_length : Int32) (t_at : Int32) (t_error : Int32) (t_costsRead : Int32) (t_slipRead : Int32) (b_height : Int32) (b_count : Int32) (b_room : Int32) (b_account : Int32) (b_costs : Nat → Int32) (b_lines : Nat → Int32) (b_estimates : Nat → Int32) (b_sellers : Nat → Int32) (b_printed : Nat → Int32) (b_wanted : Nat → Int32) (b_slipped : Nat → Int32) (o_height : Int32) (o_count : Int32) (o_room : Int32) (o_account : Int32) (o_costs : Nat → Int32) (o_lines : Nat → Int32) (o_estimates : Nat → Int32) (o_sellers : Nat → Int32) (o_printed : Nat → Int32) (o_wanted : Nat → Int32) (o_slipped : Nat → Int32) (hi_past : Nat → Int32 × Int32 × Int32 × Int32 × (Nat → Int32) × (Nat → Int32) × (Nat → Int32) × (Nat → Int32) × (Nat → Int32) × (Nat → Int32) × (Nat → Int32)) (hi_next : Int32) (hi_kept : Int32) (y_numberOf : Nat → Int32) (y_pageOf : Nat → Int32) (y_lineOf : Nat → Int32) (y_usedOn : Nat → Int32) (y_lotsOn : Nat → Int32) (y_firstOn : Nat → Int32) (y_pages : Int32) (y_printedLots : Int32) (y_printedLines : Int32) (c_lots : Nat → Int32) (c_figures : Nat → Int32) (c_count : Int32) (v_numberOf : Nat → Int32) (v_pageOf : Nat → Int32) (v_lineOf : Nat → Int32) (v_usedOn : Nat → Int32) (v_lotsOn : Nat → Int32) (v_firstOn : Nat → Int32) (v_pages : Int32) (v_printedLots : Int32) (v_printedLines : Int32) (c_printedBehind : Nat → Int32) (c_changedOn : Nat → Int32) (c_prices : Nat → Int32) (c_priced : Int32) (x_latestErrorOffset : Int32) (U_f : Nat → Int32) (u : Int32 × (Nat → Int32) × (Nat → Int32)) (hf : fL_put p2 t_size t_bytes U_f = some u) : zG zJ l yL_put wsL_put ({ frames := 3, cells := 0, slots := 0, locals := 69 } : Room) D (zTY cA) [.ref (h 0), .ref a_U, .int p2] (zU [(W_o cA h t_size t_errorAt t_bytes t_length t_at t_error t_costsRead t_slipRead b_height b_count b_room b_account b_costs b_lines b_estimates b_sellers b_printed b_wanted b_slipped o_height o_count o_room o_account o_costs o_lines o_estimates o_sellers o_printed o_wanted o_slipped hi_past hi_next hi_kept y_numberOf y_pageOf y_lineOf y_usedOn y_lotsOn y_firstOn y_pages y_printedLots y_printedLines c_lots c_figures c_count v_numberOf v_pageOf v_lineOf v_usedOn v_lotsOn v_firstOn v_pages v_printedLots v_printedLines c_printedBehind c_changedOn c_prices c_priced x_latestErrorOffset), [(a_U, .inl (cA 0, 8, .inl U_f))]]) (fun v _ => v = none) (fun h9 => zU [(W_o cA h (u.1) t_errorAt (u.2.1) t_length t_at t_error t_costsRead t_slipRead b_height b_count b_room b_account b_costs b_lines b_estimates b_sellers b_printed b_wanted b_slipped o_height o_count o_room o_account o_costs o_lines o_estimates o_sellers o_printed o_wanted o_slipped hi_past hi_next hi_kept y_numberOf y_pageOf y_lineOf y_usedOn y_lotsOn y_firstOn y_pages y_printedLots y_printedLines c_lots c_figures c_count v_numberOf v_pageOf v_lineOf v_usedOn v_lotsOn v_firstOn v_pages v_printedLots v_printedLines c_printedBehind c_changedOn c_prices c_priced x_latestErrorOffset), [(a_U, .inl (cA 0, 8, .inl (u.2.2)))]]) := by
  refine z_startG (cc := cL_put) (maxL := 3) (ret := none) (by decide) rfl (Nat.le_of_ble_eq_true rfl) ?_
  intro p e s m args below meth c A hx hb hr hts hown hlocks hml hA hmn hJ Z ls hl
  replace hown : s.vm.findClass RL = some m.cls := hown
  replace hl : lv_has ls 3 [(0, .ref (h 0)), (1, .ref a_U), (2, .int p2)] := hl
  obtain ⟨Q9, hQ9⟩ : ∃ Q9 : State → Prop, Q9 = MQ below (zQG D (zTY cA) A (fun v _ => v = none) (fun h9 => zU [(W_o cA h (u.1) t_errorAt (u.2.1) t_length t_at t_error t_costsRead t_slipRead b_height b_count b_room b_account b_costs b_lines b_estimates b_sellers b_printed b_wanted b_slipped o_height o_count o_room o_account o_costs o_lines o_estimates o_sellers o_printed o_wanted o_slipped hi_past hi_next hi_kept y_numberOf y_pageOf y_lineOf y_usedOn y_lotsOn y_firstOn y_pages y_printedLots y_printedLines c_lots c_figures c_count v_numberOf v_pageOf v_lineOf v_usedOn v_lotsOn v_firstOn v_pages v_printedLots v_printedLines c_printedBehind c_changedOn c_prices c_priced x_latestErrorOffset), [(a_U, .inl (cA 0, 8, .inl (u.2.2)))]])) args s 0 0 A := ⟨_, rfl⟩
  show W p l e ({ frames := 3, cells := 0, slots := 0, locals := 69 } : Room) s m args below meth c s.heap [] 0 0 (MQ below (zQG D (zTY cA) A (fun v _ => v = none) (fun h9 => zU [(W_o cA h (u.1) t_errorAt (u.2.1) t_length t_at t_error t_costsRead t_slipRead b_height b_count b_room b_account b_costs b_lines b_estimates b_sellers b_printed b_wanted b_slipped o_height o_count o_room o_account o_costs o_lines o_estimates o_sellers o_printed o_wanted o_slipped hi_past hi_next hi_kept y_numberOf y_pageOf y_lineOf y_usedOn y_lotsOn y_firstOn y_pages y_printedLots y_printedLines c_lots c_figures c_count v_numberOf v_pageOf v_lineOf v_usedOn v_lotsOn v_firstOn v_pages v_printedLots v_printedLines c_printedBehind c_changedOn c_prices c_priced x_latestErrorOffset), [(a_U, .inl (cA 0, 8, .inl (u.2.2)))]])) args s 0 0 A) (F0 m 0 ls [])
  rw [← hQ9]
  obtain ⟨H, hH⟩ : ∃ H, H = s.heap := ⟨_, rfl⟩
  rw [← hH] at Z ⊢
  clear hH
  obtain ⟨locs, hlc⟩ : ∃ q : List Loc, q = [] := ⟨_, rfl⟩
  rw [← hlc] at Z ⊢
  clear hlc
  refine lv_aload_n (pc := 0) hx hb dL_put_0 rfl (lv_at hl 1 rfl) ?_
  refine lv_iconst (v := (1 : Int32)) (pc := 1) hx hb dL_put_1 (by decide) ?_
  refine lv_aload_n (pc := 2) hx hb dL_put_2 rfl (lv_at hl 1 rfl) ?_
  refine lv_iconst (v := (0 : Int32)) (pc := 3) hx hb dL_put_3 (by decide) ?_
  refine zu_iald (pc := 4) hx hb Z 1 0 rfl rfl (show ¬ ((0 : Int32) < 0 ∨ 8 ≤ (0 : Int32).toNatClampNeg) by decide) dL_put_4 ?_
  refine lv_bipush (v := (20 : Int32)) (pc := 5) hx hb dL_put_5 (by decide) ?_
  refine lv_irem (pc := 7) hx hb dL_put_7 (by decide) ?_
  refine lv_topi (fun x1 ex1 => ?_)
  replace hf := o_letE ex1 hf
  refine lv_iconst (v := (4 : Int32)) (pc := 8) hx hb dL_put_8 (by decide) ?_
  refine lv_idiv (pc := 9) hx hb dL_put_9 (by decide) ?_
  refine lv_iadd (pc := 10) hx hb dL_put_10 ?_
  refine lv_topi (fun x2 ex2 => ?_)
  replace hf := o_letE ex2 hf
  refine lv_dup2_11 (pc := 11) hx hb dL_put_11 rfl rfl ?_
  obtain ⟨i3, hf⟩ := o_rdE hf
  refine zu_iald (pc := 12) hx hb Z 1 0 rfl rfl i3 dL_put_12 ?_
  refine lv_iload_n (pc := 13) hx hb dL_put_13 rfl (lv_at hl 2 rfl) ?_
  refine lv_bipush (v := (24 : Int32)) (pc := 14) hx hb dL_put_14 (by decide) ?_
  refine lv_bipush (v := (8 : Int32)) (pc := 16) hx hb dL_put_16 (by decide) ?_
  refine lv_aload_n (pc := 18) hx hb dL_put_18 rfl (lv_at hl 1 rfl) ?_
  refine lv_iconst (v := (0 : Int32)) (pc := 19) hx hb dL_put_19 (by decide) ?_
  refine zu_iald (pc := 20) hx hb Z 1 0 rfl rfl (show ¬ ((0 : Int32) < 0 ∨ 8 ≤ (0 : Int32).toNatClampNeg) by decide) dL_put_20 ?_
  refine lv_iconst (v := (4 : Int32)) (pc := 21) hx hb dL_put_21 (by decide) ?_
  refine lv_irem (pc := 22) hx hb dL_put_22 (by decide) ?_
  refine lv_topi (fun x4 ex4 => ?_)
  replace hf := o_letE ex4 hf
  refine lv_imul (pc := 23) hx hb dL_put_23 ?_
  refine lv_isub (pc := 24) hx hb dL_put_24 ?_
  refine lv_ishl (pc := 25) hx hb dL_put_25 ?_
  refine lv_ior (pc := 26) hx hb dL_put_26 ?_
  obtain ⟨i5, hf⟩ := o_rdE hf
  refine zu_iast (pc := 27) hx hb Z 1 0 rfl rfl i5 dL_put_27 (fun g => [(W_o cA h t_size t_errorAt t_bytes t_length t_at t_error t_costsRead t_slipRead b_height b_count b_room b_account b_costs b_lines b_estimates b_sellers b_printed b_wanted b_slipped o_height o_count o_room o_account o_costs o_lines o_estimates o_sellers o_printed o_wanted o_slipped hi_past hi_next hi_kept y_numberOf y_pageOf y_lineOf y_usedOn y_lotsOn y_firstOn y_pages y_printedLots y_printedLines c_lots c_figures c_count v_numberOf v_pageOf v_lineOf v_usedOn v_lotsOn v_firstOn v_pages v_printedLots v_printedLines c_printedBehind c_changedOn c_prices c_priced x_latestErrorOffset), [(a_U, .inl (cA 0, 8, .inl g))]]) (fun _ => rfl) (fun a6 H locs ea6 Z => ?_)
  replace hf := o_letE ea6 hf
  replace Z : zw D (zTY cA) s A (zU [(W_o cA h t_size t_errorAt t_bytes t_length t_at t_error t_costsRead t_slipRead b_height b_count b_room b_account b_costs b_lines b_estimates b_sellers b_printed b_wanted b_slipped o_height o_count o_room o_account o_costs o_lines o_estimates o_sellers o_printed o_wanted o_slipped hi_past hi_next hi_kept y_numberOf y_pageOf y_lineOf y_usedOn y_lotsOn y_firstOn y_pages y_printedLots y_printedLines c_lots c_figures c_count v_numberOf v_pageOf v_lineOf v_usedOn v_lotsOn v_firstOn v_pages v_printedLots v_printedLines c_printedBehind c_changedOn c_prices c_priced x_latestErrorOffset), [(a_U, .inl (cA 0, 8, .inl a6))]]) H locs := Z
  refine lv_aload_n (pc := 28) hx hb dL_put_28 rfl (lv_at hl 1 rfl) ?_
  refine lv_iconst (v := (0 : Int32)) (pc := 29) hx hb dL_put_29 (by decide) ?_
  refine lv_dup2_11 (pc := 30) hx hb dL_put_30 rfl rfl ?_
  refine zu_iald (pc := 31) hx hb Z 1 0 rfl rfl (show ¬ ((0 : Int32) < 0 ∨ 8 ≤ (0 : Int32).toNatClampNeg) by decide) dL_put_31 ?_
  refine lv_iconst (v := (1 : Int32)) (pc := 32) hx hb dL_put_32 (by decide) ?_
  refine lv_iadd (pc := 33) hx hb dL_put_33 ?_
  refine zu_iast (pc := 34) hx hb Z 1 0 rfl rfl (show ¬ ((0 : Int32) < 0 ∨ 8 ≤ (0 : Int32).toNatClampNeg) by decide) dL_put_34 (fun g => [(W_o cA h t_size t_errorAt t_bytes t_length t_at t_error t_costsRead t_slipRead b_height b_count b_room b_account b_costs b_lines b_estimates b_sellers b_printed b_wanted b_slipped o_height o_count o_room o_account o_costs o_lines o_estimates o_sellers o_printed o_wanted o_slipped hi_past hi_next hi_kept y_numberOf y_pageOf y_lineOf y_usedOn y_lotsOn y_firstOn y_pages y_printedLots y_printedLines c_lots c_figures c_count v_numberOf v_pageOf v_lineOf v_usedOn v_lotsOn v_firstOn v_pages v_printedLots v_printedLines c_printedBehind c_changedOn c_prices c_priced x_latestErrorOffset), [(a_U, .inl (cA 0, 8, .inl g))]]) (fun _ => rfl) (fun a7 H locs ea7 Z => ?_)
  replace hf := o_letE ea7 hf
  replace Z : zw D (zTY cA) s A (zU [(W_o cA h t_size t_errorAt t_bytes t_length t_at t_error t_costsRead t_slipRead b_height b_count b_room b_account b_costs b_lines b_estimates b_sellers b_printed b_wanted b_slipped o_height o_count o_room o_account o_costs o_lines o_estimates o_sellers o_printed o_wanted o_slipped hi_past hi_next hi_kept y_numberOf y_pageOf y_lineOf y_usedOn y_lotsOn y_firstOn y_pages y_printedLots y_printedLines c_lots c_figures c_count v_numberOf v_pageOf v_lineOf v_usedOn v_lotsOn v_firstOn v_pages v_printedLots v_printedLines c_printedBehind c_changedOn c_prices c_priced x_latestErrorOffset), [(a_U, .inl (cA 0, 8, .inl a7))]]) H locs := Z
  refine lv_aload_n (pc := 35) hx hb dL_put_35 rfl (lv_at hl 1 rfl) ?_
  refine lv_iconst (v := (0 : Int32)) (pc := 36) hx hb dL_put_36 (by decide) ?_
  refine zu_iald (pc := 37) hx hb Z 1 0 rfl rfl (show ¬ ((0 : Int32) < 0 ∨ 8 ≤ (0 : Int32).toNatClampNeg) by decide) dL_put_37 ?_
  refine lv_bipush (v := (20 : Int32)) (pc := 38) hx hb dL_put_38 (by decide) ?_
  refine lv_irem (pc := 40) hx hb dL_put_40 (by decide) ?_
  refine lv_topi (fun x8 ex8 => ?_)
  replace hf := o_letE ex8 hf
  refine lv_if_ne (tgt := 49) (pc := 41) hx hb dL_put_41 (by decide) (fun c9 => ?_) (fun c9 => ?_)
  · replace hf := o_neg c9 hf
    cases hf
    rw [hQ9]
    exact zg_vret (pc := 49) (L' := [(W_o cA h t_size t_errorAt t_bytes t_length t_at t_error t_costsRead t_slipRead b_height b_count b_room b_account b_costs b_lines b_estimates b_sellers b_printed b_wanted b_slipped o_height o_count o_room o_account o_costs o_lines o_estimates o_sellers o_printed o_wanted o_slipped hi_past hi_next hi_kept y_numberOf y_pageOf y_lineOf y_usedOn y_lotsOn y_firstOn y_pages y_printedLots y_printedLines c_lots c_figures c_count v_numberOf v_pageOf v_lineOf v_usedOn v_lotsOn v_firstOn v_pages v_printedLots v_printedLines c_printedBehind c_changedOn c_prices c_priced x_latestErrorOffset), [(a_U, .inl (cA 0, 8, .inl a7))]]) (fun _ => 0) (by show 0 ≤ 0; omega) (by show 0 ≤ 0; omega) hx hb hr hlocks Z [0, 1] rfl (by decide) rfl rfl dL_put_49
  · replace hf := o_pos c9 hf
    refine lv_aload_n (pc := 44) hx hb dL_put_44 rfl (lv_at hl 0 rfl) ?_
    refine lv_aload_n (pc := 45) hx hb dL_put_45 rfl (lv_at hl 1 rfl) ?_
    obtain ⟨⟨x10, a11, a12⟩, h13, hf⟩ := o_bindE hf
    refine zg_callSv (pc := 46) (As := [.ref (h 0), .ref a_U]) (rest := []) (LF := []) (Lc := [(W_o cA h t_size t_errorAt t_bytes t_length t_at t_error t_costsRead t_slipRead b_height b_count b_room b_account b_costs b_lines b_estimates b_sellers b_printed b_wanted b_slipped o_height o_count o_room o_account o_costs o_lines o_estimates o_sellers o_printed o_wanted o_slipped hi_past hi_next hi_kept y_numberOf y_pageOf y_lineOf y_usedOn y_lotsOn y_firstOn y_pages y_printedLots y_printedLines c_lots c_figures c_count v_numberOf v_pageOf v_lineOf v_usedOn v_lotsOn v_firstOn v_pages v_printedLots v_printedLines c_printedBehind c_changedOn c_prices c_priced x_latestErrorOffset), [(a_U, .inl (cA 0, 8, .inl a7))]]) zJ_pass hJ ⟨hx, hb, hml, hown, hts⟩ (kL_flush l D cA h a_U t_size t_errorAt t_bytes t_length t_at t_error t_costsRead t_slipRead b_height b_count b_room b_account b_costs b_lines b_estimates b_sellers b_printed b_wanted b_slipped o_height o_count o_room o_account o_costs o_lines o_estimates o_sellers o_printed o_wanted o_slipped hi_past hi_next hi_kept y_numberOf y_pageOf y_lineOf y_usedOn y_lotsOn y_firstOn y_pages y_printedLots y_printedLines c_lots c_figures c_count v_numberOf v_pageOf v_lineOf v_usedOn v_lotsOn v_firstOn v_pages v_printedLots v_printedLines c_printedBehind c_changedOn c_prices c_priced x_latestErrorOffset a7 _ h13) (va_cwS 2 hts gL_put_L_flush rfl rfl rfl (by decide +kernel) ⟨(Nat.le_of_ble_eq_true rfl), (Nat.le_of_ble_eq_true rfl)⟩) Z hA [0, 1] rfl (by decide) rfl hl.1 rfl (Nat.le_of_ble_eq_true rfl) dL_put_46 ⟨(by show 0 + 0 ≤ 0; omega), (by show 0 + 0 ≤ 0; omega)⟩ (fun _ H locs Z => ?_)
    replace Z : zw D (zTY cA) s A (zU [(W_o cA h x10 t_errorAt a11 t_length t_at t_error t_costsRead t_slipRead b_height b_count b_room b_account b_costs b_lines b_estimates b_sellers b_printed b_wanted b_slipped o_height o_count o_room o_account o_costs o_lines o_estimates o_sellers o_printed o_wanted o_slipped hi_past hi_next hi_kept y_numberOf y_pageOf y_lineOf y_usedOn y_lotsOn y_firstOn y_pages y_printedLots y_printedLines c_lots c_figures c_count v_numberOf v_pageOf v_lineOf v_usedOn v_lotsOn v_firstOn v_pages v_printedLots v_printedLines c_printedBehind c_changedOn c_prices c_priced x_latestErrorOffset), [(a_U, .inl (cA 0, 8, .inl a12))]]) H locs := Z
    cases hf
    rw [hQ9]
    exact zg_vret (pc := 49) (L' := [(W_o cA h x10 t_errorAt a11 t_length t_at t_error t_costsRead t_slipRead b_height b_count b_room b_account b_costs b_lines b_estimates b_sellers b_printed b_wanted b_slipped o_height o_count o_room o_account o_costs o_lines o_estimates o_sellers o_printed o_wanted o_slipped hi_past hi_next hi_kept y_numberOf y_pageOf y_lineOf y_usedOn y_lotsOn y_firstOn y_pages y_printedLots y_printedLines c_lots c_figures c_count v_numberOf v_pageOf v_lineOf v_usedOn v_lotsOn v_firstOn v_pages v_printedLots v_printedLines c_printedBehind c_changedOn c_prices c_priced x_latestErrorOffset), [(a_U, .inl (cA 0, 8, .inl a12))]]) (fun _ => 0) (by show 0 ≤ 0; omega) (by show 0 ≤ 0; omega) hx hb hr hlocks Z [0, 1] rfl (by decide) rfl rfl dL_put_49
