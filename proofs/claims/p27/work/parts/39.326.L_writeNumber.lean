def fL_writeNumber_L18 (p2 : Int32) : Nat → Int32 → Int32 → (Nat → Int32) → (Nat → Int32) → Option (Int32 × (Nat → Int32) × (Nat → Int32))
  | 0, _, _, _, _ => none
  | n0 + 1, x3, x4, a5, a6 => (if x3 ≤ 0 then some (x4, a5, a6) else o_as (¬ x3 = 0) (o_let ((p2 / x3) - (p2 / x3) / (10 : Int32) * (10 : Int32)) (fun x9 => o_let ((48 : Int32) + x9) (fun x10 => o_bind (fL_put x10 x4 a5 a6) (fun (x11, a12, a13) => o_let (x3 / (10 : Int32)) (fun x15 => (fL_writeNumber_L18 p2 n0 x15 x11 a12 a13)))))))
def fL_writeNumber_L2 (p2 : Int32) (j18_2 : Int32 → Option (Int32 × (Nat → Int32) × (Nat → Int32))) : Nat → Int32 → Option (Int32 × (Nat → Int32) × (Nat → Int32))
  | 0, _ => none
  | n0 + 1, x16 => (if (p2 / (10 : Int32)) < x16 then (j18_2 x16) else o_let (x16 * (10 : Int32)) (fun x18 => (fL_writeNumber_L2 p2 j18_2 n0 x18)))
def fL_writeNumber (p2 : Int32) (t_size : Int32) (t_bytes : Nat → Int32) (U_f : Nat → Int32) : Option (Int32 × (Nat → Int32) × (Nat → Int32)) := o_let (fun (x1 : Int32) => (fL_writeNumber_L18 p2 1024 x1 t_size t_bytes U_f)) (fun (j18_2 : Int32 → Option (Int32 × (Nat → Int32) × (Nat → Int32))) => (fL_writeNumber_L2 p2 j18_2 1024 (1 : Int32)))
set_option maxHeartbeats 8000000 in
set_option maxRecDepth 100000 in
theorem kL_writeNumber (l : Launch) (D : va_G) (cA : Nat → ClassId) (h : Nat → Nat) (a_U : Nat) (p2 : Int32) (t_size : Int32) (t_errorAt : Int32) (t_bytes : Nat → Int32) (t_length : Int32) (t_at : Int32) (t_error : Int32) (t_costsRead : Int32) (t_slipRead : Int32) (b_height : Int32) (b_count : Int32) (b_room : Int32) (b_account : Int32) (b_costs : Nat → Int32) (b_lines : Nat → Int32) (b_estimates : Nat → Int32) (b_sellers : Nat → Int32) (b_printed : Nat → Int32) (b_wanted : Nat → Int32) (b_slipped : Nat → Int32) (o_height : Int32) (o_count : Int32) (o_room : Int32) (o_account : Int32) (o_costs : Nat → Int32) (o_lines : Nat → Int32) (o_estimates : Nat → Int32) (o_sellers : Nat → Int32) (o_printed : Nat → Int32) (o_wanted : Nat → Int32) (o_slipped : Nat → Int32) (hi_past : Nat → Int32 × Int32 × Int32 × Int32 × (Nat → Int32) × (Nat → Int32) × (Nat → Int32) × (Nat → Int32) × (Nat → Int32) × (Nat → Int32) × (Nat → Int32)) (hi_next : Int32) (hi_kept : Int32) (y_numberOf : Nat → Int32) (y_pageOf : Nat → Int32) (y_lineOf : Nat → Int32) (y_usedOn : Nat → Int32) (y_lotsOn : Nat → Int32) (y_firstOn : Nat → Int32) (y_pages : Int32) (y_printedLots : Int32) (y_printedLines : Int32) (c_lots : Nat → Int32) (c_figures : Nat → Int32) (c_count : Int32) (v_numberOf : Nat → Int32) (v_pageOf : Nat → Int32) (v_lineOf : Nat → Int32) (v_usedOn : Nat → Int32) (v_lotsOn : Nat → Int32) (v_firstOn : Nat → Int32) (v_pages : Int32) (v_printedLots : Int32) (v_printedLines : Int32) (c_printedBehind : Nat → Int32) (c_changedOn : Nat → Int32) (c_prices : Nat → Int32) (c_priced : Int32) (x_latestErrorOffset : Int32) (U_f : Nat → Int32) (u : Int32 × (Nat → Int32) × (Nat → Int32)) (hf : fL_writeNumber p2 t_size t_bytes U_f = some u) : zG zJ l yL_writeNumber wsL_writeNumber ({ frames := 4, cells := 0, slots := 0, locals := 91 } : Room) D (zTY cA) [.ref (h 0), .ref a_U, .int p2] (zU [(W_o cA h t_size t_errorAt t_bytes t_length t_at t_error t_costsRead t_slipRead b_height b_count b_room b_account b_costs b_lines b_estimates b_sellers b_printed b_wanted b_slipped o_height o_count o_room o_account o_costs o_lines o_estimates o_sellers o_printed o_wanted o_slipped hi_past hi_next hi_kept y_numberOf y_pageOf y_lineOf y_usedOn y_lotsOn y_firstOn y_pages y_printedLots y_printedLines c_lots c_figures c_count v_numberOf v_pageOf v_lineOf v_usedOn v_lotsOn v_firstOn v_pages v_printedLots v_printedLines c_printedBehind c_changedOn c_prices c_priced x_latestErrorOffset), [(a_U, .inl (cA 0, 8, .inl U_f))]]) (fun v _ => v = none) (fun h9 => zU [(W_o cA h (u.1) t_errorAt (u.2.1) t_length t_at t_error t_costsRead t_slipRead b_height b_count b_room b_account b_costs b_lines b_estimates b_sellers b_printed b_wanted b_slipped o_height o_count o_room o_account o_costs o_lines o_estimates o_sellers o_printed o_wanted o_slipped hi_past hi_next hi_kept y_numberOf y_pageOf y_lineOf y_usedOn y_lotsOn y_firstOn y_pages y_printedLots y_printedLines c_lots c_figures c_count v_numberOf v_pageOf v_lineOf v_usedOn v_lotsOn v_firstOn v_pages v_printedLots v_printedLines c_printedBehind c_changedOn c_prices c_priced x_latestErrorOffset), [(a_U, .inl (cA 0, 8, .inl (u.2.2)))]]) := by
  refine z_startG (cc := cL_writeNumber) (maxL := 4) (ret := none) (by decide) rfl (Nat.le_of_ble_eq_true rfl) ?_
  intro p e s m args below meth c A hx hb hr hts hown hlocks hml hA hmn hJ Z ls hl
  replace hown : s.vm.findClass RL = some m.cls := hown
  replace hl : lv_has ls 4 [(0, .ref (h 0)), (1, .ref a_U), (2, .int p2)] := hl
  obtain ⟨Q9, hQ9⟩ : ∃ Q9 : State → Prop, Q9 = MQ below (zQG D (zTY cA) A (fun v _ => v = none) (fun h9 => zU [(W_o cA h (u.1) t_errorAt (u.2.1) t_length t_at t_error t_costsRead t_slipRead b_height b_count b_room b_account b_costs b_lines b_estimates b_sellers b_printed b_wanted b_slipped o_height o_count o_room o_account o_costs o_lines o_estimates o_sellers o_printed o_wanted o_slipped hi_past hi_next hi_kept y_numberOf y_pageOf y_lineOf y_usedOn y_lotsOn y_firstOn y_pages y_printedLots y_printedLines c_lots c_figures c_count v_numberOf v_pageOf v_lineOf v_usedOn v_lotsOn v_firstOn v_pages v_printedLots v_printedLines c_printedBehind c_changedOn c_prices c_priced x_latestErrorOffset), [(a_U, .inl (cA 0, 8, .inl (u.2.2)))]])) args s 0 0 A := ⟨_, rfl⟩
  show W p l e ({ frames := 4, cells := 0, slots := 0, locals := 91 } : Room) s m args below meth c s.heap [] 0 0 (MQ below (zQG D (zTY cA) A (fun v _ => v = none) (fun h9 => zU [(W_o cA h (u.1) t_errorAt (u.2.1) t_length t_at t_error t_costsRead t_slipRead b_height b_count b_room b_account b_costs b_lines b_estimates b_sellers b_printed b_wanted b_slipped o_height o_count o_room o_account o_costs o_lines o_estimates o_sellers o_printed o_wanted o_slipped hi_past hi_next hi_kept y_numberOf y_pageOf y_lineOf y_usedOn y_lotsOn y_firstOn y_pages y_printedLots y_printedLines c_lots c_figures c_count v_numberOf v_pageOf v_lineOf v_usedOn v_lotsOn v_firstOn v_pages v_printedLots v_printedLines c_printedBehind c_changedOn c_prices c_priced x_latestErrorOffset), [(a_U, .inl (cA 0, 8, .inl (u.2.2)))]])) args s 0 0 A) (F0 m 0 ls [])
  rw [← hQ9]
  obtain ⟨H, hH⟩ : ∃ H, H = s.heap := ⟨_, rfl⟩
  rw [← hH] at Z ⊢
  clear hH
  obtain ⟨locs, hlc⟩ : ∃ q : List Loc, q = [] := ⟨_, rfl⟩
  rw [← hlc] at Z ⊢
  clear hlc
  refine lv_iconst (v := (1 : Int32)) (pc := 0) hx hb dL_writeNumber_0 (by decide) ?_
  refine lv_istore_n (lv' := [(3, .int (1 : Int32)), (0, .ref (h 0)), (1, .ref a_U), (2, .int p2)]) (pc := 1) hx hb dL_writeNumber_1 rfl hl (by decide) rfl (fun ls hl => ?_)
  obtain ⟨j18_2, ej18_2, hf⟩ := o_jnE hf
  have hj18_2 : ∀ (x1 : Int32) (H : Heap) (locs : List Loc) (ls : Array Slot), zw D (zTY cA) s A (zU [(W_o cA h t_size t_errorAt t_bytes t_length t_at t_error t_costsRead t_slipRead b_height b_count b_room b_account b_costs b_lines b_estimates b_sellers b_printed b_wanted b_slipped o_height o_count o_room o_account o_costs o_lines o_estimates o_sellers o_printed o_wanted o_slipped hi_past hi_next hi_kept y_numberOf y_pageOf y_lineOf y_usedOn y_lotsOn y_firstOn y_pages y_printedLots y_printedLines c_lots c_figures c_count v_numberOf v_pageOf v_lineOf v_usedOn v_lotsOn v_firstOn v_pages v_printedLots v_printedLines c_printedBehind c_changedOn c_prices c_priced x_latestErrorOffset), [(a_U, .inl (cA 0, 8, .inl U_f))]]) H locs → lv_has ls 4 [(0, .ref (h 0)), (1, .ref a_U), (2, .int p2), (3, .int x1)] → j18_2 x1 = some u → W p l e ({ frames := 4, cells := 0, slots := 0, locals := 91 } : Room) s m args below meth c H locs 0 0 Q9 (F0 m 18 ls []) := by
    intro x1 H locs ls Z hl hf
    rw [ej18_2] at hf
    have hL18 : ∀ (n0 : Nat) (x3 : Int32) (x4 : Int32) (a5 : Nat → Int32) (a6 : Nat → Int32) (H : Heap) (locs : List Loc) (ls : Array Slot), zw D (zTY cA) s A (zU [(W_o cA h x4 t_errorAt a5 t_length t_at t_error t_costsRead t_slipRead b_height b_count b_room b_account b_costs b_lines b_estimates b_sellers b_printed b_wanted b_slipped o_height o_count o_room o_account o_costs o_lines o_estimates o_sellers o_printed o_wanted o_slipped hi_past hi_next hi_kept y_numberOf y_pageOf y_lineOf y_usedOn y_lotsOn y_firstOn y_pages y_printedLots y_printedLines c_lots c_figures c_count v_numberOf v_pageOf v_lineOf v_usedOn v_lotsOn v_firstOn v_pages v_printedLots v_printedLines c_printedBehind c_changedOn c_prices c_priced x_latestErrorOffset), [(a_U, .inl (cA 0, 8, .inl a6))]]) H locs → lv_has ls 4 [(0, .ref (h 0)), (1, .ref a_U), (2, .int p2), (3, .int x3)] → fL_writeNumber_L18 p2 n0 x3 x4 a5 a6 = some u → W p l e ({ frames := 4, cells := 0, slots := 0, locals := 91 } : Room) s m args below meth c H locs 0 0 Q9 (F0 m 18 ls []) := by
      intro n0
      induction n0 with
      | zero => intro x3 x4 a5 a6 H locs ls Z hl hf; exact o_no hf
      | succ n0 ih0 =>
        intro x3 x4 a5 a6 H locs ls Z hl hf
        refine lv_iload_n (pc := 18) hx hb dL_writeNumber_18 rfl (lv_at hl 3 rfl) ?_
        refine lv_if_le (tgt := 44) (pc := 19) hx hb dL_writeNumber_19 (by decide) (fun c7 => ?_) (fun c7 => ?_)
        · replace hf := o_pos c7 hf
          cases hf
          rw [hQ9]
          exact zg_vret (pc := 44) (L' := [(W_o cA h x4 t_errorAt a5 t_length t_at t_error t_costsRead t_slipRead b_height b_count b_room b_account b_costs b_lines b_estimates b_sellers b_printed b_wanted b_slipped o_height o_count o_room o_account o_costs o_lines o_estimates o_sellers o_printed o_wanted o_slipped hi_past hi_next hi_kept y_numberOf y_pageOf y_lineOf y_usedOn y_lotsOn y_firstOn y_pages y_printedLots y_printedLines c_lots c_figures c_count v_numberOf v_pageOf v_lineOf v_usedOn v_lotsOn v_firstOn v_pages v_printedLots v_printedLines c_printedBehind c_changedOn c_prices c_priced x_latestErrorOffset), [(a_U, .inl (cA 0, 8, .inl a6))]]) (fun _ => 0) (by show 0 ≤ 0; omega) (by show 0 ≤ 0; omega) hx hb hr hlocks Z [0, 1] rfl (by decide) rfl rfl dL_writeNumber_44
        · replace hf := o_neg c7 hf
          refine lv_aload_n (pc := 22) hx hb dL_writeNumber_22 rfl (lv_at hl 0 rfl) ?_
          refine lv_aload_n (pc := 23) hx hb dL_writeNumber_23 rfl (lv_at hl 1 rfl) ?_
          refine lv_bipush (v := (48 : Int32)) (pc := 24) hx hb dL_writeNumber_24 (by decide) ?_
          refine lv_iload_n (pc := 26) hx hb dL_writeNumber_26 rfl (lv_at hl 2 rfl) ?_
          refine lv_iload_n (pc := 27) hx hb dL_writeNumber_27 rfl (lv_at hl 3 rfl) ?_
          obtain ⟨nz8, hf⟩ := o_asE hf
          refine lv_idiv (pc := 28) hx hb dL_writeNumber_28 nz8 ?_
          refine lv_bipush (v := (10 : Int32)) (pc := 29) hx hb dL_writeNumber_29 (by decide) ?_
          refine lv_irem (pc := 31) hx hb dL_writeNumber_31 (by decide) ?_
          refine lv_topi (fun x9 ex9 => ?_)
          replace hf := o_letE ex9 hf
          refine lv_iadd (pc := 32) hx hb dL_writeNumber_32 ?_
          refine lv_topi (fun x10 ex10 => ?_)
          replace hf := o_letE ex10 hf
          obtain ⟨⟨x11, a12, a13⟩, h14, hf⟩ := o_bindE hf
          refine zg_callSv (pc := 33) (As := [.ref (h 0), .ref a_U, .int x10]) (rest := []) (LF := []) (Lc := [(W_o cA h x4 t_errorAt a5 t_length t_at t_error t_costsRead t_slipRead b_height b_count b_room b_account b_costs b_lines b_estimates b_sellers b_printed b_wanted b_slipped o_height o_count o_room o_account o_costs o_lines o_estimates o_sellers o_printed o_wanted o_slipped hi_past hi_next hi_kept y_numberOf y_pageOf y_lineOf y_usedOn y_lotsOn y_firstOn y_pages y_printedLots y_printedLines c_lots c_figures c_count v_numberOf v_pageOf v_lineOf v_usedOn v_lotsOn v_firstOn v_pages v_printedLots v_printedLines c_printedBehind c_changedOn c_prices c_priced x_latestErrorOffset), [(a_U, .inl (cA 0, 8, .inl a6))]]) zJ_pass hJ ⟨hx, hb, hml, hown, hts⟩ (kL_put l D cA h a_U x10 x4 t_errorAt a5 t_length t_at t_error t_costsRead t_slipRead b_height b_count b_room b_account b_costs b_lines b_estimates b_sellers b_printed b_wanted b_slipped o_height o_count o_room o_account o_costs o_lines o_estimates o_sellers o_printed o_wanted o_slipped hi_past hi_next hi_kept y_numberOf y_pageOf y_lineOf y_usedOn y_lotsOn y_firstOn y_pages y_printedLots y_printedLines c_lots c_figures c_count v_numberOf v_pageOf v_lineOf v_usedOn v_lotsOn v_firstOn v_pages v_printedLots v_printedLines c_printedBehind c_changedOn c_prices c_priced x_latestErrorOffset a6 _ h14) (va_cwS 3 hts gL_writeNumber_L_put rfl rfl rfl (by decide +kernel) ⟨(Nat.le_of_ble_eq_true rfl), (Nat.le_of_ble_eq_true rfl)⟩) Z hA [0, 1] rfl (by decide) rfl hl.1 rfl (Nat.le_of_ble_eq_true rfl) dL_writeNumber_33 ⟨(by show 0 + 0 ≤ 0; omega), (by show 0 + 0 ≤ 0; omega)⟩ (fun _ H locs Z => ?_)
          replace Z : zw D (zTY cA) s A (zU [(W_o cA h x11 t_errorAt a12 t_length t_at t_error t_costsRead t_slipRead b_height b_count b_room b_account b_costs b_lines b_estimates b_sellers b_printed b_wanted b_slipped o_height o_count o_room o_account o_costs o_lines o_estimates o_sellers o_printed o_wanted o_slipped hi_past hi_next hi_kept y_numberOf y_pageOf y_lineOf y_usedOn y_lotsOn y_firstOn y_pages y_printedLots y_printedLines c_lots c_figures c_count v_numberOf v_pageOf v_lineOf v_usedOn v_lotsOn v_firstOn v_pages v_printedLots v_printedLines c_printedBehind c_changedOn c_prices c_priced x_latestErrorOffset), [(a_U, .inl (cA 0, 8, .inl a13))]]) H locs := Z
          refine lv_iload_n (pc := 36) hx hb dL_writeNumber_36 rfl (lv_at hl 3 rfl) ?_
          refine lv_bipush (v := (10 : Int32)) (pc := 37) hx hb dL_writeNumber_37 (by decide) ?_
          refine lv_idiv (pc := 39) hx hb dL_writeNumber_39 (by decide) ?_
          refine lv_topi (fun x15 ex15 => ?_)
          replace hf := o_letE ex15 hf
          refine lv_istore_n (lv' := [(3, .int x15), (0, .ref (h 0)), (1, .ref a_U), (2, .int p2)]) (pc := 40) hx hb dL_writeNumber_40 rfl hl (by decide) rfl (fun ls hl => ?_)
          refine lv_goto (tgt := 18) (pc := 41) hx hb dL_writeNumber_41 (by decide) ?_
          exact ih0 x15 x11 a12 a13 H locs ls Z (lv_sub hl [1, 2, 3, 0] rfl) hf
    exact hL18 1024 x1 t_size t_bytes U_f H locs ls Z (lv_sub hl [0, 1, 2, 3] rfl) hf
  have hL2 : ∀ (n0 : Nat) (x16 : Int32) (H : Heap) (locs : List Loc) (ls : Array Slot), zw D (zTY cA) s A (zU [(W_o cA h t_size t_errorAt t_bytes t_length t_at t_error t_costsRead t_slipRead b_height b_count b_room b_account b_costs b_lines b_estimates b_sellers b_printed b_wanted b_slipped o_height o_count o_room o_account o_costs o_lines o_estimates o_sellers o_printed o_wanted o_slipped hi_past hi_next hi_kept y_numberOf y_pageOf y_lineOf y_usedOn y_lotsOn y_firstOn y_pages y_printedLots y_printedLines c_lots c_figures c_count v_numberOf v_pageOf v_lineOf v_usedOn v_lotsOn v_firstOn v_pages v_printedLots v_printedLines c_printedBehind c_changedOn c_prices c_priced x_latestErrorOffset), [(a_U, .inl (cA 0, 8, .inl U_f))]]) H locs → lv_has ls 4 [(0, .ref (h 0)), (1, .ref a_U), (2, .int p2), (3, .int x16)] → fL_writeNumber_L2 p2 j18_2 n0 x16 = some u → W p l e ({ frames := 4, cells := 0, slots := 0, locals := 91 } : Room) s m args below meth c H locs 0 0 Q9 (F0 m 2 ls []) := by
    intro n0
    induction n0 with
    | zero => intro x16 H locs ls Z hl hf; exact o_no hf
    | succ n0 ih0 =>
      intro x16 H locs ls Z hl hf
      refine lv_iload_n (pc := 2) hx hb dL_writeNumber_2 rfl (lv_at hl 3 rfl) ?_
      refine lv_iload_n (pc := 3) hx hb dL_writeNumber_3 rfl (lv_at hl 2 rfl) ?_
      refine lv_bipush (v := (10 : Int32)) (pc := 4) hx hb dL_writeNumber_4 (by decide) ?_
      refine lv_idiv (pc := 6) hx hb dL_writeNumber_6 (by decide) ?_
      refine lv_icmp_gt (tgt := 18) (pc := 7) hx hb dL_writeNumber_7 (by decide) (fun c17 => ?_) (fun c17 => ?_)
      · replace hf := o_pos c17 hf
        exact hj18_2 x16 H locs ls Z (lv_sub hl [0, 1, 2, 3] rfl) hf
      · replace hf := o_neg c17 hf
        refine lv_iload_n (pc := 10) hx hb dL_writeNumber_10 rfl (lv_at hl 3 rfl) ?_
        refine lv_bipush (v := (10 : Int32)) (pc := 11) hx hb dL_writeNumber_11 (by decide) ?_
        refine lv_imul (pc := 13) hx hb dL_writeNumber_13 ?_
        refine lv_topi (fun x18 ex18 => ?_)
        replace hf := o_letE ex18 hf
        refine lv_istore_n (lv' := [(3, .int x18), (0, .ref (h 0)), (1, .ref a_U), (2, .int p2)]) (pc := 14) hx hb dL_writeNumber_14 rfl hl (by decide) rfl (fun ls hl => ?_)
        refine lv_goto (tgt := 2) (pc := 15) hx hb dL_writeNumber_15 (by decide) ?_
        exact ih0 x18 H locs ls Z (lv_sub hl [1, 2, 3, 0] rfl) hf
  exact hL2 1024 (1 : Int32) H locs ls Z (lv_sub hl [1, 2, 3, 0] rfl) hf
