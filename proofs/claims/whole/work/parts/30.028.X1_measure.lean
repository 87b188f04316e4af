def W_X1_measure (cA : Nat → ClassId) (h : Nat → Nat) (c_lots : Nat → Int32) (c_figures : Nat → Int32) (c_count : Int32) (v_numberOf : Nat → Int32) (v_pageOf : Nat → Int32) (v_lineOf : Nat → Int32) (v_usedOn : Nat → Int32) (v_lotsOn : Nat → Int32) (v_firstOn : Nat → Int32) (v_pages : Int32) (v_printedLots : Int32) (v_printedLines : Int32) (c_printedBehind : Nat → Int32) (c_changedOn : Nat → Int32) (c_priced : Int32) (b_height : Int32) (b_count : Int32) (b_room : Int32) (b_account : Int32) (b_costs : Nat → Int32) (b_lines : Nat → Int32) (b_printed : Nat → Int32) (b_wanted : Nat → Int32) (b_slipped : Nat → Int32) (y_numberOf : Nat → Int32) (y_pageOf : Nat → Int32) (y_lineOf : Nat → Int32) (y_usedOn : Nat → Int32) (y_pages : Int32) (y_printedLots : Int32) (y_printedLines : Int32) : va_W := [(h 0, .inr (1, [.ref (h 1), .ref (h 2), .int c_count, .ref (h 3), .ref (h 10), .ref (h 11), .ref (h 12), .int c_priced])), (h 1, .inl (cA 0, 8, .inl c_lots)), (h 2, .inl (cA 0, 7, .inl c_figures)), (h 3, .inr (3, [.ref (h 4), .ref (h 5), .ref (h 6), .ref (h 7), .ref (h 8), .ref (h 9), .int v_pages, .int v_printedLots, .int v_printedLines])), (h 4, .inl (cA 0, 24, .inl v_numberOf)), (h 5, .inl (cA 0, 24, .inl v_pageOf)), (h 6, .inl (cA 0, 24, .inl v_lineOf)), (h 7, .inl (cA 0, 24, .inl v_usedOn)), (h 8, .inl (cA 0, 24, .inl v_lotsOn)), (h 9, .inl (cA 0, 24, .inl v_firstOn)), (h 10, .inl (cA 1, 24, .inl c_printedBehind)), (h 11, .inl (cA 0, 24, .inl c_changedOn)), (h 13, .inr (0, [.int b_height, .int b_count, .int b_room, .int b_account, .ref (h 14), .ref (h 15), .ref (h 16), .ref (h 17), .ref (h 18), .ref (h 19), .ref (h 20)])), (h 14, .inl (cA 0, 5, .inl b_costs)), (h 15, .inl (cA 0, 24, .inl b_lines)), (h 18, .inl (cA 1, 24, .inl b_printed)), (h 19, .inl (cA 1, 24, .inl b_wanted)), (h 20, .inl (cA 1, 24, .inl b_slipped)), (h 21, .inr (3, [.ref (h 22), .ref (h 23), .ref (h 24), .ref (h 25), .ref (h 26), .ref (h 27), .int y_pages, .int y_printedLots, .int y_printedLines])), (h 22, .inl (cA 0, 24, .inl y_numberOf)), (h 23, .inl (cA 0, 24, .inl y_pageOf)), (h 24, .inl (cA 0, 24, .inl y_lineOf)), (h 25, .inl (cA 0, 24, .inl y_usedOn))]
def fX1_measure_L25 (c_count : Int32) (j96_6 : (Nat → Int32) → (Nat → Int32) → Option ((Nat → Int32) × (Nat → Int32) × (Nat → Int32) × (Nat → Int32) × (Nat → Int32) × (Nat → Int32) × (Nat → Int32) × Int32 × Int32 × Int32 × (Nat → Int32) × (Nat → Int32))) (c_lots : Nat → Int32) (p3 : Int32) (b_slipped : Nat → Int32) (b_wanted : Nat → Int32) : Nat → Int32 → (Nat → Int32) → (Nat → Int32) → Option ((Nat → Int32) × (Nat → Int32) × (Nat → Int32) × (Nat → Int32) × (Nat → Int32) × (Nat → Int32) × (Nat → Int32) × Int32 × Int32 × Int32 × (Nat → Int32) × (Nat → Int32))
  | 0, _, _, _ => none
  | n0 + 1, x27, a28, a29 => (if c_count ≤ x27 then (j96_6 a28 a29) else o_rd 8 x27 (o_let (c_lots x27.toNatClampNeg) (fun x32 => o_bind (fX1_holds p3 x27) (fun x33 => (if x33 = 0 then o_rd 24 x32 ((if (b_slipped x32.toNatClampNeg) = 0 then o_let (upd a28 (5 : Int32).toNatClampNeg ((a28 (5 : Int32).toNatClampNeg) + (1 : Int32))) (fun a39 => o_let (x27 + (1 : Int32)) (fun x40 => (fX1_measure_L25 c_count j96_6 c_lots p3 b_slipped b_wanted n0 x40 a39 a29))) else o_let (x27 + (1 : Int32)) (fun x38 => (fX1_measure_L25 c_count j96_6 c_lots p3 b_slipped b_wanted n0 x38 a28 a29)))) else o_rd 24 x32 (o_rd 24 x32 (o_let (upd a29 x32.toNatClampNeg (vp_nar .boolean (b_wanted x32.toNatClampNeg))) (fun a43 => o_let (x27 + (1 : Int32)) (fun x44 => (fX1_measure_L25 c_count j96_6 c_lots p3 b_slipped b_wanted n0 x44 a28 a43))))))))))
def fX1_measure (p3 : Int32) (c_lots : Nat → Int32) (c_figures : Nat → Int32) (c_count : Int32) (v_numberOf : Nat → Int32) (v_pageOf : Nat → Int32) (v_lineOf : Nat → Int32) (v_usedOn : Nat → Int32) (v_lotsOn : Nat → Int32) (v_firstOn : Nat → Int32) (v_pages : Int32) (v_printedLots : Int32) (v_printedLines : Int32) (c_printedBehind : Nat → Int32) (c_changedOn : Nat → Int32) (b_height : Int32) (b_count : Int32) (b_room : Int32) (b_costs : Nat → Int32) (b_lines : Nat → Int32) (b_printed : Nat → Int32) (b_wanted : Nat → Int32) (b_slipped : Nat → Int32) (y_numberOf : Nat → Int32) (y_pageOf : Nat → Int32) (y_lineOf : Nat → Int32) (y_usedOn : Nat → Int32) (y_pages : Int32) : Option ((Nat → Int32) × (Nat → Int32) × (Nat → Int32) × (Nat → Int32) × (Nat → Int32) × (Nat → Int32) × (Nat → Int32) × Int32 × Int32 × Int32 × (Nat → Int32) × (Nat → Int32)) := @o_as _ (o_bo 24 b_printed) (o_boD 24 b_printed) (o_let (va_cpy b_printed c_printedBehind 0 0 24) (fun a2 => o_let (upd c_figures (5 : Int32).toNatClampNeg (0 : Int32)) (fun a3 => o_let (fun (a4 : Nat → Int32) (a5 : Nat → Int32) => o_bind (fX3_lay v_numberOf v_pageOf v_lineOf v_usedOn v_lotsOn v_firstOn v_pages v_printedLots v_printedLines b_height b_count b_lines a5) (fun (a7, a8, a9, a10, a11, a12, x13, x14, x15) => o_let (if y_pages < x13 then x13 else y_pages) (fun x17 => o_bind (fX1_findChangedLines x17 a7 a8 a9 a10 x13 c_changedOn b_count b_lines y_numberOf y_pageOf y_lineOf y_usedOn y_pages) (fun a18 => o_bind (fX1_countChanged x17 a4 a18) (fun a20 => o_bind (fX1_slipsFor (a20 (5 : Int32).toNatClampNeg) b_room) (fun x22 => o_let (upd a20 (4 : Int32).toNatClampNeg x22) (fun a24 => o_let (upd a24 (6 : Int32).toNatClampNeg x13) (fun a25 => o_let (upd a25 (0 : Int32).toNatClampNeg ((((((a25 (1 : Int32).toNatClampNeg) * (b_costs (0 : Int32).toNatClampNeg)) + ((a25 (2 : Int32).toNatClampNeg) * (b_costs (1 : Int32).toNatClampNeg))) + ((a25 (3 : Int32).toNatClampNeg) * (b_costs (2 : Int32).toNatClampNeg))) + ((a25 (4 : Int32).toNatClampNeg) * (b_costs (3 : Int32).toNatClampNeg))) + ((a25 (5 : Int32).toNatClampNeg) * (b_costs (4 : Int32).toNatClampNeg)))) (fun a26 => some (a26, a7, a8, a9, a10, a11, a12, x13, x14, x15, a5, a18)))))))))) (fun (j96_6 : (Nat → Int32) → (Nat → Int32) → Option ((Nat → Int32) × (Nat → Int32) × (Nat → Int32) × (Nat → Int32) × (Nat → Int32) × (Nat → Int32) × (Nat → Int32) × Int32 × Int32 × Int32 × (Nat → Int32) × (Nat → Int32))) => (fX1_measure_L25 c_count j96_6 c_lots p3 b_slipped b_wanted 1024 (0 : Int32) a3 a2)))))
theorem iw_X1_measure_X0 : ∀ w ∈ u_ws RX0 TX0 11, w ∈ wsX1_measure := z_inr [71, 72, 73, 74, 75, 76, 77, 78, 79, 80, 81] rfl
theorem iw_X1_measure_X1 : ∀ w ∈ u_ws RX1 TX1 8, w ∈ wsX1_measure := z_inr [82, 83, 84, 85, 86, 87, 88, 89] rfl
theorem iw_X1_measure_X3 : ∀ w ∈ u_ws RX3 TX3 9, w ∈ wsX1_measure := z_inr [90, 91, 92, 93, 94, 95, 96, 97, 98] rfl
set_option maxHeartbeats 4000000 in
set_option maxRecDepth 100000 in
theorem kX1_measure (l : Launch) (D : va_G) (cA : Nat → ClassId) (h : Nat → Nat) (p3 : Int32) (c_lots : Nat → Int32) (c_figures : Nat → Int32) (c_count : Int32) (v_numberOf : Nat → Int32) (v_pageOf : Nat → Int32) (v_lineOf : Nat → Int32) (v_usedOn : Nat → Int32) (v_lotsOn : Nat → Int32) (v_firstOn : Nat → Int32) (v_pages : Int32) (v_printedLots : Int32) (v_printedLines : Int32) (c_printedBehind : Nat → Int32) (c_changedOn : Nat → Int32) (c_priced : Int32) (b_height : Int32) (b_count : Int32) (b_room : Int32) (b_account : Int32) (b_costs : Nat → Int32) (b_lines : Nat → Int32) (b_printed : Nat → Int32) (b_wanted : Nat → Int32) (b_slipped : Nat → Int32) (y_numberOf : Nat → Int32) (y_pageOf : Nat → Int32) (y_lineOf : Nat → Int32) (y_usedOn : Nat → Int32) (y_pages : Int32) (y_printedLots : Int32) (y_printedLines : Int32) (u : (Nat → Int32) × (Nat → Int32) × (Nat → Int32) × (Nat → Int32) × (Nat → Int32) × (Nat → Int32) × (Nat → Int32) × Int32 × Int32 × Int32 × (Nat → Int32) × (Nat → Int32)) (hf : fX1_measure p3 c_lots c_figures c_count v_numberOf v_pageOf v_lineOf v_usedOn v_lotsOn v_firstOn v_pages v_printedLots v_printedLines c_printedBehind c_changedOn b_height b_count b_room b_costs b_lines b_printed b_wanted b_slipped y_numberOf y_pageOf y_lineOf y_usedOn y_pages = some u) : zMv l yX1_measure wsX1_measure ({ frames := 2, cells := 0, slots := 0, locals := 48 } : Room) D (zTY cA) [.ref (h 0), .ref (h 13), .ref (h 21), .int p3] (W_X1_measure cA h c_lots c_figures c_count v_numberOf v_pageOf v_lineOf v_usedOn v_lotsOn v_firstOn v_pages v_printedLots v_printedLines c_printedBehind c_changedOn c_priced b_height b_count b_room b_account b_costs b_lines b_printed b_wanted b_slipped y_numberOf y_pageOf y_lineOf y_usedOn y_pages y_printedLots y_printedLines) (W_X1_measure cA h c_lots (u.1) c_count (u.2.1) (u.2.2.1) (u.2.2.2.1) (u.2.2.2.2.1) (u.2.2.2.2.2.1) (u.2.2.2.2.2.2.1) (u.2.2.2.2.2.2.2.1) (u.2.2.2.2.2.2.2.2.1) (u.2.2.2.2.2.2.2.2.2.1) (u.2.2.2.2.2.2.2.2.2.2.1) (u.2.2.2.2.2.2.2.2.2.2.2) c_priced b_height b_count b_room b_account b_costs b_lines b_printed b_wanted b_slipped y_numberOf y_pageOf y_lineOf y_usedOn y_pages y_printedLots y_printedLines) := by
  refine z_startv (cc := cX1_measure) (maxL := 6) (ret := none) (by decide) rfl (Nat.le_of_ble_eq_true rfl) ?_
  intro p e s m args below meth c A hx hb hr hts hown hlocks hml hA Z ls hl
  replace hown : s.vm.findClass RX1 = some m.cls := hown
  replace hl : lv_has ls 6 [(0, .ref (h 0)), (1, .ref (h 13)), (2, .ref (h 21)), (3, .int p3)] := hl
  obtain ⟨H, hH⟩ : ∃ H, H = s.heap := ⟨_, rfl⟩
  rw [← hH] at Z ⊢
  clear hH
  obtain ⟨locs, hlc⟩ : ∃ q : List Loc, q = [] := ⟨_, rfl⟩
  rw [← hlc] at Z ⊢
  clear hlc
  refine lv_aload_n (pc := 0) hx hb dX1_measure_0 rfl (lv_at hl 1 rfl) ?_
  refine z_get (pc := 1) (ref := "LotSheet$Bill") (ci := 0) (C := RX0) (T := TX0) (N := 11) hx hb hts iw_X1_measure_X0 hown Z 12 rfl rfl 8 (by decide) (List.mem_of_getElem? (i := 1) rfl) rfl rfl dX1_measure_1 ?_
  refine lv_iconst (pc := 4) (v := (0 : Int32)) hx hb dX1_measure_4 (by decide) ?_
  refine lv_aload_n (pc := 5) hx hb dX1_measure_5 rfl (lv_at hl 0 rfl) ?_
  refine z_get (pc := 6) (ref := "LotSheet$Choices") (ci := 1) (C := RX1) (T := TX1) (N := 8) hx hb hts iw_X1_measure_X1 hown Z 0 rfl rfl 4 (by decide) (List.mem_of_getElem? (i := 2) rfl) rfl rfl dX1_measure_6 ?_
  refine lv_iconst (pc := 9) (v := (0 : Int32)) hx hb dX1_measure_9 (by decide) ?_
  refine lv_bipush (pc := 10) (v := (24 : Int32)) hx hb dX1_measure_10 (by decide) ?_
  obtain ⟨ft1, hf⟩ := o_asE hf
  refine z_copy (pc := 12) hx hb (hml.trans hl.1.symm) hown hts (List.mem_of_getElem? (i := 3) rfl) (List.mem_of_getElem? (i := 4) rfl) (List.mem_of_getElem? (i := 5) rfl) (List.mem_of_getElem? (i := 6) rfl) Z 15 10 1 rfl rfl rfl rfl rfl (by decide) (by decide) (by decide) (by decide) (by decide) (o_boE ft1) (Nat.le_of_ble_eq_true rfl) (Nat.le_of_ble_eq_true rfl) dX1_measure_12 (fun g => (W_X1_measure cA h c_lots c_figures c_count v_numberOf v_pageOf v_lineOf v_usedOn v_lotsOn v_firstOn v_pages v_printedLots v_printedLines g c_changedOn c_priced b_height b_count b_room b_account b_costs b_lines b_printed b_wanted b_slipped y_numberOf y_pageOf y_lineOf y_usedOn y_pages y_printedLots y_printedLines)) (fun _ => rfl) (fun a2 H locs ea2 Z => ?_)
  replace hf := o_letE (show a2 = (va_cpy b_printed c_printedBehind 0 0 24) from ea2) hf
  refine lv_aload_n (pc := 15) hx hb dX1_measure_15 rfl (lv_at hl 0 rfl) ?_
  refine z_get (pc := 16) (ref := "LotSheet$Choices") (ci := 1) (C := RX1) (T := TX1) (N := 8) hx hb hts iw_X1_measure_X1 hown Z 0 rfl rfl 1 (by decide) (List.mem_of_getElem? (i := 7) rfl) rfl rfl dX1_measure_16 ?_
  refine lv_iconst (pc := 19) (v := (5 : Int32)) hx hb dX1_measure_19 (by decide) ?_
  refine lv_iconst (pc := 20) (v := (0 : Int32)) hx hb dX1_measure_20 (by decide) ?_
  refine z_iast (pc := 21) hx hb Z 2 0 rfl rfl (show ¬ ((5 : Int32) < 0 ∨ 7 ≤ (5 : Int32).toNatClampNeg) by decide) dX1_measure_21 (fun g => (W_X1_measure cA h c_lots g c_count v_numberOf v_pageOf v_lineOf v_usedOn v_lotsOn v_firstOn v_pages v_printedLots v_printedLines a2 c_changedOn c_priced b_height b_count b_room b_account b_costs b_lines b_printed b_wanted b_slipped y_numberOf y_pageOf y_lineOf y_usedOn y_pages y_printedLots y_printedLines)) (fun _ => rfl) (fun a3 H locs ea3 Z => ?_)
  replace hf := o_letE ea3 hf
  refine lv_iconst (pc := 22) (v := (0 : Int32)) hx hb dX1_measure_22 (by decide) ?_
  refine lv_istore (pc := 23) (lv' := [(4, .int (0 : Int32)), (0, .ref (h 0)), (1, .ref (h 13)), (2, .ref (h 21)), (3, .int p3)]) hx hb dX1_measure_23 hl (by decide) rfl (fun ls hl => ?_)
  obtain ⟨j96_6, ej96_6, hf⟩ := o_jnE hf
  have hj96_6 : ∀ (a4 : Nat → Int32) (a5 : Nat → Int32) (H : Heap) (locs : List Loc) (ls : Array Slot), zw D (zTY cA) s A (W_X1_measure cA h c_lots a4 c_count v_numberOf v_pageOf v_lineOf v_usedOn v_lotsOn v_firstOn v_pages v_printedLots v_printedLines a5 c_changedOn c_priced b_height b_count b_room b_account b_costs b_lines b_printed b_wanted b_slipped y_numberOf y_pageOf y_lineOf y_usedOn y_pages y_printedLots y_printedLines) H locs → lv_has ls 6 [(0, .ref (h 0)), (1, .ref (h 13)), (2, .ref (h 21))] → j96_6 a4 a5 = some u → W p l e ({ frames := 2, cells := 0, slots := 0, locals := 48 } : Room) s m args below meth c H locs 0 0 (MQ below (zQv D (zTY cA) A (W_X1_measure cA h c_lots (u.1) c_count (u.2.1) (u.2.2.1) (u.2.2.2.1) (u.2.2.2.2.1) (u.2.2.2.2.2.1) (u.2.2.2.2.2.2.1) (u.2.2.2.2.2.2.2.1) (u.2.2.2.2.2.2.2.2.1) (u.2.2.2.2.2.2.2.2.2.1) (u.2.2.2.2.2.2.2.2.2.2.1) (u.2.2.2.2.2.2.2.2.2.2.2) c_priced b_height b_count b_room b_account b_costs b_lines b_printed b_wanted b_slipped y_numberOf y_pageOf y_lineOf y_usedOn y_pages y_printedLots y_printedLines)) args s 0 0 A) (F0 m 96 ls []) := by
    intro a4 a5 H locs ls Z hl hf
    rw [ej96_6] at hf
    refine lv_aload_n (pc := 96) hx hb dX1_measure_96 rfl (lv_at hl 0 rfl) ?_
    refine z_get (pc := 97) (ref := "LotSheet$Choices") (ci := 1) (C := RX1) (T := TX1) (N := 8) hx hb hts iw_X1_measure_X1 hown Z 0 rfl rfl 3 (by decide) (List.mem_of_getElem? (i := 12) rfl) rfl rfl dX1_measure_97 ?_
    refine lv_aload_n (pc := 100) hx hb dX1_measure_100 rfl (lv_at hl 1 rfl) ?_
    refine lv_aload_n (pc := 101) hx hb dX1_measure_101 rfl (lv_at hl 0 rfl) ?_
    refine z_get (pc := 102) (ref := "LotSheet$Choices") (ci := 1) (C := RX1) (T := TX1) (N := 8) hx hb hts iw_X1_measure_X1 hown Z 0 rfl rfl 4 (by decide) (List.mem_of_getElem? (i := 2) rfl) rfl rfl dX1_measure_102 ?_
    obtain ⟨⟨a7, a8, a9, a10, a11, a12, x13, x14, x15⟩, q16, hf⟩ := o_bindE hf
    refine z_callVv (pc := 105) (As := [.ref (h 13), .ref (h 10)]) (rest := []) (Wc := (W_X3_lay cA (fun k => h ([3, 4, 5, 6, 7, 8, 9, 13, 14, 15, 16, 17, 18, 19, 20, 10].getD k 0)) v_numberOf v_pageOf v_lineOf v_usedOn v_lotsOn v_firstOn v_pages v_printedLots v_printedLines b_height b_count b_room b_account b_lines a5)) (W1 := (W_X3_lay cA (fun k => h ([3, 4, 5, 6, 7, 8, 9, 13, 14, 15, 16, 17, 18, 19, 20, 10].getD k 0)) a7 a8 a9 a10 a11 a12 x13 x14 x15 b_height b_count b_room b_account b_lines a5)) (W2 := (W_X1_measure cA h c_lots a4 c_count a7 a8 a9 a10 a11 a12 x13 x14 x15 a5 c_changedOn c_priced b_height b_count b_room b_account b_costs b_lines b_printed b_wanted b_slipped y_numberOf y_pageOf y_lineOf y_usedOn y_pages y_printedLots y_printedLines)) ⟨hx, hb, hml, hown, hts⟩ (kX3_lay l D cA (fun k => h ([3, 4, 5, 6, 7, 8, 9, 13, 14, 15, 16, 17, 18, 19, 20, 10].getD k 0)) v_numberOf v_pageOf v_lineOf v_usedOn v_lotsOn v_firstOn v_pages v_printedLots v_printedLines b_height b_count b_room b_account b_lines a5 _ q16) (cwV 2 hts gX1_measure_X3_lay rfl rfl rfl (by decide +kernel) ⟨Nat.le_of_ble_eq_true rfl, Nat.le_of_ble_eq_true rfl⟩) Z hA [3, 4, 5, 6, 7, 8, 9, 12, 14, 10] rfl (by decide) rfl (ci := 3) rfl rfl rfl rfl hl.1 rfl (Nat.le_of_ble_eq_true rfl) dX1_measure_105 ⟨Nat.zero_le _, Nat.zero_le _⟩ [none, none, none, some 0, some 1, some 2, some 3, some 4, some 5, some 6, some 9, none, some 7, none, some 8, none, none, none, none, none, none, none, none] rfl ⟨rfl, rfl, rfl, rfl, rfl, rfl, rfl, rfl, rfl, rfl, rfl, rfl, rfl, rfl, rfl, rfl, rfl, rfl, rfl, rfl, rfl, rfl, rfl, rfl⟩ (fun H locs Z => ?_)
    refine lv_aload_n (pc := 108) hx hb dX1_measure_108 rfl (lv_at hl 2 rfl) ?_
    refine z_get (pc := 109) (ref := "LotSheet$Layout") (ci := 3) (C := RX3) (T := TX3) (N := 9) hx hb hts iw_X1_measure_X3 hown Z 18 rfl rfl 6 (by decide) (List.mem_of_getElem? (i := 13) rfl) rfl rfl dX1_measure_109 ?_
    refine lv_aload_n (pc := 112) hx hb dX1_measure_112 rfl (lv_at hl 0 rfl) ?_
    refine z_get (pc := 113) (ref := "LotSheet$Choices") (ci := 1) (C := RX1) (T := TX1) (N := 8) hx hb hts iw_X1_measure_X1 hown Z 0 rfl rfl 3 (by decide) (List.mem_of_getElem? (i := 12) rfl) rfl rfl dX1_measure_113 ?_
    refine z_get (pc := 116) (ref := "LotSheet$Layout") (ci := 3) (C := RX3) (T := TX3) (N := 9) hx hb hts iw_X1_measure_X3 hown Z 3 rfl rfl 6 (by decide) (List.mem_of_getElem? (i := 13) rfl) rfl rfl dX1_measure_116 ?_
    refine va_mmax (pc := 119) hx hb (hml.trans hl.1.symm) hown (hts _ (List.mem_of_getElem? (i := 14) rfl)) (hts _ (List.mem_of_getElem? (i := 15) rfl)) (hts _ (List.mem_of_getElem? (i := 16) rfl)) (hts _ (List.mem_of_getElem? (i := 17) rfl)) (Nat.le_of_ble_eq_true rfl) (Nat.le_of_ble_eq_true rfl) (Nat.zero_le _) (Nat.zero_le _) dX1_measure_119 ?_
    refine lv_topi (fun x17 ex17 => ?_)
    replace hf := o_letE ex17 hf
    refine lv_istore (pc := 122) (lv' := [(4, .int x17), (0, .ref (h 0)), (1, .ref (h 13)), (2, .ref (h 21))]) hx hb dX1_measure_122 hl (by decide) rfl (fun ls hl => ?_)
    refine lv_aload_n (pc := 124) hx hb dX1_measure_124 rfl (lv_at hl 1 rfl) ?_
    refine lv_aload_n (pc := 125) hx hb dX1_measure_125 rfl (lv_at hl 2 rfl) ?_
    refine lv_aload_n (pc := 126) hx hb dX1_measure_126 rfl (lv_at hl 3 rfl) ?_
    refine lv_iload (pc := 127) hx hb dX1_measure_127 (lv_at hl 0 rfl) ?_
    obtain ⟨a18, q19, hf⟩ := o_bindE hf
    refine z_callVv (pc := 129) (As := [.ref (h 13), .ref (h 21), .int x17]) (rest := []) (Wc := (W_X1_findChangedLines cA (fun k => h ([0, 1, 2, 3, 4, 5, 6, 7, 8, 9, 10, 11, 12, 13, 14, 15, 16, 17, 18, 19, 20, 21, 22, 23, 24, 25, 26, 27].getD k 0)) c_count a7 a8 a9 a10 x13 x14 x15 c_changedOn c_priced b_height b_count b_room b_account b_lines y_numberOf y_pageOf y_lineOf y_usedOn y_pages y_printedLots y_printedLines)) (W1 := (W_X1_findChangedLines cA (fun k => h ([0, 1, 2, 3, 4, 5, 6, 7, 8, 9, 10, 11, 12, 13, 14, 15, 16, 17, 18, 19, 20, 21, 22, 23, 24, 25, 26, 27].getD k 0)) c_count a7 a8 a9 a10 x13 x14 x15 a18 c_priced b_height b_count b_room b_account b_lines y_numberOf y_pageOf y_lineOf y_usedOn y_pages y_printedLots y_printedLines)) (W2 := (W_X1_measure cA h c_lots a4 c_count a7 a8 a9 a10 a11 a12 x13 x14 x15 a5 a18 c_priced b_height b_count b_room b_account b_costs b_lines b_printed b_wanted b_slipped y_numberOf y_pageOf y_lineOf y_usedOn y_pages y_printedLots y_printedLines)) ⟨hx, hb, hml, hown, hts⟩ (kX1_findChangedLines l D cA (fun k => h ([0, 1, 2, 3, 4, 5, 6, 7, 8, 9, 10, 11, 12, 13, 14, 15, 16, 17, 18, 19, 20, 21, 22, 23, 24, 25, 26, 27].getD k 0)) x17 c_count a7 a8 a9 a10 x13 x14 x15 c_changedOn c_priced b_height b_count b_room b_account b_lines y_numberOf y_pageOf y_lineOf y_usedOn y_pages y_printedLots y_printedLines _ q19) (cwV 3 hts gX1_measure_X1_findChangedLines rfl rfl rfl (by decide +kernel) ⟨Nat.le_of_ble_eq_true rfl, Nat.le_of_ble_eq_true rfl⟩) Z hA [0, 3, 4, 5, 6, 7, 11, 12, 14, 18, 19, 20, 21, 22] rfl (by decide) rfl (ci := 1) rfl rfl rfl rfl hl.1 rfl (Nat.le_of_ble_eq_true rfl) dX1_measure_129 ⟨Nat.zero_le _, Nat.zero_le _⟩ [some 0, none, none, some 1, some 2, some 3, some 4, some 5, none, none, none, some 6, some 7, none, some 8, none, none, none, some 9, some 10, some 11, some 12, some 13] rfl ⟨rfl, rfl, rfl, rfl, rfl, rfl, rfl, rfl, rfl, rfl, rfl, rfl, rfl, rfl, rfl, rfl, rfl, rfl, rfl, rfl, rfl, rfl, rfl, rfl⟩ (fun H locs Z => ?_)
    refine lv_aload_n (pc := 132) hx hb dX1_measure_132 rfl (lv_at hl 1 rfl) ?_
    refine lv_iload (pc := 133) hx hb dX1_measure_133 (lv_at hl 0 rfl) ?_
    obtain ⟨a20, q21, hf⟩ := o_bindE hf
    refine z_callVv (pc := 135) (As := [.int x17]) (rest := []) (Wc := (W_X1_countChanged cA (fun k => h ([0, 1, 2, 3, 4, 5, 6, 7, 8, 9, 10, 11, 12].getD k 0)) a4 c_count a18 c_priced)) (W1 := (W_X1_countChanged cA (fun k => h ([0, 1, 2, 3, 4, 5, 6, 7, 8, 9, 10, 11, 12].getD k 0)) a20 c_count a18 c_priced)) (W2 := (W_X1_measure cA h c_lots a20 c_count a7 a8 a9 a10 a11 a12 x13 x14 x15 a5 a18 c_priced b_height b_count b_room b_account b_costs b_lines b_printed b_wanted b_slipped y_numberOf y_pageOf y_lineOf y_usedOn y_pages y_printedLots y_printedLines)) ⟨hx, hb, hml, hown, hts⟩ (kX1_countChanged l D cA (fun k => h ([0, 1, 2, 3, 4, 5, 6, 7, 8, 9, 10, 11, 12].getD k 0)) x17 a4 c_count a18 c_priced _ q21) (cwV 1 hts gX1_measure_X1_countChanged rfl rfl rfl (by decide +kernel) ⟨Nat.le_of_ble_eq_true rfl, Nat.le_of_ble_eq_true rfl⟩) Z hA [0, 2, 11] rfl (by decide) rfl (ci := 1) rfl rfl rfl rfl hl.1 rfl (Nat.le_of_ble_eq_true rfl) dX1_measure_135 ⟨Nat.zero_le _, Nat.zero_le _⟩ [some 0, none, some 1, none, none, none, none, none, none, none, none, some 2, none, none, none, none, none, none, none, none, none, none, none] rfl ⟨rfl, rfl, rfl, rfl, rfl, rfl, rfl, rfl, rfl, rfl, rfl, rfl, rfl, rfl, rfl, rfl, rfl, rfl, rfl, rfl, rfl, rfl, rfl, rfl⟩ (fun H locs Z => ?_)
    refine lv_aload_n (pc := 138) hx hb dX1_measure_138 rfl (lv_at hl 1 rfl) ?_
    refine z_get (pc := 139) (ref := "LotSheet$Choices") (ci := 1) (C := RX1) (T := TX1) (N := 8) hx hb hts iw_X1_measure_X1 hown Z 0 rfl rfl 1 (by decide) (List.mem_of_getElem? (i := 7) rfl) rfl rfl dX1_measure_139 ?_
    refine lv_iconst (pc := 142) (v := (4 : Int32)) hx hb dX1_measure_142 (by decide) ?_
    refine lv_aload_n (pc := 143) hx hb dX1_measure_143 rfl (lv_at hl 1 rfl) ?_
    refine z_get (pc := 144) (ref := "LotSheet$Choices") (ci := 1) (C := RX1) (T := TX1) (N := 8) hx hb hts iw_X1_measure_X1 hown Z 0 rfl rfl 1 (by decide) (List.mem_of_getElem? (i := 7) rfl) rfl rfl dX1_measure_144 ?_
    refine lv_iconst (pc := 147) (v := (5 : Int32)) hx hb dX1_measure_147 (by decide) ?_
    refine z_iald (pc := 148) hx hb Z 2 0 rfl rfl (show ¬ ((5 : Int32) < 0 ∨ 7 ≤ (5 : Int32).toNatClampNeg) by decide) dX1_measure_148 ?_
    refine lv_aload_n (pc := 149) hx hb dX1_measure_149 rfl (lv_at hl 2 rfl) ?_
    refine z_get (pc := 150) (ref := "LotSheet$Bill") (ci := 0) (C := RX0) (T := TX0) (N := 11) hx hb hts iw_X1_measure_X0 hown Z 12 rfl rfl 2 (by decide) (List.mem_of_getElem? (i := 18) rfl) rfl rfl dX1_measure_150 ?_
    obtain ⟨x22, q23, hf⟩ := o_bindE hf
    refine z_callSi (pc := 153) (As := [.int (a20 (5 : Int32).toNatClampNeg), .int b_room]) (rest := [.int (4 : Int32), .ref (h 2)]) (Wc := (W_X1_slipsFor cA (fun k => h ([0].getD k 0)))) (W1 := (W_X1_slipsFor cA (fun k => h ([0].getD k 0)))) (W2 := (W_X1_measure cA h c_lots a20 c_count a7 a8 a9 a10 a11 a12 x13 x14 x15 a5 a18 c_priced b_height b_count b_room b_account b_costs b_lines b_printed b_wanted b_slipped y_numberOf y_pageOf y_lineOf y_usedOn y_pages y_printedLots y_printedLines)) ⟨hx, hb, hml, hown, hts⟩ (kX1_slipsFor l D cA (fun k => h ([0].getD k 0)) (a20 (5 : Int32).toNatClampNeg) b_room _ q23) (va_cwS 2 hts gX1_measure_X1_slipsFor rfl rfl rfl (by decide +kernel) ⟨Nat.le_of_ble_eq_true rfl, Nat.le_of_ble_eq_true rfl⟩) Z hA [] rfl (by decide) rfl rfl hl.1 rfl (Nat.le_of_ble_eq_true rfl) dX1_measure_153 ⟨Nat.zero_le _, Nat.zero_le _⟩ [none, none, none, none, none, none, none, none, none, none, none, none, none, none, none, none, none, none, none, none, none, none, none] rfl ⟨rfl, rfl, rfl, rfl, rfl, rfl, rfl, rfl, rfl, rfl, rfl, rfl, rfl, rfl, rfl, rfl, rfl, rfl, rfl, rfl, rfl, rfl, rfl, rfl⟩ (fun H locs Z => ?_)
    refine z_iast (pc := 156) hx hb Z 2 0 rfl rfl (show ¬ ((4 : Int32) < 0 ∨ 7 ≤ (4 : Int32).toNatClampNeg) by decide) dX1_measure_156 (fun g => (W_X1_measure cA h c_lots g c_count a7 a8 a9 a10 a11 a12 x13 x14 x15 a5 a18 c_priced b_height b_count b_room b_account b_costs b_lines b_printed b_wanted b_slipped y_numberOf y_pageOf y_lineOf y_usedOn y_pages y_printedLots y_printedLines)) (fun _ => rfl) (fun a24 H locs ea24 Z => ?_)
    replace hf := o_letE ea24 hf
    refine lv_aload_n (pc := 157) hx hb dX1_measure_157 rfl (lv_at hl 1 rfl) ?_
    refine z_get (pc := 158) (ref := "LotSheet$Choices") (ci := 1) (C := RX1) (T := TX1) (N := 8) hx hb hts iw_X1_measure_X1 hown Z 0 rfl rfl 1 (by decide) (List.mem_of_getElem? (i := 7) rfl) rfl rfl dX1_measure_158 ?_
    refine lv_bipush (pc := 161) (v := (6 : Int32)) hx hb dX1_measure_161 (by decide) ?_
    refine lv_aload_n (pc := 163) hx hb dX1_measure_163 rfl (lv_at hl 1 rfl) ?_
    refine z_get (pc := 164) (ref := "LotSheet$Choices") (ci := 1) (C := RX1) (T := TX1) (N := 8) hx hb hts iw_X1_measure_X1 hown Z 0 rfl rfl 3 (by decide) (List.mem_of_getElem? (i := 12) rfl) rfl rfl dX1_measure_164 ?_
    refine z_get (pc := 167) (ref := "LotSheet$Layout") (ci := 3) (C := RX3) (T := TX3) (N := 9) hx hb hts iw_X1_measure_X3 hown Z 3 rfl rfl 6 (by decide) (List.mem_of_getElem? (i := 13) rfl) rfl rfl dX1_measure_167 ?_
    refine z_iast (pc := 170) hx hb Z 2 0 rfl rfl (show ¬ ((6 : Int32) < 0 ∨ 7 ≤ (6 : Int32).toNatClampNeg) by decide) dX1_measure_170 (fun g => (W_X1_measure cA h c_lots g c_count a7 a8 a9 a10 a11 a12 x13 x14 x15 a5 a18 c_priced b_height b_count b_room b_account b_costs b_lines b_printed b_wanted b_slipped y_numberOf y_pageOf y_lineOf y_usedOn y_pages y_printedLots y_printedLines)) (fun _ => rfl) (fun a25 H locs ea25 Z => ?_)
    replace hf := o_letE ea25 hf
    refine lv_aload_n (pc := 171) hx hb dX1_measure_171 rfl (lv_at hl 1 rfl) ?_
    refine z_get (pc := 172) (ref := "LotSheet$Choices") (ci := 1) (C := RX1) (T := TX1) (N := 8) hx hb hts iw_X1_measure_X1 hown Z 0 rfl rfl 1 (by decide) (List.mem_of_getElem? (i := 7) rfl) rfl rfl dX1_measure_172 ?_
    refine lv_iconst (pc := 175) (v := (0 : Int32)) hx hb dX1_measure_175 (by decide) ?_
    refine lv_aload_n (pc := 176) hx hb dX1_measure_176 rfl (lv_at hl 1 rfl) ?_
    refine z_get (pc := 177) (ref := "LotSheet$Choices") (ci := 1) (C := RX1) (T := TX1) (N := 8) hx hb hts iw_X1_measure_X1 hown Z 0 rfl rfl 1 (by decide) (List.mem_of_getElem? (i := 7) rfl) rfl rfl dX1_measure_177 ?_
    refine lv_iconst (pc := 180) (v := (1 : Int32)) hx hb dX1_measure_180 (by decide) ?_
    refine z_iald (pc := 181) hx hb Z 2 0 rfl rfl (show ¬ ((1 : Int32) < 0 ∨ 7 ≤ (1 : Int32).toNatClampNeg) by decide) dX1_measure_181 ?_
    refine lv_aload_n (pc := 182) hx hb dX1_measure_182 rfl (lv_at hl 2 rfl) ?_
    refine z_get (pc := 183) (ref := "LotSheet$Bill") (ci := 0) (C := RX0) (T := TX0) (N := 11) hx hb hts iw_X1_measure_X0 hown Z 12 rfl rfl 4 (by decide) (List.mem_of_getElem? (i := 19) rfl) rfl rfl dX1_measure_183 ?_
    refine lv_iconst (pc := 186) (v := (0 : Int32)) hx hb dX1_measure_186 (by decide) ?_
    refine z_iald (pc := 187) hx hb Z 13 0 rfl rfl (show ¬ ((0 : Int32) < 0 ∨ 5 ≤ (0 : Int32).toNatClampNeg) by decide) dX1_measure_187 ?_
    refine lv_imul (pc := 188) hx hb dX1_measure_188 ?_
    refine lv_aload_n (pc := 189) hx hb dX1_measure_189 rfl (lv_at hl 1 rfl) ?_
    refine z_get (pc := 190) (ref := "LotSheet$Choices") (ci := 1) (C := RX1) (T := TX1) (N := 8) hx hb hts iw_X1_measure_X1 hown Z 0 rfl rfl 1 (by decide) (List.mem_of_getElem? (i := 7) rfl) rfl rfl dX1_measure_190 ?_
    refine lv_iconst (pc := 193) (v := (2 : Int32)) hx hb dX1_measure_193 (by decide) ?_
    refine z_iald (pc := 194) hx hb Z 2 0 rfl rfl (show ¬ ((2 : Int32) < 0 ∨ 7 ≤ (2 : Int32).toNatClampNeg) by decide) dX1_measure_194 ?_
    refine lv_aload_n (pc := 195) hx hb dX1_measure_195 rfl (lv_at hl 2 rfl) ?_
    refine z_get (pc := 196) (ref := "LotSheet$Bill") (ci := 0) (C := RX0) (T := TX0) (N := 11) hx hb hts iw_X1_measure_X0 hown Z 12 rfl rfl 4 (by decide) (List.mem_of_getElem? (i := 19) rfl) rfl rfl dX1_measure_196 ?_
    refine lv_iconst (pc := 199) (v := (1 : Int32)) hx hb dX1_measure_199 (by decide) ?_
    refine z_iald (pc := 200) hx hb Z 13 0 rfl rfl (show ¬ ((1 : Int32) < 0 ∨ 5 ≤ (1 : Int32).toNatClampNeg) by decide) dX1_measure_200 ?_
    refine lv_imul (pc := 201) hx hb dX1_measure_201 ?_
    refine lv_iadd (pc := 202) hx hb dX1_measure_202 ?_
    refine lv_aload_n (pc := 203) hx hb dX1_measure_203 rfl (lv_at hl 1 rfl) ?_
    refine z_get (pc := 204) (ref := "LotSheet$Choices") (ci := 1) (C := RX1) (T := TX1) (N := 8) hx hb hts iw_X1_measure_X1 hown Z 0 rfl rfl 1 (by decide) (List.mem_of_getElem? (i := 7) rfl) rfl rfl dX1_measure_204 ?_
    refine lv_iconst (pc := 207) (v := (3 : Int32)) hx hb dX1_measure_207 (by decide) ?_
    refine z_iald (pc := 208) hx hb Z 2 0 rfl rfl (show ¬ ((3 : Int32) < 0 ∨ 7 ≤ (3 : Int32).toNatClampNeg) by decide) dX1_measure_208 ?_
    refine lv_aload_n (pc := 209) hx hb dX1_measure_209 rfl (lv_at hl 2 rfl) ?_
    refine z_get (pc := 210) (ref := "LotSheet$Bill") (ci := 0) (C := RX0) (T := TX0) (N := 11) hx hb hts iw_X1_measure_X0 hown Z 12 rfl rfl 4 (by decide) (List.mem_of_getElem? (i := 19) rfl) rfl rfl dX1_measure_210 ?_
    refine lv_iconst (pc := 213) (v := (2 : Int32)) hx hb dX1_measure_213 (by decide) ?_
    refine z_iald (pc := 214) hx hb Z 13 0 rfl rfl (show ¬ ((2 : Int32) < 0 ∨ 5 ≤ (2 : Int32).toNatClampNeg) by decide) dX1_measure_214 ?_
    refine lv_imul (pc := 215) hx hb dX1_measure_215 ?_
    refine lv_iadd (pc := 216) hx hb dX1_measure_216 ?_
    refine lv_aload_n (pc := 217) hx hb dX1_measure_217 rfl (lv_at hl 1 rfl) ?_
    refine z_get (pc := 218) (ref := "LotSheet$Choices") (ci := 1) (C := RX1) (T := TX1) (N := 8) hx hb hts iw_X1_measure_X1 hown Z 0 rfl rfl 1 (by decide) (List.mem_of_getElem? (i := 7) rfl) rfl rfl dX1_measure_218 ?_
    refine lv_iconst (pc := 221) (v := (4 : Int32)) hx hb dX1_measure_221 (by decide) ?_
    refine z_iald (pc := 222) hx hb Z 2 0 rfl rfl (show ¬ ((4 : Int32) < 0 ∨ 7 ≤ (4 : Int32).toNatClampNeg) by decide) dX1_measure_222 ?_
    refine lv_aload_n (pc := 223) hx hb dX1_measure_223 rfl (lv_at hl 2 rfl) ?_
    refine z_get (pc := 224) (ref := "LotSheet$Bill") (ci := 0) (C := RX0) (T := TX0) (N := 11) hx hb hts iw_X1_measure_X0 hown Z 12 rfl rfl 4 (by decide) (List.mem_of_getElem? (i := 19) rfl) rfl rfl dX1_measure_224 ?_
    refine lv_iconst (pc := 227) (v := (3 : Int32)) hx hb dX1_measure_227 (by decide) ?_
    refine z_iald (pc := 228) hx hb Z 13 0 rfl rfl (show ¬ ((3 : Int32) < 0 ∨ 5 ≤ (3 : Int32).toNatClampNeg) by decide) dX1_measure_228 ?_
    refine lv_imul (pc := 229) hx hb dX1_measure_229 ?_
    refine lv_iadd (pc := 230) hx hb dX1_measure_230 ?_
    refine lv_aload_n (pc := 231) hx hb dX1_measure_231 rfl (lv_at hl 1 rfl) ?_
    refine z_get (pc := 232) (ref := "LotSheet$Choices") (ci := 1) (C := RX1) (T := TX1) (N := 8) hx hb hts iw_X1_measure_X1 hown Z 0 rfl rfl 1 (by decide) (List.mem_of_getElem? (i := 7) rfl) rfl rfl dX1_measure_232 ?_
    refine lv_iconst (pc := 235) (v := (5 : Int32)) hx hb dX1_measure_235 (by decide) ?_
    refine z_iald (pc := 236) hx hb Z 2 0 rfl rfl (show ¬ ((5 : Int32) < 0 ∨ 7 ≤ (5 : Int32).toNatClampNeg) by decide) dX1_measure_236 ?_
    refine lv_aload_n (pc := 237) hx hb dX1_measure_237 rfl (lv_at hl 2 rfl) ?_
    refine z_get (pc := 238) (ref := "LotSheet$Bill") (ci := 0) (C := RX0) (T := TX0) (N := 11) hx hb hts iw_X1_measure_X0 hown Z 12 rfl rfl 4 (by decide) (List.mem_of_getElem? (i := 19) rfl) rfl rfl dX1_measure_238 ?_
    refine lv_iconst (pc := 241) (v := (4 : Int32)) hx hb dX1_measure_241 (by decide) ?_
    refine z_iald (pc := 242) hx hb Z 13 0 rfl rfl (show ¬ ((4 : Int32) < 0 ∨ 5 ≤ (4 : Int32).toNatClampNeg) by decide) dX1_measure_242 ?_
    refine lv_imul (pc := 243) hx hb dX1_measure_243 ?_
    refine lv_iadd (pc := 244) hx hb dX1_measure_244 ?_
    refine z_iast (pc := 245) hx hb Z 2 0 rfl rfl (show ¬ ((0 : Int32) < 0 ∨ 7 ≤ (0 : Int32).toNatClampNeg) by decide) dX1_measure_245 (fun g => (W_X1_measure cA h c_lots g c_count a7 a8 a9 a10 a11 a12 x13 x14 x15 a5 a18 c_priced b_height b_count b_room b_account b_costs b_lines b_printed b_wanted b_slipped y_numberOf y_pageOf y_lineOf y_usedOn y_pages y_printedLots y_printedLines)) (fun _ => rfl) (fun a26 H locs ea26 Z => ?_)
    replace hf := o_letE ea26 hf
    cases hf
    exact z_vret (pc := 246) hx hb hr hlocks Z rfl dX1_measure_246
  have hL25 : ∀ (n0 : Nat) (x27 : Int32) (a28 : Nat → Int32) (a29 : Nat → Int32) (H : Heap) (locs : List Loc) (ls : Array Slot), zw D (zTY cA) s A (W_X1_measure cA h c_lots a28 c_count v_numberOf v_pageOf v_lineOf v_usedOn v_lotsOn v_firstOn v_pages v_printedLots v_printedLines a29 c_changedOn c_priced b_height b_count b_room b_account b_costs b_lines b_printed b_wanted b_slipped y_numberOf y_pageOf y_lineOf y_usedOn y_pages y_printedLots y_printedLines) H locs → lv_has ls 6 [(0, .ref (h 0)), (1, .ref (h 13)), (2, .ref (h 21)), (3, .int p3), (4, .int x27)] → fX1_measure_L25 c_count j96_6 c_lots p3 b_slipped b_wanted n0 x27 a28 a29 = some u → W p l e ({ frames := 2, cells := 0, slots := 0, locals := 48 } : Room) s m args below meth c H locs 0 0 (MQ below (zQv D (zTY cA) A (W_X1_measure cA h c_lots (u.1) c_count (u.2.1) (u.2.2.1) (u.2.2.2.1) (u.2.2.2.2.1) (u.2.2.2.2.2.1) (u.2.2.2.2.2.2.1) (u.2.2.2.2.2.2.2.1) (u.2.2.2.2.2.2.2.2.1) (u.2.2.2.2.2.2.2.2.2.1) (u.2.2.2.2.2.2.2.2.2.2.1) (u.2.2.2.2.2.2.2.2.2.2.2) c_priced b_height b_count b_room b_account b_costs b_lines b_printed b_wanted b_slipped y_numberOf y_pageOf y_lineOf y_usedOn y_pages y_printedLots y_printedLines)) args s 0 0 A) (F0 m 25 ls []) := by
    intro n0
    induction n0 with
    | zero => intro x27 a28 a29 H locs ls Z hl hf; exact o_no hf
    | succ n0 ih0 =>
      intro x27 a28 a29 H locs ls Z hl hf
      refine lv_iload (pc := 25) hx hb dX1_measure_25 (lv_at hl 4 rfl) ?_
      refine lv_aload_n (pc := 27) hx hb dX1_measure_27 rfl (lv_at hl 0 rfl) ?_
      refine z_get (pc := 28) (ref := "LotSheet$Choices") (ci := 1) (C := RX1) (T := TX1) (N := 8) hx hb hts iw_X1_measure_X1 hown Z 0 rfl rfl 2 (by decide) (List.mem_of_getElem? (i := 8) rfl) rfl rfl dX1_measure_28 ?_
      refine lv_icmp_ge (pc := 31) (tgt := 96) hx hb dX1_measure_31 (by decide) (fun c30 => ?_) (fun c30 => ?_)
      · replace hf := o_pos c30 hf
        exact hj96_6 a28 a29 H locs ls Z (lv_sub hl [0, 1, 2] rfl) hf
      · replace hf := o_neg c30 hf
        refine lv_aload_n (pc := 34) hx hb dX1_measure_34 rfl (lv_at hl 0 rfl) ?_
        refine z_get (pc := 35) (ref := "LotSheet$Choices") (ci := 1) (C := RX1) (T := TX1) (N := 8) hx hb hts iw_X1_measure_X1 hown Z 0 rfl rfl 0 (by decide) (List.mem_of_getElem? (i := 9) rfl) rfl rfl dX1_measure_35 ?_
        refine lv_iload (pc := 38) hx hb dX1_measure_38 (lv_at hl 4 rfl) ?_
        obtain ⟨i31, hf⟩ := o_rdE hf
        refine z_iald (pc := 40) hx hb Z 1 0 rfl rfl i31 dX1_measure_40 ?_
        refine lv_topi (fun x32 ex32 => ?_)
        replace hf := o_letE ex32 hf
        refine lv_istore (pc := 41) (lv' := [(5, .int x32), (0, .ref (h 0)), (1, .ref (h 13)), (2, .ref (h 21)), (3, .int p3), (4, .int x27)]) hx hb dX1_measure_41 hl (by decide) rfl (fun ls hl => ?_)
        refine lv_aload_n (pc := 43) hx hb dX1_measure_43 rfl (lv_at hl 1 rfl) ?_
        refine lv_iload_n (pc := 44) hx hb dX1_measure_44 rfl (lv_at hl 4 rfl) ?_
        refine lv_iload (pc := 45) hx hb dX1_measure_45 (lv_at hl 5 rfl) ?_
        obtain ⟨x33, q34, hf⟩ := o_bindE hf
        refine z_callVi (pc := 47) (As := [.int p3, .int x27]) (rest := []) (Wc := (W_X1_holds cA (fun k => h ([0, 1, 2, 3, 4, 5, 6, 7, 8, 9, 10, 11, 12].getD k 0)) c_count c_priced)) (W1 := (W_X1_holds cA (fun k => h ([0, 1, 2, 3, 4, 5, 6, 7, 8, 9, 10, 11, 12].getD k 0)) c_count c_priced)) (W2 := (W_X1_measure cA h c_lots a28 c_count v_numberOf v_pageOf v_lineOf v_usedOn v_lotsOn v_firstOn v_pages v_printedLots v_printedLines a29 c_changedOn c_priced b_height b_count b_room b_account b_costs b_lines b_printed b_wanted b_slipped y_numberOf y_pageOf y_lineOf y_usedOn y_pages y_printedLots y_printedLines)) ⟨hx, hb, hml, hown, hts⟩ (kX1_holds l D cA (fun k => h ([0, 1, 2, 3, 4, 5, 6, 7, 8, 9, 10, 11, 12].getD k 0)) p3 x27 c_count c_priced _ q34) (cwV 2 hts gX1_measure_X1_holds rfl rfl rfl (by decide +kernel) ⟨Nat.le_of_ble_eq_true rfl, Nat.le_of_ble_eq_true rfl⟩) Z hA [0] rfl (by decide) rfl (ci := 1) rfl rfl rfl rfl hl.1 rfl (Nat.le_of_ble_eq_true rfl) dX1_measure_47 ⟨Nat.zero_le _, Nat.zero_le _⟩ [some 0, none, none, none, none, none, none, none, none, none, none, none, none, none, none, none, none, none, none, none, none, none, none] rfl ⟨rfl, rfl, rfl, rfl, rfl, rfl, rfl, rfl, rfl, rfl, rfl, rfl, rfl, rfl, rfl, rfl, rfl, rfl, rfl, rfl, rfl, rfl, rfl, rfl⟩ (fun H locs Z => ?_)
        refine lv_if_eq (pc := 50) (tgt := 70) hx hb dX1_measure_50 (by decide) (fun c35 => ?_) (fun c35 => ?_)
        · replace hf := o_pos c35 hf
          refine lv_aload_n (pc := 70) hx hb dX1_measure_70 rfl (lv_at hl 2 rfl) ?_
          refine z_get (pc := 71) (ref := "LotSheet$Bill") (ci := 0) (C := RX0) (T := TX0) (N := 11) hx hb hts iw_X1_measure_X0 hown Z 12 rfl rfl 10 (by decide) (List.mem_of_getElem? (i := 11) rfl) rfl rfl dX1_measure_71 ?_
          refine lv_iload (pc := 74) hx hb dX1_measure_74 (lv_at hl 0 rfl) ?_
          obtain ⟨i36, hf⟩ := o_rdE hf
          refine z_zald (pc := 76) hx hb Z 17 1 rfl rfl i36 dX1_measure_76 ?_
          refine lv_if_ne (pc := 77) (tgt := 90) hx hb dX1_measure_77 (by decide) (fun c37 => ?_) (fun c37 => ?_)
          · replace hf := o_neg c37 hf
            obtain ⟨x38, ex38⟩ : ∃ y : Int32, y = (x27 + (1 : Int32)) := ⟨_, rfl⟩
            replace hf := o_letE ex38 hf
            refine lv_iinc (pc := 90) (v := x38) (lv' := [(4, .int x38), (5, .int x32), (0, .ref (h 0)), (1, .ref (h 13)), (2, .ref (h 21)), (3, .int p3)]) hx hb dX1_measure_90 hl (k := 5) rfl (by rw [ex38]; rfl) (by decide) rfl (fun ls hl => ?_)
            refine lv_goto (pc := 93) (tgt := 25) hx hb dX1_measure_93 (by decide) ?_
            exact ih0 x38 a28 a29 H locs ls Z (lv_sub hl [2, 3, 4, 5, 0] rfl) hf
          · replace hf := o_pos c37 hf
            refine lv_aload_n (pc := 80) hx hb dX1_measure_80 rfl (lv_at hl 1 rfl) ?_
            refine z_get (pc := 81) (ref := "LotSheet$Choices") (ci := 1) (C := RX1) (T := TX1) (N := 8) hx hb hts iw_X1_measure_X1 hown Z 0 rfl rfl 1 (by decide) (List.mem_of_getElem? (i := 7) rfl) rfl rfl dX1_measure_81 ?_
            refine lv_iconst (pc := 84) (v := (5 : Int32)) hx hb dX1_measure_84 (by decide) ?_
            refine lv_dup2_11 (pc := 85) hx hb dX1_measure_85 rfl rfl ?_
            refine z_iald (pc := 86) hx hb Z 2 0 rfl rfl (show ¬ ((5 : Int32) < 0 ∨ 7 ≤ (5 : Int32).toNatClampNeg) by decide) dX1_measure_86 ?_
            refine lv_iconst (pc := 87) (v := (1 : Int32)) hx hb dX1_measure_87 (by decide) ?_
            refine lv_iadd (pc := 88) hx hb dX1_measure_88 ?_
            refine z_iast (pc := 89) hx hb Z 2 0 rfl rfl (show ¬ ((5 : Int32) < 0 ∨ 7 ≤ (5 : Int32).toNatClampNeg) by decide) dX1_measure_89 (fun g => (W_X1_measure cA h c_lots g c_count v_numberOf v_pageOf v_lineOf v_usedOn v_lotsOn v_firstOn v_pages v_printedLots v_printedLines a29 c_changedOn c_priced b_height b_count b_room b_account b_costs b_lines b_printed b_wanted b_slipped y_numberOf y_pageOf y_lineOf y_usedOn y_pages y_printedLots y_printedLines)) (fun _ => rfl) (fun a39 H locs ea39 Z => ?_)
            replace hf := o_letE ea39 hf
            obtain ⟨x40, ex40⟩ : ∃ y : Int32, y = (x27 + (1 : Int32)) := ⟨_, rfl⟩
            replace hf := o_letE ex40 hf
            refine lv_iinc (pc := 90) (v := x40) (lv' := [(4, .int x40), (5, .int x32), (0, .ref (h 0)), (1, .ref (h 13)), (2, .ref (h 21)), (3, .int p3)]) hx hb dX1_measure_90 hl (k := 5) rfl (by rw [ex40]; rfl) (by decide) rfl (fun ls hl => ?_)
            refine lv_goto (pc := 93) (tgt := 25) hx hb dX1_measure_93 (by decide) ?_
            exact ih0 x40 a39 a29 H locs ls Z (lv_sub hl [2, 3, 4, 5, 0] rfl) hf
        · replace hf := o_neg c35 hf
          refine lv_aload_n (pc := 53) hx hb dX1_measure_53 rfl (lv_at hl 1 rfl) ?_
          refine z_get (pc := 54) (ref := "LotSheet$Choices") (ci := 1) (C := RX1) (T := TX1) (N := 8) hx hb hts iw_X1_measure_X1 hown Z 0 rfl rfl 4 (by decide) (List.mem_of_getElem? (i := 2) rfl) rfl rfl dX1_measure_54 ?_
          refine lv_iload (pc := 57) hx hb dX1_measure_57 (lv_at hl 0 rfl) ?_
          refine lv_aload_n (pc := 59) hx hb dX1_measure_59 rfl (lv_at hl 2 rfl) ?_
          refine z_get (pc := 60) (ref := "LotSheet$Bill") (ci := 0) (C := RX0) (T := TX0) (N := 11) hx hb hts iw_X1_measure_X0 hown Z 12 rfl rfl 9 (by decide) (List.mem_of_getElem? (i := 10) rfl) rfl rfl dX1_measure_60 ?_
          refine lv_iload (pc := 63) hx hb dX1_measure_63 (lv_at hl 0 rfl) ?_
          obtain ⟨i41, hf⟩ := o_rdE hf
          refine z_zald (pc := 65) hx hb Z 16 1 rfl rfl i41 dX1_measure_65 ?_
          obtain ⟨i42, hf⟩ := o_rdE hf
          refine z_zast (pc := 66) hx hb Z 10 1 rfl rfl i42 dX1_measure_66 (fun g => (W_X1_measure cA h c_lots a28 c_count v_numberOf v_pageOf v_lineOf v_usedOn v_lotsOn v_firstOn v_pages v_printedLots v_printedLines g c_changedOn c_priced b_height b_count b_room b_account b_costs b_lines b_printed b_wanted b_slipped y_numberOf y_pageOf y_lineOf y_usedOn y_pages y_printedLots y_printedLines)) (fun _ => rfl) (fun a43 H locs ea43 Z => ?_)
          replace hf := o_letE ea43 hf
          refine lv_goto (pc := 67) (tgt := 90) hx hb dX1_measure_67 (by decide) ?_
          obtain ⟨x44, ex44⟩ : ∃ y : Int32, y = (x27 + (1 : Int32)) := ⟨_, rfl⟩
          replace hf := o_letE ex44 hf
          refine lv_iinc (pc := 90) (v := x44) (lv' := [(4, .int x44), (5, .int x32), (0, .ref (h 0)), (1, .ref (h 13)), (2, .ref (h 21)), (3, .int p3)]) hx hb dX1_measure_90 hl (k := 5) rfl (by rw [ex44]; rfl) (by decide) rfl (fun ls hl => ?_)
          refine lv_goto (pc := 93) (tgt := 25) hx hb dX1_measure_93 (by decide) ?_
          exact ih0 x44 a28 a43 H locs ls Z (lv_sub hl [2, 3, 4, 5, 0] rfl) hf
  exact hL25 1024 (0 : Int32) a3 a2 H locs ls Z (lv_sub hl [1, 2, 3, 4, 0] rfl) hf
