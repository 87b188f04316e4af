def W_X1_measure (cA : Nat → ClassId) (h : Nat → Nat) (c_lots : Nat → Int32) (c_figures : Nat → Int32) (c_count : Int32) (v_numberOf : Nat → Int32) (v_pageOf : Nat → Int32) (v_lineOf : Nat → Int32) (v_usedOn : Nat → Int32) (v_lotsOn : Nat → Int32) (v_firstOn : Nat → Int32) (v_pages : Int32) (v_printedLots : Int32) (v_printedLines : Int32) (c_printedBehind : Nat → Int32) (c_changedOn : Nat → Int32) (c_priced : Int32) (b_height : Int32) (b_count : Int32) (b_room : Int32) (b_account : Int32) (b_costs : Nat → Int32) (b_lines : Nat → Int32) (b_printed : Nat → Int32) (b_wanted : Nat → Int32) (b_slipped : Nat → Int32) (y_numberOf : Nat → Int32) (y_pageOf : Nat → Int32) (y_lineOf : Nat → Int32) (y_usedOn : Nat → Int32) (y_pages : Int32) (y_printedLots : Int32) (y_printedLines : Int32) : va_W := [(h 0, .inr (1, [.ref (h 1), .ref (h 2), .int c_count, .ref (h 3), .ref (h 10), .ref (h 11), .ref (h 12), .int c_priced])), (h 1, .inl (cA 0, 8, .inl c_lots)), (h 2, .inl (cA 0, 7, .inl c_figures)), (h 3, .inr (3, [.ref (h 4), .ref (h 5), .ref (h 6), .ref (h 7), .ref (h 8), .ref (h 9), .int v_pages, .int v_printedLots, .int v_printedLines])), (h 4, .inl (cA 0, 24, .inl v_numberOf)), (h 5, .inl (cA 0, 24, .inl v_pageOf)), (h 6, .inl (cA 0, 24, .inl v_lineOf)), (h 7, .inl (cA 0, 24, .inl v_usedOn)), (h 8, .inl (cA 0, 24, .inl v_lotsOn)), (h 9, .inl (cA 0, 24, .inl v_firstOn)), (h 10, .inl (cA 1, 24, .inl c_printedBehind)), (h 11, .inl (cA 0, 24, .inl c_changedOn)), (h 13, .inr (0, [.int b_height, .int b_count, .int b_room, .int b_account, .ref (h 14), .ref (h 15), .ref (h 16), .ref (h 17), .ref (h 18), .ref (h 19), .ref (h 20)])), (h 14, .inl (cA 0, 5, .inl b_costs)), (h 15, .inl (cA 0, 24, .inl b_lines)), (h 18, .inl (cA 1, 24, .inl b_printed)), (h 19, .inl (cA 1, 24, .inl b_wanted)), (h 20, .inl (cA 1, 24, .inl b_slipped)), (h 21, .inr (3, [.ref (h 22), .ref (h 23), .ref (h 24), .ref (h 25), .ref (h 26), .ref (h 27), .int y_pages, .int y_printedLots, .int y_printedLines])), (h 22, .inl (cA 0, 24, .inl y_numberOf)), (h 23, .inl (cA 0, 24, .inl y_pageOf)), (h 24, .inl (cA 0, 24, .inl y_lineOf)), (h 25, .inl (cA 0, 24, .inl y_usedOn))]
def fX1_measure_L40 (c_count : Int32) (j111_6 : (Nat → Int32) → (Nat → Int32) → Option ((Nat → Int32) × (Nat → Int32) × (Nat → Int32) × (Nat → Int32) × (Nat → Int32) × (Nat → Int32) × (Nat → Int32) × Int32 × Int32 × Int32 × (Nat → Int32) × (Nat → Int32))) (c_lots : Nat → Int32) (p3 : Int32) (b_slipped : Nat → Int32) (b_wanted : Nat → Int32) : Nat → Int32 → (Nat → Int32) → (Nat → Int32) → Option ((Nat → Int32) × (Nat → Int32) × (Nat → Int32) × (Nat → Int32) × (Nat → Int32) × (Nat → Int32) × (Nat → Int32) × Int32 × Int32 × Int32 × (Nat → Int32) × (Nat → Int32))
  | 0, _, _, _ => none
  | n0 + 1, x27, a28, a29 => (if c_count ≤ x27 then (j111_6 a28 a29) else o_rd 8 x27 (o_let (c_lots x27.toNatClampNeg) (fun x32 => o_bind (fX1_holds p3 x27) (fun x33 => (if x33 = 0 then o_rd 24 x32 ((if (b_slipped x32.toNatClampNeg) = 0 then o_let (upd a28 (5 : Int32).toNatClampNeg ((a28 (5 : Int32).toNatClampNeg) + (1 : Int32))) (fun a39 => o_let (x27 + (1 : Int32)) (fun x40 => (fX1_measure_L40 c_count j111_6 c_lots p3 b_slipped b_wanted n0 x40 a39 a29))) else o_let (x27 + (1 : Int32)) (fun x38 => (fX1_measure_L40 c_count j111_6 c_lots p3 b_slipped b_wanted n0 x38 a28 a29)))) else o_rd 24 x32 (o_rd 24 x32 (o_let (upd a29 x32.toNatClampNeg (vp_nar .boolean (b_wanted x32.toNatClampNeg))) (fun a43 => o_let (x27 + (1 : Int32)) (fun x44 => (fX1_measure_L40 c_count j111_6 c_lots p3 b_slipped b_wanted n0 x44 a28 a43))))))))))
def fX1_measure_L3 (j30_2 : (Nat → Int32) → Option ((Nat → Int32) × (Nat → Int32) × (Nat → Int32) × (Nat → Int32) × (Nat → Int32) × (Nat → Int32) × (Nat → Int32) × Int32 × Int32 × Int32 × (Nat → Int32) × (Nat → Int32))) (b_printed : Nat → Int32) : Nat → Int32 → (Nat → Int32) → Option ((Nat → Int32) × (Nat → Int32) × (Nat → Int32) × (Nat → Int32) × (Nat → Int32) × (Nat → Int32) × (Nat → Int32) × Int32 × Int32 × Int32 × (Nat → Int32) × (Nat → Int32))
  | 0, _, _ => none
  | n0 + 1, x45, a46 => (if (24 : Int32) ≤ x45 then (j30_2 a46) else o_rd 24 x45 (o_rd 24 x45 (o_let (upd a46 x45.toNatClampNeg (vp_nar .boolean (b_printed x45.toNatClampNeg))) (fun a50 => o_let (x45 + (1 : Int32)) (fun x51 => (fX1_measure_L3 j30_2 b_printed n0 x51 a50))))))
def fX1_measure (p3 : Int32) (c_lots : Nat → Int32) (c_figures : Nat → Int32) (c_count : Int32) (v_numberOf : Nat → Int32) (v_pageOf : Nat → Int32) (v_lineOf : Nat → Int32) (v_usedOn : Nat → Int32) (v_lotsOn : Nat → Int32) (v_firstOn : Nat → Int32) (v_pages : Int32) (v_printedLots : Int32) (v_printedLines : Int32) (c_printedBehind : Nat → Int32) (c_changedOn : Nat → Int32) (b_height : Int32) (b_count : Int32) (b_room : Int32) (b_costs : Nat → Int32) (b_lines : Nat → Int32) (b_printed : Nat → Int32) (b_wanted : Nat → Int32) (b_slipped : Nat → Int32) (y_numberOf : Nat → Int32) (y_pageOf : Nat → Int32) (y_lineOf : Nat → Int32) (y_usedOn : Nat → Int32) (y_pages : Int32) : Option ((Nat → Int32) × (Nat → Int32) × (Nat → Int32) × (Nat → Int32) × (Nat → Int32) × (Nat → Int32) × (Nat → Int32) × Int32 × Int32 × Int32 × (Nat → Int32) × (Nat → Int32)) := o_let (fun (a1 : Nat → Int32) => o_let (upd c_figures (5 : Int32).toNatClampNeg (0 : Int32)) (fun a3 => o_let (fun (a4 : Nat → Int32) (a5 : Nat → Int32) => o_bind (fX3_lay v_numberOf v_pageOf v_lineOf v_usedOn v_lotsOn v_firstOn v_pages v_printedLots v_printedLines b_height b_count b_lines a5) (fun (a7, a8, a9, a10, a11, a12, x13, x14, x15) => o_let (if y_pages < x13 then x13 else y_pages) (fun x17 => o_bind (fX1_findChangedLines x17 a7 a8 a9 a10 x13 c_changedOn b_count b_lines y_numberOf y_pageOf y_lineOf y_usedOn y_pages) (fun a18 => o_bind (fX1_countChanged x17 a4 a18) (fun a20 => o_bind (fX1_slipsFor (a20 (5 : Int32).toNatClampNeg) b_room) (fun x22 => o_let (upd a20 (4 : Int32).toNatClampNeg x22) (fun a24 => o_let (upd a24 (6 : Int32).toNatClampNeg x13) (fun a25 => o_let (upd a25 (0 : Int32).toNatClampNeg ((((((a25 (1 : Int32).toNatClampNeg) * (b_costs (0 : Int32).toNatClampNeg)) + ((a25 (2 : Int32).toNatClampNeg) * (b_costs (1 : Int32).toNatClampNeg))) + ((a25 (3 : Int32).toNatClampNeg) * (b_costs (2 : Int32).toNatClampNeg))) + ((a25 (4 : Int32).toNatClampNeg) * (b_costs (3 : Int32).toNatClampNeg))) + ((a25 (5 : Int32).toNatClampNeg) * (b_costs (4 : Int32).toNatClampNeg)))) (fun a26 => some (a26, a7, a8, a9, a10, a11, a12, x13, x14, x15, a5, a18)))))))))) (fun (j111_6 : (Nat → Int32) → (Nat → Int32) → Option ((Nat → Int32) × (Nat → Int32) × (Nat → Int32) × (Nat → Int32) × (Nat → Int32) × (Nat → Int32) × (Nat → Int32) × Int32 × Int32 × Int32 × (Nat → Int32) × (Nat → Int32))) => (fX1_measure_L40 c_count j111_6 c_lots p3 b_slipped b_wanted 1024 (0 : Int32) a3 a1)))) (fun (j30_2 : (Nat → Int32) → Option ((Nat → Int32) × (Nat → Int32) × (Nat → Int32) × (Nat → Int32) × (Nat → Int32) × (Nat → Int32) × (Nat → Int32) × Int32 × Int32 × Int32 × (Nat → Int32) × (Nat → Int32))) => (fX1_measure_L3 j30_2 b_printed 1024 (0 : Int32) c_printedBehind))
theorem iw_X1_measure_X1 : ∀ w ∈ u_ws RX1 TX1 8, w ∈ wsX1_measure := z_inr [67, 68, 69, 70, 71, 72, 73, 74] rfl
theorem iw_X1_measure_X3 : ∀ w ∈ u_ws RX3 TX3 9, w ∈ wsX1_measure := z_inr [86, 87, 88, 89, 90, 91, 92, 93, 94] rfl
theorem iw_X1_measure_X0 : ∀ w ∈ u_ws RX0 TX0 11, w ∈ wsX1_measure := z_inr [75, 76, 77, 78, 79, 80, 81, 82, 83, 84, 85] rfl
set_option maxHeartbeats 4000000 in
set_option maxRecDepth 100000 in
theorem kX1_measure (l : Launch) (D : va_G) (cA : Nat → ClassId) (h : Nat → Nat) (p3 : Int32) (c_lots : Nat → Int32) (c_figures : Nat → Int32) (c_count : Int32) (v_numberOf : Nat → Int32) (v_pageOf : Nat → Int32) (v_lineOf : Nat → Int32) (v_usedOn : Nat → Int32) (v_lotsOn : Nat → Int32) (v_firstOn : Nat → Int32) (v_pages : Int32) (v_printedLots : Int32) (v_printedLines : Int32) (c_printedBehind : Nat → Int32) (c_changedOn : Nat → Int32) (c_priced : Int32) (b_height : Int32) (b_count : Int32) (b_room : Int32) (b_account : Int32) (b_costs : Nat → Int32) (b_lines : Nat → Int32) (b_printed : Nat → Int32) (b_wanted : Nat → Int32) (b_slipped : Nat → Int32) (y_numberOf : Nat → Int32) (y_pageOf : Nat → Int32) (y_lineOf : Nat → Int32) (y_usedOn : Nat → Int32) (y_pages : Int32) (y_printedLots : Int32) (y_printedLines : Int32) (u : (Nat → Int32) × (Nat → Int32) × (Nat → Int32) × (Nat → Int32) × (Nat → Int32) × (Nat → Int32) × (Nat → Int32) × Int32 × Int32 × Int32 × (Nat → Int32) × (Nat → Int32)) (hf : fX1_measure p3 c_lots c_figures c_count v_numberOf v_pageOf v_lineOf v_usedOn v_lotsOn v_firstOn v_pages v_printedLots v_printedLines c_printedBehind c_changedOn b_height b_count b_room b_costs b_lines b_printed b_wanted b_slipped y_numberOf y_pageOf y_lineOf y_usedOn y_pages = some u) : zMv l yX1_measure wsX1_measure ({ frames := 2, cells := 0, slots := 0, locals := 48 } : Room) D (zTY cA) [.ref (h 0), .ref (h 13), .ref (h 21), .int p3] (W_X1_measure cA h c_lots c_figures c_count v_numberOf v_pageOf v_lineOf v_usedOn v_lotsOn v_firstOn v_pages v_printedLots v_printedLines c_printedBehind c_changedOn c_priced b_height b_count b_room b_account b_costs b_lines b_printed b_wanted b_slipped y_numberOf y_pageOf y_lineOf y_usedOn y_pages y_printedLots y_printedLines) (W_X1_measure cA h c_lots (u.1) c_count (u.2.1) (u.2.2.1) (u.2.2.2.1) (u.2.2.2.2.1) (u.2.2.2.2.2.1) (u.2.2.2.2.2.2.1) (u.2.2.2.2.2.2.2.1) (u.2.2.2.2.2.2.2.2.1) (u.2.2.2.2.2.2.2.2.2.1) (u.2.2.2.2.2.2.2.2.2.2.1) (u.2.2.2.2.2.2.2.2.2.2.2) c_priced b_height b_count b_room b_account b_costs b_lines b_printed b_wanted b_slipped y_numberOf y_pageOf y_lineOf y_usedOn y_pages y_printedLots y_printedLines) := by
  refine z_startv (cc := cX1_measure) (maxL := 6) (ret := none) (by decide) rfl (Nat.le_of_ble_eq_true rfl) ?_
  intro p e s m args below meth c A hx hb hr hts hown hlocks hml hA Z ls hl
  replace hown : s.vm.findClass RX1 = some m.cls := hown
  replace hl : lv_has ls 6 [(0, .ref (h 0)), (1, .ref (h 13)), (2, .ref (h 21)), (3, .int p3)] := hl
  obtain ⟨H, hH⟩ : ∃ H, H = s.heap := ⟨_, rfl⟩
  rw [← hH] at Z ⊢
  clear hH
  obtain ⟨locs, hlc⟩ : ∃ q : List Loc, q = [] := ⟨_, rfl⟩
  rw [← hlc] at Z ⊢
  clear hlc
  refine lv_iconst (pc := 0) (v := (0 : Int32)) hx hb dX1_measure_0 (by decide) ?_
  refine lv_istore (pc := 1) (lv' := [(4, .int (0 : Int32)), (0, .ref (h 0)), (1, .ref (h 13)), (2, .ref (h 21)), (3, .int p3)]) hx hb dX1_measure_1 hl (by decide) rfl (fun ls hl => ?_)
  obtain ⟨j30_2, ej30_2, hf⟩ := o_jnE hf
  have hj30_2 : ∀ (a1 : Nat → Int32) (H : Heap) (locs : List Loc) (ls : Array Slot), zw D (zTY cA) s A (W_X1_measure cA h c_lots c_figures c_count v_numberOf v_pageOf v_lineOf v_usedOn v_lotsOn v_firstOn v_pages v_printedLots v_printedLines a1 c_changedOn c_priced b_height b_count b_room b_account b_costs b_lines b_printed b_wanted b_slipped y_numberOf y_pageOf y_lineOf y_usedOn y_pages y_printedLots y_printedLines) H locs → lv_has ls 6 [(0, .ref (h 0)), (1, .ref (h 13)), (2, .ref (h 21)), (3, .int p3)] → j30_2 a1 = some u → W p l e ({ frames := 2, cells := 0, slots := 0, locals := 48 } : Room) s m args below meth c H locs 0 0 (MQ below (zQv D (zTY cA) A (W_X1_measure cA h c_lots (u.1) c_count (u.2.1) (u.2.2.1) (u.2.2.2.1) (u.2.2.2.2.1) (u.2.2.2.2.2.1) (u.2.2.2.2.2.2.1) (u.2.2.2.2.2.2.2.1) (u.2.2.2.2.2.2.2.2.1) (u.2.2.2.2.2.2.2.2.2.1) (u.2.2.2.2.2.2.2.2.2.2.1) (u.2.2.2.2.2.2.2.2.2.2.2) c_priced b_height b_count b_room b_account b_costs b_lines b_printed b_wanted b_slipped y_numberOf y_pageOf y_lineOf y_usedOn y_pages y_printedLots y_printedLines)) args s 0 0 A) (F0 m 30 ls []) := by
    intro a1 H locs ls Z hl hf
    rw [ej30_2] at hf
    refine lv_aload_n (pc := 30) hx hb dX1_measure_30 rfl (lv_at hl 0 rfl) ?_
    refine z_get (pc := 31) (ref := "LotSheet$Choices") (ci := 1) (C := RX1) (T := TX1) (N := 8) hx hb hts iw_X1_measure_X1 hown Z 0 rfl rfl 1 (by decide) (List.mem_of_getElem? (i := 3) rfl) rfl rfl dX1_measure_31 ?_
    refine lv_iconst (pc := 34) (v := (5 : Int32)) hx hb dX1_measure_34 (by decide) ?_
    refine lv_iconst (pc := 35) (v := (0 : Int32)) hx hb dX1_measure_35 (by decide) ?_
    refine z_iast (pc := 36) hx hb Z 2 0 rfl rfl (show ¬ ((5 : Int32) < 0 ∨ 7 ≤ (5 : Int32).toNatClampNeg) by decide) dX1_measure_36 (fun g => (W_X1_measure cA h c_lots g c_count v_numberOf v_pageOf v_lineOf v_usedOn v_lotsOn v_firstOn v_pages v_printedLots v_printedLines a1 c_changedOn c_priced b_height b_count b_room b_account b_costs b_lines b_printed b_wanted b_slipped y_numberOf y_pageOf y_lineOf y_usedOn y_pages y_printedLots y_printedLines)) (fun _ => rfl) (fun a3 H locs ea3 Z => ?_)
    replace hf := o_letE ea3 hf
    refine lv_iconst (pc := 37) (v := (0 : Int32)) hx hb dX1_measure_37 (by decide) ?_
    refine lv_istore (pc := 38) (lv' := [(4, .int (0 : Int32)), (0, .ref (h 0)), (1, .ref (h 13)), (2, .ref (h 21)), (3, .int p3)]) hx hb dX1_measure_38 hl (by decide) rfl (fun ls hl => ?_)
    obtain ⟨j111_6, ej111_6, hf⟩ := o_jnE hf
    have hj111_6 : ∀ (a4 : Nat → Int32) (a5 : Nat → Int32) (H : Heap) (locs : List Loc) (ls : Array Slot), zw D (zTY cA) s A (W_X1_measure cA h c_lots a4 c_count v_numberOf v_pageOf v_lineOf v_usedOn v_lotsOn v_firstOn v_pages v_printedLots v_printedLines a5 c_changedOn c_priced b_height b_count b_room b_account b_costs b_lines b_printed b_wanted b_slipped y_numberOf y_pageOf y_lineOf y_usedOn y_pages y_printedLots y_printedLines) H locs → lv_has ls 6 [(0, .ref (h 0)), (1, .ref (h 13)), (2, .ref (h 21))] → j111_6 a4 a5 = some u → W p l e ({ frames := 2, cells := 0, slots := 0, locals := 48 } : Room) s m args below meth c H locs 0 0 (MQ below (zQv D (zTY cA) A (W_X1_measure cA h c_lots (u.1) c_count (u.2.1) (u.2.2.1) (u.2.2.2.1) (u.2.2.2.2.1) (u.2.2.2.2.2.1) (u.2.2.2.2.2.2.1) (u.2.2.2.2.2.2.2.1) (u.2.2.2.2.2.2.2.2.1) (u.2.2.2.2.2.2.2.2.2.1) (u.2.2.2.2.2.2.2.2.2.2.1) (u.2.2.2.2.2.2.2.2.2.2.2) c_priced b_height b_count b_room b_account b_costs b_lines b_printed b_wanted b_slipped y_numberOf y_pageOf y_lineOf y_usedOn y_pages y_printedLots y_printedLines)) args s 0 0 A) (F0 m 111 ls []) := by
      intro a4 a5 H locs ls Z hl hf
      rw [ej111_6] at hf
      refine lv_aload_n (pc := 111) hx hb dX1_measure_111 rfl (lv_at hl 0 rfl) ?_
      refine z_get (pc := 112) (ref := "LotSheet$Choices") (ci := 1) (C := RX1) (T := TX1) (N := 8) hx hb hts iw_X1_measure_X1 hown Z 0 rfl rfl 3 (by decide) (List.mem_of_getElem? (i := 8) rfl) rfl rfl dX1_measure_112 ?_
      refine lv_aload_n (pc := 115) hx hb dX1_measure_115 rfl (lv_at hl 1 rfl) ?_
      refine lv_aload_n (pc := 116) hx hb dX1_measure_116 rfl (lv_at hl 0 rfl) ?_
      refine z_get (pc := 117) (ref := "LotSheet$Choices") (ci := 1) (C := RX1) (T := TX1) (N := 8) hx hb hts iw_X1_measure_X1 hown Z 0 rfl rfl 4 (by decide) (List.mem_of_getElem? (i := 1) rfl) rfl rfl dX1_measure_117 ?_
      obtain ⟨⟨a7, a8, a9, a10, a11, a12, x13, x14, x15⟩, q16, hf⟩ := o_bindE hf
      refine z_callVv (pc := 120) (As := [.ref (h 13), .ref (h 10)]) (rest := []) (Wc := (W_X3_lay cA (fun k => h ([3, 4, 5, 6, 7, 8, 9, 13, 14, 15, 16, 17, 18, 19, 20, 10].getD k 0)) v_numberOf v_pageOf v_lineOf v_usedOn v_lotsOn v_firstOn v_pages v_printedLots v_printedLines b_height b_count b_room b_account b_lines a5)) (W1 := (W_X3_lay cA (fun k => h ([3, 4, 5, 6, 7, 8, 9, 13, 14, 15, 16, 17, 18, 19, 20, 10].getD k 0)) a7 a8 a9 a10 a11 a12 x13 x14 x15 b_height b_count b_room b_account b_lines a5)) (W2 := (W_X1_measure cA h c_lots a4 c_count a7 a8 a9 a10 a11 a12 x13 x14 x15 a5 c_changedOn c_priced b_height b_count b_room b_account b_costs b_lines b_printed b_wanted b_slipped y_numberOf y_pageOf y_lineOf y_usedOn y_pages y_printedLots y_printedLines)) ⟨hx, hb, hml, hown, hts⟩ (kX3_lay l D cA (fun k => h ([3, 4, 5, 6, 7, 8, 9, 13, 14, 15, 16, 17, 18, 19, 20, 10].getD k 0)) v_numberOf v_pageOf v_lineOf v_usedOn v_lotsOn v_firstOn v_pages v_printedLots v_printedLines b_height b_count b_room b_account b_lines a5 _ q16) (cwV 2 hts gX1_measure_X3_lay rfl rfl rfl (by decide +kernel) ⟨Nat.le_of_ble_eq_true rfl, Nat.le_of_ble_eq_true rfl⟩) Z hA [3, 4, 5, 6, 7, 8, 9, 12, 14, 10] rfl (by decide) rfl (ci := 3) rfl rfl rfl rfl hl.1 rfl (Nat.le_of_ble_eq_true rfl) dX1_measure_120 ⟨Nat.zero_le _, Nat.zero_le _⟩ [none, none, none, some 0, some 1, some 2, some 3, some 4, some 5, some 6, some 9, none, some 7, none, some 8, none, none, none, none, none, none, none, none] rfl ⟨rfl, rfl, rfl, rfl, rfl, rfl, rfl, rfl, rfl, rfl, rfl, rfl, rfl, rfl, rfl, rfl, rfl, rfl, rfl, rfl, rfl, rfl, rfl, rfl⟩ (fun H locs Z => ?_)
      refine lv_aload_n (pc := 123) hx hb dX1_measure_123 rfl (lv_at hl 2 rfl) ?_
      refine z_get (pc := 124) (ref := "LotSheet$Layout") (ci := 3) (C := RX3) (T := TX3) (N := 9) hx hb hts iw_X1_measure_X3 hown Z 18 rfl rfl 6 (by decide) (List.mem_of_getElem? (i := 9) rfl) rfl rfl dX1_measure_124 ?_
      refine lv_aload_n (pc := 127) hx hb dX1_measure_127 rfl (lv_at hl 0 rfl) ?_
      refine z_get (pc := 128) (ref := "LotSheet$Choices") (ci := 1) (C := RX1) (T := TX1) (N := 8) hx hb hts iw_X1_measure_X1 hown Z 0 rfl rfl 3 (by decide) (List.mem_of_getElem? (i := 8) rfl) rfl rfl dX1_measure_128 ?_
      refine z_get (pc := 131) (ref := "LotSheet$Layout") (ci := 3) (C := RX3) (T := TX3) (N := 9) hx hb hts iw_X1_measure_X3 hown Z 3 rfl rfl 6 (by decide) (List.mem_of_getElem? (i := 9) rfl) rfl rfl dX1_measure_131 ?_
      refine va_mmax (pc := 134) hx hb (hml.trans hl.1.symm) hown (hts _ (List.mem_of_getElem? (i := 10) rfl)) (hts _ (List.mem_of_getElem? (i := 11) rfl)) (hts _ (List.mem_of_getElem? (i := 12) rfl)) (hts _ (List.mem_of_getElem? (i := 13) rfl)) (Nat.le_of_ble_eq_true rfl) (Nat.le_of_ble_eq_true rfl) (Nat.zero_le _) (Nat.zero_le _) dX1_measure_134 ?_
      refine lv_topi (fun x17 ex17 => ?_)
      replace hf := o_letE ex17 hf
      refine lv_istore (pc := 137) (lv' := [(4, .int x17), (0, .ref (h 0)), (1, .ref (h 13)), (2, .ref (h 21))]) hx hb dX1_measure_137 hl (by decide) rfl (fun ls hl => ?_)
      refine lv_aload_n (pc := 139) hx hb dX1_measure_139 rfl (lv_at hl 1 rfl) ?_
      refine lv_aload_n (pc := 140) hx hb dX1_measure_140 rfl (lv_at hl 2 rfl) ?_
      refine lv_aload_n (pc := 141) hx hb dX1_measure_141 rfl (lv_at hl 3 rfl) ?_
      refine lv_iload (pc := 142) hx hb dX1_measure_142 (lv_at hl 0 rfl) ?_
      obtain ⟨a18, q19, hf⟩ := o_bindE hf
      refine z_callVv (pc := 144) (As := [.ref (h 13), .ref (h 21), .int x17]) (rest := []) (Wc := (W_X1_findChangedLines cA (fun k => h ([0, 1, 2, 3, 4, 5, 6, 7, 8, 9, 10, 11, 12, 13, 14, 15, 16, 17, 18, 19, 20, 21, 22, 23, 24, 25, 26, 27].getD k 0)) c_count a7 a8 a9 a10 x13 x14 x15 c_changedOn c_priced b_height b_count b_room b_account b_lines y_numberOf y_pageOf y_lineOf y_usedOn y_pages y_printedLots y_printedLines)) (W1 := (W_X1_findChangedLines cA (fun k => h ([0, 1, 2, 3, 4, 5, 6, 7, 8, 9, 10, 11, 12, 13, 14, 15, 16, 17, 18, 19, 20, 21, 22, 23, 24, 25, 26, 27].getD k 0)) c_count a7 a8 a9 a10 x13 x14 x15 a18 c_priced b_height b_count b_room b_account b_lines y_numberOf y_pageOf y_lineOf y_usedOn y_pages y_printedLots y_printedLines)) (W2 := (W_X1_measure cA h c_lots a4 c_count a7 a8 a9 a10 a11 a12 x13 x14 x15 a5 a18 c_priced b_height b_count b_room b_account b_costs b_lines b_printed b_wanted b_slipped y_numberOf y_pageOf y_lineOf y_usedOn y_pages y_printedLots y_printedLines)) ⟨hx, hb, hml, hown, hts⟩ (kX1_findChangedLines l D cA (fun k => h ([0, 1, 2, 3, 4, 5, 6, 7, 8, 9, 10, 11, 12, 13, 14, 15, 16, 17, 18, 19, 20, 21, 22, 23, 24, 25, 26, 27].getD k 0)) x17 c_count a7 a8 a9 a10 x13 x14 x15 c_changedOn c_priced b_height b_count b_room b_account b_lines y_numberOf y_pageOf y_lineOf y_usedOn y_pages y_printedLots y_printedLines _ q19) (cwV 3 hts gX1_measure_X1_findChangedLines rfl rfl rfl (by decide +kernel) ⟨Nat.le_of_ble_eq_true rfl, Nat.le_of_ble_eq_true rfl⟩) Z hA [0, 3, 4, 5, 6, 7, 11, 12, 14, 18, 19, 20, 21, 22] rfl (by decide) rfl (ci := 1) rfl rfl rfl rfl hl.1 rfl (Nat.le_of_ble_eq_true rfl) dX1_measure_144 ⟨Nat.zero_le _, Nat.zero_le _⟩ [some 0, none, none, some 1, some 2, some 3, some 4, some 5, none, none, none, some 6, some 7, none, some 8, none, none, none, some 9, some 10, some 11, some 12, some 13] rfl ⟨rfl, rfl, rfl, rfl, rfl, rfl, rfl, rfl, rfl, rfl, rfl, rfl, rfl, rfl, rfl, rfl, rfl, rfl, rfl, rfl, rfl, rfl, rfl, rfl⟩ (fun H locs Z => ?_)
      refine lv_aload_n (pc := 147) hx hb dX1_measure_147 rfl (lv_at hl 1 rfl) ?_
      refine lv_iload (pc := 148) hx hb dX1_measure_148 (lv_at hl 0 rfl) ?_
      obtain ⟨a20, q21, hf⟩ := o_bindE hf
      refine z_callVv (pc := 150) (As := [.int x17]) (rest := []) (Wc := (W_X1_countChanged cA (fun k => h ([0, 1, 2, 3, 4, 5, 6, 7, 8, 9, 10, 11, 12].getD k 0)) a4 c_count a18 c_priced)) (W1 := (W_X1_countChanged cA (fun k => h ([0, 1, 2, 3, 4, 5, 6, 7, 8, 9, 10, 11, 12].getD k 0)) a20 c_count a18 c_priced)) (W2 := (W_X1_measure cA h c_lots a20 c_count a7 a8 a9 a10 a11 a12 x13 x14 x15 a5 a18 c_priced b_height b_count b_room b_account b_costs b_lines b_printed b_wanted b_slipped y_numberOf y_pageOf y_lineOf y_usedOn y_pages y_printedLots y_printedLines)) ⟨hx, hb, hml, hown, hts⟩ (kX1_countChanged l D cA (fun k => h ([0, 1, 2, 3, 4, 5, 6, 7, 8, 9, 10, 11, 12].getD k 0)) x17 a4 c_count a18 c_priced _ q21) (cwV 1 hts gX1_measure_X1_countChanged rfl rfl rfl (by decide +kernel) ⟨Nat.le_of_ble_eq_true rfl, Nat.le_of_ble_eq_true rfl⟩) Z hA [0, 2, 11] rfl (by decide) rfl (ci := 1) rfl rfl rfl rfl hl.1 rfl (Nat.le_of_ble_eq_true rfl) dX1_measure_150 ⟨Nat.zero_le _, Nat.zero_le _⟩ [some 0, none, some 1, none, none, none, none, none, none, none, none, some 2, none, none, none, none, none, none, none, none, none, none, none] rfl ⟨rfl, rfl, rfl, rfl, rfl, rfl, rfl, rfl, rfl, rfl, rfl, rfl, rfl, rfl, rfl, rfl, rfl, rfl, rfl, rfl, rfl, rfl, rfl, rfl⟩ (fun H locs Z => ?_)
      refine lv_aload_n (pc := 153) hx hb dX1_measure_153 rfl (lv_at hl 1 rfl) ?_
      refine z_get (pc := 154) (ref := "LotSheet$Choices") (ci := 1) (C := RX1) (T := TX1) (N := 8) hx hb hts iw_X1_measure_X1 hown Z 0 rfl rfl 1 (by decide) (List.mem_of_getElem? (i := 3) rfl) rfl rfl dX1_measure_154 ?_
      refine lv_iconst (pc := 157) (v := (4 : Int32)) hx hb dX1_measure_157 (by decide) ?_
      refine lv_aload_n (pc := 158) hx hb dX1_measure_158 rfl (lv_at hl 1 rfl) ?_
      refine z_get (pc := 159) (ref := "LotSheet$Choices") (ci := 1) (C := RX1) (T := TX1) (N := 8) hx hb hts iw_X1_measure_X1 hown Z 0 rfl rfl 1 (by decide) (List.mem_of_getElem? (i := 3) rfl) rfl rfl dX1_measure_159 ?_
      refine lv_iconst (pc := 162) (v := (5 : Int32)) hx hb dX1_measure_162 (by decide) ?_
      refine z_iald (pc := 163) hx hb Z 2 0 rfl rfl (show ¬ ((5 : Int32) < 0 ∨ 7 ≤ (5 : Int32).toNatClampNeg) by decide) dX1_measure_163 ?_
      refine lv_aload_n (pc := 164) hx hb dX1_measure_164 rfl (lv_at hl 2 rfl) ?_
      refine z_get (pc := 165) (ref := "LotSheet$Bill") (ci := 0) (C := RX0) (T := TX0) (N := 11) hx hb hts iw_X1_measure_X0 hown Z 12 rfl rfl 2 (by decide) (List.mem_of_getElem? (i := 14) rfl) rfl rfl dX1_measure_165 ?_
      obtain ⟨x22, q23, hf⟩ := o_bindE hf
      refine z_callSi (pc := 168) (As := [.int (a20 (5 : Int32).toNatClampNeg), .int b_room]) (rest := [.int (4 : Int32), .ref (h 2)]) (Wc := (W_X1_slipsFor cA (fun k => h ([0].getD k 0)))) (W1 := (W_X1_slipsFor cA (fun k => h ([0].getD k 0)))) (W2 := (W_X1_measure cA h c_lots a20 c_count a7 a8 a9 a10 a11 a12 x13 x14 x15 a5 a18 c_priced b_height b_count b_room b_account b_costs b_lines b_printed b_wanted b_slipped y_numberOf y_pageOf y_lineOf y_usedOn y_pages y_printedLots y_printedLines)) ⟨hx, hb, hml, hown, hts⟩ (kX1_slipsFor l D cA (fun k => h ([0].getD k 0)) (a20 (5 : Int32).toNatClampNeg) b_room _ q23) (va_cwS 2 hts gX1_measure_X1_slipsFor rfl rfl rfl (by decide +kernel) ⟨Nat.le_of_ble_eq_true rfl, Nat.le_of_ble_eq_true rfl⟩) Z hA [] rfl (by decide) rfl rfl hl.1 rfl (Nat.le_of_ble_eq_true rfl) dX1_measure_168 ⟨Nat.zero_le _, Nat.zero_le _⟩ [none, none, none, none, none, none, none, none, none, none, none, none, none, none, none, none, none, none, none, none, none, none, none] rfl ⟨rfl, rfl, rfl, rfl, rfl, rfl, rfl, rfl, rfl, rfl, rfl, rfl, rfl, rfl, rfl, rfl, rfl, rfl, rfl, rfl, rfl, rfl, rfl, rfl⟩ (fun H locs Z => ?_)
      refine z_iast (pc := 171) hx hb Z 2 0 rfl rfl (show ¬ ((4 : Int32) < 0 ∨ 7 ≤ (4 : Int32).toNatClampNeg) by decide) dX1_measure_171 (fun g => (W_X1_measure cA h c_lots g c_count a7 a8 a9 a10 a11 a12 x13 x14 x15 a5 a18 c_priced b_height b_count b_room b_account b_costs b_lines b_printed b_wanted b_slipped y_numberOf y_pageOf y_lineOf y_usedOn y_pages y_printedLots y_printedLines)) (fun _ => rfl) (fun a24 H locs ea24 Z => ?_)
      replace hf := o_letE ea24 hf
      refine lv_aload_n (pc := 172) hx hb dX1_measure_172 rfl (lv_at hl 1 rfl) ?_
      refine z_get (pc := 173) (ref := "LotSheet$Choices") (ci := 1) (C := RX1) (T := TX1) (N := 8) hx hb hts iw_X1_measure_X1 hown Z 0 rfl rfl 1 (by decide) (List.mem_of_getElem? (i := 3) rfl) rfl rfl dX1_measure_173 ?_
      refine lv_bipush (pc := 176) (v := (6 : Int32)) hx hb dX1_measure_176 (by decide) ?_
      refine lv_aload_n (pc := 178) hx hb dX1_measure_178 rfl (lv_at hl 1 rfl) ?_
      refine z_get (pc := 179) (ref := "LotSheet$Choices") (ci := 1) (C := RX1) (T := TX1) (N := 8) hx hb hts iw_X1_measure_X1 hown Z 0 rfl rfl 3 (by decide) (List.mem_of_getElem? (i := 8) rfl) rfl rfl dX1_measure_179 ?_
      refine z_get (pc := 182) (ref := "LotSheet$Layout") (ci := 3) (C := RX3) (T := TX3) (N := 9) hx hb hts iw_X1_measure_X3 hown Z 3 rfl rfl 6 (by decide) (List.mem_of_getElem? (i := 9) rfl) rfl rfl dX1_measure_182 ?_
      refine z_iast (pc := 185) hx hb Z 2 0 rfl rfl (show ¬ ((6 : Int32) < 0 ∨ 7 ≤ (6 : Int32).toNatClampNeg) by decide) dX1_measure_185 (fun g => (W_X1_measure cA h c_lots g c_count a7 a8 a9 a10 a11 a12 x13 x14 x15 a5 a18 c_priced b_height b_count b_room b_account b_costs b_lines b_printed b_wanted b_slipped y_numberOf y_pageOf y_lineOf y_usedOn y_pages y_printedLots y_printedLines)) (fun _ => rfl) (fun a25 H locs ea25 Z => ?_)
      replace hf := o_letE ea25 hf
      refine lv_aload_n (pc := 186) hx hb dX1_measure_186 rfl (lv_at hl 1 rfl) ?_
      refine z_get (pc := 187) (ref := "LotSheet$Choices") (ci := 1) (C := RX1) (T := TX1) (N := 8) hx hb hts iw_X1_measure_X1 hown Z 0 rfl rfl 1 (by decide) (List.mem_of_getElem? (i := 3) rfl) rfl rfl dX1_measure_187 ?_
      refine lv_iconst (pc := 190) (v := (0 : Int32)) hx hb dX1_measure_190 (by decide) ?_
      refine lv_aload_n (pc := 191) hx hb dX1_measure_191 rfl (lv_at hl 1 rfl) ?_
      refine z_get (pc := 192) (ref := "LotSheet$Choices") (ci := 1) (C := RX1) (T := TX1) (N := 8) hx hb hts iw_X1_measure_X1 hown Z 0 rfl rfl 1 (by decide) (List.mem_of_getElem? (i := 3) rfl) rfl rfl dX1_measure_192 ?_
      refine lv_iconst (pc := 195) (v := (1 : Int32)) hx hb dX1_measure_195 (by decide) ?_
      refine z_iald (pc := 196) hx hb Z 2 0 rfl rfl (show ¬ ((1 : Int32) < 0 ∨ 7 ≤ (1 : Int32).toNatClampNeg) by decide) dX1_measure_196 ?_
      refine lv_aload_n (pc := 197) hx hb dX1_measure_197 rfl (lv_at hl 2 rfl) ?_
      refine z_get (pc := 198) (ref := "LotSheet$Bill") (ci := 0) (C := RX0) (T := TX0) (N := 11) hx hb hts iw_X1_measure_X0 hown Z 12 rfl rfl 4 (by decide) (List.mem_of_getElem? (i := 15) rfl) rfl rfl dX1_measure_198 ?_
      refine lv_iconst (pc := 201) (v := (0 : Int32)) hx hb dX1_measure_201 (by decide) ?_
      refine z_iald (pc := 202) hx hb Z 13 0 rfl rfl (show ¬ ((0 : Int32) < 0 ∨ 5 ≤ (0 : Int32).toNatClampNeg) by decide) dX1_measure_202 ?_
      refine lv_imul (pc := 203) hx hb dX1_measure_203 ?_
      refine lv_aload_n (pc := 204) hx hb dX1_measure_204 rfl (lv_at hl 1 rfl) ?_
      refine z_get (pc := 205) (ref := "LotSheet$Choices") (ci := 1) (C := RX1) (T := TX1) (N := 8) hx hb hts iw_X1_measure_X1 hown Z 0 rfl rfl 1 (by decide) (List.mem_of_getElem? (i := 3) rfl) rfl rfl dX1_measure_205 ?_
      refine lv_iconst (pc := 208) (v := (2 : Int32)) hx hb dX1_measure_208 (by decide) ?_
      refine z_iald (pc := 209) hx hb Z 2 0 rfl rfl (show ¬ ((2 : Int32) < 0 ∨ 7 ≤ (2 : Int32).toNatClampNeg) by decide) dX1_measure_209 ?_
      refine lv_aload_n (pc := 210) hx hb dX1_measure_210 rfl (lv_at hl 2 rfl) ?_
      refine z_get (pc := 211) (ref := "LotSheet$Bill") (ci := 0) (C := RX0) (T := TX0) (N := 11) hx hb hts iw_X1_measure_X0 hown Z 12 rfl rfl 4 (by decide) (List.mem_of_getElem? (i := 15) rfl) rfl rfl dX1_measure_211 ?_
      refine lv_iconst (pc := 214) (v := (1 : Int32)) hx hb dX1_measure_214 (by decide) ?_
      refine z_iald (pc := 215) hx hb Z 13 0 rfl rfl (show ¬ ((1 : Int32) < 0 ∨ 5 ≤ (1 : Int32).toNatClampNeg) by decide) dX1_measure_215 ?_
      refine lv_imul (pc := 216) hx hb dX1_measure_216 ?_
      refine lv_iadd (pc := 217) hx hb dX1_measure_217 ?_
      refine lv_aload_n (pc := 218) hx hb dX1_measure_218 rfl (lv_at hl 1 rfl) ?_
      refine z_get (pc := 219) (ref := "LotSheet$Choices") (ci := 1) (C := RX1) (T := TX1) (N := 8) hx hb hts iw_X1_measure_X1 hown Z 0 rfl rfl 1 (by decide) (List.mem_of_getElem? (i := 3) rfl) rfl rfl dX1_measure_219 ?_
      refine lv_iconst (pc := 222) (v := (3 : Int32)) hx hb dX1_measure_222 (by decide) ?_
      refine z_iald (pc := 223) hx hb Z 2 0 rfl rfl (show ¬ ((3 : Int32) < 0 ∨ 7 ≤ (3 : Int32).toNatClampNeg) by decide) dX1_measure_223 ?_
      refine lv_aload_n (pc := 224) hx hb dX1_measure_224 rfl (lv_at hl 2 rfl) ?_
      refine z_get (pc := 225) (ref := "LotSheet$Bill") (ci := 0) (C := RX0) (T := TX0) (N := 11) hx hb hts iw_X1_measure_X0 hown Z 12 rfl rfl 4 (by decide) (List.mem_of_getElem? (i := 15) rfl) rfl rfl dX1_measure_225 ?_
      refine lv_iconst (pc := 228) (v := (2 : Int32)) hx hb dX1_measure_228 (by decide) ?_
      refine z_iald (pc := 229) hx hb Z 13 0 rfl rfl (show ¬ ((2 : Int32) < 0 ∨ 5 ≤ (2 : Int32).toNatClampNeg) by decide) dX1_measure_229 ?_
      refine lv_imul (pc := 230) hx hb dX1_measure_230 ?_
      refine lv_iadd (pc := 231) hx hb dX1_measure_231 ?_
      refine lv_aload_n (pc := 232) hx hb dX1_measure_232 rfl (lv_at hl 1 rfl) ?_
      refine z_get (pc := 233) (ref := "LotSheet$Choices") (ci := 1) (C := RX1) (T := TX1) (N := 8) hx hb hts iw_X1_measure_X1 hown Z 0 rfl rfl 1 (by decide) (List.mem_of_getElem? (i := 3) rfl) rfl rfl dX1_measure_233 ?_
      refine lv_iconst (pc := 236) (v := (4 : Int32)) hx hb dX1_measure_236 (by decide) ?_
      refine z_iald (pc := 237) hx hb Z 2 0 rfl rfl (show ¬ ((4 : Int32) < 0 ∨ 7 ≤ (4 : Int32).toNatClampNeg) by decide) dX1_measure_237 ?_
      refine lv_aload_n (pc := 238) hx hb dX1_measure_238 rfl (lv_at hl 2 rfl) ?_
      refine z_get (pc := 239) (ref := "LotSheet$Bill") (ci := 0) (C := RX0) (T := TX0) (N := 11) hx hb hts iw_X1_measure_X0 hown Z 12 rfl rfl 4 (by decide) (List.mem_of_getElem? (i := 15) rfl) rfl rfl dX1_measure_239 ?_
      refine lv_iconst (pc := 242) (v := (3 : Int32)) hx hb dX1_measure_242 (by decide) ?_
      refine z_iald (pc := 243) hx hb Z 13 0 rfl rfl (show ¬ ((3 : Int32) < 0 ∨ 5 ≤ (3 : Int32).toNatClampNeg) by decide) dX1_measure_243 ?_
      refine lv_imul (pc := 244) hx hb dX1_measure_244 ?_
      refine lv_iadd (pc := 245) hx hb dX1_measure_245 ?_
      refine lv_aload_n (pc := 246) hx hb dX1_measure_246 rfl (lv_at hl 1 rfl) ?_
      refine z_get (pc := 247) (ref := "LotSheet$Choices") (ci := 1) (C := RX1) (T := TX1) (N := 8) hx hb hts iw_X1_measure_X1 hown Z 0 rfl rfl 1 (by decide) (List.mem_of_getElem? (i := 3) rfl) rfl rfl dX1_measure_247 ?_
      refine lv_iconst (pc := 250) (v := (5 : Int32)) hx hb dX1_measure_250 (by decide) ?_
      refine z_iald (pc := 251) hx hb Z 2 0 rfl rfl (show ¬ ((5 : Int32) < 0 ∨ 7 ≤ (5 : Int32).toNatClampNeg) by decide) dX1_measure_251 ?_
      refine lv_aload_n (pc := 252) hx hb dX1_measure_252 rfl (lv_at hl 2 rfl) ?_
      refine z_get (pc := 253) (ref := "LotSheet$Bill") (ci := 0) (C := RX0) (T := TX0) (N := 11) hx hb hts iw_X1_measure_X0 hown Z 12 rfl rfl 4 (by decide) (List.mem_of_getElem? (i := 15) rfl) rfl rfl dX1_measure_253 ?_
      refine lv_iconst (pc := 256) (v := (4 : Int32)) hx hb dX1_measure_256 (by decide) ?_
      refine z_iald (pc := 257) hx hb Z 13 0 rfl rfl (show ¬ ((4 : Int32) < 0 ∨ 5 ≤ (4 : Int32).toNatClampNeg) by decide) dX1_measure_257 ?_
      refine lv_imul (pc := 258) hx hb dX1_measure_258 ?_
      refine lv_iadd (pc := 259) hx hb dX1_measure_259 ?_
      refine z_iast (pc := 260) hx hb Z 2 0 rfl rfl (show ¬ ((0 : Int32) < 0 ∨ 7 ≤ (0 : Int32).toNatClampNeg) by decide) dX1_measure_260 (fun g => (W_X1_measure cA h c_lots g c_count a7 a8 a9 a10 a11 a12 x13 x14 x15 a5 a18 c_priced b_height b_count b_room b_account b_costs b_lines b_printed b_wanted b_slipped y_numberOf y_pageOf y_lineOf y_usedOn y_pages y_printedLots y_printedLines)) (fun _ => rfl) (fun a26 H locs ea26 Z => ?_)
      replace hf := o_letE ea26 hf
      cases hf
      exact z_vret (pc := 261) hx hb hr hlocks Z rfl dX1_measure_261
    have hL40 : ∀ (n0 : Nat) (x27 : Int32) (a28 : Nat → Int32) (a29 : Nat → Int32) (H : Heap) (locs : List Loc) (ls : Array Slot), zw D (zTY cA) s A (W_X1_measure cA h c_lots a28 c_count v_numberOf v_pageOf v_lineOf v_usedOn v_lotsOn v_firstOn v_pages v_printedLots v_printedLines a29 c_changedOn c_priced b_height b_count b_room b_account b_costs b_lines b_printed b_wanted b_slipped y_numberOf y_pageOf y_lineOf y_usedOn y_pages y_printedLots y_printedLines) H locs → lv_has ls 6 [(0, .ref (h 0)), (1, .ref (h 13)), (2, .ref (h 21)), (3, .int p3), (4, .int x27)] → fX1_measure_L40 c_count j111_6 c_lots p3 b_slipped b_wanted n0 x27 a28 a29 = some u → W p l e ({ frames := 2, cells := 0, slots := 0, locals := 48 } : Room) s m args below meth c H locs 0 0 (MQ below (zQv D (zTY cA) A (W_X1_measure cA h c_lots (u.1) c_count (u.2.1) (u.2.2.1) (u.2.2.2.1) (u.2.2.2.2.1) (u.2.2.2.2.2.1) (u.2.2.2.2.2.2.1) (u.2.2.2.2.2.2.2.1) (u.2.2.2.2.2.2.2.2.1) (u.2.2.2.2.2.2.2.2.2.1) (u.2.2.2.2.2.2.2.2.2.2.1) (u.2.2.2.2.2.2.2.2.2.2.2) c_priced b_height b_count b_room b_account b_costs b_lines b_printed b_wanted b_slipped y_numberOf y_pageOf y_lineOf y_usedOn y_pages y_printedLots y_printedLines)) args s 0 0 A) (F0 m 40 ls []) := by
      intro n0
      induction n0 with
      | zero => intro x27 a28 a29 H locs ls Z hl hf; exact o_no hf
      | succ n0 ih0 =>
        intro x27 a28 a29 H locs ls Z hl hf
        refine lv_iload (pc := 40) hx hb dX1_measure_40 (lv_at hl 4 rfl) ?_
        refine lv_aload_n (pc := 42) hx hb dX1_measure_42 rfl (lv_at hl 0 rfl) ?_
        refine z_get (pc := 43) (ref := "LotSheet$Choices") (ci := 1) (C := RX1) (T := TX1) (N := 8) hx hb hts iw_X1_measure_X1 hown Z 0 rfl rfl 2 (by decide) (List.mem_of_getElem? (i := 4) rfl) rfl rfl dX1_measure_43 ?_
        refine lv_icmp_ge (pc := 46) (tgt := 111) hx hb dX1_measure_46 (by decide) (fun c30 => ?_) (fun c30 => ?_)
        · replace hf := o_pos c30 hf
          exact hj111_6 a28 a29 H locs ls Z (lv_sub hl [0, 1, 2] rfl) hf
        · replace hf := o_neg c30 hf
          refine lv_aload_n (pc := 49) hx hb dX1_measure_49 rfl (lv_at hl 0 rfl) ?_
          refine z_get (pc := 50) (ref := "LotSheet$Choices") (ci := 1) (C := RX1) (T := TX1) (N := 8) hx hb hts iw_X1_measure_X1 hown Z 0 rfl rfl 0 (by decide) (List.mem_of_getElem? (i := 5) rfl) rfl rfl dX1_measure_50 ?_
          refine lv_iload (pc := 53) hx hb dX1_measure_53 (lv_at hl 4 rfl) ?_
          obtain ⟨i31, hf⟩ := o_rdE hf
          refine z_iald (pc := 55) hx hb Z 1 0 rfl rfl i31 dX1_measure_55 ?_
          refine lv_topi (fun x32 ex32 => ?_)
          replace hf := o_letE ex32 hf
          refine lv_istore (pc := 56) (lv' := [(5, .int x32), (0, .ref (h 0)), (1, .ref (h 13)), (2, .ref (h 21)), (3, .int p3), (4, .int x27)]) hx hb dX1_measure_56 hl (by decide) rfl (fun ls hl => ?_)
          refine lv_aload_n (pc := 58) hx hb dX1_measure_58 rfl (lv_at hl 1 rfl) ?_
          refine lv_iload_n (pc := 59) hx hb dX1_measure_59 rfl (lv_at hl 4 rfl) ?_
          refine lv_iload (pc := 60) hx hb dX1_measure_60 (lv_at hl 5 rfl) ?_
          obtain ⟨x33, q34, hf⟩ := o_bindE hf
          refine z_callVi (pc := 62) (As := [.int p3, .int x27]) (rest := []) (Wc := (W_X1_holds cA (fun k => h ([0, 1, 2, 3, 4, 5, 6, 7, 8, 9, 10, 11, 12].getD k 0)) c_count c_priced)) (W1 := (W_X1_holds cA (fun k => h ([0, 1, 2, 3, 4, 5, 6, 7, 8, 9, 10, 11, 12].getD k 0)) c_count c_priced)) (W2 := (W_X1_measure cA h c_lots a28 c_count v_numberOf v_pageOf v_lineOf v_usedOn v_lotsOn v_firstOn v_pages v_printedLots v_printedLines a29 c_changedOn c_priced b_height b_count b_room b_account b_costs b_lines b_printed b_wanted b_slipped y_numberOf y_pageOf y_lineOf y_usedOn y_pages y_printedLots y_printedLines)) ⟨hx, hb, hml, hown, hts⟩ (kX1_holds l D cA (fun k => h ([0, 1, 2, 3, 4, 5, 6, 7, 8, 9, 10, 11, 12].getD k 0)) p3 x27 c_count c_priced _ q34) (cwV 2 hts gX1_measure_X1_holds rfl rfl rfl (by decide +kernel) ⟨Nat.le_of_ble_eq_true rfl, Nat.le_of_ble_eq_true rfl⟩) Z hA [0] rfl (by decide) rfl (ci := 1) rfl rfl rfl rfl hl.1 rfl (Nat.le_of_ble_eq_true rfl) dX1_measure_62 ⟨Nat.zero_le _, Nat.zero_le _⟩ [some 0, none, none, none, none, none, none, none, none, none, none, none, none, none, none, none, none, none, none, none, none, none, none] rfl ⟨rfl, rfl, rfl, rfl, rfl, rfl, rfl, rfl, rfl, rfl, rfl, rfl, rfl, rfl, rfl, rfl, rfl, rfl, rfl, rfl, rfl, rfl, rfl, rfl⟩ (fun H locs Z => ?_)
          refine lv_if_eq (pc := 65) (tgt := 85) hx hb dX1_measure_65 (by decide) (fun c35 => ?_) (fun c35 => ?_)
          · replace hf := o_pos c35 hf
            refine lv_aload_n (pc := 85) hx hb dX1_measure_85 rfl (lv_at hl 2 rfl) ?_
            refine z_get (pc := 86) (ref := "LotSheet$Bill") (ci := 0) (C := RX0) (T := TX0) (N := 11) hx hb hts iw_X1_measure_X0 hown Z 12 rfl rfl 10 (by decide) (List.mem_of_getElem? (i := 7) rfl) rfl rfl dX1_measure_86 ?_
            refine lv_iload (pc := 89) hx hb dX1_measure_89 (lv_at hl 0 rfl) ?_
            obtain ⟨i36, hf⟩ := o_rdE hf
            refine z_zald (pc := 91) hx hb Z 17 1 rfl rfl i36 dX1_measure_91 ?_
            refine lv_if_ne (pc := 92) (tgt := 105) hx hb dX1_measure_92 (by decide) (fun c37 => ?_) (fun c37 => ?_)
            · replace hf := o_neg c37 hf
              obtain ⟨x38, ex38⟩ : ∃ y : Int32, y = (x27 + (1 : Int32)) := ⟨_, rfl⟩
              replace hf := o_letE ex38 hf
              refine lv_iinc (pc := 105) (v := x38) (lv' := [(4, .int x38), (5, .int x32), (0, .ref (h 0)), (1, .ref (h 13)), (2, .ref (h 21)), (3, .int p3)]) hx hb dX1_measure_105 hl (k := 5) rfl (by rw [ex38]; rfl) (by decide) rfl (fun ls hl => ?_)
              refine lv_goto (pc := 108) (tgt := 40) hx hb dX1_measure_108 (by decide) ?_
              exact ih0 x38 a28 a29 H locs ls Z (lv_sub hl [2, 3, 4, 5, 0] rfl) hf
            · replace hf := o_pos c37 hf
              refine lv_aload_n (pc := 95) hx hb dX1_measure_95 rfl (lv_at hl 1 rfl) ?_
              refine z_get (pc := 96) (ref := "LotSheet$Choices") (ci := 1) (C := RX1) (T := TX1) (N := 8) hx hb hts iw_X1_measure_X1 hown Z 0 rfl rfl 1 (by decide) (List.mem_of_getElem? (i := 3) rfl) rfl rfl dX1_measure_96 ?_
              refine lv_iconst (pc := 99) (v := (5 : Int32)) hx hb dX1_measure_99 (by decide) ?_
              refine lv_dup2_11 (pc := 100) hx hb dX1_measure_100 rfl rfl ?_
              refine z_iald (pc := 101) hx hb Z 2 0 rfl rfl (show ¬ ((5 : Int32) < 0 ∨ 7 ≤ (5 : Int32).toNatClampNeg) by decide) dX1_measure_101 ?_
              refine lv_iconst (pc := 102) (v := (1 : Int32)) hx hb dX1_measure_102 (by decide) ?_
              refine lv_iadd (pc := 103) hx hb dX1_measure_103 ?_
              refine z_iast (pc := 104) hx hb Z 2 0 rfl rfl (show ¬ ((5 : Int32) < 0 ∨ 7 ≤ (5 : Int32).toNatClampNeg) by decide) dX1_measure_104 (fun g => (W_X1_measure cA h c_lots g c_count v_numberOf v_pageOf v_lineOf v_usedOn v_lotsOn v_firstOn v_pages v_printedLots v_printedLines a29 c_changedOn c_priced b_height b_count b_room b_account b_costs b_lines b_printed b_wanted b_slipped y_numberOf y_pageOf y_lineOf y_usedOn y_pages y_printedLots y_printedLines)) (fun _ => rfl) (fun a39 H locs ea39 Z => ?_)
              replace hf := o_letE ea39 hf
              obtain ⟨x40, ex40⟩ : ∃ y : Int32, y = (x27 + (1 : Int32)) := ⟨_, rfl⟩
              replace hf := o_letE ex40 hf
              refine lv_iinc (pc := 105) (v := x40) (lv' := [(4, .int x40), (5, .int x32), (0, .ref (h 0)), (1, .ref (h 13)), (2, .ref (h 21)), (3, .int p3)]) hx hb dX1_measure_105 hl (k := 5) rfl (by rw [ex40]; rfl) (by decide) rfl (fun ls hl => ?_)
              refine lv_goto (pc := 108) (tgt := 40) hx hb dX1_measure_108 (by decide) ?_
              exact ih0 x40 a39 a29 H locs ls Z (lv_sub hl [2, 3, 4, 5, 0] rfl) hf
          · replace hf := o_neg c35 hf
            refine lv_aload_n (pc := 68) hx hb dX1_measure_68 rfl (lv_at hl 1 rfl) ?_
            refine z_get (pc := 69) (ref := "LotSheet$Choices") (ci := 1) (C := RX1) (T := TX1) (N := 8) hx hb hts iw_X1_measure_X1 hown Z 0 rfl rfl 4 (by decide) (List.mem_of_getElem? (i := 1) rfl) rfl rfl dX1_measure_69 ?_
            refine lv_iload (pc := 72) hx hb dX1_measure_72 (lv_at hl 0 rfl) ?_
            refine lv_aload_n (pc := 74) hx hb dX1_measure_74 rfl (lv_at hl 2 rfl) ?_
            refine z_get (pc := 75) (ref := "LotSheet$Bill") (ci := 0) (C := RX0) (T := TX0) (N := 11) hx hb hts iw_X1_measure_X0 hown Z 12 rfl rfl 9 (by decide) (List.mem_of_getElem? (i := 6) rfl) rfl rfl dX1_measure_75 ?_
            refine lv_iload (pc := 78) hx hb dX1_measure_78 (lv_at hl 0 rfl) ?_
            obtain ⟨i41, hf⟩ := o_rdE hf
            refine z_zald (pc := 80) hx hb Z 16 1 rfl rfl i41 dX1_measure_80 ?_
            obtain ⟨i42, hf⟩ := o_rdE hf
            refine z_zast (pc := 81) hx hb Z 10 1 rfl rfl i42 dX1_measure_81 (fun g => (W_X1_measure cA h c_lots a28 c_count v_numberOf v_pageOf v_lineOf v_usedOn v_lotsOn v_firstOn v_pages v_printedLots v_printedLines g c_changedOn c_priced b_height b_count b_room b_account b_costs b_lines b_printed b_wanted b_slipped y_numberOf y_pageOf y_lineOf y_usedOn y_pages y_printedLots y_printedLines)) (fun _ => rfl) (fun a43 H locs ea43 Z => ?_)
            replace hf := o_letE ea43 hf
            refine lv_goto (pc := 82) (tgt := 105) hx hb dX1_measure_82 (by decide) ?_
            obtain ⟨x44, ex44⟩ : ∃ y : Int32, y = (x27 + (1 : Int32)) := ⟨_, rfl⟩
            replace hf := o_letE ex44 hf
            refine lv_iinc (pc := 105) (v := x44) (lv' := [(4, .int x44), (5, .int x32), (0, .ref (h 0)), (1, .ref (h 13)), (2, .ref (h 21)), (3, .int p3)]) hx hb dX1_measure_105 hl (k := 5) rfl (by rw [ex44]; rfl) (by decide) rfl (fun ls hl => ?_)
            refine lv_goto (pc := 108) (tgt := 40) hx hb dX1_measure_108 (by decide) ?_
            exact ih0 x44 a28 a43 H locs ls Z (lv_sub hl [2, 3, 4, 5, 0] rfl) hf
    exact hL40 1024 (0 : Int32) a3 a1 H locs ls Z (lv_sub hl [1, 2, 3, 4, 0] rfl) hf
  have hL3 : ∀ (n0 : Nat) (x45 : Int32) (a46 : Nat → Int32) (H : Heap) (locs : List Loc) (ls : Array Slot), zw D (zTY cA) s A (W_X1_measure cA h c_lots c_figures c_count v_numberOf v_pageOf v_lineOf v_usedOn v_lotsOn v_firstOn v_pages v_printedLots v_printedLines a46 c_changedOn c_priced b_height b_count b_room b_account b_costs b_lines b_printed b_wanted b_slipped y_numberOf y_pageOf y_lineOf y_usedOn y_pages y_printedLots y_printedLines) H locs → lv_has ls 6 [(0, .ref (h 0)), (1, .ref (h 13)), (2, .ref (h 21)), (3, .int p3), (4, .int x45)] → fX1_measure_L3 j30_2 b_printed n0 x45 a46 = some u → W p l e ({ frames := 2, cells := 0, slots := 0, locals := 48 } : Room) s m args below meth c H locs 0 0 (MQ below (zQv D (zTY cA) A (W_X1_measure cA h c_lots (u.1) c_count (u.2.1) (u.2.2.1) (u.2.2.2.1) (u.2.2.2.2.1) (u.2.2.2.2.2.1) (u.2.2.2.2.2.2.1) (u.2.2.2.2.2.2.2.1) (u.2.2.2.2.2.2.2.2.1) (u.2.2.2.2.2.2.2.2.2.1) (u.2.2.2.2.2.2.2.2.2.2.1) (u.2.2.2.2.2.2.2.2.2.2.2) c_priced b_height b_count b_room b_account b_costs b_lines b_printed b_wanted b_slipped y_numberOf y_pageOf y_lineOf y_usedOn y_pages y_printedLots y_printedLines)) args s 0 0 A) (F0 m 3 ls []) := by
    intro n0
    induction n0 with
    | zero => intro x45 a46 H locs ls Z hl hf; exact o_no hf
    | succ n0 ih0 =>
      intro x45 a46 H locs ls Z hl hf
      refine lv_iload (pc := 3) hx hb dX1_measure_3 (lv_at hl 4 rfl) ?_
      refine lv_bipush (pc := 5) (v := (24 : Int32)) hx hb dX1_measure_5 (by decide) ?_
      refine lv_icmp_ge (pc := 7) (tgt := 30) hx hb dX1_measure_7 (by decide) (fun c47 => ?_) (fun c47 => ?_)
      · replace hf := o_pos c47 hf
        exact hj30_2 a46 H locs ls Z (lv_sub hl [0, 1, 2, 3] rfl) hf
      · replace hf := o_neg c47 hf
        refine lv_aload_n (pc := 10) hx hb dX1_measure_10 rfl (lv_at hl 0 rfl) ?_
        refine z_get (pc := 11) (ref := "LotSheet$Choices") (ci := 1) (C := RX1) (T := TX1) (N := 8) hx hb hts iw_X1_measure_X1 hown Z 0 rfl rfl 4 (by decide) (List.mem_of_getElem? (i := 1) rfl) rfl rfl dX1_measure_11 ?_
        refine lv_iload (pc := 14) hx hb dX1_measure_14 (lv_at hl 4 rfl) ?_
        refine lv_aload_n (pc := 16) hx hb dX1_measure_16 rfl (lv_at hl 1 rfl) ?_
        refine z_get (pc := 17) (ref := "LotSheet$Bill") (ci := 0) (C := RX0) (T := TX0) (N := 11) hx hb hts iw_X1_measure_X0 hown Z 12 rfl rfl 8 (by decide) (List.mem_of_getElem? (i := 2) rfl) rfl rfl dX1_measure_17 ?_
        refine lv_iload (pc := 20) hx hb dX1_measure_20 (lv_at hl 4 rfl) ?_
        obtain ⟨i48, hf⟩ := o_rdE hf
        refine z_zald (pc := 22) hx hb Z 15 1 rfl rfl i48 dX1_measure_22 ?_
        obtain ⟨i49, hf⟩ := o_rdE hf
        refine z_zast (pc := 23) hx hb Z 10 1 rfl rfl i49 dX1_measure_23 (fun g => (W_X1_measure cA h c_lots c_figures c_count v_numberOf v_pageOf v_lineOf v_usedOn v_lotsOn v_firstOn v_pages v_printedLots v_printedLines g c_changedOn c_priced b_height b_count b_room b_account b_costs b_lines b_printed b_wanted b_slipped y_numberOf y_pageOf y_lineOf y_usedOn y_pages y_printedLots y_printedLines)) (fun _ => rfl) (fun a50 H locs ea50 Z => ?_)
        replace hf := o_letE ea50 hf
        obtain ⟨x51, ex51⟩ : ∃ y : Int32, y = (x45 + (1 : Int32)) := ⟨_, rfl⟩
        replace hf := o_letE ex51 hf
        refine lv_iinc (pc := 24) (v := x51) (lv' := [(4, .int x51), (0, .ref (h 0)), (1, .ref (h 13)), (2, .ref (h 21)), (3, .int p3)]) hx hb dX1_measure_24 hl (k := 4) rfl (by rw [ex51]; rfl) (by decide) rfl (fun ls hl => ?_)
        refine lv_goto (pc := 27) (tgt := 3) hx hb dX1_measure_27 (by decide) ?_
        exact ih0 x51 a50 H locs ls Z (lv_sub hl [1, 2, 3, 4, 0] rfl) hf
  exact hL3 1024 (0 : Int32) c_printedBehind H locs ls Z (lv_sub hl [1, 2, 3, 4, 0] rfl) hf
