def W_X3_lay_z (cA : Nat → ClassId) (h : Nat → Nat) (y_numberOf : Nat → Int32) (y_pageOf : Nat → Int32) (y_lineOf : Nat → Int32) (y_usedOn : Nat → Int32) (y_lotsOn : Nat → Int32) (y_firstOn : Nat → Int32) (y_pages : Int32) (y_printedLots : Int32) (y_printedLines : Int32) (b_height : Int32) (b_count : Int32) (b_room : Int32) (b_account : Int32) (b_lines : Nat → Int32) (b_printed : Nat → Int32) : va_W := [(h 0, .inr (3, [.ref (h 1), .ref (h 2), .ref (h 3), .ref (h 4), .ref (h 5), .ref (h 6), .int y_pages, .int y_printedLots, .int y_printedLines])), (h 1, .inl (cA 0, 24, .inl y_numberOf)), (h 2, .inl (cA 0, 24, .inl y_pageOf)), (h 3, .inl (cA 0, 24, .inl y_lineOf)), (h 4, .inl (cA 0, 24, .inl y_usedOn)), (h 5, .inl (cA 0, 24, .inl y_lotsOn)), (h 6, .inl (cA 0, 24, .inl y_firstOn)), (h 7, .inr (0, [.int b_height, .int b_count, .int b_room, .int b_account, .ref (h 8), .ref (h 9), .ref (h 10), .ref (h 11), .ref (h 12), .ref (h 13), .ref (h 14)])), (h 9, .inl (cA 0, 24, .inl b_lines)), (h 12, .inl (cA 1, 24, .inl b_printed))]
def fX3_lay_z_L17 (b_count : Int32) (b_printed : Nat → Int32) (b_lines : Nat → Int32) (b_height : Int32) : Nat → Int32 → (Nat → Int32) → (Nat → Int32) → (Nat → Int32) → (Nat → Int32) → (Nat → Int32) → (Nat → Int32) → Int32 → Int32 → Int32 → Option ((Nat → Int32) × (Nat → Int32) × (Nat → Int32) × (Nat → Int32) × (Nat → Int32) × (Nat → Int32) × Int32 × Int32 × Int32)
  | 0, _, _, _, _, _, _, _, _, _, _ => none
  | n0 + 1, x1, a2, a3, a4, a5, a6, a7, x8, x9, x10 => (if b_count ≤ x1 then some (a2, a3, a4, a5, a6, a7, x8, x9, x10) else (if (24 : Int32) ≤ x1 then some (a2, a3, a4, a5, a6, a7, x8, x9, x10) else o_rd 24 x1 ((if (b_printed x1.toNatClampNeg) = 0 then o_bind (fX3_leaveOut x1 a2 a3 a4) (fun (a15, a16, a17) => o_let (x1 + (1 : Int32)) (fun x19 => (fX3_lay_z_L17 b_count b_printed b_lines b_height n0 x19 a15 a16 a17 a5 a6 a7 x8 x9 x10))) else o_rd 24 x1 (o_bind (fX3_place x1 (b_lines x1.toNatClampNeg) b_height a2 a3 a4 a5 a6 a7 x8 x9 x10) (fun (a21, a22, a23, a24, a25, a26, x27, x28, x29) => o_let (x1 + (1 : Int32)) (fun x31 => (fX3_lay_z_L17 b_count b_printed b_lines b_height n0 x31 a21 a22 a23 a24 a25 a26 x27 x28 x29))))))))
def fX3_lay_z (y_numberOf : Nat → Int32) (y_pageOf : Nat → Int32) (y_lineOf : Nat → Int32) (y_usedOn : Nat → Int32) (y_lotsOn : Nat → Int32) (y_firstOn : Nat → Int32) (y_pages : Int32) (y_printedLots : Int32) (y_printedLines : Int32) (b_height : Int32) (b_count : Int32) (b_lines : Nat → Int32) (b_printed : Nat → Int32) : Option ((Nat → Int32) × (Nat → Int32) × (Nat → Int32) × (Nat → Int32) × (Nat → Int32) × (Nat → Int32) × Int32 × Int32 × Int32) := (fX3_lay_z_L17 b_count b_printed b_lines b_height 1024 (0 : Int32) y_numberOf y_pageOf y_lineOf y_usedOn y_lotsOn y_firstOn (0 : Int32) (0 : Int32) (0 : Int32))
theorem iw_X3_lay_z_X3 : ∀ w ∈ u_ws RX3 TX3 9, w ∈ wsX3_lay := z_inr [22, 23, 24, 25, 26, 27, 28, 29, 30] rfl
theorem iw_X3_lay_z_X0 : ∀ w ∈ u_ws RX0 TX0 11, w ∈ wsX3_lay := z_inr [31, 32, 33, 34, 35, 36, 37, 38, 39, 40, 41] rfl
set_option maxHeartbeats 4000000 in
set_option maxRecDepth 100000 in
theorem kX3_lay_z (l : Launch) (D : va_G) (cA : Nat → ClassId) (h : Nat → Nat) (y_numberOf : Nat → Int32) (y_pageOf : Nat → Int32) (y_lineOf : Nat → Int32) (y_usedOn : Nat → Int32) (y_lotsOn : Nat → Int32) (y_firstOn : Nat → Int32) (y_pages : Int32) (y_printedLots : Int32) (y_printedLines : Int32) (b_height : Int32) (b_count : Int32) (b_room : Int32) (b_account : Int32) (b_lines : Nat → Int32) (b_printed : Nat → Int32) (u : (Nat → Int32) × (Nat → Int32) × (Nat → Int32) × (Nat → Int32) × (Nat → Int32) × (Nat → Int32) × Int32 × Int32 × Int32) (hf : fX3_lay_z y_numberOf y_pageOf y_lineOf y_usedOn y_lotsOn y_firstOn y_pages y_printedLots y_printedLines b_height b_count b_lines b_printed = some u) : zMv l yX3_lay wsX3_lay ({ frames := 1, cells := 0, slots := 0, locals := 25 } : Room) D (zTY cA) [.ref (h 0), .ref (h 7), .ref (h 12)] (W_X3_lay_z cA h y_numberOf y_pageOf y_lineOf y_usedOn y_lotsOn y_firstOn y_pages y_printedLots y_printedLines b_height b_count b_room b_account b_lines b_printed) (W_X3_lay_z cA h (u.1) (u.2.1) (u.2.2.1) (u.2.2.2.1) (u.2.2.2.2.1) (u.2.2.2.2.2.1) (u.2.2.2.2.2.2.1) (u.2.2.2.2.2.2.2.1) (u.2.2.2.2.2.2.2.2) b_height b_count b_room b_account b_lines b_printed) := by
  refine z_startv (cc := cX3_lay) (maxL := 4) (ret := none) (by decide) rfl (Nat.le_of_ble_eq_true rfl) ?_
  intro p e s m args below meth c A hx hb hr hts hown hlocks hml hA Z ls hl
  replace hown : s.vm.findClass RX3 = some m.cls := hown
  replace hl : lv_has ls 4 [(0, .ref (h 0)), (1, .ref (h 7)), (2, .ref (h 12))] := hl
  obtain ⟨H, hH⟩ : ∃ H, H = s.heap := ⟨_, rfl⟩
  rw [← hH] at Z ⊢
  clear hH
  obtain ⟨locs, hlc⟩ : ∃ q : List Loc, q = [] := ⟨_, rfl⟩
  rw [← hlc] at Z ⊢
  clear hlc
  refine lv_aload_n (pc := 0) hx hb dX3_lay_0 rfl (lv_at hl 0 rfl) ?_
  refine lv_iconst (pc := 1) (v := (0 : Int32)) hx hb dX3_lay_1 (by decide) ?_
  refine z_put (pc := 2) (ref := "LotSheet$Layout") (ci := 3) (C := RX3) (T := TX3) (N := 9) (W1 := (W_X3_lay_z cA h y_numberOf y_pageOf y_lineOf y_usedOn y_lotsOn y_firstOn (0 : Int32) y_printedLots y_printedLines b_height b_count b_room b_account b_lines b_printed)) hx hb hts iw_X3_lay_z_X3 tyX3 tyX3_ok nmX3 hown Z 0 rfl rfl 6 (by decide) (List.mem_of_getElem? (i := 1) rfl) rfl rfl rfl rfl (Nat.le_of_ble_eq_true rfl) dX3_lay_2 rfl (fun H locs Z => ?_)
  refine lv_aload_n (pc := 5) hx hb dX3_lay_5 rfl (lv_at hl 0 rfl) ?_
  refine lv_iconst (pc := 6) (v := (0 : Int32)) hx hb dX3_lay_6 (by decide) ?_
  refine z_put (pc := 7) (ref := "LotSheet$Layout") (ci := 3) (C := RX3) (T := TX3) (N := 9) (W1 := (W_X3_lay_z cA h y_numberOf y_pageOf y_lineOf y_usedOn y_lotsOn y_firstOn (0 : Int32) (0 : Int32) y_printedLines b_height b_count b_room b_account b_lines b_printed)) hx hb hts iw_X3_lay_z_X3 tyX3 tyX3_ok nmX3 hown Z 0 rfl rfl 7 (by decide) (List.mem_of_getElem? (i := 2) rfl) rfl rfl rfl rfl (Nat.le_of_ble_eq_true rfl) dX3_lay_7 rfl (fun H locs Z => ?_)
  refine lv_aload_n (pc := 10) hx hb dX3_lay_10 rfl (lv_at hl 0 rfl) ?_
  refine lv_iconst (pc := 11) (v := (0 : Int32)) hx hb dX3_lay_11 (by decide) ?_
  refine z_put (pc := 12) (ref := "LotSheet$Layout") (ci := 3) (C := RX3) (T := TX3) (N := 9) (W1 := (W_X3_lay_z cA h y_numberOf y_pageOf y_lineOf y_usedOn y_lotsOn y_firstOn (0 : Int32) (0 : Int32) (0 : Int32) b_height b_count b_room b_account b_lines b_printed)) hx hb hts iw_X3_lay_z_X3 tyX3 tyX3_ok nmX3 hown Z 0 rfl rfl 8 (by decide) (List.mem_of_getElem? (i := 3) rfl) rfl rfl rfl rfl (Nat.le_of_ble_eq_true rfl) dX3_lay_12 rfl (fun H locs Z => ?_)
  refine lv_iconst (pc := 15) (v := (0 : Int32)) hx hb dX3_lay_15 (by decide) ?_
  refine lv_istore_n (pc := 16) (lv' := [(3, .int (0 : Int32)), (0, .ref (h 0)), (1, .ref (h 7)), (2, .ref (h 12))]) hx hb dX3_lay_16 rfl hl (by decide) rfl (fun ls hl => ?_)
  have hL17 : ∀ (n0 : Nat) (x1 : Int32) (a2 : Nat → Int32) (a3 : Nat → Int32) (a4 : Nat → Int32) (a5 : Nat → Int32) (a6 : Nat → Int32) (a7 : Nat → Int32) (x8 : Int32) (x9 : Int32) (x10 : Int32) (H : Heap) (locs : List Loc) (ls : Array Slot), zw D (zTY cA) s A (W_X3_lay_z cA h a2 a3 a4 a5 a6 a7 x8 x9 x10 b_height b_count b_room b_account b_lines b_printed) H locs → lv_has ls 4 [(0, .ref (h 0)), (1, .ref (h 7)), (2, .ref (h 12)), (3, .int x1)] → fX3_lay_z_L17 b_count b_printed b_lines b_height n0 x1 a2 a3 a4 a5 a6 a7 x8 x9 x10 = some u → W p l e ({ frames := 1, cells := 0, slots := 0, locals := 25 } : Room) s m args below meth c H locs 0 0 (MQ below (zQv D (zTY cA) A (W_X3_lay_z cA h (u.1) (u.2.1) (u.2.2.1) (u.2.2.2.1) (u.2.2.2.2.1) (u.2.2.2.2.2.1) (u.2.2.2.2.2.2.1) (u.2.2.2.2.2.2.2.1) (u.2.2.2.2.2.2.2.2) b_height b_count b_room b_account b_lines b_printed)) args s 0 0 A) (F0 m 17 ls []) := by
    intro n0
    induction n0 with
    | zero => intro x1 a2 a3 a4 a5 a6 a7 x8 x9 x10 H locs ls Z hl hf; exact o_no hf
    | succ n0 ih0 =>
      intro x1 a2 a3 a4 a5 a6 a7 x8 x9 x10 H locs ls Z hl hf
      refine lv_iload_n (pc := 17) hx hb dX3_lay_17 rfl (lv_at hl 3 rfl) ?_
      refine lv_aload_n (pc := 18) hx hb dX3_lay_18 rfl (lv_at hl 1 rfl) ?_
      refine z_get (pc := 19) (ref := "LotSheet$Bill") (ci := 0) (C := RX0) (T := TX0) (N := 11) hx hb hts iw_X3_lay_z_X0 hown Z 7 rfl rfl 1 (by decide) (List.mem_of_getElem? (i := 4) rfl) rfl rfl dX3_lay_19 ?_
      refine lv_icmp_ge (pc := 22) (tgt := 66) hx hb dX3_lay_22 (by decide) (fun c11 => ?_) (fun c11 => ?_)
      · replace hf := o_pos c11 hf
        cases hf
        exact z_vret (pc := 66) hx hb hr hlocks Z rfl dX3_lay_66
      · replace hf := o_neg c11 hf
        refine lv_iload_n (pc := 25) hx hb dX3_lay_25 rfl (lv_at hl 3 rfl) ?_
        refine lv_aload_n (pc := 26) hx hb dX3_lay_26 rfl (lv_at hl 2 rfl) ?_
        refine z_alen (pc := 27) (v := (24 : Int32)) hx hb Z 9 1 rfl rfl rfl dX3_lay_27 ?_
        refine lv_icmp_ge (pc := 28) (tgt := 66) hx hb dX3_lay_28 (by decide) (fun c12 => ?_) (fun c12 => ?_)
        · replace hf := o_pos c12 hf
          cases hf
          exact z_vret (pc := 66) hx hb hr hlocks Z rfl dX3_lay_66
        · replace hf := o_neg c12 hf
          refine lv_aload_n (pc := 31) hx hb dX3_lay_31 rfl (lv_at hl 2 rfl) ?_
          refine lv_iload_n (pc := 32) hx hb dX3_lay_32 rfl (lv_at hl 3 rfl) ?_
          obtain ⟨i13, hf⟩ := o_rdE hf
          refine z_zald (pc := 33) hx hb Z 9 1 rfl rfl i13 dX3_lay_33 ?_
          refine lv_if_eq (pc := 34) (tgt := 55) hx hb dX3_lay_34 (by decide) (fun c14 => ?_) (fun c14 => ?_)
          · replace hf := o_pos c14 hf
            refine lv_aload_n (pc := 55) hx hb dX3_lay_55 rfl (lv_at hl 0 rfl) ?_
            refine lv_iload_n (pc := 56) hx hb dX3_lay_56 rfl (lv_at hl 3 rfl) ?_
            obtain ⟨⟨a15, a16, a17⟩, q18, hf⟩ := o_bindE hf
            refine z_callVv (pc := 57) (As := [.int x1]) (rest := []) (Wc := (W_X3_leaveOut cA (fun k => h ([0, 1, 2, 3, 4, 5, 6].getD k 0)) a2 a3 a4 x8 x9 x10)) (W1 := (W_X3_leaveOut cA (fun k => h ([0, 1, 2, 3, 4, 5, 6].getD k 0)) a15 a16 a17 x8 x9 x10)) (W2 := (W_X3_lay_z cA h a15 a16 a17 a5 a6 a7 x8 x9 x10 b_height b_count b_room b_account b_lines b_printed)) ⟨hx, hb, hml, hown, hts⟩ (kX3_leaveOut l D cA (fun k => h ([0, 1, 2, 3, 4, 5, 6].getD k 0)) x1 a2 a3 a4 x8 x9 x10 _ q18) (cwV 1 hts gX3_lay_X3_leaveOut rfl rfl rfl (by decide +kernel) ⟨Nat.le_of_ble_eq_true rfl, Nat.le_of_ble_eq_true rfl⟩) Z hA [0, 1, 2, 3] rfl (by decide) rfl (ci := 3) rfl rfl rfl rfl hl.1 rfl (Nat.le_of_ble_eq_true rfl) dX3_lay_57 ⟨Nat.zero_le _, Nat.zero_le _⟩ [some 0, some 1, some 2, some 3, none, none, none, none, none, none] rfl ⟨rfl, rfl, rfl, rfl, rfl, rfl, rfl, rfl, rfl, rfl, rfl⟩ (fun H locs Z => ?_)
            obtain ⟨x19, ex19⟩ : ∃ y : Int32, y = (x1 + (1 : Int32)) := ⟨_, rfl⟩
            replace hf := o_letE ex19 hf
            refine lv_iinc (pc := 60) (v := x19) (lv' := [(3, .int x19), (0, .ref (h 0)), (1, .ref (h 7)), (2, .ref (h 12))]) hx hb dX3_lay_60 hl (k := 3) rfl (by rw [ex19]; rfl) (by decide) rfl (fun ls hl => ?_)
            refine lv_goto (pc := 63) (tgt := 17) hx hb dX3_lay_63 (by decide) ?_
            exact ih0 x19 a15 a16 a17 a5 a6 a7 x8 x9 x10 H locs ls Z (lv_sub hl [1, 2, 3, 0] rfl) hf
          · replace hf := o_neg c14 hf
            refine lv_aload_n (pc := 37) hx hb dX3_lay_37 rfl (lv_at hl 0 rfl) ?_
            refine lv_iload_n (pc := 38) hx hb dX3_lay_38 rfl (lv_at hl 3 rfl) ?_
            refine lv_aload_n (pc := 39) hx hb dX3_lay_39 rfl (lv_at hl 1 rfl) ?_
            refine z_get (pc := 40) (ref := "LotSheet$Bill") (ci := 0) (C := RX0) (T := TX0) (N := 11) hx hb hts iw_X3_lay_z_X0 hown Z 7 rfl rfl 5 (by decide) (List.mem_of_getElem? (i := 5) rfl) rfl rfl dX3_lay_40 ?_
            refine lv_iload_n (pc := 43) hx hb dX3_lay_43 rfl (lv_at hl 3 rfl) ?_
            obtain ⟨i20, hf⟩ := o_rdE hf
            refine z_iald (pc := 44) hx hb Z 8 0 rfl rfl i20 dX3_lay_44 ?_
            refine lv_aload_n (pc := 45) hx hb dX3_lay_45 rfl (lv_at hl 1 rfl) ?_
            refine z_get (pc := 46) (ref := "LotSheet$Bill") (ci := 0) (C := RX0) (T := TX0) (N := 11) hx hb hts iw_X3_lay_z_X0 hown Z 7 rfl rfl 0 (by decide) (List.mem_of_getElem? (i := 6) rfl) rfl rfl dX3_lay_46 ?_
            obtain ⟨⟨a21, a22, a23, a24, a25, a26, x27, x28, x29⟩, q30, hf⟩ := o_bindE hf
            refine z_callVv (pc := 49) (As := [.int x1, .int (b_lines x1.toNatClampNeg), .int b_height]) (rest := []) (Wc := (W_X3_place cA (fun k => h ([0, 1, 2, 3, 4, 5, 6].getD k 0)) a2 a3 a4 a5 a6 a7 x8 x9 x10)) (W1 := (W_X3_place cA (fun k => h ([0, 1, 2, 3, 4, 5, 6].getD k 0)) a21 a22 a23 a24 a25 a26 x27 x28 x29)) (W2 := (W_X3_lay_z cA h a21 a22 a23 a24 a25 a26 x27 x28 x29 b_height b_count b_room b_account b_lines b_printed)) ⟨hx, hb, hml, hown, hts⟩ (kX3_place l D cA (fun k => h ([0, 1, 2, 3, 4, 5, 6].getD k 0)) x1 (b_lines x1.toNatClampNeg) b_height a2 a3 a4 a5 a6 a7 x8 x9 x10 _ q30) (cwV 3 hts gX3_lay_X3_place rfl rfl rfl (by decide +kernel) ⟨Nat.le_of_ble_eq_true rfl, Nat.le_of_ble_eq_true rfl⟩) Z hA [0, 1, 2, 3, 4, 5, 6] rfl (by decide) rfl (ci := 3) rfl rfl rfl rfl hl.1 rfl (Nat.le_of_ble_eq_true rfl) dX3_lay_49 ⟨Nat.zero_le _, Nat.zero_le _⟩ [some 0, some 1, some 2, some 3, some 4, some 5, some 6, none, none, none] rfl ⟨rfl, rfl, rfl, rfl, rfl, rfl, rfl, rfl, rfl, rfl, rfl⟩ (fun H locs Z => ?_)
            refine lv_goto (pc := 52) (tgt := 60) hx hb dX3_lay_52 (by decide) ?_
            obtain ⟨x31, ex31⟩ : ∃ y : Int32, y = (x1 + (1 : Int32)) := ⟨_, rfl⟩
            replace hf := o_letE ex31 hf
            refine lv_iinc (pc := 60) (v := x31) (lv' := [(3, .int x31), (0, .ref (h 0)), (1, .ref (h 7)), (2, .ref (h 12))]) hx hb dX3_lay_60 hl (k := 3) rfl (by rw [ex31]; rfl) (by decide) rfl (fun ls hl => ?_)
            refine lv_goto (pc := 63) (tgt := 17) hx hb dX3_lay_63 (by decide) ?_
            exact ih0 x31 a21 a22 a23 a24 a25 a26 x27 x28 x29 H locs ls Z (lv_sub hl [1, 2, 3, 0] rfl) hf
  exact hL17 1024 (0 : Int32) y_numberOf y_pageOf y_lineOf y_usedOn y_lotsOn y_firstOn (0 : Int32) (0 : Int32) (0 : Int32) H locs ls Z (lv_sub hl [1, 2, 3, 0] rfl) hf
