def W_X5_wantedEstimatesOn (cA : Nat → ClassId) (h : Nat → Nat) (b_height : Int32) (b_count : Int32) (b_room : Int32) (b_account : Int32) (b_estimates : Nat → Int32) (b_wanted : Nat → Int32) (y_pageOf : Nat → Int32) (y_pages : Int32) (y_printedLots : Int32) (y_printedLines : Int32) (x_latestErrorOffset : Int32) : va_W := [(h 0, .inr (5, [.ref (h 1), .ref (h 3), .ref (h 11), .ref (h 19), .ref (h 85), .ref (h 92), .int x_latestErrorOffset])), (h 3, .inr (0, [.int b_height, .int b_count, .int b_room, .int b_account, .ref (h 4), .ref (h 5), .ref (h 6), .ref (h 7), .ref (h 8), .ref (h 9), .ref (h 10)])), (h 6, .inl (cA 0, 24, .inl b_estimates)), (h 9, .inl (cA 1, 24, .inl b_wanted)), (h 85, .inr (3, [.ref (h 86), .ref (h 87), .ref (h 88), .ref (h 89), .ref (h 90), .ref (h 91), .int y_pages, .int y_printedLots, .int y_printedLines])), (h 87, .inl (cA 0, 24, .inl y_pageOf))]
def fX5_wantedEstimatesOn_L4 (b_count : Int32) (y_pageOf : Nat → Int32) (p1 : Int32) (b_wanted : Nat → Int32) (b_estimates : Nat → Int32) : Nat → Int32 → Int32 → Option (Int32)
  | 0, _, _ => none
  | n0 + 1, x1, x2 => (if b_count ≤ x2 then some (x1) else o_rd 24 x2 ((if (y_pageOf x2.toNatClampNeg) = p1 then o_rd 24 x2 ((if (b_wanted x2.toNatClampNeg) = 0 then o_let (x2 + (1 : Int32)) (fun x9 => (fX5_wantedEstimatesOn_L4 b_count y_pageOf p1 b_wanted b_estimates n0 x1 x9)) else o_rd 24 x2 (o_let (x1 + (b_estimates x2.toNatClampNeg)) (fun x11 => o_let (x2 + (1 : Int32)) (fun x12 => (fX5_wantedEstimatesOn_L4 b_count y_pageOf p1 b_wanted b_estimates n0 x11 x12)))))) else o_let (x2 + (1 : Int32)) (fun x6 => (fX5_wantedEstimatesOn_L4 b_count y_pageOf p1 b_wanted b_estimates n0 x1 x6)))))
def fX5_wantedEstimatesOn (p1 : Int32) (b_count : Int32) (b_estimates : Nat → Int32) (b_wanted : Nat → Int32) (y_pageOf : Nat → Int32) : Option (Int32) := (fX5_wantedEstimatesOn_L4 b_count y_pageOf p1 b_wanted b_estimates 1024 (0 : Int32) (0 : Int32))
theorem iw_X5_wantedEstimatesOn_X5 : ∀ w ∈ u_ws RX5 TX5 7, w ∈ wsX5_wantedEstimatesOn := z_inr [7, 8, 9, 10, 11, 12, 13] rfl
theorem iw_X5_wantedEstimatesOn_X0 : ∀ w ∈ u_ws RX0 TX0 11, w ∈ wsX5_wantedEstimatesOn := z_inr [14, 15, 16, 17, 18, 19, 20, 21, 22, 23, 24] rfl
theorem iw_X5_wantedEstimatesOn_X3 : ∀ w ∈ u_ws RX3 TX3 9, w ∈ wsX5_wantedEstimatesOn := z_inr [25, 26, 27, 28, 29, 30, 31, 32, 33] rfl
set_option maxHeartbeats 4000000 in
set_option maxRecDepth 100000 in
theorem kX5_wantedEstimatesOn (l : Launch) (D : va_G) (cA : Nat → ClassId) (h : Nat → Nat) (p1 : Int32) (b_height : Int32) (b_count : Int32) (b_room : Int32) (b_account : Int32) (b_estimates : Nat → Int32) (b_wanted : Nat → Int32) (y_pageOf : Nat → Int32) (y_pages : Int32) (y_printedLots : Int32) (y_printedLines : Int32) (x_latestErrorOffset : Int32) (u : Int32) (hf : fX5_wantedEstimatesOn p1 b_count b_estimates b_wanted y_pageOf = some u) : zMi l yX5_wantedEstimatesOn wsX5_wantedEstimatesOn ({ frames := 0, cells := 0, slots := 0, locals := 0 } : Room) D (zTY cA) [.ref (h 0), .int p1] (W_X5_wantedEstimatesOn cA h b_height b_count b_room b_account b_estimates b_wanted y_pageOf y_pages y_printedLots y_printedLines x_latestErrorOffset) (W_X5_wantedEstimatesOn cA h b_height b_count b_room b_account b_estimates b_wanted y_pageOf y_pages y_printedLots y_printedLines x_latestErrorOffset) u := by
  refine z_starti (cc := cX5_wantedEstimatesOn) (maxL := 4) (ret := (some .int)) (by decide) rfl (Nat.le_of_ble_eq_true rfl) ?_
  intro p e s m args below meth c A hx hb hr hts hown hlocks hml hA Z ls hl
  replace hown : s.vm.findClass RX5 = some m.cls := hown
  replace hl : lv_has ls 4 [(0, .ref (h 0)), (1, .int p1)] := hl
  obtain ⟨H, hH⟩ : ∃ H, H = s.heap := ⟨_, rfl⟩
  rw [← hH] at Z ⊢
  clear hH
  obtain ⟨locs, hlc⟩ : ∃ q : List Loc, q = [] := ⟨_, rfl⟩
  rw [← hlc] at Z ⊢
  clear hlc
  refine lv_iconst (pc := 0) (v := (0 : Int32)) hx hb dX5_wantedEstimatesOn_0 (by decide) ?_
  refine lv_istore_n (pc := 1) (lv' := [(2, .int (0 : Int32)), (0, .ref (h 0)), (1, .int p1)]) hx hb dX5_wantedEstimatesOn_1 rfl hl (by decide) rfl (fun ls hl => ?_)
  refine lv_iconst (pc := 2) (v := (0 : Int32)) hx hb dX5_wantedEstimatesOn_2 (by decide) ?_
  refine lv_istore_n (pc := 3) (lv' := [(3, .int (0 : Int32)), (2, .int (0 : Int32)), (0, .ref (h 0)), (1, .int p1)]) hx hb dX5_wantedEstimatesOn_3 rfl hl (by decide) rfl (fun ls hl => ?_)
  have hL4 : ∀ (n0 : Nat) (x1 : Int32) (x2 : Int32) (H : Heap) (locs : List Loc) (ls : Array Slot), zw D (zTY cA) s A (W_X5_wantedEstimatesOn cA h b_height b_count b_room b_account b_estimates b_wanted y_pageOf y_pages y_printedLots y_printedLines x_latestErrorOffset) H locs → lv_has ls 4 [(0, .ref (h 0)), (1, .int p1), (2, .int x1), (3, .int x2)] → fX5_wantedEstimatesOn_L4 b_count y_pageOf p1 b_wanted b_estimates n0 x1 x2 = some u → W p l e ({ frames := 0, cells := 0, slots := 0, locals := 0 } : Room) s m args below meth c H locs 0 0 (MQ below (zQi D (zTY cA) A (W_X5_wantedEstimatesOn cA h b_height b_count b_room b_account b_estimates b_wanted y_pageOf y_pages y_printedLots y_printedLines x_latestErrorOffset) u) args s 0 0 A) (F0 m 4 ls []) := by
    intro n0
    induction n0 with
    | zero => intro x1 x2 H locs ls Z hl hf; exact o_no hf
    | succ n0 ih0 =>
      intro x1 x2 H locs ls Z hl hf
      refine lv_iload_n (pc := 4) hx hb dX5_wantedEstimatesOn_4 rfl (lv_at hl 3 rfl) ?_
      refine lv_aload_n (pc := 5) hx hb dX5_wantedEstimatesOn_5 rfl (lv_at hl 0 rfl) ?_
      refine z_get (pc := 6) (ref := "LotSheet") (ci := 5) (C := RX5) (T := TX5) (N := 7) hx hb hts iw_X5_wantedEstimatesOn_X5 hown Z 0 rfl rfl 1 (by decide) (List.mem_of_getElem? (i := 1) rfl) rfl rfl dX5_wantedEstimatesOn_6 ?_
      refine z_get (pc := 9) (ref := "LotSheet$Bill") (ci := 0) (C := RX0) (T := TX0) (N := 11) hx hb hts iw_X5_wantedEstimatesOn_X0 hown Z 1 rfl rfl 1 (by decide) (List.mem_of_getElem? (i := 2) rfl) rfl rfl dX5_wantedEstimatesOn_9 ?_
      refine lv_icmp_ge (pc := 12) (tgt := 58) hx hb dX5_wantedEstimatesOn_12 (by decide) (fun c3 => ?_) (fun c3 => ?_)
      · replace hf := o_pos c3 hf
        refine lv_iload_n (pc := 58) hx hb dX5_wantedEstimatesOn_58 rfl (lv_at hl 2 rfl) ?_
        cases hf
        exact z_iret (pc := 59) hx hb hr hlocks Z rfl rfl dX5_wantedEstimatesOn_59
      · replace hf := o_neg c3 hf
        refine lv_aload_n (pc := 15) hx hb dX5_wantedEstimatesOn_15 rfl (lv_at hl 0 rfl) ?_
        refine z_get (pc := 16) (ref := "LotSheet") (ci := 5) (C := RX5) (T := TX5) (N := 7) hx hb hts iw_X5_wantedEstimatesOn_X5 hown Z 0 rfl rfl 4 (by decide) (List.mem_of_getElem? (i := 3) rfl) rfl rfl dX5_wantedEstimatesOn_16 ?_
        refine z_get (pc := 19) (ref := "LotSheet$Layout") (ci := 3) (C := RX3) (T := TX3) (N := 9) hx hb hts iw_X5_wantedEstimatesOn_X3 hown Z 4 rfl rfl 1 (by decide) (List.mem_of_getElem? (i := 4) rfl) rfl rfl dX5_wantedEstimatesOn_19 ?_
        refine lv_iload_n (pc := 22) hx hb dX5_wantedEstimatesOn_22 rfl (lv_at hl 3 rfl) ?_
        obtain ⟨i4, hf⟩ := o_rdE hf
        refine z_iald (pc := 23) hx hb Z 5 0 rfl rfl i4 dX5_wantedEstimatesOn_23 ?_
        refine lv_iload_n (pc := 24) hx hb dX5_wantedEstimatesOn_24 rfl (lv_at hl 1 rfl) ?_
        refine lv_icmp_ne (pc := 25) (tgt := 52) hx hb dX5_wantedEstimatesOn_25 (by decide) (fun c5 => ?_) (fun c5 => ?_)
        · replace hf := o_neg c5 hf
          obtain ⟨x6, ex6⟩ : ∃ y : Int32, y = (x2 + (1 : Int32)) := ⟨_, rfl⟩
          replace hf := o_letE ex6 hf
          refine lv_iinc (pc := 52) (v := x6) (lv' := [(3, .int x6), (0, .ref (h 0)), (1, .int p1), (2, .int x1)]) hx hb dX5_wantedEstimatesOn_52 hl (k := 3) rfl (by rw [ex6]; rfl) (by decide) rfl (fun ls hl => ?_)
          refine lv_goto (pc := 55) (tgt := 4) hx hb dX5_wantedEstimatesOn_55 (by decide) ?_
          exact ih0 x1 x6 H locs ls Z (lv_sub hl [1, 2, 3, 0] rfl) hf
        · replace hf := o_pos c5 hf
          refine lv_aload_n (pc := 28) hx hb dX5_wantedEstimatesOn_28 rfl (lv_at hl 0 rfl) ?_
          refine z_get (pc := 29) (ref := "LotSheet") (ci := 5) (C := RX5) (T := TX5) (N := 7) hx hb hts iw_X5_wantedEstimatesOn_X5 hown Z 0 rfl rfl 1 (by decide) (List.mem_of_getElem? (i := 1) rfl) rfl rfl dX5_wantedEstimatesOn_29 ?_
          refine z_get (pc := 32) (ref := "LotSheet$Bill") (ci := 0) (C := RX0) (T := TX0) (N := 11) hx hb hts iw_X5_wantedEstimatesOn_X0 hown Z 1 rfl rfl 9 (by decide) (List.mem_of_getElem? (i := 5) rfl) rfl rfl dX5_wantedEstimatesOn_32 ?_
          refine lv_iload_n (pc := 35) hx hb dX5_wantedEstimatesOn_35 rfl (lv_at hl 3 rfl) ?_
          obtain ⟨i7, hf⟩ := o_rdE hf
          refine z_zald (pc := 36) hx hb Z 3 1 rfl rfl i7 dX5_wantedEstimatesOn_36 ?_
          refine lv_if_eq (pc := 37) (tgt := 52) hx hb dX5_wantedEstimatesOn_37 (by decide) (fun c8 => ?_) (fun c8 => ?_)
          · replace hf := o_pos c8 hf
            obtain ⟨x9, ex9⟩ : ∃ y : Int32, y = (x2 + (1 : Int32)) := ⟨_, rfl⟩
            replace hf := o_letE ex9 hf
            refine lv_iinc (pc := 52) (v := x9) (lv' := [(3, .int x9), (0, .ref (h 0)), (1, .int p1), (2, .int x1)]) hx hb dX5_wantedEstimatesOn_52 hl (k := 3) rfl (by rw [ex9]; rfl) (by decide) rfl (fun ls hl => ?_)
            refine lv_goto (pc := 55) (tgt := 4) hx hb dX5_wantedEstimatesOn_55 (by decide) ?_
            exact ih0 x1 x9 H locs ls Z (lv_sub hl [1, 2, 3, 0] rfl) hf
          · replace hf := o_neg c8 hf
            refine lv_iload_n (pc := 40) hx hb dX5_wantedEstimatesOn_40 rfl (lv_at hl 2 rfl) ?_
            refine lv_aload_n (pc := 41) hx hb dX5_wantedEstimatesOn_41 rfl (lv_at hl 0 rfl) ?_
            refine z_get (pc := 42) (ref := "LotSheet") (ci := 5) (C := RX5) (T := TX5) (N := 7) hx hb hts iw_X5_wantedEstimatesOn_X5 hown Z 0 rfl rfl 1 (by decide) (List.mem_of_getElem? (i := 1) rfl) rfl rfl dX5_wantedEstimatesOn_42 ?_
            refine z_get (pc := 45) (ref := "LotSheet$Bill") (ci := 0) (C := RX0) (T := TX0) (N := 11) hx hb hts iw_X5_wantedEstimatesOn_X0 hown Z 1 rfl rfl 6 (by decide) (List.mem_of_getElem? (i := 6) rfl) rfl rfl dX5_wantedEstimatesOn_45 ?_
            refine lv_iload_n (pc := 48) hx hb dX5_wantedEstimatesOn_48 rfl (lv_at hl 3 rfl) ?_
            obtain ⟨i10, hf⟩ := o_rdE hf
            refine z_iald (pc := 49) hx hb Z 2 0 rfl rfl i10 dX5_wantedEstimatesOn_49 ?_
            refine lv_iadd (pc := 50) hx hb dX5_wantedEstimatesOn_50 ?_
            refine lv_topi (fun x11 ex11 => ?_)
            replace hf := o_letE ex11 hf
            refine lv_istore_n (pc := 51) (lv' := [(2, .int x11), (0, .ref (h 0)), (1, .int p1), (3, .int x2)]) hx hb dX5_wantedEstimatesOn_51 rfl hl (by decide) rfl (fun ls hl => ?_)
            obtain ⟨x12, ex12⟩ : ∃ y : Int32, y = (x2 + (1 : Int32)) := ⟨_, rfl⟩
            replace hf := o_letE ex12 hf
            refine lv_iinc (pc := 52) (v := x12) (lv' := [(3, .int x12), (2, .int x11), (0, .ref (h 0)), (1, .int p1)]) hx hb dX5_wantedEstimatesOn_52 hl (k := 3) rfl (by rw [ex12]; rfl) (by decide) rfl (fun ls hl => ?_)
            refine lv_goto (pc := 55) (tgt := 4) hx hb dX5_wantedEstimatesOn_55 (by decide) ?_
            exact ih0 x11 x12 H locs ls Z (lv_sub hl [2, 3, 1, 0] rfl) hf
  exact hL4 1024 (0 : Int32) (0 : Int32) H locs ls Z (lv_sub hl [2, 3, 1, 0] rfl) hf
