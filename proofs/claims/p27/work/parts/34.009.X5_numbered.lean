def W_X5_numbered (cA : Nat → ClassId) (h : Nat → Nat) (b_height : Int32) (b_count : Int32) (b_room : Int32) (b_account : Int32) (y_numberOf : Nat → Int32) (y_pages : Int32) (y_printedLots : Int32) (y_printedLines : Int32) (x_latestErrorOffset : Int32) : va_W := [(h 0, .inr (5, [.ref (h 1), .ref (h 3), .ref (h 11), .ref (h 19), .ref (h 85), .ref (h 92), .int x_latestErrorOffset])), (h 3, .inr (0, [.int b_height, .int b_count, .int b_room, .int b_account, .ref (h 4), .ref (h 5), .ref (h 6), .ref (h 7), .ref (h 8), .ref (h 9), .ref (h 10)])), (h 85, .inr (3, [.ref (h 86), .ref (h 87), .ref (h 88), .ref (h 89), .ref (h 90), .ref (h 91), .int y_pages, .int y_printedLots, .int y_printedLines])), (h 86, .inl (cA 0, 24, .inl y_numberOf))]
def fX5_numbered_L7 (b_count : Int32) (y_numberOf : Nat → Int32) (p1 : Int32) : Nat → Int32 → Option (String ⊕ (Int32))
  | 0, _ => none
  | n0 + 1, x2 => (if b_count ≤ x2 then some (.inl "java/util/NoSuchElementException") else o_rd 24 x2 ((if (y_numberOf x2.toNatClampNeg) = p1 then some (.inr (x2)) else o_let (x2 + (1 : Int32)) (fun x6 => (fX5_numbered_L7 b_count y_numberOf p1 n0 x6)))))
def fX5_numbered (p1 : Int32) (b_count : Int32) (y_numberOf : Nat → Int32) : Option (String ⊕ (Int32)) := (if p1 < (1 : Int32) then some (.inl "java/util/NoSuchElementException") else (fX5_numbered_L7 b_count y_numberOf p1 1024 (0 : Int32)))
theorem iw_X5_numbered_X5 : ∀ w ∈ u_ws RX5 TX5 7, w ∈ zsX5_numbered := z_inr [7, 8, 9, 10, 11, 12, 13] rfl
theorem iw_X5_numbered_X0 : ∀ w ∈ u_ws RX0 TX0 11, w ∈ zsX5_numbered := z_inr [14, 15, 16, 17, 18, 19, 20, 21, 22, 23, 24] rfl
theorem iw_X5_numbered_X3 : ∀ w ∈ u_ws RX3 TX3 9, w ∈ zsX5_numbered := z_inr [25, 26, 27, 28, 29, 30, 31, 32, 33] rfl
set_option maxHeartbeats 4000000 in
set_option maxRecDepth 100000 in
theorem kX5_numbered (l : Launch) (D : va_G) (cA : Nat → ClassId) (h : Nat → Nat) (p1 : Int32) (b_height : Int32) (b_count : Int32) (b_room : Int32) (b_account : Int32) (y_numberOf : Nat → Int32) (y_pages : Int32) (y_printedLots : Int32) (y_printedLines : Int32) (x_latestErrorOffset : Int32) (u : Int32) (hf : fX5_numbered p1 b_count y_numberOf = some (.inr u)) : zMi l yX5_numbered zsX5_numbered ({ frames := 6, cells := 0, slots := 0, locals := 90 } : Room) D (zTY cA) [.ref (h 0), .int p1] (W_X5_numbered cA h b_height b_count b_room b_account y_numberOf y_pages y_printedLots y_printedLines x_latestErrorOffset) (W_X5_numbered cA h b_height b_count b_room b_account y_numberOf y_pages y_printedLots y_printedLines x_latestErrorOffset) u := by
  refine z_starti (cc := cX5_numbered) (maxL := 3) (ret := (some .int)) (by decide) rfl (Nat.le_of_ble_eq_true rfl) ?_
  intro p e s m args below meth c A hx hb hr hts hown hlocks hml hA Z ls hl
  replace hown : s.vm.findClass RX5 = some m.cls := hown
  replace hl : lv_has ls 3 [(0, .ref (h 0)), (1, .int p1)] := hl
  obtain ⟨H, hH⟩ : ∃ H, H = s.heap := ⟨_, rfl⟩
  rw [← hH] at Z ⊢
  clear hH
  obtain ⟨locs, hlc⟩ : ∃ q : List Loc, q = [] := ⟨_, rfl⟩
  rw [← hlc] at Z ⊢
  clear hlc
  refine lv_iload_n (pc := 0) hx hb dX5_numbered_0 rfl (lv_at hl 1 rfl) ?_
  refine lv_iconst (pc := 1) (v := (1 : Int32)) hx hb dX5_numbered_1 (by decide) ?_
  refine lv_icmp_lt (pc := 2) (tgt := 39) hx hb dX5_numbered_2 (by decide) (fun c1 => ?_) (fun c1 => ?_)
  · replace hf := o_pos c1 hf
    cases hf
  · replace hf := o_neg c1 hf
    refine lv_iconst (pc := 5) (v := (0 : Int32)) hx hb dX5_numbered_5 (by decide) ?_
    refine lv_istore_n (pc := 6) (lv' := [(2, .int (0 : Int32)), (0, .ref (h 0)), (1, .int p1)]) hx hb dX5_numbered_6 rfl hl (by decide) rfl (fun ls hl => ?_)
    have hL7 : ∀ (n0 : Nat) (x2 : Int32) (H : Heap) (locs : List Loc) (ls : Array Slot), zw D (zTY cA) s A (W_X5_numbered cA h b_height b_count b_room b_account y_numberOf y_pages y_printedLots y_printedLines x_latestErrorOffset) H locs → lv_has ls 3 [(0, .ref (h 0)), (1, .int p1), (2, .int x2)] → fX5_numbered_L7 b_count y_numberOf p1 n0 x2 = some (.inr u) → W p l e ({ frames := 6, cells := 0, slots := 0, locals := 90 } : Room) s m args below meth c H locs 0 0 (MQ below (zQi D (zTY cA) A (W_X5_numbered cA h b_height b_count b_room b_account y_numberOf y_pages y_printedLots y_printedLines x_latestErrorOffset) u) args s 0 0 A) (F0 m 7 ls []) := by
      intro n0
      induction n0 with
      | zero => intro x2 H locs ls Z hl hf; exact o_no hf
      | succ n0 ih0 =>
        intro x2 H locs ls Z hl hf
        refine lv_iload_n (pc := 7) hx hb dX5_numbered_7 rfl (lv_at hl 2 rfl) ?_
        refine lv_aload_n (pc := 8) hx hb dX5_numbered_8 rfl (lv_at hl 0 rfl) ?_
        refine z_get (pc := 9) (ref := "LotSheet") (ci := 5) (C := RX5) (T := TX5) (N := 7) hx hb hts iw_X5_numbered_X5 hown Z 0 rfl rfl 1 (by decide) (List.mem_of_getElem? (i := 3) rfl) rfl rfl dX5_numbered_9 ?_
        refine z_get (pc := 12) (ref := "LotSheet$Bill") (ci := 0) (C := RX0) (T := TX0) (N := 11) hx hb hts iw_X5_numbered_X0 hown Z 1 rfl rfl 1 (by decide) (List.mem_of_getElem? (i := 4) rfl) rfl rfl dX5_numbered_12 ?_
        refine lv_icmp_ge (pc := 15) (tgt := 39) hx hb dX5_numbered_15 (by decide) (fun c3 => ?_) (fun c3 => ?_)
        · replace hf := o_pos c3 hf
          cases hf
        · replace hf := o_neg c3 hf
          refine lv_aload_n (pc := 18) hx hb dX5_numbered_18 rfl (lv_at hl 0 rfl) ?_
          refine z_get (pc := 19) (ref := "LotSheet") (ci := 5) (C := RX5) (T := TX5) (N := 7) hx hb hts iw_X5_numbered_X5 hown Z 0 rfl rfl 4 (by decide) (List.mem_of_getElem? (i := 5) rfl) rfl rfl dX5_numbered_19 ?_
          refine z_get (pc := 22) (ref := "LotSheet$Layout") (ci := 3) (C := RX3) (T := TX3) (N := 9) hx hb hts iw_X5_numbered_X3 hown Z 2 rfl rfl 0 (by decide) (List.mem_of_getElem? (i := 6) rfl) rfl rfl dX5_numbered_22 ?_
          refine lv_iload_n (pc := 25) hx hb dX5_numbered_25 rfl (lv_at hl 2 rfl) ?_
          obtain ⟨i4, hf⟩ := o_rdE hf
          refine z_iald (pc := 26) hx hb Z 3 0 rfl rfl i4 dX5_numbered_26 ?_
          refine lv_iload_n (pc := 27) hx hb dX5_numbered_27 rfl (lv_at hl 1 rfl) ?_
          refine lv_icmp_ne (pc := 28) (tgt := 33) hx hb dX5_numbered_28 (by decide) (fun c5 => ?_) (fun c5 => ?_)
          · replace hf := o_neg c5 hf
            obtain ⟨x6, ex6⟩ : ∃ y : Int32, y = (x2 + (1 : Int32)) := ⟨_, rfl⟩
            replace hf := o_letE ex6 hf
            refine lv_iinc (pc := 33) (v := x6) (lv' := [(2, .int x6), (0, .ref (h 0)), (1, .int p1)]) hx hb dX5_numbered_33 hl (k := 2) rfl (by rw [ex6]; rfl) (by decide) rfl (fun ls hl => ?_)
            refine lv_goto (pc := 36) (tgt := 7) hx hb dX5_numbered_36 (by decide) ?_
            exact ih0 x6 H locs ls Z (lv_sub hl [1, 2, 0] rfl) hf
          · replace hf := o_pos c5 hf
            refine lv_iload_n (pc := 31) hx hb dX5_numbered_31 rfl (lv_at hl 2 rfl) ?_
            cases hf
            exact z_iret (pc := 32) hx hb hr hlocks Z rfl rfl dX5_numbered_32
    exact hL7 1024 (0 : Int32) H locs ls Z (lv_sub hl [1, 2, 0] rfl) hf
set_option maxHeartbeats 4000000 in
set_option maxRecDepth 100000 in
theorem tX5_numbered (l : Launch) (D : va_G) (cA : Nat → ClassId) (h : Nat → Nat) (p1 : Int32) (b_height : Int32) (b_count : Int32) (b_room : Int32) (b_account : Int32) (y_numberOf : Nat → Int32) (y_pages : Int32) (y_printedLots : Int32) (y_printedLines : Int32) (x_latestErrorOffset : Int32) (E : String) (hf : fX5_numbered p1 b_count y_numberOf = some (.inl E)) (hfl : l.stackTraces = false) : zMiT l yX5_numbered zsX5_numbered ({ frames := 6, cells := 1, slots := 6, locals := 90 } : Room) D (zTY cA) [.ref (h 0), .int p1] (W_X5_numbered cA h b_height b_count b_room b_account y_numberOf y_pages y_printedLots y_printedLines x_latestErrorOffset) E := by
  refine z_startiT (cc := cX5_numbered) (maxL := 3) (ret := (some .int)) (by decide) rfl (Nat.le_of_ble_eq_true rfl) ?_
  intro p e s m args below meth c A hx hb hr hts hown hlocks hml hA hE hxt Z ls hl
  replace hown : s.vm.findClass RX5 = some m.cls := hown
  replace hl : lv_has ls 3 [(0, .ref (h 0)), (1, .int p1)] := hl
  obtain ⟨H, hH⟩ : ∃ H, H = s.heap := ⟨_, rfl⟩
  rw [← hH] at Z ⊢
  clear hH
  obtain ⟨locs, hlc⟩ : ∃ q : List Loc, q = [] := ⟨_, rfl⟩
  rw [← hlc] at Z ⊢
  clear hlc
  refine lv_iload_n (pc := 0) hx hb dX5_numbered_0 rfl (lv_at hl 1 rfl) ?_
  refine lv_iconst (pc := 1) (v := (1 : Int32)) hx hb dX5_numbered_1 (by decide) ?_
  refine lv_icmp_lt (pc := 2) (tgt := 39) hx hb dX5_numbered_2 (by decide) (fun c1 => ?_) (fun c1 => ?_)
  · replace hf := o_pos c1 hf
    cases hf
    exact z_throwNS (pc := 39) hx hb hfl hown hts (List.mem_of_getElem? (i := 1) rfl) (List.mem_of_getElem? (i := 2) rfl) (List.mem_of_getElem? (i := 5) rfl) hE Z (hl.1.trans hml.symm) dX5_numbered_39 dX5_numbered_42 dX5_numbered_43 dX5_numbered_45 dX5_numbered_48 hxt (Nat.le_of_ble_eq_true rfl) (Nat.le_of_ble_eq_true rfl) (Nat.le_of_ble_eq_true rfl) (Nat.le_of_ble_eq_true rfl) hlocks
  · replace hf := o_neg c1 hf
    refine lv_iconst (pc := 5) (v := (0 : Int32)) hx hb dX5_numbered_5 (by decide) ?_
    refine lv_istore_n (pc := 6) (lv' := [(2, .int (0 : Int32)), (0, .ref (h 0)), (1, .int p1)]) hx hb dX5_numbered_6 rfl hl (by decide) rfl (fun ls hl => ?_)
    have hL7 : ∀ (n0 : Nat) (x2 : Int32) (H : Heap) (locs : List Loc) (ls : Array Slot), zw D (zTY cA) s A (W_X5_numbered cA h b_height b_count b_room b_account y_numberOf y_pages y_printedLots y_printedLines x_latestErrorOffset) H locs → lv_has ls 3 [(0, .ref (h 0)), (1, .int p1), (2, .int x2)] → fX5_numbered_L7 b_count y_numberOf p1 n0 x2 = some (.inl E) → W p l e ({ frames := 6, cells := 1, slots := 6, locals := 90 } : Room) s m args below meth c H locs 0 0 (vx_MQ below (va_Qi (fun _ (_ : Unit) => False) (fun _ _ => True) A) (zXC D (zTY cA) A (W_X5_numbered cA h b_height b_count b_room b_account y_numberOf y_pages y_printedLots y_printedLines x_latestErrorOffset) E) args s 1 6 A) (F0 m 7 ls []) := by
      intro n0
      induction n0 with
      | zero => intro x2 H locs ls Z hl hf; exact o_no hf
      | succ n0 ih0 =>
        intro x2 H locs ls Z hl hf
        refine lv_iload_n (pc := 7) hx hb dX5_numbered_7 rfl (lv_at hl 2 rfl) ?_
        refine lv_aload_n (pc := 8) hx hb dX5_numbered_8 rfl (lv_at hl 0 rfl) ?_
        refine z_get (pc := 9) (ref := "LotSheet") (ci := 5) (C := RX5) (T := TX5) (N := 7) hx hb hts iw_X5_numbered_X5 hown Z 0 rfl rfl 1 (by decide) (List.mem_of_getElem? (i := 3) rfl) rfl rfl dX5_numbered_9 ?_
        refine z_get (pc := 12) (ref := "LotSheet$Bill") (ci := 0) (C := RX0) (T := TX0) (N := 11) hx hb hts iw_X5_numbered_X0 hown Z 1 rfl rfl 1 (by decide) (List.mem_of_getElem? (i := 4) rfl) rfl rfl dX5_numbered_12 ?_
        refine lv_icmp_ge (pc := 15) (tgt := 39) hx hb dX5_numbered_15 (by decide) (fun c3 => ?_) (fun c3 => ?_)
        · replace hf := o_pos c3 hf
          cases hf
          exact z_throwNS (pc := 39) hx hb hfl hown hts (List.mem_of_getElem? (i := 1) rfl) (List.mem_of_getElem? (i := 2) rfl) (List.mem_of_getElem? (i := 5) rfl) hE Z (hl.1.trans hml.symm) dX5_numbered_39 dX5_numbered_42 dX5_numbered_43 dX5_numbered_45 dX5_numbered_48 hxt (Nat.le_of_ble_eq_true rfl) (Nat.le_of_ble_eq_true rfl) (Nat.le_of_ble_eq_true rfl) (Nat.le_of_ble_eq_true rfl) hlocks
        · replace hf := o_neg c3 hf
          refine lv_aload_n (pc := 18) hx hb dX5_numbered_18 rfl (lv_at hl 0 rfl) ?_
          refine z_get (pc := 19) (ref := "LotSheet") (ci := 5) (C := RX5) (T := TX5) (N := 7) hx hb hts iw_X5_numbered_X5 hown Z 0 rfl rfl 4 (by decide) (List.mem_of_getElem? (i := 5) rfl) rfl rfl dX5_numbered_19 ?_
          refine z_get (pc := 22) (ref := "LotSheet$Layout") (ci := 3) (C := RX3) (T := TX3) (N := 9) hx hb hts iw_X5_numbered_X3 hown Z 2 rfl rfl 0 (by decide) (List.mem_of_getElem? (i := 6) rfl) rfl rfl dX5_numbered_22 ?_
          refine lv_iload_n (pc := 25) hx hb dX5_numbered_25 rfl (lv_at hl 2 rfl) ?_
          obtain ⟨i4, hf⟩ := o_rdE hf
          refine z_iald (pc := 26) hx hb Z 3 0 rfl rfl i4 dX5_numbered_26 ?_
          refine lv_iload_n (pc := 27) hx hb dX5_numbered_27 rfl (lv_at hl 1 rfl) ?_
          refine lv_icmp_ne (pc := 28) (tgt := 33) hx hb dX5_numbered_28 (by decide) (fun c5 => ?_) (fun c5 => ?_)
          · replace hf := o_neg c5 hf
            obtain ⟨x6, ex6⟩ : ∃ y : Int32, y = (x2 + (1 : Int32)) := ⟨_, rfl⟩
            replace hf := o_letE ex6 hf
            refine lv_iinc (pc := 33) (v := x6) (lv' := [(2, .int x6), (0, .ref (h 0)), (1, .int p1)]) hx hb dX5_numbered_33 hl (k := 2) rfl (by rw [ex6]; rfl) (by decide) rfl (fun ls hl => ?_)
            refine lv_goto (pc := 36) (tgt := 7) hx hb dX5_numbered_36 (by decide) ?_
            exact ih0 x6 H locs ls Z (lv_sub hl [1, 2, 0] rfl) hf
          · replace hf := o_pos c5 hf
            refine lv_iload_n (pc := 31) hx hb dX5_numbered_31 rfl (lv_at hl 2 rfl) ?_
            cases hf
    exact hL7 1024 (0 : Int32) H locs ls Z (lv_sub hl [1, 2, 0] rfl) hf
