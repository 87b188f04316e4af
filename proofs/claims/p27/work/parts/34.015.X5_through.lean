def W_X5_through (cA : Nat → ClassId) (h : Nat → Nat) (b_height : Int32) (b_count : Int32) (b_room : Int32) (b_account : Int32) (b_lines : Nat → Int32) (b_printed : Nat → Int32) (x_latestErrorOffset : Int32) : va_W := [(h 0, .inr (5, [.ref (h 1), .ref (h 3), .ref (h 11), .ref (h 19), .ref (h 85), .ref (h 92), .int x_latestErrorOffset])), (h 3, .inr (0, [.int b_height, .int b_count, .int b_room, .int b_account, .ref (h 4), .ref (h 5), .ref (h 6), .ref (h 7), .ref (h 8), .ref (h 9), .ref (h 10)])), (h 5, .inl (cA 0, 24, .inl b_lines)), (h 8, .inl (cA 1, 24, .inl b_printed))]
def fX5_through_L25 (b_count : Int32) (b_printed : Nat → Int32) (b_lines : Nat → Int32) (p1 : Int32) : Nat → Int32 → Int32 → Option (String ⊕ (Int32))
  | 0, _, _ => none
  | n0 + 1, x3, x4 => (if b_count ≤ x4 then some (.inl "java/util/NoSuchElementException") else o_rd 24 x4 ((if (b_printed x4.toNatClampNeg) = 0 then o_let (x4 + (1 : Int32)) (fun x8 => (fX5_through_L25 b_count b_printed b_lines p1 n0 x3 x8)) else o_rd 24 x4 (o_let (x3 + (b_lines x4.toNatClampNeg)) (fun x10 => (if x10 ≤ p1 then o_let (x4 + (1 : Int32)) (fun x12 => (fX5_through_L25 b_count b_printed b_lines p1 n0 x10 x12)) else some (.inr (x4))))))))
def fX5_through (p1 : Int32) (b_count : Int32) (b_lines : Nat → Int32) (b_printed : Nat → Int32) : Option (String ⊕ (Int32)) := (if p1 < 0 then some (.inl "java/util/NoSuchElementException") else (if p1 ≤ (9999 : Int32) then (fX5_through_L25 b_count b_printed b_lines p1 1024 (0 : Int32) (0 : Int32)) else some (.inl "java/util/NoSuchElementException")))
theorem iw_X5_through_X5 : ∀ w ∈ u_ws RX5 TX5 7, w ∈ zsX5_through := z_inr [7, 8, 9, 10, 11, 12, 13] rfl
theorem iw_X5_through_X0 : ∀ w ∈ u_ws RX0 TX0 11, w ∈ zsX5_through := z_inr [14, 15, 16, 17, 18, 19, 20, 21, 22, 23, 24] rfl
set_option maxHeartbeats 4000000 in
set_option maxRecDepth 100000 in
theorem kX5_through (l : Launch) (D : va_G) (cA : Nat → ClassId) (h : Nat → Nat) (p1 : Int32) (b_height : Int32) (b_count : Int32) (b_room : Int32) (b_account : Int32) (b_lines : Nat → Int32) (b_printed : Nat → Int32) (x_latestErrorOffset : Int32) (u : Int32) (hf : fX5_through p1 b_count b_lines b_printed = some (.inr u)) : zMi l yX5_through zsX5_through ({ frames := 6, cells := 0, slots := 0, locals := 90 } : Room) D (zTY cA) [.ref (h 0), .int p1] (W_X5_through cA h b_height b_count b_room b_account b_lines b_printed x_latestErrorOffset) (W_X5_through cA h b_height b_count b_room b_account b_lines b_printed x_latestErrorOffset) u := by
  refine z_starti (cc := cX5_through) (maxL := 4) (ret := (some .int)) (by decide) rfl (Nat.le_of_ble_eq_true rfl) ?_
  intro p e s m args below meth c A hx hb hr hts hown hlocks hml hA Z ls hl
  replace hown : s.vm.findClass RX5 = some m.cls := hown
  replace hl : lv_has ls 4 [(0, .ref (h 0)), (1, .int p1)] := hl
  obtain ⟨H, hH⟩ : ∃ H, H = s.heap := ⟨_, rfl⟩
  rw [← hH] at Z ⊢
  clear hH
  obtain ⟨locs, hlc⟩ : ∃ q : List Loc, q = [] := ⟨_, rfl⟩
  rw [← hlc] at Z ⊢
  clear hlc
  refine lv_iload_n (pc := 0) hx hb dX5_through_0 rfl (lv_at hl 1 rfl) ?_
  refine lv_if_lt (pc := 1) (tgt := 11) hx hb dX5_through_1 (by decide) (fun c1 => ?_) (fun c1 => ?_)
  · replace hf := o_pos c1 hf
    cases hf
  · replace hf := o_neg c1 hf
    refine lv_iload_n (pc := 4) hx hb dX5_through_4 rfl (lv_at hl 1 rfl) ?_
    refine lv_sipush (pc := 5) (v := (9999 : Int32)) hx hb dX5_through_5 (by decide) ?_
    refine lv_icmp_le (pc := 8) (tgt := 21) hx hb dX5_through_8 (by decide) (fun c2 => ?_) (fun c2 => ?_)
    · replace hf := o_pos c2 hf
      refine lv_iconst (pc := 21) (v := (0 : Int32)) hx hb dX5_through_21 (by decide) ?_
      refine lv_istore_n (pc := 22) (lv' := [(2, .int (0 : Int32)), (0, .ref (h 0)), (1, .int p1)]) hx hb dX5_through_22 rfl hl (by decide) rfl (fun ls hl => ?_)
      refine lv_iconst (pc := 23) (v := (0 : Int32)) hx hb dX5_through_23 (by decide) ?_
      refine lv_istore_n (pc := 24) (lv' := [(3, .int (0 : Int32)), (2, .int (0 : Int32)), (0, .ref (h 0)), (1, .int p1)]) hx hb dX5_through_24 rfl hl (by decide) rfl (fun ls hl => ?_)
      have hL25 : ∀ (n0 : Nat) (x3 : Int32) (x4 : Int32) (H : Heap) (locs : List Loc) (ls : Array Slot), zw D (zTY cA) s A (W_X5_through cA h b_height b_count b_room b_account b_lines b_printed x_latestErrorOffset) H locs → lv_has ls 4 [(0, .ref (h 0)), (1, .int p1), (2, .int x3), (3, .int x4)] → fX5_through_L25 b_count b_printed b_lines p1 n0 x3 x4 = some (.inr u) → W p l e ({ frames := 6, cells := 0, slots := 0, locals := 90 } : Room) s m args below meth c H locs 0 0 (MQ below (zQi D (zTY cA) A (W_X5_through cA h b_height b_count b_room b_account b_lines b_printed x_latestErrorOffset) u) args s 0 0 A) (F0 m 25 ls []) := by
        intro n0
        induction n0 with
        | zero => intro x3 x4 H locs ls Z hl hf; exact o_no hf
        | succ n0 ih0 =>
          intro x3 x4 H locs ls Z hl hf
          refine lv_iload_n (pc := 25) hx hb dX5_through_25 rfl (lv_at hl 3 rfl) ?_
          refine lv_aload_n (pc := 26) hx hb dX5_through_26 rfl (lv_at hl 0 rfl) ?_
          refine z_get (pc := 27) (ref := "LotSheet") (ci := 5) (C := RX5) (T := TX5) (N := 7) hx hb hts iw_X5_through_X5 hown Z 0 rfl rfl 1 (by decide) (List.mem_of_getElem? (i := 3) rfl) rfl rfl dX5_through_27 ?_
          refine z_get (pc := 30) (ref := "LotSheet$Bill") (ci := 0) (C := RX0) (T := TX0) (N := 11) hx hb hts iw_X5_through_X0 hown Z 1 rfl rfl 1 (by decide) (List.mem_of_getElem? (i := 4) rfl) rfl rfl dX5_through_30 ?_
          refine lv_icmp_ge (pc := 33) (tgt := 73) hx hb dX5_through_33 (by decide) (fun c5 => ?_) (fun c5 => ?_)
          · replace hf := o_pos c5 hf
            cases hf
          · replace hf := o_neg c5 hf
            refine lv_aload_n (pc := 36) hx hb dX5_through_36 rfl (lv_at hl 0 rfl) ?_
            refine z_get (pc := 37) (ref := "LotSheet") (ci := 5) (C := RX5) (T := TX5) (N := 7) hx hb hts iw_X5_through_X5 hown Z 0 rfl rfl 1 (by decide) (List.mem_of_getElem? (i := 3) rfl) rfl rfl dX5_through_37 ?_
            refine z_get (pc := 40) (ref := "LotSheet$Bill") (ci := 0) (C := RX0) (T := TX0) (N := 11) hx hb hts iw_X5_through_X0 hown Z 1 rfl rfl 8 (by decide) (List.mem_of_getElem? (i := 5) rfl) rfl rfl dX5_through_40 ?_
            refine lv_iload_n (pc := 43) hx hb dX5_through_43 rfl (lv_at hl 3 rfl) ?_
            obtain ⟨i6, hf⟩ := o_rdE hf
            refine z_zald (pc := 44) hx hb Z 3 1 rfl rfl i6 dX5_through_44 ?_
            refine lv_if_eq (pc := 45) (tgt := 67) hx hb dX5_through_45 (by decide) (fun c7 => ?_) (fun c7 => ?_)
            · replace hf := o_pos c7 hf
              obtain ⟨x8, ex8⟩ : ∃ y : Int32, y = (x4 + (1 : Int32)) := ⟨_, rfl⟩
              replace hf := o_letE ex8 hf
              refine lv_iinc (pc := 67) (v := x8) (lv' := [(3, .int x8), (0, .ref (h 0)), (1, .int p1), (2, .int x3)]) hx hb dX5_through_67 hl (k := 3) rfl (by rw [ex8]; rfl) (by decide) rfl (fun ls hl => ?_)
              refine lv_goto (pc := 70) (tgt := 25) hx hb dX5_through_70 (by decide) ?_
              exact ih0 x3 x8 H locs ls Z (lv_sub hl [1, 2, 3, 0] rfl) hf
            · replace hf := o_neg c7 hf
              refine lv_iload_n (pc := 48) hx hb dX5_through_48 rfl (lv_at hl 2 rfl) ?_
              refine lv_aload_n (pc := 49) hx hb dX5_through_49 rfl (lv_at hl 0 rfl) ?_
              refine z_get (pc := 50) (ref := "LotSheet") (ci := 5) (C := RX5) (T := TX5) (N := 7) hx hb hts iw_X5_through_X5 hown Z 0 rfl rfl 1 (by decide) (List.mem_of_getElem? (i := 3) rfl) rfl rfl dX5_through_50 ?_
              refine z_get (pc := 53) (ref := "LotSheet$Bill") (ci := 0) (C := RX0) (T := TX0) (N := 11) hx hb hts iw_X5_through_X0 hown Z 1 rfl rfl 5 (by decide) (List.mem_of_getElem? (i := 6) rfl) rfl rfl dX5_through_53 ?_
              refine lv_iload_n (pc := 56) hx hb dX5_through_56 rfl (lv_at hl 3 rfl) ?_
              obtain ⟨i9, hf⟩ := o_rdE hf
              refine z_iald (pc := 57) hx hb Z 2 0 rfl rfl i9 dX5_through_57 ?_
              refine lv_iadd (pc := 58) hx hb dX5_through_58 ?_
              refine lv_topi (fun x10 ex10 => ?_)
              replace hf := o_letE ex10 hf
              refine lv_istore_n (pc := 59) (lv' := [(2, .int x10), (0, .ref (h 0)), (1, .int p1), (3, .int x4)]) hx hb dX5_through_59 rfl hl (by decide) rfl (fun ls hl => ?_)
              refine lv_iload_n (pc := 60) hx hb dX5_through_60 rfl (lv_at hl 2 rfl) ?_
              refine lv_iload_n (pc := 61) hx hb dX5_through_61 rfl (lv_at hl 0 rfl) ?_
              refine lv_icmp_ge (pc := 62) (tgt := 67) hx hb dX5_through_62 (by decide) (fun c11 => ?_) (fun c11 => ?_)
              · replace hf := o_pos c11 hf
                obtain ⟨x12, ex12⟩ : ∃ y : Int32, y = (x4 + (1 : Int32)) := ⟨_, rfl⟩
                replace hf := o_letE ex12 hf
                refine lv_iinc (pc := 67) (v := x12) (lv' := [(3, .int x12), (2, .int x10), (0, .ref (h 0)), (1, .int p1)]) hx hb dX5_through_67 hl (k := 3) rfl (by rw [ex12]; rfl) (by decide) rfl (fun ls hl => ?_)
                refine lv_goto (pc := 70) (tgt := 25) hx hb dX5_through_70 (by decide) ?_
                exact ih0 x10 x12 H locs ls Z (lv_sub hl [2, 3, 1, 0] rfl) hf
              · replace hf := o_neg c11 hf
                refine lv_iload_n (pc := 65) hx hb dX5_through_65 rfl (lv_at hl 3 rfl) ?_
                cases hf
                exact z_iret (pc := 66) hx hb hr hlocks Z rfl rfl dX5_through_66
      exact hL25 1024 (0 : Int32) (0 : Int32) H locs ls Z (lv_sub hl [2, 3, 1, 0] rfl) hf
    · replace hf := o_neg c2 hf
      cases hf
set_option maxHeartbeats 4000000 in
set_option maxRecDepth 100000 in
theorem tX5_through (l : Launch) (D : va_G) (cA : Nat → ClassId) (h : Nat → Nat) (p1 : Int32) (b_height : Int32) (b_count : Int32) (b_room : Int32) (b_account : Int32) (b_lines : Nat → Int32) (b_printed : Nat → Int32) (x_latestErrorOffset : Int32) (E : String) (hf : fX5_through p1 b_count b_lines b_printed = some (.inl E)) (hfl : l.stackTraces = false) : zMiT l yX5_through zsX5_through ({ frames := 6, cells := 1, slots := 6, locals := 90 } : Room) D (zTY cA) [.ref (h 0), .int p1] (W_X5_through cA h b_height b_count b_room b_account b_lines b_printed x_latestErrorOffset) E := by
  refine z_startiT (cc := cX5_through) (maxL := 4) (ret := (some .int)) (by decide) rfl (Nat.le_of_ble_eq_true rfl) ?_
  intro p e s m args below meth c A hx hb hr hts hown hlocks hml hA hE hxt Z ls hl
  replace hown : s.vm.findClass RX5 = some m.cls := hown
  replace hl : lv_has ls 4 [(0, .ref (h 0)), (1, .int p1)] := hl
  obtain ⟨H, hH⟩ : ∃ H, H = s.heap := ⟨_, rfl⟩
  rw [← hH] at Z ⊢
  clear hH
  obtain ⟨locs, hlc⟩ : ∃ q : List Loc, q = [] := ⟨_, rfl⟩
  rw [← hlc] at Z ⊢
  clear hlc
  refine lv_iload_n (pc := 0) hx hb dX5_through_0 rfl (lv_at hl 1 rfl) ?_
  refine lv_if_lt (pc := 1) (tgt := 11) hx hb dX5_through_1 (by decide) (fun c1 => ?_) (fun c1 => ?_)
  · replace hf := o_pos c1 hf
    cases hf
    exact z_throwNS (pc := 11) hx hb hfl hown hts (List.mem_of_getElem? (i := 1) rfl) (List.mem_of_getElem? (i := 2) rfl) (List.mem_of_getElem? (i := 11) rfl) hE Z (hl.1.trans hml.symm) dX5_through_11 dX5_through_14 dX5_through_15 dX5_through_17 dX5_through_20 hxt (Nat.le_of_ble_eq_true rfl) (Nat.le_of_ble_eq_true rfl) (Nat.le_of_ble_eq_true rfl) (Nat.le_of_ble_eq_true rfl) hlocks
  · replace hf := o_neg c1 hf
    refine lv_iload_n (pc := 4) hx hb dX5_through_4 rfl (lv_at hl 1 rfl) ?_
    refine lv_sipush (pc := 5) (v := (9999 : Int32)) hx hb dX5_through_5 (by decide) ?_
    refine lv_icmp_le (pc := 8) (tgt := 21) hx hb dX5_through_8 (by decide) (fun c2 => ?_) (fun c2 => ?_)
    · replace hf := o_pos c2 hf
      refine lv_iconst (pc := 21) (v := (0 : Int32)) hx hb dX5_through_21 (by decide) ?_
      refine lv_istore_n (pc := 22) (lv' := [(2, .int (0 : Int32)), (0, .ref (h 0)), (1, .int p1)]) hx hb dX5_through_22 rfl hl (by decide) rfl (fun ls hl => ?_)
      refine lv_iconst (pc := 23) (v := (0 : Int32)) hx hb dX5_through_23 (by decide) ?_
      refine lv_istore_n (pc := 24) (lv' := [(3, .int (0 : Int32)), (2, .int (0 : Int32)), (0, .ref (h 0)), (1, .int p1)]) hx hb dX5_through_24 rfl hl (by decide) rfl (fun ls hl => ?_)
      have hL25 : ∀ (n0 : Nat) (x3 : Int32) (x4 : Int32) (H : Heap) (locs : List Loc) (ls : Array Slot), zw D (zTY cA) s A (W_X5_through cA h b_height b_count b_room b_account b_lines b_printed x_latestErrorOffset) H locs → lv_has ls 4 [(0, .ref (h 0)), (1, .int p1), (2, .int x3), (3, .int x4)] → fX5_through_L25 b_count b_printed b_lines p1 n0 x3 x4 = some (.inl E) → W p l e ({ frames := 6, cells := 1, slots := 6, locals := 90 } : Room) s m args below meth c H locs 0 0 (vx_MQ below (va_Qi (fun _ (_ : Unit) => False) (fun _ _ => True) A) (zXC D (zTY cA) A (W_X5_through cA h b_height b_count b_room b_account b_lines b_printed x_latestErrorOffset) E) args s 1 6 A) (F0 m 25 ls []) := by
        intro n0
        induction n0 with
        | zero => intro x3 x4 H locs ls Z hl hf; exact o_no hf
        | succ n0 ih0 =>
          intro x3 x4 H locs ls Z hl hf
          refine lv_iload_n (pc := 25) hx hb dX5_through_25 rfl (lv_at hl 3 rfl) ?_
          refine lv_aload_n (pc := 26) hx hb dX5_through_26 rfl (lv_at hl 0 rfl) ?_
          refine z_get (pc := 27) (ref := "LotSheet") (ci := 5) (C := RX5) (T := TX5) (N := 7) hx hb hts iw_X5_through_X5 hown Z 0 rfl rfl 1 (by decide) (List.mem_of_getElem? (i := 3) rfl) rfl rfl dX5_through_27 ?_
          refine z_get (pc := 30) (ref := "LotSheet$Bill") (ci := 0) (C := RX0) (T := TX0) (N := 11) hx hb hts iw_X5_through_X0 hown Z 1 rfl rfl 1 (by decide) (List.mem_of_getElem? (i := 4) rfl) rfl rfl dX5_through_30 ?_
          refine lv_icmp_ge (pc := 33) (tgt := 73) hx hb dX5_through_33 (by decide) (fun c5 => ?_) (fun c5 => ?_)
          · replace hf := o_pos c5 hf
            cases hf
            exact z_throwNS (pc := 73) hx hb hfl hown hts (List.mem_of_getElem? (i := 1) rfl) (List.mem_of_getElem? (i := 2) rfl) (List.mem_of_getElem? (i := 12) rfl) hE Z (hl.1.trans hml.symm) dX5_through_73 dX5_through_76 dX5_through_77 dX5_through_79 dX5_through_82 hxt (Nat.le_of_ble_eq_true rfl) (Nat.le_of_ble_eq_true rfl) (Nat.le_of_ble_eq_true rfl) (Nat.le_of_ble_eq_true rfl) hlocks
          · replace hf := o_neg c5 hf
            refine lv_aload_n (pc := 36) hx hb dX5_through_36 rfl (lv_at hl 0 rfl) ?_
            refine z_get (pc := 37) (ref := "LotSheet") (ci := 5) (C := RX5) (T := TX5) (N := 7) hx hb hts iw_X5_through_X5 hown Z 0 rfl rfl 1 (by decide) (List.mem_of_getElem? (i := 3) rfl) rfl rfl dX5_through_37 ?_
            refine z_get (pc := 40) (ref := "LotSheet$Bill") (ci := 0) (C := RX0) (T := TX0) (N := 11) hx hb hts iw_X5_through_X0 hown Z 1 rfl rfl 8 (by decide) (List.mem_of_getElem? (i := 5) rfl) rfl rfl dX5_through_40 ?_
            refine lv_iload_n (pc := 43) hx hb dX5_through_43 rfl (lv_at hl 3 rfl) ?_
            obtain ⟨i6, hf⟩ := o_rdE hf
            refine z_zald (pc := 44) hx hb Z 3 1 rfl rfl i6 dX5_through_44 ?_
            refine lv_if_eq (pc := 45) (tgt := 67) hx hb dX5_through_45 (by decide) (fun c7 => ?_) (fun c7 => ?_)
            · replace hf := o_pos c7 hf
              obtain ⟨x8, ex8⟩ : ∃ y : Int32, y = (x4 + (1 : Int32)) := ⟨_, rfl⟩
              replace hf := o_letE ex8 hf
              refine lv_iinc (pc := 67) (v := x8) (lv' := [(3, .int x8), (0, .ref (h 0)), (1, .int p1), (2, .int x3)]) hx hb dX5_through_67 hl (k := 3) rfl (by rw [ex8]; rfl) (by decide) rfl (fun ls hl => ?_)
              refine lv_goto (pc := 70) (tgt := 25) hx hb dX5_through_70 (by decide) ?_
              exact ih0 x3 x8 H locs ls Z (lv_sub hl [1, 2, 3, 0] rfl) hf
            · replace hf := o_neg c7 hf
              refine lv_iload_n (pc := 48) hx hb dX5_through_48 rfl (lv_at hl 2 rfl) ?_
              refine lv_aload_n (pc := 49) hx hb dX5_through_49 rfl (lv_at hl 0 rfl) ?_
              refine z_get (pc := 50) (ref := "LotSheet") (ci := 5) (C := RX5) (T := TX5) (N := 7) hx hb hts iw_X5_through_X5 hown Z 0 rfl rfl 1 (by decide) (List.mem_of_getElem? (i := 3) rfl) rfl rfl dX5_through_50 ?_
              refine z_get (pc := 53) (ref := "LotSheet$Bill") (ci := 0) (C := RX0) (T := TX0) (N := 11) hx hb hts iw_X5_through_X0 hown Z 1 rfl rfl 5 (by decide) (List.mem_of_getElem? (i := 6) rfl) rfl rfl dX5_through_53 ?_
              refine lv_iload_n (pc := 56) hx hb dX5_through_56 rfl (lv_at hl 3 rfl) ?_
              obtain ⟨i9, hf⟩ := o_rdE hf
              refine z_iald (pc := 57) hx hb Z 2 0 rfl rfl i9 dX5_through_57 ?_
              refine lv_iadd (pc := 58) hx hb dX5_through_58 ?_
              refine lv_topi (fun x10 ex10 => ?_)
              replace hf := o_letE ex10 hf
              refine lv_istore_n (pc := 59) (lv' := [(2, .int x10), (0, .ref (h 0)), (1, .int p1), (3, .int x4)]) hx hb dX5_through_59 rfl hl (by decide) rfl (fun ls hl => ?_)
              refine lv_iload_n (pc := 60) hx hb dX5_through_60 rfl (lv_at hl 2 rfl) ?_
              refine lv_iload_n (pc := 61) hx hb dX5_through_61 rfl (lv_at hl 0 rfl) ?_
              refine lv_icmp_ge (pc := 62) (tgt := 67) hx hb dX5_through_62 (by decide) (fun c11 => ?_) (fun c11 => ?_)
              · replace hf := o_pos c11 hf
                obtain ⟨x12, ex12⟩ : ∃ y : Int32, y = (x4 + (1 : Int32)) := ⟨_, rfl⟩
                replace hf := o_letE ex12 hf
                refine lv_iinc (pc := 67) (v := x12) (lv' := [(3, .int x12), (2, .int x10), (0, .ref (h 0)), (1, .int p1)]) hx hb dX5_through_67 hl (k := 3) rfl (by rw [ex12]; rfl) (by decide) rfl (fun ls hl => ?_)
                refine lv_goto (pc := 70) (tgt := 25) hx hb dX5_through_70 (by decide) ?_
                exact ih0 x10 x12 H locs ls Z (lv_sub hl [2, 3, 1, 0] rfl) hf
              · replace hf := o_neg c11 hf
                refine lv_iload_n (pc := 65) hx hb dX5_through_65 rfl (lv_at hl 3 rfl) ?_
                cases hf
      exact hL25 1024 (0 : Int32) (0 : Int32) H locs ls Z (lv_sub hl [2, 3, 1, 0] rfl) hf
    · replace hf := o_neg c2 hf
      cases hf
      exact z_throwNS (pc := 11) hx hb hfl hown hts (List.mem_of_getElem? (i := 1) rfl) (List.mem_of_getElem? (i := 2) rfl) (List.mem_of_getElem? (i := 11) rfl) hE Z (hl.1.trans hml.symm) dX5_through_11 dX5_through_14 dX5_through_15 dX5_through_17 dX5_through_20 hxt (Nat.le_of_ble_eq_true rfl) (Nat.le_of_ble_eq_true rfl) (Nat.le_of_ble_eq_true rfl) (Nat.le_of_ble_eq_true rfl) hlocks
