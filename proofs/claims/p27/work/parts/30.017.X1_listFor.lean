def W_X1_listFor (cA : Nat → ClassId) (h : Nat → Nat) (c_lots : Nat → Int32) (c_count : Int32) (c_priced : Int32) (b_height : Int32) (b_count : Int32) (b_room : Int32) (b_account : Int32) (b_printed : Nat → Int32) (b_wanted : Nat → Int32) : va_W := [(h 0, .inr (1, [.ref (h 1), .ref (h 2), .int c_count, .ref (h 3), .ref (h 10), .ref (h 11), .ref (h 12), .int c_priced])), (h 1, .inl (cA 0, 8, .inl c_lots)), (h 13, .inr (0, [.int b_height, .int b_count, .int b_room, .int b_account, .ref (h 14), .ref (h 15), .ref (h 16), .ref (h 17), .ref (h 18), .ref (h 19), .ref (h 20)])), (h 18, .inl (cA 1, 24, .inl b_printed)), (h 19, .inl (cA 1, 24, .inl b_wanted))]
def fX1_listFor_L12 (b_count : Int32) (b_printed : Nat → Int32) (b_wanted : Nat → Int32) : Nat → Int32 → (Nat → Int32) → Int32 → Option ((Nat → Int32) × Int32 × Int32)
  | 0, _, _, _ => none
  | n0 + 1, x1, a2, x3 => (if b_count ≤ x1 then some (a2, x3, (0 : Int32)) else o_bind (fX0_isDifferent x1 b_printed b_wanted) (fun x5 => (if x5 = 0 then o_let (x1 + (1 : Int32)) (fun x8 => (fX1_listFor_L12 b_count b_printed b_wanted n0 x8 a2 x3)) else (if (8 : Int32) ≤ x3 then o_let (x1 + (1 : Int32)) (fun x10 => (fX1_listFor_L12 b_count b_printed b_wanted n0 x10 a2 x3)) else o_rd 8 x3 (o_let (upd a2 x3.toNatClampNeg x1) (fun a12 => o_let (x3 + (1 : Int32)) (fun x13 => o_let (x1 + (1 : Int32)) (fun x14 => (fX1_listFor_L12 b_count b_printed b_wanted n0 x14 a12 x13)))))))))
def fX1_listFor (c_lots : Nat → Int32) (c_count : Int32) (c_priced : Int32) (b_count : Int32) (b_printed : Nat → Int32) (b_wanted : Nat → Int32) : Option ((Nat → Int32) × Int32 × Int32) := (fX1_listFor_L12 b_count b_printed b_wanted 1024 (0 : Int32) c_lots (0 : Int32))
theorem iw_X1_listFor_X1 : ∀ w ∈ u_ws RX1 TX1 8, w ∈ wsX1_listFor := z_inr [12, 13, 14, 15, 16, 17, 18, 19] rfl
theorem iw_X1_listFor_X0 : ∀ w ∈ u_ws RX0 TX0 11, w ∈ wsX1_listFor := z_inr [20, 21, 22, 23, 24, 25, 26, 27, 28, 29, 30] rfl
set_option maxHeartbeats 4000000 in
set_option maxRecDepth 100000 in
theorem kX1_listFor (l : Launch) (D : va_G) (cA : Nat → ClassId) (h : Nat → Nat) (c_lots : Nat → Int32) (c_count : Int32) (c_priced : Int32) (b_height : Int32) (b_count : Int32) (b_room : Int32) (b_account : Int32) (b_printed : Nat → Int32) (b_wanted : Nat → Int32) (u : (Nat → Int32) × Int32 × Int32) (hf : fX1_listFor c_lots c_count c_priced b_count b_printed b_wanted = some u) : zMv l yX1_listFor wsX1_listFor ({ frames := 1, cells := 0, slots := 0, locals := 21 } : Room) D (zTY cA) [.ref (h 0), .ref (h 13)] (W_X1_listFor cA h c_lots c_count c_priced b_height b_count b_room b_account b_printed b_wanted) (W_X1_listFor cA h (u.1) (u.2.1) (u.2.2) b_height b_count b_room b_account b_printed b_wanted) := by
  refine z_startv (cc := cX1_listFor) (maxL := 3) (ret := none) (by decide) rfl (Nat.le_of_ble_eq_true rfl) ?_
  intro p e s m args below meth c A hx hb hr hts hown hlocks hml hA Z ls hl
  replace hown : s.vm.findClass RX1 = some m.cls := hown
  replace hl : lv_has ls 3 [(0, .ref (h 0)), (1, .ref (h 13))] := hl
  obtain ⟨H, hH⟩ : ∃ H, H = s.heap := ⟨_, rfl⟩
  rw [← hH] at Z ⊢
  clear hH
  obtain ⟨locs, hlc⟩ : ∃ q : List Loc, q = [] := ⟨_, rfl⟩
  rw [← hlc] at Z ⊢
  clear hlc
  refine lv_aload_n (pc := 0) hx hb dX1_listFor_0 rfl (lv_at hl 0 rfl) ?_
  refine lv_iconst (pc := 1) (v := (0 : Int32)) hx hb dX1_listFor_1 (by decide) ?_
  refine z_put (pc := 2) (ref := "LotSheet$Choices") (ci := 1) (C := RX1) (T := TX1) (N := 8) (W1 := (W_X1_listFor cA h c_lots (0 : Int32) c_priced b_height b_count b_room b_account b_printed b_wanted)) hx hb hts iw_X1_listFor_X1 tyX1 tyX1_ok nmX1 hown Z 0 rfl rfl 2 (by decide) (List.mem_of_getElem? (i := 1) rfl) rfl rfl rfl rfl (Nat.le_of_ble_eq_true rfl) dX1_listFor_2 rfl (fun H locs Z => ?_)
  refine lv_aload_n (pc := 5) hx hb dX1_listFor_5 rfl (lv_at hl 0 rfl) ?_
  refine lv_iconst (pc := 6) (v := (0 : Int32)) hx hb dX1_listFor_6 (by decide) ?_
  refine z_put (pc := 7) (ref := "LotSheet$Choices") (ci := 1) (C := RX1) (T := TX1) (N := 8) (W1 := (W_X1_listFor cA h c_lots (0 : Int32) (0 : Int32) b_height b_count b_room b_account b_printed b_wanted)) hx hb hts iw_X1_listFor_X1 tyX1 tyX1_ok nmX1 hown Z 0 rfl rfl 7 (by decide) (List.mem_of_getElem? (i := 2) rfl) rfl rfl rfl rfl (Nat.le_of_ble_eq_true rfl) dX1_listFor_7 rfl (fun H locs Z => ?_)
  refine lv_iconst (pc := 10) (v := (0 : Int32)) hx hb dX1_listFor_10 (by decide) ?_
  refine lv_istore_n (pc := 11) (lv' := [(2, .int (0 : Int32)), (0, .ref (h 0)), (1, .ref (h 13))]) hx hb dX1_listFor_11 rfl hl (by decide) rfl (fun ls hl => ?_)
  have hL12 : ∀ (n0 : Nat) (x1 : Int32) (a2 : Nat → Int32) (x3 : Int32) (H : Heap) (locs : List Loc) (ls : Array Slot), zw D (zTY cA) s A (W_X1_listFor cA h a2 x3 (0 : Int32) b_height b_count b_room b_account b_printed b_wanted) H locs → lv_has ls 3 [(0, .ref (h 0)), (1, .ref (h 13)), (2, .int x1)] → fX1_listFor_L12 b_count b_printed b_wanted n0 x1 a2 x3 = some u → W p l e ({ frames := 1, cells := 0, slots := 0, locals := 21 } : Room) s m args below meth c H locs 0 0 (MQ below (zQv D (zTY cA) A (W_X1_listFor cA h (u.1) (u.2.1) (u.2.2) b_height b_count b_room b_account b_printed b_wanted)) args s 0 0 A) (F0 m 12 ls []) := by
    intro n0
    induction n0 with
    | zero => intro x1 a2 x3 H locs ls Z hl hf; exact o_no hf
    | succ n0 ih0 =>
      intro x1 a2 x3 H locs ls Z hl hf
      refine lv_iload_n (pc := 12) hx hb dX1_listFor_12 rfl (lv_at hl 2 rfl) ?_
      refine lv_aload_n (pc := 13) hx hb dX1_listFor_13 rfl (lv_at hl 1 rfl) ?_
      refine z_get (pc := 14) (ref := "LotSheet$Bill") (ci := 0) (C := RX0) (T := TX0) (N := 11) hx hb hts iw_X1_listFor_X0 hown Z 2 rfl rfl 1 (by decide) (List.mem_of_getElem? (i := 3) rfl) rfl rfl dX1_listFor_14 ?_
      refine lv_icmp_ge (pc := 17) (tgt := 63) hx hb dX1_listFor_17 (by decide) (fun c4 => ?_) (fun c4 => ?_)
      · replace hf := o_pos c4 hf
        cases hf
        exact z_vret (pc := 63) hx hb hr hlocks Z rfl dX1_listFor_63
      · replace hf := o_neg c4 hf
        refine lv_aload_n (pc := 20) hx hb dX1_listFor_20 rfl (lv_at hl 1 rfl) ?_
        refine lv_iload_n (pc := 21) hx hb dX1_listFor_21 rfl (lv_at hl 2 rfl) ?_
        obtain ⟨x5, q6, hf⟩ := o_bindE hf
        refine z_callVi (pc := 22) (As := [.int x1]) (rest := []) (Wc := (W_X0_isDifferent cA (fun k => h ([13, 14, 15, 16, 17, 18, 19, 20].getD k 0)) b_height b_count b_room b_account b_printed b_wanted)) (W1 := (W_X0_isDifferent cA (fun k => h ([13, 14, 15, 16, 17, 18, 19, 20].getD k 0)) b_height b_count b_room b_account b_printed b_wanted)) (W2 := (W_X1_listFor cA h a2 x3 (0 : Int32) b_height b_count b_room b_account b_printed b_wanted)) ⟨hx, hb, hml, hown, hts⟩ (kX0_isDifferent l D cA (fun k => h ([13, 14, 15, 16, 17, 18, 19, 20].getD k 0)) x1 b_height b_count b_room b_account b_printed b_wanted _ q6) (cwV 1 hts gX1_listFor_X0_isDifferent rfl rfl rfl (by decide +kernel) ⟨Nat.le_of_ble_eq_true rfl, Nat.le_of_ble_eq_true rfl⟩) Z hA [2, 3, 4] rfl (by decide) rfl (ci := 0) rfl rfl rfl rfl hl.1 rfl (Nat.le_of_ble_eq_true rfl) dX1_listFor_22 ⟨Nat.zero_le _, Nat.zero_le _⟩ [none, none, some 0, some 1, some 2] rfl ⟨rfl, rfl, rfl, rfl, rfl, rfl⟩ (fun H locs Z => ?_)
        refine lv_if_eq (pc := 25) (tgt := 57) hx hb dX1_listFor_25 (by decide) (fun c7 => ?_) (fun c7 => ?_)
        · replace hf := o_pos c7 hf
          obtain ⟨x8, ex8⟩ : ∃ y : Int32, y = (x1 + (1 : Int32)) := ⟨_, rfl⟩
          replace hf := o_letE ex8 hf
          refine lv_iinc (pc := 57) (v := x8) (lv' := [(2, .int x8), (0, .ref (h 0)), (1, .ref (h 13))]) hx hb dX1_listFor_57 hl (k := 2) rfl (by rw [ex8]; rfl) (by decide) rfl (fun ls hl => ?_)
          refine lv_goto (pc := 60) (tgt := 12) hx hb dX1_listFor_60 (by decide) ?_
          exact ih0 x8 a2 x3 H locs ls Z (lv_sub hl [1, 2, 0] rfl) hf
        · replace hf := o_neg c7 hf
          refine lv_aload_n (pc := 28) hx hb dX1_listFor_28 rfl (lv_at hl 0 rfl) ?_
          refine z_get (pc := 29) (ref := "LotSheet$Choices") (ci := 1) (C := RX1) (T := TX1) (N := 8) hx hb hts iw_X1_listFor_X1 hown Z 0 rfl rfl 2 (by decide) (List.mem_of_getElem? (i := 1) rfl) rfl rfl dX1_listFor_29 ?_
          refine lv_bipush (pc := 32) (v := (8 : Int32)) hx hb dX1_listFor_32 (by decide) ?_
          refine lv_icmp_ge (pc := 34) (tgt := 57) hx hb dX1_listFor_34 (by decide) (fun c9 => ?_) (fun c9 => ?_)
          · replace hf := o_pos c9 hf
            obtain ⟨x10, ex10⟩ : ∃ y : Int32, y = (x1 + (1 : Int32)) := ⟨_, rfl⟩
            replace hf := o_letE ex10 hf
            refine lv_iinc (pc := 57) (v := x10) (lv' := [(2, .int x10), (0, .ref (h 0)), (1, .ref (h 13))]) hx hb dX1_listFor_57 hl (k := 2) rfl (by rw [ex10]; rfl) (by decide) rfl (fun ls hl => ?_)
            refine lv_goto (pc := 60) (tgt := 12) hx hb dX1_listFor_60 (by decide) ?_
            exact ih0 x10 a2 x3 H locs ls Z (lv_sub hl [1, 2, 0] rfl) hf
          · replace hf := o_neg c9 hf
            refine lv_aload_n (pc := 37) hx hb dX1_listFor_37 rfl (lv_at hl 0 rfl) ?_
            refine z_get (pc := 38) (ref := "LotSheet$Choices") (ci := 1) (C := RX1) (T := TX1) (N := 8) hx hb hts iw_X1_listFor_X1 hown Z 0 rfl rfl 0 (by decide) (List.mem_of_getElem? (i := 4) rfl) rfl rfl dX1_listFor_38 ?_
            refine lv_aload_n (pc := 41) hx hb dX1_listFor_41 rfl (lv_at hl 0 rfl) ?_
            refine z_get (pc := 42) (ref := "LotSheet$Choices") (ci := 1) (C := RX1) (T := TX1) (N := 8) hx hb hts iw_X1_listFor_X1 hown Z 0 rfl rfl 2 (by decide) (List.mem_of_getElem? (i := 1) rfl) rfl rfl dX1_listFor_42 ?_
            refine lv_iload_n (pc := 45) hx hb dX1_listFor_45 rfl (lv_at hl 2 rfl) ?_
            obtain ⟨i11, hf⟩ := o_rdE hf
            refine z_iast (pc := 46) hx hb Z 1 0 rfl rfl i11 dX1_listFor_46 (fun g => (W_X1_listFor cA h g x3 (0 : Int32) b_height b_count b_room b_account b_printed b_wanted)) (fun _ => rfl) (fun a12 H locs ea12 Z => ?_)
            replace hf := o_letE ea12 hf
            refine lv_aload_n (pc := 47) hx hb dX1_listFor_47 rfl (lv_at hl 0 rfl) ?_
            refine lv_dup (pc := 48) hx hb dX1_listFor_48 rfl ?_
            refine z_get (pc := 49) (ref := "LotSheet$Choices") (ci := 1) (C := RX1) (T := TX1) (N := 8) hx hb hts iw_X1_listFor_X1 hown Z 0 rfl rfl 2 (by decide) (List.mem_of_getElem? (i := 1) rfl) rfl rfl dX1_listFor_49 ?_
            refine lv_iconst (pc := 52) (v := (1 : Int32)) hx hb dX1_listFor_52 (by decide) ?_
            refine lv_iadd (pc := 53) hx hb dX1_listFor_53 ?_
            refine lv_topi (fun x13 ex13 => ?_)
            replace hf := o_letE ex13 hf
            refine z_put (pc := 54) (ref := "LotSheet$Choices") (ci := 1) (C := RX1) (T := TX1) (N := 8) (W1 := (W_X1_listFor cA h a12 x13 (0 : Int32) b_height b_count b_room b_account b_printed b_wanted)) hx hb hts iw_X1_listFor_X1 tyX1 tyX1_ok nmX1 hown Z 0 rfl rfl 2 (by decide) (List.mem_of_getElem? (i := 1) rfl) rfl rfl rfl rfl (Nat.le_of_ble_eq_true rfl) dX1_listFor_54 rfl (fun H locs Z => ?_)
            obtain ⟨x14, ex14⟩ : ∃ y : Int32, y = (x1 + (1 : Int32)) := ⟨_, rfl⟩
            replace hf := o_letE ex14 hf
            refine lv_iinc (pc := 57) (v := x14) (lv' := [(2, .int x14), (0, .ref (h 0)), (1, .ref (h 13))]) hx hb dX1_listFor_57 hl (k := 2) rfl (by rw [ex14]; rfl) (by decide) rfl (fun ls hl => ?_)
            refine lv_goto (pc := 60) (tgt := 12) hx hb dX1_listFor_60 (by decide) ?_
            exact ih0 x14 a12 x13 H locs ls Z (lv_sub hl [1, 2, 0] rfl) hf
  exact hL12 1024 (0 : Int32) c_lots (0 : Int32) H locs ls Z (lv_sub hl [1, 2, 0] rfl) hf
