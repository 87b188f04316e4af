def W_X5_dearest (cA : Nat → ClassId) (h : Nat → Nat) (b_height : Int32) (b_count : Int32) (b_room : Int32) (b_account : Int32) (b_estimates : Nat → Int32) (b_wanted : Nat → Int32) (x_latestErrorOffset : Int32) : va_W := [(h 0, .inr (5, [.ref (h 1), .ref (h 3), .ref (h 11), .ref (h 19), .ref (h 85), .ref (h 92), .int x_latestErrorOffset])), (h 3, .inr (0, [.int b_height, .int b_count, .int b_room, .int b_account, .ref (h 4), .ref (h 5), .ref (h 6), .ref (h 7), .ref (h 8), .ref (h 9), .ref (h 10)])), (h 6, .inl (cA 0, 24, .inl b_estimates)), (h 9, .inl (cA 1, 24, .inl b_wanted))]
def fX5_dearest_L2 (p1 : Int32) (b_count : Int32) (b_wanted : Nat → Int32) (b_estimates : Nat → Int32) : Nat → Int32 → Option (String ⊕ (Int32))
  | 0, _ => none
  | n0 + 1, x1 => (if p1 < 0 then some (.inl "java/util/NoSuchElementException") else (if b_count ≤ x1 then some (.inl "java/util/NoSuchElementException") else o_rd 24 x1 ((if (b_wanted x1.toNatClampNeg) = 0 then o_let (x1 + (1 : Int32)) (fun x6 => (fX5_dearest_L2 p1 b_count b_wanted b_estimates n0 x6)) else o_bind (fX0_dearerLots x1 b_count b_estimates b_wanted) (fun x7 => (if x7 = p1 then some (.inr (x1)) else o_let (x1 + (1 : Int32)) (fun x10 => (fX5_dearest_L2 p1 b_count b_wanted b_estimates n0 x10))))))))
def fX5_dearest (p1 : Int32) (b_count : Int32) (b_estimates : Nat → Int32) (b_wanted : Nat → Int32) : Option (String ⊕ (Int32)) := (fX5_dearest_L2 p1 b_count b_wanted b_estimates 1024 (0 : Int32))
theorem iw_X5_dearest_X5 : ∀ w ∈ u_ws RX5 TX5 7, w ∈ zsX5_dearest := z_inr [14, 15, 16, 17, 18, 19, 20] rfl
theorem iw_X5_dearest_X0 : ∀ w ∈ u_ws RX0 TX0 11, w ∈ zsX5_dearest := z_inr [21, 22, 23, 24, 25, 26, 27, 28, 29, 30, 31] rfl
set_option maxHeartbeats 4000000 in
set_option maxRecDepth 100000 in
theorem kX5_dearest (l : Launch) (D : va_G) (cA : Nat → ClassId) (h : Nat → Nat) (p1 : Int32) (b_height : Int32) (b_count : Int32) (b_room : Int32) (b_account : Int32) (b_estimates : Nat → Int32) (b_wanted : Nat → Int32) (x_latestErrorOffset : Int32) (u : Int32) (hf : fX5_dearest p1 b_count b_estimates b_wanted = some (.inr u)) : zMi l yX5_dearest zsX5_dearest ({ frames := 6, cells := 0, slots := 0, locals := 90 } : Room) D (zTY cA) [.ref (h 0), .int p1] (W_X5_dearest cA h b_height b_count b_room b_account b_estimates b_wanted x_latestErrorOffset) (W_X5_dearest cA h b_height b_count b_room b_account b_estimates b_wanted x_latestErrorOffset) u := by
  refine z_starti (cc := cX5_dearest) (maxL := 3) (ret := (some .int)) (by decide) rfl (Nat.le_of_ble_eq_true rfl) ?_
  intro p e s m args below meth c A hx hb hr hts hown hlocks hml hA Z ls hl
  replace hown : s.vm.findClass RX5 = some m.cls := hown
  replace hl : lv_has ls 3 [(0, .ref (h 0)), (1, .int p1)] := hl
  obtain ⟨H, hH⟩ : ∃ H, H = s.heap := ⟨_, rfl⟩
  rw [← hH] at Z ⊢
  clear hH
  obtain ⟨locs, hlc⟩ : ∃ q : List Loc, q = [] := ⟨_, rfl⟩
  rw [← hlc] at Z ⊢
  clear hlc
  refine lv_iconst (pc := 0) (v := (0 : Int32)) hx hb dX5_dearest_0 (by decide) ?_
  refine lv_istore_n (pc := 1) (lv' := [(2, .int (0 : Int32)), (0, .ref (h 0)), (1, .int p1)]) hx hb dX5_dearest_1 rfl hl (by decide) rfl (fun ls hl => ?_)
  have hL2 : ∀ (n0 : Nat) (x1 : Int32) (H : Heap) (locs : List Loc) (ls : Array Slot), zw D (zTY cA) s A (W_X5_dearest cA h b_height b_count b_room b_account b_estimates b_wanted x_latestErrorOffset) H locs → lv_has ls 3 [(0, .ref (h 0)), (1, .int p1), (2, .int x1)] → fX5_dearest_L2 p1 b_count b_wanted b_estimates n0 x1 = some (.inr u) → W p l e ({ frames := 6, cells := 0, slots := 0, locals := 90 } : Room) s m args below meth c H locs 0 0 (MQ below (zQi D (zTY cA) A (W_X5_dearest cA h b_height b_count b_room b_account b_estimates b_wanted x_latestErrorOffset) u) args s 0 0 A) (F0 m 2 ls []) := by
    intro n0
    induction n0 with
    | zero => intro x1 H locs ls Z hl hf; exact o_no hf
    | succ n0 ih0 =>
      intro x1 H locs ls Z hl hf
      refine lv_iload_n (pc := 2) hx hb dX5_dearest_2 rfl (lv_at hl 1 rfl) ?_
      refine lv_if_lt (pc := 3) (tgt := 49) hx hb dX5_dearest_3 (by decide) (fun c2 => ?_) (fun c2 => ?_)
      · replace hf := o_pos c2 hf
        cases hf
      · replace hf := o_neg c2 hf
        refine lv_iload_n (pc := 6) hx hb dX5_dearest_6 rfl (lv_at hl 2 rfl) ?_
        refine lv_aload_n (pc := 7) hx hb dX5_dearest_7 rfl (lv_at hl 0 rfl) ?_
        refine z_get (pc := 8) (ref := "LotSheet") (ci := 5) (C := RX5) (T := TX5) (N := 7) hx hb hts iw_X5_dearest_X5 hown Z 0 rfl rfl 1 (by decide) (List.mem_of_getElem? (i := 3) rfl) rfl rfl dX5_dearest_8 ?_
        refine z_get (pc := 11) (ref := "LotSheet$Bill") (ci := 0) (C := RX0) (T := TX0) (N := 11) hx hb hts iw_X5_dearest_X0 hown Z 1 rfl rfl 1 (by decide) (List.mem_of_getElem? (i := 4) rfl) rfl rfl dX5_dearest_11 ?_
        refine lv_icmp_ge (pc := 14) (tgt := 49) hx hb dX5_dearest_14 (by decide) (fun c3 => ?_) (fun c3 => ?_)
        · replace hf := o_pos c3 hf
          cases hf
        · replace hf := o_neg c3 hf
          refine lv_aload_n (pc := 17) hx hb dX5_dearest_17 rfl (lv_at hl 0 rfl) ?_
          refine z_get (pc := 18) (ref := "LotSheet") (ci := 5) (C := RX5) (T := TX5) (N := 7) hx hb hts iw_X5_dearest_X5 hown Z 0 rfl rfl 1 (by decide) (List.mem_of_getElem? (i := 3) rfl) rfl rfl dX5_dearest_18 ?_
          refine z_get (pc := 21) (ref := "LotSheet$Bill") (ci := 0) (C := RX0) (T := TX0) (N := 11) hx hb hts iw_X5_dearest_X0 hown Z 1 rfl rfl 9 (by decide) (List.mem_of_getElem? (i := 5) rfl) rfl rfl dX5_dearest_21 ?_
          refine lv_iload_n (pc := 24) hx hb dX5_dearest_24 rfl (lv_at hl 2 rfl) ?_
          obtain ⟨i4, hf⟩ := o_rdE hf
          refine z_zald (pc := 25) hx hb Z 3 1 rfl rfl i4 dX5_dearest_25 ?_
          refine lv_if_eq (pc := 26) (tgt := 43) hx hb dX5_dearest_26 (by decide) (fun c5 => ?_) (fun c5 => ?_)
          · replace hf := o_pos c5 hf
            obtain ⟨x6, ex6⟩ : ∃ y : Int32, y = (x1 + (1 : Int32)) := ⟨_, rfl⟩
            replace hf := o_letE ex6 hf
            refine lv_iinc (pc := 43) (v := x6) (lv' := [(2, .int x6), (0, .ref (h 0)), (1, .int p1)]) hx hb dX5_dearest_43 hl (k := 2) rfl (by rw [ex6]; rfl) (by decide) rfl (fun ls hl => ?_)
            refine lv_goto (pc := 46) (tgt := 2) hx hb dX5_dearest_46 (by decide) ?_
            exact ih0 x6 H locs ls Z (lv_sub hl [1, 2, 0] rfl) hf
          · replace hf := o_neg c5 hf
            refine lv_aload_n (pc := 29) hx hb dX5_dearest_29 rfl (lv_at hl 0 rfl) ?_
            refine z_get (pc := 30) (ref := "LotSheet") (ci := 5) (C := RX5) (T := TX5) (N := 7) hx hb hts iw_X5_dearest_X5 hown Z 0 rfl rfl 1 (by decide) (List.mem_of_getElem? (i := 3) rfl) rfl rfl dX5_dearest_30 ?_
            refine lv_iload_n (pc := 33) hx hb dX5_dearest_33 rfl (lv_at hl 2 rfl) ?_
            obtain ⟨x7, q8, hf⟩ := o_bindE hf
            refine z_callVi (pc := 34) (As := [.int x1]) (rest := []) (Wc := (W_X0_dearerLots cA (fun k => h ([3, 4, 5, 6, 7, 8, 9, 10].getD k 0)) b_height b_count b_room b_account b_estimates b_wanted)) (W1 := (W_X0_dearerLots cA (fun k => h ([3, 4, 5, 6, 7, 8, 9, 10].getD k 0)) b_height b_count b_room b_account b_estimates b_wanted)) (W2 := (W_X5_dearest cA h b_height b_count b_room b_account b_estimates b_wanted x_latestErrorOffset)) ⟨hx, hb, hml, hown, hts⟩ (kX0_dearerLots l D cA (fun k => h ([3, 4, 5, 6, 7, 8, 9, 10].getD k 0)) x1 b_height b_count b_room b_account b_estimates b_wanted _ q8) (cwV 1 hts zgX5_dearest_X0_dearerLots_209 rfl rfl rfl (by decide +kernel) ⟨Nat.le_of_ble_eq_true rfl, Nat.le_of_ble_eq_true rfl⟩) Z hA [1, 2, 3] rfl (by decide) rfl (ci := 0) rfl rfl rfl rfl hl.1 rfl (Nat.le_of_ble_eq_true rfl) dX5_dearest_34 ⟨Nat.zero_le _, Nat.zero_le _⟩ [none, some 0, some 1, some 2] rfl ⟨rfl, rfl, rfl, rfl, rfl⟩ (fun H locs Z => ?_)
            refine lv_iload_n (pc := 37) hx hb dX5_dearest_37 rfl (lv_at hl 1 rfl) ?_
            refine lv_icmp_ne (pc := 38) (tgt := 43) hx hb dX5_dearest_38 (by decide) (fun c9 => ?_) (fun c9 => ?_)
            · replace hf := o_neg c9 hf
              obtain ⟨x10, ex10⟩ : ∃ y : Int32, y = (x1 + (1 : Int32)) := ⟨_, rfl⟩
              replace hf := o_letE ex10 hf
              refine lv_iinc (pc := 43) (v := x10) (lv' := [(2, .int x10), (0, .ref (h 0)), (1, .int p1)]) hx hb dX5_dearest_43 hl (k := 2) rfl (by rw [ex10]; rfl) (by decide) rfl (fun ls hl => ?_)
              refine lv_goto (pc := 46) (tgt := 2) hx hb dX5_dearest_46 (by decide) ?_
              exact ih0 x10 H locs ls Z (lv_sub hl [1, 2, 0] rfl) hf
            · replace hf := o_pos c9 hf
              refine lv_iload_n (pc := 41) hx hb dX5_dearest_41 rfl (lv_at hl 2 rfl) ?_
              cases hf
              exact z_iret (pc := 42) hx hb hr hlocks Z rfl rfl dX5_dearest_42
  exact hL2 1024 (0 : Int32) H locs ls Z (lv_sub hl [1, 2, 0] rfl) hf
set_option maxHeartbeats 4000000 in
set_option maxRecDepth 100000 in
theorem tX5_dearest (l : Launch) (D : va_G) (cA : Nat → ClassId) (h : Nat → Nat) (p1 : Int32) (b_height : Int32) (b_count : Int32) (b_room : Int32) (b_account : Int32) (b_estimates : Nat → Int32) (b_wanted : Nat → Int32) (x_latestErrorOffset : Int32) (E : String) (hf : fX5_dearest p1 b_count b_estimates b_wanted = some (.inl E)) (hfl : l.stackTraces = false) : zMiT l yX5_dearest zsX5_dearest ({ frames := 6, cells := 1, slots := 6, locals := 90 } : Room) D (zTY cA) [.ref (h 0), .int p1] (W_X5_dearest cA h b_height b_count b_room b_account b_estimates b_wanted x_latestErrorOffset) E := by
  refine z_startiT (cc := cX5_dearest) (maxL := 3) (ret := (some .int)) (by decide) rfl (Nat.le_of_ble_eq_true rfl) ?_
  intro p e s m args below meth c A hx hb hr hts hown hlocks hml hA hE hxt Z ls hl
  replace hown : s.vm.findClass RX5 = some m.cls := hown
  replace hl : lv_has ls 3 [(0, .ref (h 0)), (1, .int p1)] := hl
  obtain ⟨H, hH⟩ : ∃ H, H = s.heap := ⟨_, rfl⟩
  rw [← hH] at Z ⊢
  clear hH
  obtain ⟨locs, hlc⟩ : ∃ q : List Loc, q = [] := ⟨_, rfl⟩
  rw [← hlc] at Z ⊢
  clear hlc
  refine lv_iconst (pc := 0) (v := (0 : Int32)) hx hb dX5_dearest_0 (by decide) ?_
  refine lv_istore_n (pc := 1) (lv' := [(2, .int (0 : Int32)), (0, .ref (h 0)), (1, .int p1)]) hx hb dX5_dearest_1 rfl hl (by decide) rfl (fun ls hl => ?_)
  have hL2 : ∀ (n0 : Nat) (x1 : Int32) (H : Heap) (locs : List Loc) (ls : Array Slot), zw D (zTY cA) s A (W_X5_dearest cA h b_height b_count b_room b_account b_estimates b_wanted x_latestErrorOffset) H locs → lv_has ls 3 [(0, .ref (h 0)), (1, .int p1), (2, .int x1)] → fX5_dearest_L2 p1 b_count b_wanted b_estimates n0 x1 = some (.inl E) → W p l e ({ frames := 6, cells := 1, slots := 6, locals := 90 } : Room) s m args below meth c H locs 0 0 (vx_MQ below (va_Qi (fun _ (_ : Unit) => False) (fun _ _ => True) A) (zXC D (zTY cA) A (W_X5_dearest cA h b_height b_count b_room b_account b_estimates b_wanted x_latestErrorOffset) E) args s 1 6 A) (F0 m 2 ls []) := by
    intro n0
    induction n0 with
    | zero => intro x1 H locs ls Z hl hf; exact o_no hf
    | succ n0 ih0 =>
      intro x1 H locs ls Z hl hf
      refine lv_iload_n (pc := 2) hx hb dX5_dearest_2 rfl (lv_at hl 1 rfl) ?_
      refine lv_if_lt (pc := 3) (tgt := 49) hx hb dX5_dearest_3 (by decide) (fun c2 => ?_) (fun c2 => ?_)
      · replace hf := o_pos c2 hf
        cases hf
        exact z_throwNS (pc := 49) hx hb hfl hown hts (List.mem_of_getElem? (i := 1) rfl) (List.mem_of_getElem? (i := 2) rfl) (List.mem_of_getElem? (i := 8) rfl) hE Z (hl.1.trans hml.symm) dX5_dearest_49 dX5_dearest_52 dX5_dearest_53 dX5_dearest_55 dX5_dearest_58 hxt (Nat.le_of_ble_eq_true rfl) (Nat.le_of_ble_eq_true rfl) (Nat.le_of_ble_eq_true rfl) (Nat.le_of_ble_eq_true rfl) hlocks
      · replace hf := o_neg c2 hf
        refine lv_iload_n (pc := 6) hx hb dX5_dearest_6 rfl (lv_at hl 2 rfl) ?_
        refine lv_aload_n (pc := 7) hx hb dX5_dearest_7 rfl (lv_at hl 0 rfl) ?_
        refine z_get (pc := 8) (ref := "LotSheet") (ci := 5) (C := RX5) (T := TX5) (N := 7) hx hb hts iw_X5_dearest_X5 hown Z 0 rfl rfl 1 (by decide) (List.mem_of_getElem? (i := 3) rfl) rfl rfl dX5_dearest_8 ?_
        refine z_get (pc := 11) (ref := "LotSheet$Bill") (ci := 0) (C := RX0) (T := TX0) (N := 11) hx hb hts iw_X5_dearest_X0 hown Z 1 rfl rfl 1 (by decide) (List.mem_of_getElem? (i := 4) rfl) rfl rfl dX5_dearest_11 ?_
        refine lv_icmp_ge (pc := 14) (tgt := 49) hx hb dX5_dearest_14 (by decide) (fun c3 => ?_) (fun c3 => ?_)
        · replace hf := o_pos c3 hf
          cases hf
          exact z_throwNS (pc := 49) hx hb hfl hown hts (List.mem_of_getElem? (i := 1) rfl) (List.mem_of_getElem? (i := 2) rfl) (List.mem_of_getElem? (i := 8) rfl) hE Z (hl.1.trans hml.symm) dX5_dearest_49 dX5_dearest_52 dX5_dearest_53 dX5_dearest_55 dX5_dearest_58 hxt (Nat.le_of_ble_eq_true rfl) (Nat.le_of_ble_eq_true rfl) (Nat.le_of_ble_eq_true rfl) (Nat.le_of_ble_eq_true rfl) hlocks
        · replace hf := o_neg c3 hf
          refine lv_aload_n (pc := 17) hx hb dX5_dearest_17 rfl (lv_at hl 0 rfl) ?_
          refine z_get (pc := 18) (ref := "LotSheet") (ci := 5) (C := RX5) (T := TX5) (N := 7) hx hb hts iw_X5_dearest_X5 hown Z 0 rfl rfl 1 (by decide) (List.mem_of_getElem? (i := 3) rfl) rfl rfl dX5_dearest_18 ?_
          refine z_get (pc := 21) (ref := "LotSheet$Bill") (ci := 0) (C := RX0) (T := TX0) (N := 11) hx hb hts iw_X5_dearest_X0 hown Z 1 rfl rfl 9 (by decide) (List.mem_of_getElem? (i := 5) rfl) rfl rfl dX5_dearest_21 ?_
          refine lv_iload_n (pc := 24) hx hb dX5_dearest_24 rfl (lv_at hl 2 rfl) ?_
          obtain ⟨i4, hf⟩ := o_rdE hf
          refine z_zald (pc := 25) hx hb Z 3 1 rfl rfl i4 dX5_dearest_25 ?_
          refine lv_if_eq (pc := 26) (tgt := 43) hx hb dX5_dearest_26 (by decide) (fun c5 => ?_) (fun c5 => ?_)
          · replace hf := o_pos c5 hf
            obtain ⟨x6, ex6⟩ : ∃ y : Int32, y = (x1 + (1 : Int32)) := ⟨_, rfl⟩
            replace hf := o_letE ex6 hf
            refine lv_iinc (pc := 43) (v := x6) (lv' := [(2, .int x6), (0, .ref (h 0)), (1, .int p1)]) hx hb dX5_dearest_43 hl (k := 2) rfl (by rw [ex6]; rfl) (by decide) rfl (fun ls hl => ?_)
            refine lv_goto (pc := 46) (tgt := 2) hx hb dX5_dearest_46 (by decide) ?_
            exact ih0 x6 H locs ls Z (lv_sub hl [1, 2, 0] rfl) hf
          · replace hf := o_neg c5 hf
            refine lv_aload_n (pc := 29) hx hb dX5_dearest_29 rfl (lv_at hl 0 rfl) ?_
            refine z_get (pc := 30) (ref := "LotSheet") (ci := 5) (C := RX5) (T := TX5) (N := 7) hx hb hts iw_X5_dearest_X5 hown Z 0 rfl rfl 1 (by decide) (List.mem_of_getElem? (i := 3) rfl) rfl rfl dX5_dearest_30 ?_
            refine lv_iload_n (pc := 33) hx hb dX5_dearest_33 rfl (lv_at hl 2 rfl) ?_
            obtain ⟨x7, q8, hf⟩ := o_bindE hf
            refine z_callVi (pc := 34) (As := [.int x1]) (rest := []) (Wc := (W_X0_dearerLots cA (fun k => h ([3, 4, 5, 6, 7, 8, 9, 10].getD k 0)) b_height b_count b_room b_account b_estimates b_wanted)) (W1 := (W_X0_dearerLots cA (fun k => h ([3, 4, 5, 6, 7, 8, 9, 10].getD k 0)) b_height b_count b_room b_account b_estimates b_wanted)) (W2 := (W_X5_dearest cA h b_height b_count b_room b_account b_estimates b_wanted x_latestErrorOffset)) ⟨hx, hb, hml, hown, hts⟩ (kX0_dearerLots l D cA (fun k => h ([3, 4, 5, 6, 7, 8, 9, 10].getD k 0)) x1 b_height b_count b_room b_account b_estimates b_wanted _ q8) (cwV 1 hts zgX5_dearest_X0_dearerLots_209 rfl rfl rfl (by decide +kernel) ⟨Nat.le_of_ble_eq_true rfl, Nat.le_of_ble_eq_true rfl⟩) Z hA [1, 2, 3] rfl (by decide) rfl (ci := 0) rfl rfl rfl rfl hl.1 rfl (Nat.le_of_ble_eq_true rfl) dX5_dearest_34 ⟨Nat.zero_le _, Nat.zero_le _⟩ [none, some 0, some 1, some 2] rfl ⟨rfl, rfl, rfl, rfl, rfl⟩ (fun H locs Z => ?_)
            refine lv_iload_n (pc := 37) hx hb dX5_dearest_37 rfl (lv_at hl 1 rfl) ?_
            refine lv_icmp_ne (pc := 38) (tgt := 43) hx hb dX5_dearest_38 (by decide) (fun c9 => ?_) (fun c9 => ?_)
            · replace hf := o_neg c9 hf
              obtain ⟨x10, ex10⟩ : ∃ y : Int32, y = (x1 + (1 : Int32)) := ⟨_, rfl⟩
              replace hf := o_letE ex10 hf
              refine lv_iinc (pc := 43) (v := x10) (lv' := [(2, .int x10), (0, .ref (h 0)), (1, .int p1)]) hx hb dX5_dearest_43 hl (k := 2) rfl (by rw [ex10]; rfl) (by decide) rfl (fun ls hl => ?_)
              refine lv_goto (pc := 46) (tgt := 2) hx hb dX5_dearest_46 (by decide) ?_
              exact ih0 x10 H locs ls Z (lv_sub hl [1, 2, 0] rfl) hf
            · replace hf := o_pos c9 hf
              refine lv_iload_n (pc := 41) hx hb dX5_dearest_41 rfl (lv_at hl 2 rfl) ?_
              cases hf
  exact hL2 1024 (0 : Int32) H locs ls Z (lv_sub hl [1, 2, 0] rfl) hf
