def W_X0_wantedLots (cA : Nat → ClassId) (h : Nat → Nat) (b_height : Int32) (b_count : Int32) (b_room : Int32) (b_account : Int32) (b_wanted : Nat → Int32) : va_W := [(h 0, .inr (0, [.int b_height, .int b_count, .int b_room, .int b_account, .ref (h 1), .ref (h 2), .ref (h 3), .ref (h 4), .ref (h 5), .ref (h 6), .ref (h 7)])), (h 6, .inl (cA 1, 24, .inl b_wanted))]
def fX0_wantedLots_L4 (b_count : Int32) (b_wanted : Nat → Int32) : Nat → Int32 → Int32 → Option (Int32)
  | 0, _, _ => none
  | n0 + 1, x1, x2 => (if b_count ≤ x2 then some (x1) else o_rd 24 x2 ((if (b_wanted x2.toNatClampNeg) = 0 then o_let (x2 + (1 : Int32)) (fun x6 => (fX0_wantedLots_L4 b_count b_wanted n0 x1 x6)) else o_let (x1 + (1 : Int32)) (fun x7 => o_let (x2 + (1 : Int32)) (fun x8 => (fX0_wantedLots_L4 b_count b_wanted n0 x7 x8))))))
def fX0_wantedLots (b_count : Int32) (b_wanted : Nat → Int32) : Option (Int32) := (fX0_wantedLots_L4 b_count b_wanted 1024 (0 : Int32) (0 : Int32))
theorem iw_X0_wantedLots_X0 : ∀ w ∈ u_ws RX0 TX0 11, w ∈ wsX0_wantedLots := z_inr [3, 4, 5, 6, 7, 8, 9, 10, 11, 12, 13] rfl
set_option maxHeartbeats 4000000 in
set_option maxRecDepth 100000 in
theorem kX0_wantedLots (l : Launch) (D : va_G) (cA : Nat → ClassId) (h : Nat → Nat) (b_height : Int32) (b_count : Int32) (b_room : Int32) (b_account : Int32) (b_wanted : Nat → Int32) (u : Int32) (hf : fX0_wantedLots b_count b_wanted = some u) : zMi l yX0_wantedLots wsX0_wantedLots ({ frames := 0, cells := 0, slots := 0, locals := 0 } : Room) D (zTY cA) [.ref (h 0)] (W_X0_wantedLots cA h b_height b_count b_room b_account b_wanted) (W_X0_wantedLots cA h b_height b_count b_room b_account b_wanted) u := by
  refine z_starti (cc := cX0_wantedLots) (maxL := 3) (ret := (some .int)) (by decide) rfl (Nat.le_of_ble_eq_true rfl) ?_
  intro p e s m args below meth c A hx hb hr hts hown hlocks hml hA Z ls hl
  replace hown : s.vm.findClass RX0 = some m.cls := hown
  replace hl : lv_has ls 3 [(0, .ref (h 0))] := hl
  obtain ⟨H, hH⟩ : ∃ H, H = s.heap := ⟨_, rfl⟩
  rw [← hH] at Z ⊢
  clear hH
  obtain ⟨locs, hlc⟩ : ∃ q : List Loc, q = [] := ⟨_, rfl⟩
  rw [← hlc] at Z ⊢
  clear hlc
  refine lv_iconst (pc := 0) (v := (0 : Int32)) hx hb dX0_wantedLots_0 (by decide) ?_
  refine lv_istore_n (pc := 1) (lv' := [(1, .int (0 : Int32)), (0, .ref (h 0))]) hx hb dX0_wantedLots_1 rfl hl (by decide) rfl (fun ls hl => ?_)
  refine lv_iconst (pc := 2) (v := (0 : Int32)) hx hb dX0_wantedLots_2 (by decide) ?_
  refine lv_istore_n (pc := 3) (lv' := [(2, .int (0 : Int32)), (1, .int (0 : Int32)), (0, .ref (h 0))]) hx hb dX0_wantedLots_3 rfl hl (by decide) rfl (fun ls hl => ?_)
  have hL4 : ∀ (n0 : Nat) (x1 : Int32) (x2 : Int32) (H : Heap) (locs : List Loc) (ls : Array Slot), zw D (zTY cA) s A (W_X0_wantedLots cA h b_height b_count b_room b_account b_wanted) H locs → lv_has ls 3 [(0, .ref (h 0)), (1, .int x1), (2, .int x2)] → fX0_wantedLots_L4 b_count b_wanted n0 x1 x2 = some u → W p l e ({ frames := 0, cells := 0, slots := 0, locals := 0 } : Room) s m args below meth c H locs 0 0 (MQ below (zQi D (zTY cA) A (W_X0_wantedLots cA h b_height b_count b_room b_account b_wanted) u) args s 0 0 A) (F0 m 4 ls []) := by
    intro n0
    induction n0 with
    | zero => intro x1 x2 H locs ls Z hl hf; exact o_no hf
    | succ n0 ih0 =>
      intro x1 x2 H locs ls Z hl hf
      refine lv_iload_n (pc := 4) hx hb dX0_wantedLots_4 rfl (lv_at hl 2 rfl) ?_
      refine lv_aload_n (pc := 5) hx hb dX0_wantedLots_5 rfl (lv_at hl 0 rfl) ?_
      refine z_get (pc := 6) (ref := "LotSheet$Bill") (ci := 0) (C := RX0) (T := TX0) (N := 11) hx hb hts iw_X0_wantedLots_X0 hown Z 0 rfl rfl 1 (by decide) (List.mem_of_getElem? (i := 1) rfl) rfl rfl dX0_wantedLots_6 ?_
      refine lv_icmp_ge (pc := 9) (tgt := 30) hx hb dX0_wantedLots_9 (by decide) (fun c3 => ?_) (fun c3 => ?_)
      · replace hf := o_pos c3 hf
        refine lv_iload_n (pc := 30) hx hb dX0_wantedLots_30 rfl (lv_at hl 1 rfl) ?_
        cases hf
        exact z_iret (pc := 31) hx hb hr hlocks Z rfl rfl dX0_wantedLots_31
      · replace hf := o_neg c3 hf
        refine lv_aload_n (pc := 12) hx hb dX0_wantedLots_12 rfl (lv_at hl 0 rfl) ?_
        refine z_get (pc := 13) (ref := "LotSheet$Bill") (ci := 0) (C := RX0) (T := TX0) (N := 11) hx hb hts iw_X0_wantedLots_X0 hown Z 0 rfl rfl 9 (by decide) (List.mem_of_getElem? (i := 2) rfl) rfl rfl dX0_wantedLots_13 ?_
        refine lv_iload_n (pc := 16) hx hb dX0_wantedLots_16 rfl (lv_at hl 2 rfl) ?_
        obtain ⟨i4, hf⟩ := o_rdE hf
        refine z_zald (pc := 17) hx hb Z 1 1 rfl rfl i4 dX0_wantedLots_17 ?_
        refine lv_if_eq (pc := 18) (tgt := 24) hx hb dX0_wantedLots_18 (by decide) (fun c5 => ?_) (fun c5 => ?_)
        · replace hf := o_pos c5 hf
          obtain ⟨x6, ex6⟩ : ∃ y : Int32, y = (x2 + (1 : Int32)) := ⟨_, rfl⟩
          replace hf := o_letE ex6 hf
          refine lv_iinc (pc := 24) (v := x6) (lv' := [(2, .int x6), (0, .ref (h 0)), (1, .int x1)]) hx hb dX0_wantedLots_24 hl (k := 2) rfl (by rw [ex6]; rfl) (by decide) rfl (fun ls hl => ?_)
          refine lv_goto (pc := 27) (tgt := 4) hx hb dX0_wantedLots_27 (by decide) ?_
          exact ih0 x1 x6 H locs ls Z (lv_sub hl [1, 2, 0] rfl) hf
        · replace hf := o_neg c5 hf
          obtain ⟨x7, ex7⟩ : ∃ y : Int32, y = (x1 + (1 : Int32)) := ⟨_, rfl⟩
          replace hf := o_letE ex7 hf
          refine lv_iinc (pc := 21) (v := x7) (lv' := [(1, .int x7), (0, .ref (h 0)), (2, .int x2)]) hx hb dX0_wantedLots_21 hl (k := 1) rfl (by rw [ex7]; rfl) (by decide) rfl (fun ls hl => ?_)
          obtain ⟨x8, ex8⟩ : ∃ y : Int32, y = (x2 + (1 : Int32)) := ⟨_, rfl⟩
          replace hf := o_letE ex8 hf
          refine lv_iinc (pc := 24) (v := x8) (lv' := [(2, .int x8), (1, .int x7), (0, .ref (h 0))]) hx hb dX0_wantedLots_24 hl (k := 2) rfl (by rw [ex8]; rfl) (by decide) rfl (fun ls hl => ?_)
          refine lv_goto (pc := 27) (tgt := 4) hx hb dX0_wantedLots_27 (by decide) ?_
          exact ih0 x7 x8 H locs ls Z (lv_sub hl [2, 1, 0] rfl) hf
  exact hL4 1024 (0 : Int32) (0 : Int32) H locs ls Z (lv_sub hl [2, 1, 0] rfl) hf
