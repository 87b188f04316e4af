def W_X1_placeOf (cA : Nat → ClassId) (h : Nat → Nat) (c_lots : Nat → Int32) (c_count : Int32) (c_priced : Int32) : va_W := [(h 0, .inr (1, [.ref (h 1), .ref (h 2), .int c_count, .ref (h 3), .ref (h 10), .ref (h 11), .ref (h 12), .int c_priced])), (h 1, .inl (cA 0, 8, .inl c_lots))]
def fX1_placeOf_L2 (c_count : Int32) (c_lots : Nat → Int32) (p1 : Int32) : Nat → Int32 → Option (Int32)
  | 0, _ => none
  | n0 + 1, x1 => (if c_count ≤ x1 then some ((-1 : Int32)) else o_rd 8 x1 ((if (c_lots x1.toNatClampNeg) = p1 then some (x1) else o_let (x1 + (1 : Int32)) (fun x5 => (fX1_placeOf_L2 c_count c_lots p1 n0 x5)))))
def fX1_placeOf (p1 : Int32) (c_lots : Nat → Int32) (c_count : Int32) : Option (Int32) := (fX1_placeOf_L2 c_count c_lots p1 1024 (0 : Int32))
theorem iw_X1_placeOf_X1 : ∀ w ∈ u_ws RX1 TX1 8, w ∈ wsX1_placeOf := z_inr [3, 4, 5, 6, 7, 8, 9, 10] rfl
set_option maxHeartbeats 4000000 in
set_option maxRecDepth 100000 in
theorem kX1_placeOf (l : Launch) (D : va_G) (cA : Nat → ClassId) (h : Nat → Nat) (p1 : Int32) (c_lots : Nat → Int32) (c_count : Int32) (c_priced : Int32) (u : Int32) (hf : fX1_placeOf p1 c_lots c_count = some u) : zMi l yX1_placeOf wsX1_placeOf ({ frames := 0, cells := 0, slots := 0, locals := 0 } : Room) D (zTY cA) [.ref (h 0), .int p1] (W_X1_placeOf cA h c_lots c_count c_priced) (W_X1_placeOf cA h c_lots c_count c_priced) u := by
  refine z_starti (cc := cX1_placeOf) (maxL := 3) (ret := (some .int)) (by decide) rfl (Nat.le_of_ble_eq_true rfl) ?_
  intro p e s m args below meth c A hx hb hr hts hown hlocks hml hA Z ls hl
  replace hown : s.vm.findClass RX1 = some m.cls := hown
  replace hl : lv_has ls 3 [(0, .ref (h 0)), (1, .int p1)] := hl
  obtain ⟨H, hH⟩ : ∃ H, H = s.heap := ⟨_, rfl⟩
  rw [← hH] at Z ⊢
  clear hH
  obtain ⟨locs, hlc⟩ : ∃ q : List Loc, q = [] := ⟨_, rfl⟩
  rw [← hlc] at Z ⊢
  clear hlc
  refine lv_iconst (pc := 0) (v := (0 : Int32)) hx hb dX1_placeOf_0 (by decide) ?_
  refine lv_istore_n (pc := 1) (lv' := [(2, .int (0 : Int32)), (0, .ref (h 0)), (1, .int p1)]) hx hb dX1_placeOf_1 rfl hl (by decide) rfl (fun ls hl => ?_)
  have hL2 : ∀ (n0 : Nat) (x1 : Int32) (H : Heap) (locs : List Loc) (ls : Array Slot), zw D (zTY cA) s A (W_X1_placeOf cA h c_lots c_count c_priced) H locs → lv_has ls 3 [(0, .ref (h 0)), (1, .int p1), (2, .int x1)] → fX1_placeOf_L2 c_count c_lots p1 n0 x1 = some u → W p l e ({ frames := 0, cells := 0, slots := 0, locals := 0 } : Room) s m args below meth c H locs 0 0 (MQ below (zQi D (zTY cA) A (W_X1_placeOf cA h c_lots c_count c_priced) u) args s 0 0 A) (F0 m 2 ls []) := by
    intro n0
    induction n0 with
    | zero => intro x1 H locs ls Z hl hf; exact o_no hf
    | succ n0 ih0 =>
      intro x1 H locs ls Z hl hf
      refine lv_iload_n (pc := 2) hx hb dX1_placeOf_2 rfl (lv_at hl 2 rfl) ?_
      refine lv_aload_n (pc := 3) hx hb dX1_placeOf_3 rfl (lv_at hl 0 rfl) ?_
      refine z_get (pc := 4) (ref := "LotSheet$Choices") (ci := 1) (C := RX1) (T := TX1) (N := 8) hx hb hts iw_X1_placeOf_X1 hown Z 0 rfl rfl 2 (by decide) (List.mem_of_getElem? (i := 1) rfl) rfl rfl dX1_placeOf_4 ?_
      refine lv_icmp_ge (pc := 7) (tgt := 28) hx hb dX1_placeOf_7 (by decide) (fun c2 => ?_) (fun c2 => ?_)
      · replace hf := o_pos c2 hf
        refine lv_iconst (pc := 28) (v := (-1 : Int32)) hx hb dX1_placeOf_28 (by decide) ?_
        cases hf
        exact z_iret (pc := 29) hx hb hr hlocks Z rfl rfl dX1_placeOf_29
      · replace hf := o_neg c2 hf
        refine lv_aload_n (pc := 10) hx hb dX1_placeOf_10 rfl (lv_at hl 0 rfl) ?_
        refine z_get (pc := 11) (ref := "LotSheet$Choices") (ci := 1) (C := RX1) (T := TX1) (N := 8) hx hb hts iw_X1_placeOf_X1 hown Z 0 rfl rfl 0 (by decide) (List.mem_of_getElem? (i := 2) rfl) rfl rfl dX1_placeOf_11 ?_
        refine lv_iload_n (pc := 14) hx hb dX1_placeOf_14 rfl (lv_at hl 2 rfl) ?_
        obtain ⟨i3, hf⟩ := o_rdE hf
        refine z_iald (pc := 15) hx hb Z 1 0 rfl rfl i3 dX1_placeOf_15 ?_
        refine lv_iload_n (pc := 16) hx hb dX1_placeOf_16 rfl (lv_at hl 1 rfl) ?_
        refine lv_icmp_ne (pc := 17) (tgt := 22) hx hb dX1_placeOf_17 (by decide) (fun c4 => ?_) (fun c4 => ?_)
        · replace hf := o_neg c4 hf
          obtain ⟨x5, ex5⟩ : ∃ y : Int32, y = (x1 + (1 : Int32)) := ⟨_, rfl⟩
          replace hf := o_letE ex5 hf
          refine lv_iinc (pc := 22) (v := x5) (lv' := [(2, .int x5), (0, .ref (h 0)), (1, .int p1)]) hx hb dX1_placeOf_22 hl (k := 2) rfl (by rw [ex5]; rfl) (by decide) rfl (fun ls hl => ?_)
          refine lv_goto (pc := 25) (tgt := 2) hx hb dX1_placeOf_25 (by decide) ?_
          exact ih0 x5 H locs ls Z (lv_sub hl [1, 2, 0] rfl) hf
        · replace hf := o_pos c4 hf
          refine lv_iload_n (pc := 20) hx hb dX1_placeOf_20 rfl (lv_at hl 2 rfl) ?_
          cases hf
          exact z_iret (pc := 21) hx hb hr hlocks Z rfl rfl dX1_placeOf_21
  exact hL2 1024 (0 : Int32) H locs ls Z (lv_sub hl [1, 2, 0] rfl) hf
