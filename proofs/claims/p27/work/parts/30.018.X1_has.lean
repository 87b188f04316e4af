def W_X1_has (cA : Nat → ClassId) (h : Nat → Nat) (c_count : Int32) (c_priced : Int32) : va_W := [(h 0, .inr (1, [.ref (h 1), .ref (h 2), .int c_count, .ref (h 3), .ref (h 10), .ref (h 11), .ref (h 12), .int c_priced]))]
def fX1_has (p1 : Int32) (c_count : Int32) : Option (Int32) := (if p1 < 0 then some ((0 : Int32)) else (if ((1 : Int32) <<< (c_count &&& 31)) ≤ p1 then some ((0 : Int32)) else some ((1 : Int32))))
theorem iw_X1_has_X1 : ∀ w ∈ u_ws RX1 TX1 8, w ∈ wsX1_has := z_inr [2, 3, 4, 5, 6, 7, 8, 9] rfl
set_option maxHeartbeats 4000000 in
set_option maxRecDepth 100000 in
theorem kX1_has (l : Launch) (D : va_G) (cA : Nat → ClassId) (h : Nat → Nat) (p1 : Int32) (c_count : Int32) (c_priced : Int32) (u : Int32) (hf : fX1_has p1 c_count = some u) : zMi l yX1_has wsX1_has ({ frames := 0, cells := 0, slots := 0, locals := 0 } : Room) D (zTY cA) [.ref (h 0), .int p1] (W_X1_has cA h c_count c_priced) (W_X1_has cA h c_count c_priced) u := by
  refine z_starti (cc := cX1_has) (maxL := 2) (ret := (some .boolean)) (by decide) rfl (Nat.le_of_ble_eq_true rfl) ?_
  intro p e s m args below meth c A hx hb hr hts hown hlocks hml hA Z ls hl
  replace hown : s.vm.findClass RX1 = some m.cls := hown
  replace hl : lv_has ls 2 [(0, .ref (h 0)), (1, .int p1)] := hl
  obtain ⟨H, hH⟩ : ∃ H, H = s.heap := ⟨_, rfl⟩
  rw [← hH] at Z ⊢
  clear hH
  obtain ⟨locs, hlc⟩ : ∃ q : List Loc, q = [] := ⟨_, rfl⟩
  rw [← hlc] at Z ⊢
  clear hlc
  refine lv_iload_n (pc := 0) hx hb dX1_has_0 rfl (lv_at hl 1 rfl) ?_
  refine lv_if_lt (pc := 1) (tgt := 18) hx hb dX1_has_1 (by decide) (fun c1 => ?_) (fun c1 => ?_)
  · replace hf := o_pos c1 hf
    refine lv_iconst (pc := 18) (v := (0 : Int32)) hx hb dX1_has_18 (by decide) ?_
    cases hf
    exact z_zret (pc := 19) hx hb hr hlocks Z rfl rfl (by decide) dX1_has_19
  · replace hf := o_neg c1 hf
    refine lv_iload_n (pc := 4) hx hb dX1_has_4 rfl (lv_at hl 1 rfl) ?_
    refine lv_iconst (pc := 5) (v := (1 : Int32)) hx hb dX1_has_5 (by decide) ?_
    refine lv_aload_n (pc := 6) hx hb dX1_has_6 rfl (lv_at hl 0 rfl) ?_
    refine z_get (pc := 7) (ref := "LotSheet$Choices") (ci := 1) (C := RX1) (T := TX1) (N := 8) hx hb hts iw_X1_has_X1 hown Z 0 rfl rfl 2 (by decide) (List.mem_of_getElem? (i := 1) rfl) rfl rfl dX1_has_7 ?_
    refine lv_ishl (pc := 10) hx hb dX1_has_10 ?_
    refine lv_icmp_ge (pc := 11) (tgt := 18) hx hb dX1_has_11 (by decide) (fun c2 => ?_) (fun c2 => ?_)
    · replace hf := o_pos c2 hf
      refine lv_iconst (pc := 18) (v := (0 : Int32)) hx hb dX1_has_18 (by decide) ?_
      cases hf
      exact z_zret (pc := 19) hx hb hr hlocks Z rfl rfl (by decide) dX1_has_19
    · replace hf := o_neg c2 hf
      refine lv_iconst (pc := 14) (v := (1 : Int32)) hx hb dX1_has_14 (by decide) ?_
      refine lv_goto (pc := 15) (tgt := 19) hx hb dX1_has_15 (by decide) ?_
      cases hf
      exact z_zret (pc := 19) hx hb hr hlocks Z rfl rfl (by decide) dX1_has_19
