def W_X1_holds (cA : Nat → ClassId) (h : Nat → Nat) (c_count : Int32) (c_priced : Int32) : va_W := [(h 0, .inr (1, [.ref (h 1), .ref (h 2), .int c_count, .ref (h 3), .ref (h 10), .ref (h 11), .ref (h 12), .int c_priced]))]
def fX1_holds (p1 : Int32) (p2 : Int32) : Option (Int32) := (if ((p1 >>> (p2 &&& 31)) &&& (1 : Int32)) = (1 : Int32) then some ((1 : Int32)) else some ((0 : Int32)))
set_option maxHeartbeats 4000000 in
set_option maxRecDepth 100000 in
theorem kX1_holds (l : Launch) (D : va_G) (cA : Nat → ClassId) (h : Nat → Nat) (p1 : Int32) (p2 : Int32) (c_count : Int32) (c_priced : Int32) (u : Int32) (hf : fX1_holds p1 p2 = some u) : zMi l yX1_holds wsX1_holds ({ frames := 0, cells := 0, slots := 0, locals := 0 } : Room) D (zTY cA) [.ref (h 0), .int p1, .int p2] (W_X1_holds cA h c_count c_priced) (W_X1_holds cA h c_count c_priced) u := by
  refine z_starti (cc := cX1_holds) (maxL := 3) (ret := (some .boolean)) (by decide) rfl (Nat.le_of_ble_eq_true rfl) ?_
  intro p e s m args below meth c A hx hb hr hts hown hlocks hml hA Z ls hl
  replace hown : s.vm.findClass RX1 = some m.cls := hown
  replace hl : lv_has ls 3 [(0, .ref (h 0)), (1, .int p1), (2, .int p2)] := hl
  obtain ⟨H, hH⟩ : ∃ H, H = s.heap := ⟨_, rfl⟩
  rw [← hH] at Z ⊢
  clear hH
  obtain ⟨locs, hlc⟩ : ∃ q : List Loc, q = [] := ⟨_, rfl⟩
  rw [← hlc] at Z ⊢
  clear hlc
  refine lv_iload_n (pc := 0) hx hb dX1_holds_0 rfl (lv_at hl 1 rfl) ?_
  refine lv_iload_n (pc := 1) hx hb dX1_holds_1 rfl (lv_at hl 2 rfl) ?_
  refine lv_ishr (pc := 2) hx hb dX1_holds_2 ?_
  refine lv_iconst (pc := 3) (v := (1 : Int32)) hx hb dX1_holds_3 (by decide) ?_
  refine lv_iand (pc := 4) hx hb dX1_holds_4 ?_
  refine lv_iconst (pc := 5) (v := (1 : Int32)) hx hb dX1_holds_5 (by decide) ?_
  refine lv_icmp_ne (pc := 6) (tgt := 13) hx hb dX1_holds_6 (by decide) (fun c1 => ?_) (fun c1 => ?_)
  · replace hf := o_neg c1 hf
    refine lv_iconst (pc := 13) (v := (0 : Int32)) hx hb dX1_holds_13 (by decide) ?_
    cases hf
    exact z_zret (pc := 14) hx hb hr hlocks Z rfl rfl (by decide) dX1_holds_14
  · replace hf := o_pos c1 hf
    refine lv_iconst (pc := 9) (v := (1 : Int32)) hx hb dX1_holds_9 (by decide) ?_
    refine lv_goto (pc := 10) (tgt := 14) hx hb dX1_holds_10 (by decide) ?_
    cases hf
    exact z_zret (pc := 14) hx hb hr hlocks Z rfl rfl (by decide) dX1_holds_14
