def W_X6_in (cA : Nat → ClassId) (h : Nat → Nat) : va_W := []
def fX6_in (p0 : Int32) (p1 : Int32) (p2 : Int32) : Option (Int32) := (if p0 < p1 then some ((0 : Int32)) else (if p2 < p0 then some ((0 : Int32)) else some ((1 : Int32))))
set_option maxHeartbeats 4000000 in
set_option maxRecDepth 100000 in
theorem kX6_in (l : Launch) (D : va_G) (cA : Nat → ClassId) (h : Nat → Nat) (p0 : Int32) (p1 : Int32) (p2 : Int32) (u : Int32) (hf : fX6_in p0 p1 p2 = some u) : zMi l yX6_in wsX6_in ({ frames := 0, cells := 0, slots := 0, locals := 0 } : Room) D (zTY cA) [.int p0, .int p1, .int p2] (W_X6_in cA h) (W_X6_in cA h) u := by
  refine z_starti (cc := cX6_in) (maxL := 3) (ret := (some .boolean)) (by decide) rfl (Nat.le_of_ble_eq_true rfl) ?_
  intro p e s m args below meth c A hx hb hr hts hown hlocks hml hA Z ls hl
  replace hown : s.vm.findClass RX6 = some m.cls := hown
  replace hl : lv_has ls 3 [(0, .int p0), (1, .int p1), (2, .int p2)] := hl
  obtain ⟨H, hH⟩ : ∃ H, H = s.heap := ⟨_, rfl⟩
  rw [← hH] at Z ⊢
  clear hH
  obtain ⟨locs, hlc⟩ : ∃ q : List Loc, q = [] := ⟨_, rfl⟩
  rw [← hlc] at Z ⊢
  clear hlc
  refine lv_iload_n (pc := 0) hx hb dX6_in_0 rfl (lv_at hl 0 rfl) ?_
  refine lv_iload_n (pc := 1) hx hb dX6_in_1 rfl (lv_at hl 1 rfl) ?_
  refine lv_icmp_lt (pc := 2) (tgt := 14) hx hb dX6_in_2 (by decide) (fun c1 => ?_) (fun c1 => ?_)
  · replace hf := o_pos c1 hf
    refine lv_iconst (pc := 14) (v := (0 : Int32)) hx hb dX6_in_14 (by decide) ?_
    cases hf
    exact z_zret (pc := 15) hx hb hr hlocks Z rfl rfl (by decide) dX6_in_15
  · replace hf := o_neg c1 hf
    refine lv_iload_n (pc := 5) hx hb dX6_in_5 rfl (lv_at hl 0 rfl) ?_
    refine lv_iload_n (pc := 6) hx hb dX6_in_6 rfl (lv_at hl 2 rfl) ?_
    refine lv_icmp_gt (pc := 7) (tgt := 14) hx hb dX6_in_7 (by decide) (fun c2 => ?_) (fun c2 => ?_)
    · replace hf := o_pos c2 hf
      refine lv_iconst (pc := 14) (v := (0 : Int32)) hx hb dX6_in_14 (by decide) ?_
      cases hf
      exact z_zret (pc := 15) hx hb hr hlocks Z rfl rfl (by decide) dX6_in_15
    · replace hf := o_neg c2 hf
      refine lv_iconst (pc := 10) (v := (1 : Int32)) hx hb dX6_in_10 (by decide) ?_
      refine lv_goto (pc := 11) (tgt := 15) hx hb dX6_in_11 (by decide) ?_
      cases hf
      exact z_zret (pc := 15) hx hb hr hlocks Z rfl rfl (by decide) dX6_in_15
