def W_X4_isDigit (cA : Nat → ClassId) (h : Nat → Nat) : va_W := []
def fX4_isDigit (p0 : Int32) : Option (Int32) := (if p0 < (48 : Int32) then some ((0 : Int32)) else (if (57 : Int32) < p0 then some ((0 : Int32)) else some ((1 : Int32))))
set_option maxHeartbeats 4000000 in
set_option maxRecDepth 100000 in
theorem kX4_isDigit (l : Launch) (D : va_G) (cA : Nat → ClassId) (h : Nat → Nat) (p0 : Int32) (u : Int32) (hf : fX4_isDigit p0 = some u) : zMi l yX4_isDigit wsX4_isDigit ({ frames := 0, cells := 0, slots := 0, locals := 0 } : Room) D (zTY cA) [.int p0] (W_X4_isDigit cA h) (W_X4_isDigit cA h) u := by
  refine z_starti (cc := cX4_isDigit) (maxL := 1) (ret := (some .boolean)) (by decide) rfl (Nat.le_of_ble_eq_true rfl) ?_
  intro p e s m args below meth c A hx hb hr hts hown hlocks hml hA Z ls hl
  replace hown : s.vm.findClass RX4 = some m.cls := hown
  replace hl : lv_has ls 1 [(0, .int p0)] := hl
  obtain ⟨H, hH⟩ : ∃ H, H = s.heap := ⟨_, rfl⟩
  rw [← hH] at Z ⊢
  clear hH
  obtain ⟨locs, hlc⟩ : ∃ q : List Loc, q = [] := ⟨_, rfl⟩
  rw [← hlc] at Z ⊢
  clear hlc
  refine lv_iload_n (pc := 0) hx hb dX4_isDigit_0 rfl (lv_at hl 0 rfl) ?_
  refine lv_bipush (pc := 1) (v := (48 : Int32)) hx hb dX4_isDigit_1 (by decide) ?_
  refine lv_icmp_lt (pc := 3) (tgt := 16) hx hb dX4_isDigit_3 (by decide) (fun c1 => ?_) (fun c1 => ?_)
  · replace hf := o_pos c1 hf
    refine lv_iconst (pc := 16) (v := (0 : Int32)) hx hb dX4_isDigit_16 (by decide) ?_
    cases hf
    exact z_zret (pc := 17) hx hb hr hlocks Z rfl rfl (by decide) dX4_isDigit_17
  · replace hf := o_neg c1 hf
    refine lv_iload_n (pc := 6) hx hb dX4_isDigit_6 rfl (lv_at hl 0 rfl) ?_
    refine lv_bipush (pc := 7) (v := (57 : Int32)) hx hb dX4_isDigit_7 (by decide) ?_
    refine lv_icmp_gt (pc := 9) (tgt := 16) hx hb dX4_isDigit_9 (by decide) (fun c2 => ?_) (fun c2 => ?_)
    · replace hf := o_pos c2 hf
      refine lv_iconst (pc := 16) (v := (0 : Int32)) hx hb dX4_isDigit_16 (by decide) ?_
      cases hf
      exact z_zret (pc := 17) hx hb hr hlocks Z rfl rfl (by decide) dX4_isDigit_17
    · replace hf := o_neg c2 hf
      refine lv_iconst (pc := 12) (v := (1 : Int32)) hx hb dX4_isDigit_12 (by decide) ?_
      refine lv_goto (pc := 13) (tgt := 17) hx hb dX4_isDigit_13 (by decide) ?_
      cases hf
      exact z_zret (pc := 17) hx hb hr hlocks Z rfl rfl (by decide) dX4_isDigit_17
