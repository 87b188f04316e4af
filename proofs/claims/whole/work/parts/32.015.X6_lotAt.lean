def W_X6_lotAt (cA : Nat → ClassId) (h : Nat → Nat) : va_W := []
def fX6_lotAt (p0 : Int32) : Option (Int32) := some (((9 : Int32) + ((6 : Int32) * p0)))
set_option maxHeartbeats 4000000 in
set_option maxRecDepth 100000 in
theorem kX6_lotAt (l : Launch) (D : va_G) (cA : Nat → ClassId) (h : Nat → Nat) (p0 : Int32) (u : Int32) (hf : fX6_lotAt p0 = some u) : zMi l yX6_lotAt wsX6_lotAt ({ frames := 0, cells := 0, slots := 0, locals := 0 } : Room) D (zTY cA) [.int p0] (W_X6_lotAt cA h) (W_X6_lotAt cA h) u := by
  refine z_starti (cc := cX6_lotAt) (maxL := 1) (ret := (some .int)) (by decide) rfl (Nat.le_of_ble_eq_true rfl) ?_
  intro p e s m args below meth c A hx hb hr hts hown hlocks hml hA Z ls hl
  replace hown : s.vm.findClass RX6 = some m.cls := hown
  replace hl : lv_has ls 1 [(0, .int p0)] := hl
  obtain ⟨H, hH⟩ : ∃ H, H = s.heap := ⟨_, rfl⟩
  rw [← hH] at Z ⊢
  clear hH
  obtain ⟨locs, hlc⟩ : ∃ q : List Loc, q = [] := ⟨_, rfl⟩
  rw [← hlc] at Z ⊢
  clear hlc
  refine lv_bipush (pc := 0) (v := (9 : Int32)) hx hb dX6_lotAt_0 (by decide) ?_
  refine lv_bipush (pc := 2) (v := (6 : Int32)) hx hb dX6_lotAt_2 (by decide) ?_
  refine lv_iload_n (pc := 4) hx hb dX6_lotAt_4 rfl (lv_at hl 0 rfl) ?_
  refine lv_imul (pc := 5) hx hb dX6_lotAt_5 ?_
  refine lv_iadd (pc := 6) hx hb dX6_lotAt_6 ?_
  cases hf
  exact z_iret (pc := 7) hx hb hr hlocks Z rfl rfl dX6_lotAt_7
