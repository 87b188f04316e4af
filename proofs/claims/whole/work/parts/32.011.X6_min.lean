def W_X6_min (cA : Nat → ClassId) (h : Nat → Nat) : va_W := []
def fX6_min (p0 : Int32) (p1 : Int32) : Option (Int32) := (if p1 ≤ p0 then some (p1) else some (p0))
set_option maxHeartbeats 4000000 in
set_option maxRecDepth 100000 in
theorem kX6_min (l : Launch) (D : va_G) (cA : Nat → ClassId) (h : Nat → Nat) (p0 : Int32) (p1 : Int32) (u : Int32) (hf : fX6_min p0 p1 = some u) : zMi l yX6_min wsX6_min ({ frames := 0, cells := 0, slots := 0, locals := 0 } : Room) D (zTY cA) [.int p0, .int p1] (W_X6_min cA h) (W_X6_min cA h) u := by
  refine z_starti (cc := cX6_min) (maxL := 2) (ret := (some .int)) (by decide) rfl (Nat.le_of_ble_eq_true rfl) ?_
  intro p e s m args below meth c A hx hb hr hts hown hlocks hml hA Z ls hl
  replace hown : s.vm.findClass RX6 = some m.cls := hown
  replace hl : lv_has ls 2 [(0, .int p0), (1, .int p1)] := hl
  obtain ⟨H, hH⟩ : ∃ H, H = s.heap := ⟨_, rfl⟩
  rw [← hH] at Z ⊢
  clear hH
  obtain ⟨locs, hlc⟩ : ∃ q : List Loc, q = [] := ⟨_, rfl⟩
  rw [← hlc] at Z ⊢
  clear hlc
  refine lv_iload_n (pc := 0) hx hb dX6_min_0 rfl (lv_at hl 0 rfl) ?_
  refine lv_iload_n (pc := 1) hx hb dX6_min_1 rfl (lv_at hl 1 rfl) ?_
  refine lv_icmp_ge (pc := 2) (tgt := 9) hx hb dX6_min_2 (by decide) (fun c1 => ?_) (fun c1 => ?_)
  · replace hf := o_pos c1 hf
    refine lv_iload_n (pc := 9) hx hb dX6_min_9 rfl (lv_at hl 1 rfl) ?_
    cases hf
    exact z_iret (pc := 10) hx hb hr hlocks Z rfl rfl dX6_min_10
  · replace hf := o_neg c1 hf
    refine lv_iload_n (pc := 5) hx hb dX6_min_5 rfl (lv_at hl 0 rfl) ?_
    refine lv_goto (pc := 6) (tgt := 10) hx hb dX6_min_6 (by decide) ?_
    cases hf
    exact z_iret (pc := 10) hx hb hr hlocks Z rfl rfl dX6_min_10
