def W_X1_slipsFor (cA : Nat → ClassId) (h : Nat → Nat) : va_W := []
def fX1_slipsFor (p0 : Int32) (p1 : Int32) : Option (Int32) := (if (1 : Int32) ≤ p1 then o_as (¬ p1 = 0) (some ((((p0 + p1) - (1 : Int32)) / p1))) else some ((0 : Int32)))
set_option maxHeartbeats 4000000 in
set_option maxRecDepth 100000 in
theorem kX1_slipsFor (l : Launch) (D : va_G) (cA : Nat → ClassId) (h : Nat → Nat) (p0 : Int32) (p1 : Int32) (u : Int32) (hf : fX1_slipsFor p0 p1 = some u) : zMi l yX1_slipsFor wsX1_slipsFor ({ frames := 0, cells := 0, slots := 0, locals := 0 } : Room) D (zTY cA) [.int p0, .int p1] (W_X1_slipsFor cA h) (W_X1_slipsFor cA h) u := by
  refine z_starti (cc := cX1_slipsFor) (maxL := 2) (ret := (some .int)) (by decide) rfl (Nat.le_of_ble_eq_true rfl) ?_
  intro p e s m args below meth c A hx hb hr hts hown hlocks hml hA Z ls hl
  replace hown : s.vm.findClass RX1 = some m.cls := hown
  replace hl : lv_has ls 2 [(0, .int p0), (1, .int p1)] := hl
  obtain ⟨H, hH⟩ : ∃ H, H = s.heap := ⟨_, rfl⟩
  rw [← hH] at Z ⊢
  clear hH
  obtain ⟨locs, hlc⟩ : ∃ q : List Loc, q = [] := ⟨_, rfl⟩
  rw [← hlc] at Z ⊢
  clear hlc
  refine lv_iload_n (pc := 0) hx hb dX1_slipsFor_0 rfl (lv_at hl 1 rfl) ?_
  refine lv_iconst (pc := 1) (v := (1 : Int32)) hx hb dX1_slipsFor_1 (by decide) ?_
  refine lv_icmp_ge (pc := 2) (tgt := 9) hx hb dX1_slipsFor_2 (by decide) (fun c1 => ?_) (fun c1 => ?_)
  · replace hf := o_pos c1 hf
    refine lv_iload_n (pc := 9) hx hb dX1_slipsFor_9 rfl (lv_at hl 0 rfl) ?_
    refine lv_iload_n (pc := 10) hx hb dX1_slipsFor_10 rfl (lv_at hl 1 rfl) ?_
    refine lv_iadd (pc := 11) hx hb dX1_slipsFor_11 ?_
    refine lv_iconst (pc := 12) (v := (1 : Int32)) hx hb dX1_slipsFor_12 (by decide) ?_
    refine lv_isub (pc := 13) hx hb dX1_slipsFor_13 ?_
    refine lv_iload_n (pc := 14) hx hb dX1_slipsFor_14 rfl (lv_at hl 1 rfl) ?_
    obtain ⟨nz2, hf⟩ := o_asE hf
    refine lv_idiv (pc := 15) hx hb dX1_slipsFor_15 nz2 ?_
    cases hf
    exact z_iret (pc := 16) hx hb hr hlocks Z rfl rfl dX1_slipsFor_16
  · replace hf := o_neg c1 hf
    refine lv_iconst (pc := 5) (v := (0 : Int32)) hx hb dX1_slipsFor_5 (by decide) ?_
    refine lv_goto (pc := 6) (tgt := 16) hx hb dX1_slipsFor_6 (by decide) ?_
    cases hf
    exact z_iret (pc := 16) hx hb hr hlocks Z rfl rfl dX1_slipsFor_16
