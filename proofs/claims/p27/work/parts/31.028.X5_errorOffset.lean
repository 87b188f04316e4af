def W_X5_errorOffset (cA : Nat → ClassId) (h : Nat → Nat) (x_latestErrorOffset : Int32) : va_W := [(h 0, .inr (5, [.ref (h 1), .ref (h 3), .ref (h 11), .ref (h 19), .ref (h 85), .ref (h 92), .int x_latestErrorOffset]))]
def fX5_errorOffset (x_latestErrorOffset : Int32) : Option (Int32) := some (x_latestErrorOffset)
theorem iw_X5_errorOffset_X5 : ∀ w ∈ u_ws RX5 TX5 7, w ∈ wsX5_errorOffset := z_inr [2, 3, 4, 5, 6, 7, 8] rfl
set_option maxHeartbeats 4000000 in
set_option maxRecDepth 100000 in
theorem kX5_errorOffset (l : Launch) (D : va_G) (cA : Nat → ClassId) (h : Nat → Nat) (x_latestErrorOffset : Int32) (u : Int32) (hf : fX5_errorOffset x_latestErrorOffset = some u) : zMi l yX5_errorOffset wsX5_errorOffset ({ frames := 0, cells := 0, slots := 0, locals := 0 } : Room) D (zTY cA) [.ref (h 0)] (W_X5_errorOffset cA h x_latestErrorOffset) (W_X5_errorOffset cA h x_latestErrorOffset) u := by
  refine z_starti (cc := cX5_errorOffset) (maxL := 1) (ret := (some .int)) (by decide) rfl (Nat.le_of_ble_eq_true rfl) ?_
  intro p e s m args below meth c A hx hb hr hts hown hlocks hml hA Z ls hl
  replace hown : s.vm.findClass RX5 = some m.cls := hown
  replace hl : lv_has ls 1 [(0, .ref (h 0))] := hl
  obtain ⟨H, hH⟩ : ∃ H, H = s.heap := ⟨_, rfl⟩
  rw [← hH] at Z ⊢
  clear hH
  obtain ⟨locs, hlc⟩ : ∃ q : List Loc, q = [] := ⟨_, rfl⟩
  rw [← hlc] at Z ⊢
  clear hlc
  refine lv_aload_n (pc := 0) hx hb dX5_errorOffset_0 rfl (lv_at hl 0 rfl) ?_
  refine z_get (pc := 1) (ref := "LotSheet") (ci := 5) (C := RX5) (T := TX5) (N := 7) hx hb hts iw_X5_errorOffset_X5 hown Z 0 rfl rfl 6 (by decide) (List.mem_of_getElem? (i := 1) rfl) rfl rfl dX5_errorOffset_1 ?_
  cases hf
  exact z_iret (pc := 4) hx hb hr hlocks Z rfl rfl dX5_errorOffset_4
