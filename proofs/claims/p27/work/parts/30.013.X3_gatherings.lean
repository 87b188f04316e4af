def W_X3_gatherings (cA : Nat → ClassId) (h : Nat → Nat) (y_pages : Int32) (y_printedLots : Int32) (y_printedLines : Int32) : va_W := [(h 0, .inr (3, [.ref (h 1), .ref (h 2), .ref (h 3), .ref (h 4), .ref (h 5), .ref (h 6), .int y_pages, .int y_printedLots, .int y_printedLines]))]
def fX3_gatherings (y_pages : Int32) : Option (Int32) := some ((((y_pages + (4 : Int32)) - (1 : Int32)) / (4 : Int32)))
theorem iw_X3_gatherings_X3 : ∀ w ∈ u_ws RX3 TX3 9, w ∈ wsX3_gatherings := z_inr [2, 3, 4, 5, 6, 7, 8, 9, 10] rfl
set_option maxHeartbeats 4000000 in
set_option maxRecDepth 100000 in
theorem kX3_gatherings (l : Launch) (D : va_G) (cA : Nat → ClassId) (h : Nat → Nat) (y_pages : Int32) (y_printedLots : Int32) (y_printedLines : Int32) (u : Int32) (hf : fX3_gatherings y_pages = some u) : zMi l yX3_gatherings wsX3_gatherings ({ frames := 0, cells := 0, slots := 0, locals := 0 } : Room) D (zTY cA) [.ref (h 0)] (W_X3_gatherings cA h y_pages y_printedLots y_printedLines) (W_X3_gatherings cA h y_pages y_printedLots y_printedLines) u := by
  refine z_starti (cc := cX3_gatherings) (maxL := 1) (ret := (some .int)) (by decide) rfl (Nat.le_of_ble_eq_true rfl) ?_
  intro p e s m args below meth c A hx hb hr hts hown hlocks hml hA Z ls hl
  replace hown : s.vm.findClass RX3 = some m.cls := hown
  replace hl : lv_has ls 1 [(0, .ref (h 0))] := hl
  obtain ⟨H, hH⟩ : ∃ H, H = s.heap := ⟨_, rfl⟩
  rw [← hH] at Z ⊢
  clear hH
  obtain ⟨locs, hlc⟩ : ∃ q : List Loc, q = [] := ⟨_, rfl⟩
  rw [← hlc] at Z ⊢
  clear hlc
  refine lv_aload_n (pc := 0) hx hb dX3_gatherings_0 rfl (lv_at hl 0 rfl) ?_
  refine z_get (pc := 1) (ref := "LotSheet$Layout") (ci := 3) (C := RX3) (T := TX3) (N := 9) hx hb hts iw_X3_gatherings_X3 hown Z 0 rfl rfl 6 (by decide) (List.mem_of_getElem? (i := 1) rfl) rfl rfl dX3_gatherings_1 ?_
  refine lv_iconst (pc := 4) (v := (4 : Int32)) hx hb dX3_gatherings_4 (by decide) ?_
  refine lv_iadd (pc := 5) hx hb dX3_gatherings_5 ?_
  refine lv_iconst (pc := 6) (v := (1 : Int32)) hx hb dX3_gatherings_6 (by decide) ?_
  refine lv_isub (pc := 7) hx hb dX3_gatherings_7 ?_
  refine lv_iconst (pc := 8) (v := (4 : Int32)) hx hb dX3_gatherings_8 (by decide) ?_
  refine lv_idiv (pc := 9) hx hb dX3_gatherings_9 (by decide) ?_
  cases hf
  exact z_iret (pc := 10) hx hb hr hlocks Z rfl rfl dX3_gatherings_10
