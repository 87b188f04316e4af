def fX8_init (p1 : Int32) : Option (Int32) := some (p1)
theorem iw_X8_init_X8 : ∀ w ∈ u_ws RX8 TX8 1, w ∈ wsX8_init := z_inr [5] rfl
set_option maxHeartbeats 8000000 in
set_option maxRecDepth 100000 in
theorem kX8_init (l : Launch) (D : va_G) (cA : Nat → ClassId) (a_R : Nat) (p1 : Int32) (u : Int32) (hf : fX8_init p1 = some u) : zG zJ l yX8_init wsX8_init ({ frames := 1, cells := 0, slots := 0, locals := 20 } : Room) D (zTY cA) [.ref a_R, .int p1] (zU [[(a_R, .inr (8, [.int (0 : Int32)]))]]) (fun v _ => v = none) (fun h9 => zU [[(a_R, .inr (8, [.int u]))]]) := by
  refine z_startG (cc := cX8_init) (maxL := 2) (ret := none) (by decide) rfl (Nat.le_of_ble_eq_true rfl) ?_
  intro p e s m args below meth c A hx hb hr hts hown hlocks hml hA hmn hJ Z ls hl
  replace hown : s.vm.findClass RX8 = some m.cls := hown
  replace hl : lv_has ls 2 [(0, .ref a_R), (1, .int p1)] := hl
  obtain ⟨Q9, hQ9⟩ : ∃ Q9 : State → Prop, Q9 = MQ below (zQG D (zTY cA) A (fun v _ => v = none) (fun h9 => zU [[(a_R, .inr (8, [.int u]))]])) args s 0 0 A := ⟨_, rfl⟩
  show W p l e ({ frames := 1, cells := 0, slots := 0, locals := 20 } : Room) s m args below meth c s.heap [] 0 0 (MQ below (zQG D (zTY cA) A (fun v _ => v = none) (fun h9 => zU [[(a_R, .inr (8, [.int u]))]])) args s 0 0 A) (F0 m 0 ls [])
  rw [← hQ9]
  obtain ⟨H, hH⟩ : ∃ H, H = s.heap := ⟨_, rfl⟩
  rw [← hH] at Z ⊢
  clear hH
  obtain ⟨locs, hlc⟩ : ∃ q : List Loc, q = [] := ⟨_, rfl⟩
  rw [← hlc] at Z ⊢
  clear hlc
  refine lv_aload_n (pc := 0) hx hb dX8_init_0 rfl (lv_at hl 0 rfl) ?_
  refine z_obj (pc := 1) hx hb hown hts (List.mem_of_getElem? (i := 1) rfl) (List.mem_of_getElem? (i := 2) rfl) (List.mem_of_getElem? (i := 3) rfl) (hml.trans hl.1.symm) dX8_init_1 (Nat.le_of_ble_eq_true rfl) (Nat.le_of_ble_eq_true rfl) ?_
  refine lv_aload_n (pc := 4) hx hb dX8_init_4 rfl (lv_at hl 0 rfl) ?_
  refine lv_iload_n (pc := 5) hx hb dX8_init_5 rfl (lv_at hl 1 rfl) ?_
  refine zu_put (ref := "LotSheetLaw$Random") (ci := 8) (C := RX8) (T := TX8) (N := 1) (L' := [[(a_R, .inr (8, [.int p1]))]]) (pc := 6) hx hb hts iw_X8_init_X8 tyX8 tyX8_ok nmX8 hown Z 0 rfl rfl 0 (by decide) (List.mem_of_getElem? (i := 4) rfl) rfl rfl rfl rfl (Nat.le_of_ble_eq_true rfl) dX8_init_6 rfl (fun H locs Z => ?_)
  have hu9 := Option.some.inj hf
  subst hu9
  rw [hQ9]
  exact zg_vret (pc := 9) (L' := [[(a_R, .inr (8, [.int p1]))]]) (fun _ => 0) (by show 0 ≤ 0; omega) (by show 0 ≤ 0; omega) hx hb hr hlocks Z [0] rfl (by decide) rfl rfl dX8_init_9
