def fX7_differs (w_ : ZL) : Option (Int32) := (if (w_.2.2.2.1) = (w_.2.2.2.2.1) then some ((0 : Int32)) else some ((1 : Int32)))
theorem iw_X7_differs_X7 : ∀ w ∈ u_ws RX7 TX7 6, w ∈ wsX7_differs := z_inr [3, 4, 5, 6, 7, 8] rfl
set_option maxHeartbeats 8000000 in
set_option maxRecDepth 100000 in
theorem kX7_differs (l : Launch) (D : va_G) (cA : Nat → ClassId) (g_P : Nat → Nat) (n_P : Nat) (v_P : Nat → ZL) (i_P : Nat) (hi_P : i_P < n_P) (u : Int32) (hf : fX7_differs (v_P i_P) = some u) : zG zJ l yX7_differs wsX7_differs ({ frames := 0, cells := 0, slots := 0, locals := 0 } : Room) D (zTY cA) [.ref (g_P i_P)] (zU [(zLs g_P n_P v_P)]) (fun v _ => v = some (.int u)) (fun h9 => zU [(zLs g_P n_P v_P)]) := by
  refine z_startG (cc := cX7_differs) (maxL := 1) (ret := (some .boolean)) (by decide) rfl (Nat.le_of_ble_eq_true rfl) ?_
  intro p e s m args below meth c A hx hb hr hts hown hlocks hml hA hmn hJ Z ls hl
  replace hown : s.vm.findClass RX7 = some m.cls := hown
  replace hl : lv_has ls 1 [(0, .ref (g_P i_P))] := hl
  obtain ⟨Q9, hQ9⟩ : ∃ Q9 : State → Prop, Q9 = MQ below (zQG D (zTY cA) A (fun v _ => v = some (.int u)) (fun h9 => zU [(zLs g_P n_P v_P)])) args s 0 0 A := ⟨_, rfl⟩
  show W p l e ({ frames := 0, cells := 0, slots := 0, locals := 0 } : Room) s m args below meth c s.heap [] 0 0 (MQ below (zQG D (zTY cA) A (fun v _ => v = some (.int u)) (fun h9 => zU [(zLs g_P n_P v_P)])) args s 0 0 A) (F0 m 0 ls [])
  rw [← hQ9]
  obtain ⟨H, hH⟩ : ∃ H, H = s.heap := ⟨_, rfl⟩
  rw [← hH] at Z ⊢
  clear hH
  obtain ⟨locs, hlc⟩ : ∃ q : List Loc, q = [] := ⟨_, rfl⟩
  rw [← hlc] at Z ⊢
  clear hlc
  refine lv_aload_n (pc := 0) hx hb dX7_differs_0 rfl (lv_at hl 0 rfl) ?_
  refine zu_getL (ref := "LotSheetLaw$Lot") (pc := 1) hx hb hts iw_X7_differs_X7 hown Z 0 rfl hi_P rfl 3 (by decide) (List.mem_of_getElem? (i := 1) rfl) rfl rfl dX7_differs_1 ?_
  refine lv_aload_n (pc := 4) hx hb dX7_differs_4 rfl (lv_at hl 0 rfl) ?_
  refine zu_getL (ref := "LotSheetLaw$Lot") (pc := 5) hx hb hts iw_X7_differs_X7 hown Z 0 rfl hi_P rfl 4 (by decide) (List.mem_of_getElem? (i := 2) rfl) rfl rfl dX7_differs_5 ?_
  refine lv_icmp_eq (tgt := 15) (pc := 8) hx hb dX7_differs_8 (by decide) (fun c1 => ?_) (fun c1 => ?_)
  · replace hf := o_pos c1 hf
    refine lv_iconst (v := (0 : Int32)) (pc := 15) hx hb dX7_differs_15 (by decide) ?_
    cases hf
    rw [hQ9]
    exact zg_zret (pc := 16) (L' := [(zLs g_P n_P v_P)]) (fun _ => 0) (by show 0 ≤ 0; omega) (by show 0 ≤ 0; omega) hx hb hr hlocks Z [0] rfl (by decide) rfl rfl (by decide) dX7_differs_16
  · replace hf := o_neg c1 hf
    refine lv_iconst (v := (1 : Int32)) (pc := 11) hx hb dX7_differs_11 (by decide) ?_
    refine lv_goto (tgt := 16) (pc := 12) hx hb dX7_differs_12 (by decide) ?_
    cases hf
    rw [hQ9]
    exact zg_zret (pc := 16) (L' := [(zLs g_P n_P v_P)]) (fun _ => 0) (by show 0 ≤ 0; omega) (by show 0 ≤ 0; omega) hx hb hr hlocks Z [0] rfl (by decide) rfl rfl (by decide) dX7_differs_16
