def fX8_below (p1 : Int32) (R_seed : Int32) : Option (Int32 × Int32) := o_let (((1103515245 : Int32) * R_seed) + (12345 : Int32)) (fun x1 => o_as (¬ p1 = 0) (o_let (((x1.toUInt32 >>> ((16 : Int32).toUInt32 &&& Int32.toUInt32 31)).toInt32) - ((x1.toUInt32 >>> ((16 : Int32).toUInt32 &&& Int32.toUInt32 31)).toInt32) / p1 * p1) (fun x3 => some (x3, x1))))
theorem iw_X8_below_X8 : ∀ w ∈ u_ws RX8 TX8 1, w ∈ wsX8_below := z_inr [3] rfl
set_option maxHeartbeats 8000000 in
set_option maxRecDepth 100000 in
theorem kX8_below (l : Launch) (D : va_G) (cA : Nat → ClassId) (a_R : Nat) (p1 : Int32) (R_seed : Int32) (u : Int32 × Int32) (hf : fX8_below p1 R_seed = some u) : zG zJ l yX8_below wsX8_below ({ frames := 0, cells := 0, slots := 0, locals := 0 } : Room) D (zTY cA) [.ref a_R, .int p1] (zU [[(a_R, .inr (8, [.int R_seed]))]]) (fun v _ => v = some (.int u.1)) (fun h9 => zU [[(a_R, .inr (8, [.int (u.2)]))]]) := by
  refine z_startG (cc := cX8_below) (maxL := 2) (ret := (some .int)) (by decide) rfl (Nat.le_of_ble_eq_true rfl) ?_
  intro p e s m args below meth c A hx hb hr hts hown hlocks hml hA hmn hJ Z ls hl
  replace hown : s.vm.findClass RX8 = some m.cls := hown
  replace hl : lv_has ls 2 [(0, .ref a_R), (1, .int p1)] := hl
  obtain ⟨Q9, hQ9⟩ : ∃ Q9 : State → Prop, Q9 = MQ below (zQG D (zTY cA) A (fun v _ => v = some (.int u.1)) (fun h9 => zU [[(a_R, .inr (8, [.int (u.2)]))]])) args s 0 0 A := ⟨_, rfl⟩
  show W p l e ({ frames := 0, cells := 0, slots := 0, locals := 0 } : Room) s m args below meth c s.heap [] 0 0 (MQ below (zQG D (zTY cA) A (fun v _ => v = some (.int u.1)) (fun h9 => zU [[(a_R, .inr (8, [.int (u.2)]))]])) args s 0 0 A) (F0 m 0 ls [])
  rw [← hQ9]
  obtain ⟨H, hH⟩ : ∃ H, H = s.heap := ⟨_, rfl⟩
  rw [← hH] at Z ⊢
  clear hH
  obtain ⟨locs, hlc⟩ : ∃ q : List Loc, q = [] := ⟨_, rfl⟩
  rw [← hlc] at Z ⊢
  clear hlc
  refine lv_aload_n (pc := 0) hx hb dX8_below_0 rfl (lv_at hl 0 rfl) ?_
  refine lv_ldc (v := (1103515245 : Int32)) (pc := 1) hx hb hown (hts _ (List.mem_of_getElem? (i := 1) rfl)) dX8_below_1 ?_
  refine lv_aload_n (pc := 3) hx hb dX8_below_3 rfl (lv_at hl 0 rfl) ?_
  refine zu_get (ref := "LotSheetLaw$Random") (ci := 8) (C := RX8) (T := TX8) (N := 1) (pc := 4) hx hb hts iw_X8_below_X8 hown Z 0 rfl rfl 0 (by decide) (List.mem_of_getElem? (i := 2) rfl) rfl rfl dX8_below_4 ?_
  refine lv_imul (pc := 7) hx hb dX8_below_7 ?_
  refine lv_sipush (v := (12345 : Int32)) (pc := 8) hx hb dX8_below_8 (by decide) ?_
  refine lv_iadd (pc := 11) hx hb dX8_below_11 ?_
  refine lv_topi (fun x1 ex1 => ?_)
  replace hf := o_letE ex1 hf
  refine zu_put (ref := "LotSheetLaw$Random") (ci := 8) (C := RX8) (T := TX8) (N := 1) (L' := [[(a_R, .inr (8, [.int x1]))]]) (pc := 12) hx hb hts iw_X8_below_X8 tyX8 tyX8_ok nmX8 hown Z 0 rfl rfl 0 (by decide) (List.mem_of_getElem? (i := 2) rfl) rfl rfl rfl rfl (Nat.le_of_ble_eq_true rfl) dX8_below_12 rfl (fun H locs Z => ?_)
  refine lv_aload_n (pc := 15) hx hb dX8_below_15 rfl (lv_at hl 0 rfl) ?_
  refine zu_get (ref := "LotSheetLaw$Random") (ci := 8) (C := RX8) (T := TX8) (N := 1) (pc := 16) hx hb hts iw_X8_below_X8 hown Z 0 rfl rfl 0 (by decide) (List.mem_of_getElem? (i := 2) rfl) rfl rfl dX8_below_16 ?_
  refine lv_bipush (v := (16 : Int32)) (pc := 19) hx hb dX8_below_19 (by decide) ?_
  refine lv_iushr (pc := 21) hx hb dX8_below_21 rfl ?_
  refine lv_iload_n (pc := 22) hx hb dX8_below_22 rfl (lv_at hl 1 rfl) ?_
  obtain ⟨nz2, hf⟩ := o_asE hf
  refine lv_irem (pc := 23) hx hb dX8_below_23 nz2 ?_
  refine lv_topi (fun x3 ex3 => ?_)
  replace hf := o_letE ex3 hf
  cases hf
  rw [hQ9]
  exact zg_iret (pc := 24) (L' := [[(a_R, .inr (8, [.int x1]))]]) (fun _ => 0) (by show 0 ≤ 0; omega) (by show 0 ≤ 0; omega) hx hb hr hlocks Z [0] rfl (by decide) rfl rfl dX8_below_24
