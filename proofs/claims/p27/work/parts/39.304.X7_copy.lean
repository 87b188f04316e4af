def fX7_copy (w_ : ZL) : Option (Int32 × Int32 × Int32 × Int32 × Int32 × Int32) := o_bind (fX7_init) (fun _ => o_let (w_.1) (fun x3 => o_let (w_.2.1) (fun x4 => o_let (w_.2.2.1) (fun x5 => o_let (w_.2.2.2.1) (fun x6 => o_as (x6 = 0 ∨ x6 = 1) (o_let (w_.2.2.2.2.1) (fun x8 => o_as (x8 = 0 ∨ x8 = 1) (o_let (w_.2.2.2.2.2) (fun x10 => o_as (x10 = 0 ∨ x10 = 1) (some (x3, x4, x5, x6, x8, x10)))))))))))
theorem iw_X7_copy_X7 : ∀ w ∈ u_ws RX7 TX7 6, w ∈ wsX7_copy := z_inr [16, 17, 18, 19, 20, 21] rfl
set_option maxHeartbeats 8000000 in
set_option maxRecDepth 100000 in
theorem kX7_copy (l : Launch) (D : va_G) (cA : Nat → ClassId) (g_P : Nat → Nat) (n_P : Nat) (v_P : Nat → ZL) (i_P : Nat) (hi_P : i_P < n_P) (u : Int32 × Int32 × Int32 × Int32 × Int32 × Int32) (hf : fX7_copy (v_P i_P) = some u) : zG zJ l yX7_copy wsX7_copy ({ frames := 2, cells := 1, slots := 6, locals := 40 } : Room) D (zTY cA) [.ref (g_P i_P)] (zU [(zLs g_P n_P v_P)]) (fun v h => v = some (.ref (h 0))) (fun h9 => zU [(zLs g_P n_P v_P), [zLot (h9 0) ((u.1), (u.2.1), (u.2.2.1), (u.2.2.2.1), (u.2.2.2.2.1), (u.2.2.2.2.2))]]) := by
  refine z_startG (cc := cX7_copy) (maxL := 2) (ret := (some (.object "LotSheetLaw$Lot"))) (by decide) rfl (Nat.le_of_ble_eq_true rfl) ?_
  intro p e s m args below meth c A hx hb hr hts hown hlocks hml hA hmn hJ Z ls hl
  replace hown : s.vm.findClass RX7 = some m.cls := hown
  replace hl : lv_has ls 2 [(0, .ref (g_P i_P))] := hl
  obtain ⟨Q9, hQ9⟩ : ∃ Q9 : State → Prop, Q9 = MQ below (zQG D (zTY cA) A (fun v h => v = some (.ref (h 0))) (fun h9 => zU [(zLs g_P n_P v_P), [zLot (h9 0) ((u.1), (u.2.1), (u.2.2.1), (u.2.2.2.1), (u.2.2.2.2.1), (u.2.2.2.2.2))]])) args s 1 6 A := ⟨_, rfl⟩
  show W p l e ({ frames := 2, cells := 1, slots := 6, locals := 40 } : Room) s m args below meth c s.heap [] 0 0 (MQ below (zQG D (zTY cA) A (fun v h => v = some (.ref (h 0))) (fun h9 => zU [(zLs g_P n_P v_P), [zLot (h9 0) ((u.1), (u.2.1), (u.2.2.1), (u.2.2.2.1), (u.2.2.2.2.1), (u.2.2.2.2.2))]])) args s 1 6 A) (F0 m 0 ls [])
  rw [← hQ9]
  obtain ⟨H, hH⟩ : ∃ H, H = s.heap := ⟨_, rfl⟩
  rw [← hH] at Z ⊢
  clear hH
  obtain ⟨locs, hlc⟩ : ∃ q : List Loc, q = [] := ⟨_, rfl⟩
  rw [← hlc] at Z ⊢
  clear hlc
  refine zu_new (ci := 7) (fs := [.int 0, .int 0, .int 0, .int 0, .int 0, .int 0]) (C := RX7) (T := TX7) (N := 6) (pc := 0) hx hb hts iw_X7_copy_X7 tyX7 tyX7_ok hown (List.mem_of_getElem? (i := 1) rfl) (List.mem_of_getElem? (i := 2) rfl) (List.mem_of_getElem? (i := 3) rfl) Z hA rfl (by decide +kernel) (by show 0 + 1 ≤ 1; omega) (by show 0 + 6 ≤ 6; omega) dX7_copy_0 (fun q1 H Z => ?_)
  replace Z : zw D (zTY cA) s A (zU [(zLs g_P n_P v_P), [zLot q1 ((0 : Int32), (0 : Int32), (0 : Int32), (0 : Int32), (0 : Int32), (0 : Int32))]]) H locs := Z
  refine lv_dup (pc := 3) hx hb dX7_copy_3 rfl ?_
  obtain ⟨_, h2, hf⟩ := o_bindE hf
  refine zg_callIv (pc := 4) (As := []) (rest := [.ref q1]) (LF := [(zLs g_P n_P v_P)]) (Lc := [[zLot q1 ((0 : Int32), (0 : Int32), (0 : Int32), (0 : Int32), (0 : Int32), (0 : Int32))]]) zJ_pass hJ ⟨hx, hb, hml, hown, hts⟩ (kX7_init l D cA q1 _ h2) (cwI 0 hts gX7_copy_X7_init rfl rfl rfl (hts _ (List.mem_of_getElem? (i := 3) rfl)) (hts _ (List.mem_of_getElem? (i := 10) rfl)) (hts _ (List.mem_of_getElem? (i := 11) rfl)) rfl (by decide +kernel) ⟨(Nat.le_of_ble_eq_true rfl), (Nat.le_of_ble_eq_true rfl)⟩) Z hA [1, 0] rfl (by decide) rfl hl.1 rfl (Nat.le_of_ble_eq_true rfl) dX7_copy_4 ⟨(by show 1 + 0 ≤ 1; omega), (by show 6 + 0 ≤ 6; omega)⟩ (fun _ H locs Z => ?_)
  replace Z : zw D (zTY cA) s A (zU [(zLs g_P n_P v_P), [zLot q1 ((0 : Int32), (0 : Int32), (0 : Int32), (0 : Int32), (0 : Int32), (0 : Int32))]]) H locs := Z
  refine lv_astore_n (lv' := [(1, .ref q1), (0, .ref (g_P i_P))]) (pc := 7) hx hb dX7_copy_7 rfl hl (by decide) rfl (fun ls hl => ?_)
  refine lv_aload_n (pc := 8) hx hb dX7_copy_8 rfl (lv_at hl 0 rfl) ?_
  refine lv_aload_n (pc := 9) hx hb dX7_copy_9 rfl (lv_at hl 1 rfl) ?_
  refine zu_getL (ref := "LotSheetLaw$Lot") (pc := 10) hx hb hts iw_X7_copy_X7 hown Z 0 rfl hi_P rfl 0 (by decide) (List.mem_of_getElem? (i := 4) rfl) rfl rfl dX7_copy_10 ?_
  refine lv_topi (fun x3 ex3 => ?_)
  replace hf := o_letE ex3 hf
  refine zu_put (ref := "LotSheetLaw$Lot") (ci := 7) (C := RX7) (T := TX7) (N := 6) (L' := [(zLs g_P n_P v_P), [zLot q1 (x3, (0 : Int32), (0 : Int32), (0 : Int32), (0 : Int32), (0 : Int32))]]) (pc := 13) hx hb hts iw_X7_copy_X7 tyX7 tyX7_ok nmX7 hown Z 1 rfl rfl 0 (by decide) (List.mem_of_getElem? (i := 4) rfl) rfl rfl rfl rfl (Nat.le_of_ble_eq_true rfl) dX7_copy_13 rfl (fun H locs Z => ?_)
  refine lv_aload_n (pc := 16) hx hb dX7_copy_16 rfl (lv_at hl 0 rfl) ?_
  refine lv_aload_n (pc := 17) hx hb dX7_copy_17 rfl (lv_at hl 1 rfl) ?_
  refine zu_getL (ref := "LotSheetLaw$Lot") (pc := 18) hx hb hts iw_X7_copy_X7 hown Z 0 rfl hi_P rfl 1 (by decide) (List.mem_of_getElem? (i := 5) rfl) rfl rfl dX7_copy_18 ?_
  refine lv_topi (fun x4 ex4 => ?_)
  replace hf := o_letE ex4 hf
  refine zu_put (ref := "LotSheetLaw$Lot") (ci := 7) (C := RX7) (T := TX7) (N := 6) (L' := [(zLs g_P n_P v_P), [zLot q1 (x3, x4, (0 : Int32), (0 : Int32), (0 : Int32), (0 : Int32))]]) (pc := 21) hx hb hts iw_X7_copy_X7 tyX7 tyX7_ok nmX7 hown Z 1 rfl rfl 1 (by decide) (List.mem_of_getElem? (i := 5) rfl) rfl rfl rfl rfl (Nat.le_of_ble_eq_true rfl) dX7_copy_21 rfl (fun H locs Z => ?_)
  refine lv_aload_n (pc := 24) hx hb dX7_copy_24 rfl (lv_at hl 0 rfl) ?_
  refine lv_aload_n (pc := 25) hx hb dX7_copy_25 rfl (lv_at hl 1 rfl) ?_
  refine zu_getL (ref := "LotSheetLaw$Lot") (pc := 26) hx hb hts iw_X7_copy_X7 hown Z 0 rfl hi_P rfl 2 (by decide) (List.mem_of_getElem? (i := 6) rfl) rfl rfl dX7_copy_26 ?_
  refine lv_topi (fun x5 ex5 => ?_)
  replace hf := o_letE ex5 hf
  refine zu_put (ref := "LotSheetLaw$Lot") (ci := 7) (C := RX7) (T := TX7) (N := 6) (L' := [(zLs g_P n_P v_P), [zLot q1 (x3, x4, x5, (0 : Int32), (0 : Int32), (0 : Int32))]]) (pc := 29) hx hb hts iw_X7_copy_X7 tyX7 tyX7_ok nmX7 hown Z 1 rfl rfl 2 (by decide) (List.mem_of_getElem? (i := 6) rfl) rfl rfl rfl rfl (Nat.le_of_ble_eq_true rfl) dX7_copy_29 rfl (fun H locs Z => ?_)
  refine lv_aload_n (pc := 32) hx hb dX7_copy_32 rfl (lv_at hl 0 rfl) ?_
  refine lv_aload_n (pc := 33) hx hb dX7_copy_33 rfl (lv_at hl 1 rfl) ?_
  refine zu_getL (ref := "LotSheetLaw$Lot") (pc := 34) hx hb hts iw_X7_copy_X7 hown Z 0 rfl hi_P rfl 3 (by decide) (List.mem_of_getElem? (i := 7) rfl) rfl rfl dX7_copy_34 ?_
  refine lv_topi (fun x6 ex6 => ?_)
  replace hf := o_letE ex6 hf
  obtain ⟨hz7, hf⟩ := o_asE hf
  refine zu_put (ref := "LotSheetLaw$Lot") (ci := 7) (C := RX7) (T := TX7) (N := 6) (L' := [(zLs g_P n_P v_P), [zLot q1 (x3, x4, x5, x6, (0 : Int32), (0 : Int32))]]) (pc := 37) hx hb hts iw_X7_copy_X7 tyX7 tyX7_ok nmX7 hown Z 1 rfl rfl 3 (by decide) (List.mem_of_getElem? (i := 7) rfl) rfl rfl (z_b01 hz7) (z_f01 hz7) (Nat.le_of_ble_eq_true rfl) dX7_copy_37 rfl (fun H locs Z => ?_)
  refine lv_aload_n (pc := 40) hx hb dX7_copy_40 rfl (lv_at hl 0 rfl) ?_
  refine lv_aload_n (pc := 41) hx hb dX7_copy_41 rfl (lv_at hl 1 rfl) ?_
  refine zu_getL (ref := "LotSheetLaw$Lot") (pc := 42) hx hb hts iw_X7_copy_X7 hown Z 0 rfl hi_P rfl 4 (by decide) (List.mem_of_getElem? (i := 8) rfl) rfl rfl dX7_copy_42 ?_
  refine lv_topi (fun x8 ex8 => ?_)
  replace hf := o_letE ex8 hf
  obtain ⟨hz9, hf⟩ := o_asE hf
  refine zu_put (ref := "LotSheetLaw$Lot") (ci := 7) (C := RX7) (T := TX7) (N := 6) (L' := [(zLs g_P n_P v_P), [zLot q1 (x3, x4, x5, x6, x8, (0 : Int32))]]) (pc := 45) hx hb hts iw_X7_copy_X7 tyX7 tyX7_ok nmX7 hown Z 1 rfl rfl 4 (by decide) (List.mem_of_getElem? (i := 8) rfl) rfl rfl (z_b01 hz9) (z_f01 hz9) (Nat.le_of_ble_eq_true rfl) dX7_copy_45 rfl (fun H locs Z => ?_)
  refine lv_aload_n (pc := 48) hx hb dX7_copy_48 rfl (lv_at hl 0 rfl) ?_
  refine lv_aload_n (pc := 49) hx hb dX7_copy_49 rfl (lv_at hl 1 rfl) ?_
  refine zu_getL (ref := "LotSheetLaw$Lot") (pc := 50) hx hb hts iw_X7_copy_X7 hown Z 0 rfl hi_P rfl 5 (by decide) (List.mem_of_getElem? (i := 9) rfl) rfl rfl dX7_copy_50 ?_
  refine lv_topi (fun x10 ex10 => ?_)
  replace hf := o_letE ex10 hf
  obtain ⟨hz11, hf⟩ := o_asE hf
  refine zu_put (ref := "LotSheetLaw$Lot") (ci := 7) (C := RX7) (T := TX7) (N := 6) (L' := [(zLs g_P n_P v_P), [zLot q1 (x3, x4, x5, x6, x8, x10)]]) (pc := 53) hx hb hts iw_X7_copy_X7 tyX7 tyX7_ok nmX7 hown Z 1 rfl rfl 5 (by decide) (List.mem_of_getElem? (i := 9) rfl) rfl rfl (z_b01 hz11) (z_f01 hz11) (Nat.le_of_ble_eq_true rfl) dX7_copy_53 rfl (fun H locs Z => ?_)
  refine lv_aload_n (pc := 56) hx hb dX7_copy_56 rfl (lv_at hl 0 rfl) ?_
  cases hf
  rw [hQ9]
  exact zg_aret (pc := 57) (L' := [(zLs g_P n_P v_P), [zLot q1 (x3, x4, x5, x6, x8, x10)]]) (zhl [q1] (fun _ => 0)) (by show 1 ≤ 1; omega) (by show 6 ≤ 6; omega) hx hb hr (Or.inl ⟨_, rfl⟩) (Or.inr ⟨_, rfl⟩) hlocks Z [0, 1] rfl (by decide) rfl rfl dX7_copy_57
