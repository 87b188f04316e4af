def fX6_init : Option ((Nat → Int32)) := o_let (upd (fun _ => 0) (0 : Int32).toNatClampNeg (1 : Int32)) (fun a2 => o_let (upd a2 (1 : Int32).toNatClampNeg (5 : Int32)) (fun a3 => o_let (upd a3 (2 : Int32).toNatClampNeg (10 : Int32)) (fun a4 => o_let (upd a4 (3 : Int32).toNatClampNeg (8 : Int32)) (fun a5 => o_let (upd a5 (4 : Int32).toNatClampNeg (2 : Int32)) (fun a6 => some (a6))))))
theorem iw_X6_init_X6 : ∀ w ∈ u_ws RX6 TX6 5, w ∈ wsX6_init := z_inr [10, 11, 12, 13, 14] rfl
set_option maxHeartbeats 8000000 in
set_option maxRecDepth 100000 in
theorem kX6_init (l : Launch) (D : va_G) (cA : Nat → ClassId) (a_B : Nat) (u : (Nat → Int32)) (hf : fX6_init = some u) : zG zJ l yX6_init wsX6_init ({ frames := 1, cells := 2, slots := 5, locals := 20 } : Room) D (zTY cA) [.ref a_B] (zU [[(a_B, .inr (6, [.int (0 : Int32), .int (0 : Int32), .int (0 : Int32), .null, .null]))]]) (fun v _ => v = none) (fun h9 => zU [[(a_B, .inr (6, [.int (20 : Int32), .int (3 : Int32), .int (0 : Int32), .ref (h9 0), .ref (h9 1)]))], [((h9 0), .inl (cA 0, 5, .inl u))], [((h9 1), .inl (cA 4, 0, .inr (.inr (.inr (.inr (fun i => some ((fun k => h9 (k + 2)) i)))))))], (zLs (fun k => h9 (k + 2)) 0 (fun _ => ((0 : Int32), (0 : Int32), (0 : Int32), (0 : Int32), (0 : Int32), (0 : Int32))))]) := by
  refine z_startG (cc := cX6_init) (maxL := 1) (ret := none) (by decide) rfl (Nat.le_of_ble_eq_true rfl) ?_
  intro p e s m args below meth c A hx hb hr hts hown hlocks hml hA hmn hJ Z ls hl
  replace hown : s.vm.findClass RX6 = some m.cls := hown
  replace hl : lv_has ls 1 [(0, .ref a_B)] := hl
  obtain ⟨Q9, hQ9⟩ : ∃ Q9 : State → Prop, Q9 = MQ below (zQG D (zTY cA) A (fun v _ => v = none) (fun h9 => zU [[(a_B, .inr (6, [.int (20 : Int32), .int (3 : Int32), .int (0 : Int32), .ref (h9 0), .ref (h9 1)]))], [((h9 0), .inl (cA 0, 5, .inl u))], [((h9 1), .inl (cA 4, 0, .inr (.inr (.inr (.inr (fun i => some ((fun k => h9 (k + 2)) i)))))))], (zLs (fun k => h9 (k + 2)) 0 (fun _ => ((0 : Int32), (0 : Int32), (0 : Int32), (0 : Int32), (0 : Int32), (0 : Int32))))])) args s 2 5 A := ⟨_, rfl⟩
  show W p l e ({ frames := 1, cells := 2, slots := 5, locals := 20 } : Room) s m args below meth c s.heap [] 0 0 (MQ below (zQG D (zTY cA) A (fun v _ => v = none) (fun h9 => zU [[(a_B, .inr (6, [.int (20 : Int32), .int (3 : Int32), .int (0 : Int32), .ref (h9 0), .ref (h9 1)]))], [((h9 0), .inl (cA 0, 5, .inl u))], [((h9 1), .inl (cA 4, 0, .inr (.inr (.inr (.inr (fun i => some ((fun k => h9 (k + 2)) i)))))))], (zLs (fun k => h9 (k + 2)) 0 (fun _ => ((0 : Int32), (0 : Int32), (0 : Int32), (0 : Int32), (0 : Int32), (0 : Int32))))])) args s 2 5 A) (F0 m 0 ls [])
  rw [← hQ9]
  obtain ⟨H, hH⟩ : ∃ H, H = s.heap := ⟨_, rfl⟩
  rw [← hH] at Z ⊢
  clear hH
  obtain ⟨locs, hlc⟩ : ∃ q : List Loc, q = [] := ⟨_, rfl⟩
  rw [← hlc] at Z ⊢
  clear hlc
  refine lv_aload_n (pc := 0) hx hb dX6_init_0 rfl (lv_at hl 0 rfl) ?_
  refine z_obj (pc := 1) hx hb hown hts (List.mem_of_getElem? (i := 1) rfl) (List.mem_of_getElem? (i := 2) rfl) (List.mem_of_getElem? (i := 3) rfl) (hml.trans hl.1.symm) dX6_init_1 (Nat.le_of_ble_eq_true rfl) (Nat.le_of_ble_eq_true rfl) ?_
  refine lv_aload_n (pc := 4) hx hb dX6_init_4 rfl (lv_at hl 0 rfl) ?_
  refine lv_bipush (v := (20 : Int32)) (pc := 5) hx hb dX6_init_5 (by decide) ?_
  refine zu_put (ref := "LotSheetLaw$Bill") (ci := 6) (C := RX6) (T := TX6) (N := 5) (L' := [[(a_B, .inr (6, [.int (20 : Int32), .int (0 : Int32), .int (0 : Int32), .null, .null]))]]) (pc := 7) hx hb hts iw_X6_init_X6 tyX6 tyX6_ok nmX6 hown Z 0 rfl rfl 0 (by decide) (List.mem_of_getElem? (i := 4) rfl) rfl rfl rfl rfl (Nat.le_of_ble_eq_true rfl) dX6_init_7 rfl (fun H locs Z => ?_)
  refine lv_aload_n (pc := 10) hx hb dX6_init_10 rfl (lv_at hl 0 rfl) ?_
  refine lv_iconst (v := (3 : Int32)) (pc := 11) hx hb dX6_init_11 (by decide) ?_
  refine zu_put (ref := "LotSheetLaw$Bill") (ci := 6) (C := RX6) (T := TX6) (N := 5) (L' := [[(a_B, .inr (6, [.int (20 : Int32), .int (3 : Int32), .int (0 : Int32), .null, .null]))]]) (pc := 12) hx hb hts iw_X6_init_X6 tyX6 tyX6_ok nmX6 hown Z 0 rfl rfl 1 (by decide) (List.mem_of_getElem? (i := 5) rfl) rfl rfl rfl rfl (Nat.le_of_ble_eq_true rfl) dX6_init_12 rfl (fun H locs Z => ?_)
  refine lv_aload_n (pc := 15) hx hb dX6_init_15 rfl (lv_at hl 0 rfl) ?_
  refine lv_iconst (v := (5 : Int32)) (pc := 16) hx hb dX6_init_16 (by decide) ?_
  refine zu_newa (atype := .int) (ty := .int) (a0 := (5, .inl (fun _ => 0))) 0 (pc := 17) hx hb hts (List.mem_of_getElem? (i := 6) rfl) rfl (fun _ => rfl) rfl Z hA (fun _ => rfl) (by decide +kernel) rfl (by decide +kernel) (by show 0 + 1 ≤ 2; omega) (by show 0 + 5 ≤ 5; omega) dX6_init_17 (fun q1 H Z => ?_)
  replace Z : zw D (zTY cA) s A (zU [[(a_B, .inr (6, [.int (20 : Int32), .int (3 : Int32), .int (0 : Int32), .null, .null]))], [(q1, .inl (cA 0, 5, .inl (fun _ => 0)))]]) H locs := Z
  refine lv_dup (pc := 19) hx hb dX6_init_19 rfl ?_
  refine lv_iconst (v := (0 : Int32)) (pc := 20) hx hb dX6_init_20 (by decide) ?_
  refine lv_iconst (v := (1 : Int32)) (pc := 21) hx hb dX6_init_21 (by decide) ?_
  refine zu_iast (pc := 22) hx hb Z 1 0 rfl rfl (show ¬ ((0 : Int32) < 0 ∨ 5 ≤ (0 : Int32).toNatClampNeg) by decide) dX6_init_22 (fun g => [[(a_B, .inr (6, [.int (20 : Int32), .int (3 : Int32), .int (0 : Int32), .null, .null]))], [(q1, .inl (cA 0, 5, .inl g))]]) (fun _ => rfl) (fun a2 H locs ea2 Z => ?_)
  replace hf := o_letE ea2 hf
  replace Z : zw D (zTY cA) s A (zU [[(a_B, .inr (6, [.int (20 : Int32), .int (3 : Int32), .int (0 : Int32), .null, .null]))], [(q1, .inl (cA 0, 5, .inl a2))]]) H locs := Z
  refine lv_dup (pc := 23) hx hb dX6_init_23 rfl ?_
  refine lv_iconst (v := (1 : Int32)) (pc := 24) hx hb dX6_init_24 (by decide) ?_
  refine lv_iconst (v := (5 : Int32)) (pc := 25) hx hb dX6_init_25 (by decide) ?_
  refine zu_iast (pc := 26) hx hb Z 1 0 rfl rfl (show ¬ ((1 : Int32) < 0 ∨ 5 ≤ (1 : Int32).toNatClampNeg) by decide) dX6_init_26 (fun g => [[(a_B, .inr (6, [.int (20 : Int32), .int (3 : Int32), .int (0 : Int32), .null, .null]))], [(q1, .inl (cA 0, 5, .inl g))]]) (fun _ => rfl) (fun a3 H locs ea3 Z => ?_)
  replace hf := o_letE ea3 hf
  replace Z : zw D (zTY cA) s A (zU [[(a_B, .inr (6, [.int (20 : Int32), .int (3 : Int32), .int (0 : Int32), .null, .null]))], [(q1, .inl (cA 0, 5, .inl a3))]]) H locs := Z
  refine lv_dup (pc := 27) hx hb dX6_init_27 rfl ?_
  refine lv_iconst (v := (2 : Int32)) (pc := 28) hx hb dX6_init_28 (by decide) ?_
  refine lv_bipush (v := (10 : Int32)) (pc := 29) hx hb dX6_init_29 (by decide) ?_
  refine zu_iast (pc := 31) hx hb Z 1 0 rfl rfl (show ¬ ((2 : Int32) < 0 ∨ 5 ≤ (2 : Int32).toNatClampNeg) by decide) dX6_init_31 (fun g => [[(a_B, .inr (6, [.int (20 : Int32), .int (3 : Int32), .int (0 : Int32), .null, .null]))], [(q1, .inl (cA 0, 5, .inl g))]]) (fun _ => rfl) (fun a4 H locs ea4 Z => ?_)
  replace hf := o_letE ea4 hf
  replace Z : zw D (zTY cA) s A (zU [[(a_B, .inr (6, [.int (20 : Int32), .int (3 : Int32), .int (0 : Int32), .null, .null]))], [(q1, .inl (cA 0, 5, .inl a4))]]) H locs := Z
  refine lv_dup (pc := 32) hx hb dX6_init_32 rfl ?_
  refine lv_iconst (v := (3 : Int32)) (pc := 33) hx hb dX6_init_33 (by decide) ?_
  refine lv_bipush (v := (8 : Int32)) (pc := 34) hx hb dX6_init_34 (by decide) ?_
  refine zu_iast (pc := 36) hx hb Z 1 0 rfl rfl (show ¬ ((3 : Int32) < 0 ∨ 5 ≤ (3 : Int32).toNatClampNeg) by decide) dX6_init_36 (fun g => [[(a_B, .inr (6, [.int (20 : Int32), .int (3 : Int32), .int (0 : Int32), .null, .null]))], [(q1, .inl (cA 0, 5, .inl g))]]) (fun _ => rfl) (fun a5 H locs ea5 Z => ?_)
  replace hf := o_letE ea5 hf
  replace Z : zw D (zTY cA) s A (zU [[(a_B, .inr (6, [.int (20 : Int32), .int (3 : Int32), .int (0 : Int32), .null, .null]))], [(q1, .inl (cA 0, 5, .inl a5))]]) H locs := Z
  refine lv_dup (pc := 37) hx hb dX6_init_37 rfl ?_
  refine lv_iconst (v := (4 : Int32)) (pc := 38) hx hb dX6_init_38 (by decide) ?_
  refine lv_iconst (v := (2 : Int32)) (pc := 39) hx hb dX6_init_39 (by decide) ?_
  refine zu_iast (pc := 40) hx hb Z 1 0 rfl rfl (show ¬ ((4 : Int32) < 0 ∨ 5 ≤ (4 : Int32).toNatClampNeg) by decide) dX6_init_40 (fun g => [[(a_B, .inr (6, [.int (20 : Int32), .int (3 : Int32), .int (0 : Int32), .null, .null]))], [(q1, .inl (cA 0, 5, .inl g))]]) (fun _ => rfl) (fun a6 H locs ea6 Z => ?_)
  replace hf := o_letE ea6 hf
  replace Z : zw D (zTY cA) s A (zU [[(a_B, .inr (6, [.int (20 : Int32), .int (3 : Int32), .int (0 : Int32), .null, .null]))], [(q1, .inl (cA 0, 5, .inl a6))]]) H locs := Z
  refine zu_put (ref := "LotSheetLaw$Bill") (ci := 6) (C := RX6) (T := TX6) (N := 5) (L' := [[(a_B, .inr (6, [.int (20 : Int32), .int (3 : Int32), .int (0 : Int32), .ref q1, .null]))], [(q1, .inl (cA 0, 5, .inl a6))]]) (pc := 41) hx hb hts iw_X6_init_X6 tyX6 tyX6_ok nmX6 hown Z 0 rfl rfl 3 (by decide) (List.mem_of_getElem? (i := 7) rfl) rfl rfl rfl rfl (Nat.le_of_ble_eq_true rfl) dX6_init_41 rfl (fun H locs Z => ?_)
  refine lv_aload_n (pc := 44) hx hb dX6_init_44 rfl (lv_at hl 0 rfl) ?_
  refine lv_iconst (v := (0 : Int32)) (pc := 45) hx hb dX6_init_45 (by decide) ?_
  refine zu_newq (N' := 0) 4 (pc := 46) hx hb hts hown (List.mem_of_getElem? (i := 8) rfl) hJ.2.2.1.1 rfl Z hA (by decide +kernel) (by decide +kernel) (by decide +kernel) (by show 1 + 1 ≤ 2; omega) (by show 5 + 0 ≤ 5; omega) dX6_init_46 (fun q7 H Z => ?_)
  replace Z : zw D (zTY cA) s A (zU [[(a_B, .inr (6, [.int (20 : Int32), .int (3 : Int32), .int (0 : Int32), .ref q1, .null]))], [(q1, .inl (cA 0, 5, .inl a6))], [(q7, .inl (cA 4, 0, .inr (.inr (.inr (.inr (fun _ => none))))))]]) H locs := Z
  refine zu_put (ref := "LotSheetLaw$Bill") (ci := 6) (C := RX6) (T := TX6) (N := 5) (L' := [[(a_B, .inr (6, [.int (20 : Int32), .int (3 : Int32), .int (0 : Int32), .ref q1, .ref q7]))], [(q1, .inl (cA 0, 5, .inl a6))], [(q7, .inl (cA 4, 0, .inr (.inr (.inr (.inr (fun _ => none))))))]]) (pc := 49) hx hb hts iw_X6_init_X6 tyX6 tyX6_ok nmX6 hown Z 0 rfl rfl 4 (by decide) (List.mem_of_getElem? (i := 9) rfl) rfl rfl rfl rfl (Nat.le_of_ble_eq_true rfl) dX6_init_49 rfl (fun H locs Z => ?_)
  replace Z := zu_qext (f' := fun i => some ((fun _ => 0) i)) Z 2 rfl (fun i hi => absurd hi (Nat.not_lt_zero i)) rfl
  replace Z : zw D (zTY cA) s A (zU [[(a_B, .inr (6, [.int (20 : Int32), .int (3 : Int32), .int (0 : Int32), .ref q1, .ref q7]))], [(q1, .inl (cA 0, 5, .inl a6))], [(q7, .inl (cA 4, 0, .inr (.inr (.inr (.inr (fun i => some ((fun _ => 0) i)))))))], (zLs (fun _ => 0) 0 (fun _ => ((0 : Int32), (0 : Int32), (0 : Int32), (0 : Int32), (0 : Int32), (0 : Int32))))]) H locs := Z
  have hu9 := Option.some.inj hf
  subst hu9
  rw [hQ9]
  exact zg_vret (pc := 52) (L' := [[(a_B, .inr (6, [.int (20 : Int32), .int (3 : Int32), .int (0 : Int32), .ref q1, .ref q7]))], [(q1, .inl (cA 0, 5, .inl a6))], [(q7, .inl (cA 4, 0, .inr (.inr (.inr (.inr (fun i => some ((fun _ => 0) i)))))))], (zLs (fun _ => 0) 0 (fun _ => ((0 : Int32), (0 : Int32), (0 : Int32), (0 : Int32), (0 : Int32), (0 : Int32))))]) (zhl [q1, q7] (fun _ => 0)) (by show 2 ≤ 2; omega) (by show 5 ≤ 5; omega) hx hb hr hlocks Z [0, 1, 2, 3] rfl (by decide) rfl rfl dX6_init_52
