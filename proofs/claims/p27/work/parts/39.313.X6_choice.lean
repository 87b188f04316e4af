def fX6_choice_L300 (B_costs : Nat → Int32) : Nat → Int32 → (Nat → Int32) → Option ((Nat → Int32))
  | 0, _, _ => none
  | n0 + 1, x28, a29 => (if (5 : Int32) ≤ x28 then some (a29) else o_rd 7 (x28 + (1 : Int32)) (o_rd 5 x28 (o_let (upd a29 (0 : Int32).toNatClampNeg ((a29 (0 : Int32).toNatClampNeg) + ((a29 (x28 + (1 : Int32)).toNatClampNeg) * (B_costs x28.toNatClampNeg)))) (fun a33 => o_let (x28 + (1 : Int32)) (fun x34 => (fX6_choice_L300 B_costs n0 x34 a33))))))
def fX6_choice_L207 (B_n : Nat) (B_v : Nat → ZL) (j256_17 : (Nat → Int32) → Option ((Nat → Int32))) (p1 : Int32) : Nat → Int32 → (Nat → Int32) → Option ((Nat → Int32))
  | 0, _, _ => none
  | n0 + 1, x35, a36 => o_bind (fX6_different B_n B_v) (fun x37 => (if x37 ≤ x35 then (j256_17 a36) else (if ((p1 >>> (x35 &&& 31)) &&& (1 : Int32)) = 0 then o_bind (fX6_indexOf x35 B_n B_v) (fun x42 => o_rd B_n x42 ((if ((B_v x42.toNatClampNeg).2.2.2.2.2) = 0 then o_let (upd a36 (5 : Int32).toNatClampNeg ((a36 (5 : Int32).toNatClampNeg) + (1 : Int32))) (fun a47 => o_let (x35 + (1 : Int32)) (fun x48 => (fX6_choice_L207 B_n B_v j256_17 p1 n0 x48 a47))) else o_let (x35 + (1 : Int32)) (fun x46 => (fX6_choice_L207 B_n B_v j256_17 p1 n0 x46 a36))))) else o_let (x35 + (1 : Int32)) (fun x41 => (fX6_choice_L207 B_n B_v j256_17 p1 n0 x41 a36)))))
def fX6_choice_L47 (x13 : Int32) (j204_15 : (Nat → Int32) → Option ((Nat → Int32))) (B_height : Int32) (B_n : Nat) (B_v : Nat → ZL) (a1 : Nat → Int32) (a4 : Nat → Int32) : Nat → Int32 → Int32 → Int32 → (Nat → Int32) → Option ((Nat → Int32))
  | 0, _, _, _, _ => none
  | n0 + 1, x49, x50, x51, a52 => (if x13 ≤ x51 then (j204_15 a52) else o_as (¬ B_height = 0) (o_let (x51 - x51 / B_height * B_height) (fun x55 => o_let (fun (x57 : Int32) => o_as (¬ ((4 : Int32) * B_height) = 0) (o_let (x51 - x51 / ((4 : Int32) * B_height) * ((4 : Int32) * B_height)) (fun x60 => o_let (fun (x62 : Int32) => o_bind (fX6_standing x51 B_n B_v B_n a1) (fun x64 => o_bind (fX6_standing x51 B_n B_v B_n a4) (fun x66 => o_let (fun (x69 : Int32) => (if x69 = 0 then o_let (upd a52 (1 : Int32).toNatClampNeg ((a52 (1 : Int32).toNatClampNeg) + (1 : Int32))) (fun a72 => o_let (fun (a74 : Nat → Int32) => o_let (fun (a77 : Nat → Int32) => o_let (x51 + (1 : Int32)) (fun x79 => (fX6_choice_L47 x13 j204_15 B_height B_n B_v a1 a4 n0 (1 : Int32) (1 : Int32) x79 a77))) (fun (j192_78 : (Nat → Int32) → Option ((Nat → Int32))) => (if x62 = 0 then o_let (upd a74 (3 : Int32).toNatClampNeg ((a74 (3 : Int32).toNatClampNeg) + (1 : Int32))) (fun a80 => (j192_78 a80)) else (j192_78 a74)))) (fun (j179_75 : (Nat → Int32) → Option ((Nat → Int32))) => (if x57 = 0 then o_let (upd a72 (2 : Int32).toNatClampNeg ((a72 (2 : Int32).toNatClampNeg) + (1 : Int32))) (fun a81 => (j179_75 a81)) else (j179_75 a72)))) else o_let (x51 + (1 : Int32)) (fun x82 => (fX6_choice_L47 x13 j204_15 B_height B_n B_v a1 a4 n0 x57 x62 x82 a52)))) (fun (j148_70 : Int32 → Option ((Nat → Int32))) => (if x64 = x66 then (if x64 < 0 then (j148_70 (1 : Int32)) else o_let (x64 - x64 / (10 : Int32) * (10 : Int32)) (fun x84 => (if 0 < x84 then (j148_70 (1 : Int32)) else o_let (x64 / (10 : Int32)) (fun x86 => o_bind (fX6_number x86 B_n a1) (fun x87 => o_let (x64 / (10 : Int32)) (fun x89 => o_bind (fX6_number x89 B_n a4) (fun x90 => (if x87 = x90 then (j148_70 (1 : Int32)) else (j148_70 (0 : Int32)))))))))) else (j148_70 (0 : Int32))))))) (fun (j82_63 : Int32 → Option ((Nat → Int32))) => (if x60 = 0 then (j82_63 (0 : Int32)) else (j82_63 x50)))))) (fun (j67_58 : Int32 → Option ((Nat → Int32))) => (if x55 = 0 then (j67_58 (0 : Int32)) else (j67_58 x49))))))
def fX6_choice (p1 : Int32) (B_height : Int32) (B_room : Int32) (B_costs : Nat → Int32) (B_n : Nat) (B_v : Nat → ZL) : Option ((Nat → Int32)) := o_bind (fX6_places (0 : Int32) B_height B_n B_v) (fun a1 => o_bind (fX6_places p1 B_height B_n B_v) (fun a4 => o_bind (fX6_pages B_height B_n a1) (fun x8 => o_bind (fX6_pages B_height B_n a4) (fun x10 => o_let (if x8 < x10 then x10 else x8) (fun x12 => o_let (B_height * x12) (fun x13 => o_let (fun (a14 : Nat → Int32) => o_let (fun (a16 : Nat → Int32) => o_as (¬ B_room = 0) (o_as (¬ B_room = 0) (o_let ((a16 (5 : Int32).toNatClampNeg) - (a16 (5 : Int32).toNatClampNeg) / B_room * B_room) (fun x20 => o_let (fun (x22 : Int32) => o_let (upd a16 (4 : Int32).toNatClampNeg (((a16 (5 : Int32).toNatClampNeg) / B_room) + x22)) (fun a24 => o_bind (fX6_pages B_height B_n a4) (fun x25 => o_let (upd a24 (6 : Int32).toNatClampNeg x25) (fun a27 => (fX6_choice_L300 B_costs 1024 (0 : Int32) a27))))) (fun (j285_23 : Int32 → Option ((Nat → Int32))) => (if x20 ≤ 0 then (j285_23 (0 : Int32)) else (j285_23 (1 : Int32)))))))) (fun (j256_17 : (Nat → Int32) → Option ((Nat → Int32))) => (fX6_choice_L207 B_n B_v j256_17 p1 1024 (0 : Int32) a14))) (fun (j204_15 : (Nat → Int32) → Option ((Nat → Int32))) => (fX6_choice_L47 x13 j204_15 B_height B_n B_v a1 a4 1024 (0 : Int32) (0 : Int32) (0 : Int32) (fun _ => 0)))))))))
theorem iw_X6_choice_X6 : ∀ w ∈ u_ws RX6 TX6 5, w ∈ wsX6_choice := z_inr [50, 51, 52, 53, 54] rfl
theorem iw_X6_choice_X7 : ∀ w ∈ u_ws RX7 TX7 6, w ∈ wsX6_choice := z_inr [55, 56, 57, 58, 59, 60] rfl
set_option maxHeartbeats 8000000 in
set_option maxRecDepth 100000 in
theorem kX6_choice (l : Launch) (D : va_G) (cA : Nat → ClassId) (a_B : Nat) (c_B : Nat) (l_B : Nat) (g_B : Nat → Nat) (p1 : Int32) (B_height : Int32) (B_room : Int32) (B_account : Int32) (B_costs : Nat → Int32) (B_n : Nat) (B_v : Nat → ZL) (u : (Nat → Int32)) (hf : fX6_choice p1 B_height B_room B_costs B_n B_v = some u) : zG zJ l yX6_choice wsX6_choice ({ frames := 3, cells := 3, slots := 39, locals := 69 } : Room) D (zTY cA) [.ref a_B, .int p1] (zU [[(a_B, .inr (6, [.int B_height, .int B_room, .int B_account, .ref c_B, .ref l_B]))], [(c_B, .inl (cA 0, 5, .inl B_costs))], [(l_B, .inl (cA 4, B_n, .inr (.inr (.inr (.inr (fun i => some (g_B i)))))))], (zLs g_B B_n B_v)]) (fun v h => v = some (.ref (h 0))) (fun h9 => zU [[(a_B, .inr (6, [.int B_height, .int B_room, .int B_account, .ref c_B, .ref l_B]))], [(c_B, .inl (cA 0, 5, .inl B_costs))], [(l_B, .inl (cA 4, B_n, .inr (.inr (.inr (.inr (fun i => some (g_B i)))))))], (zLs g_B B_n B_v), [((h9 0), .inl (cA 0, 7, .inl u))]]) := by
  refine z_startG (cc := cX6_choice) (maxL := 12) (ret := (some (.array .int))) (by decide) rfl (Nat.le_of_ble_eq_true rfl) ?_
  intro p e s m args below meth c A hx hb hr hts hown hlocks hml hA hmn hJ Z ls hl
  replace hown : s.vm.findClass RX6 = some m.cls := hown
  replace hl : lv_has ls 12 [(0, .ref a_B), (1, .int p1)] := hl
  obtain ⟨Q9, hQ9⟩ : ∃ Q9 : State → Prop, Q9 = MQ below (zQG D (zTY cA) A (fun v h => v = some (.ref (h 0))) (fun h9 => zU [[(a_B, .inr (6, [.int B_height, .int B_room, .int B_account, .ref c_B, .ref l_B]))], [(c_B, .inl (cA 0, 5, .inl B_costs))], [(l_B, .inl (cA 4, B_n, .inr (.inr (.inr (.inr (fun i => some (g_B i)))))))], (zLs g_B B_n B_v), [((h9 0), .inl (cA 0, 7, .inl u))]])) args s 3 39 A := ⟨_, rfl⟩
  show W p l e ({ frames := 3, cells := 3, slots := 39, locals := 69 } : Room) s m args below meth c s.heap [] 0 0 (MQ below (zQG D (zTY cA) A (fun v h => v = some (.ref (h 0))) (fun h9 => zU [[(a_B, .inr (6, [.int B_height, .int B_room, .int B_account, .ref c_B, .ref l_B]))], [(c_B, .inl (cA 0, 5, .inl B_costs))], [(l_B, .inl (cA 4, B_n, .inr (.inr (.inr (.inr (fun i => some (g_B i)))))))], (zLs g_B B_n B_v), [((h9 0), .inl (cA 0, 7, .inl u))]])) args s 3 39 A) (F0 m 0 ls [])
  rw [← hQ9]
  obtain ⟨H, hH⟩ : ∃ H, H = s.heap := ⟨_, rfl⟩
  rw [← hH] at Z ⊢
  clear hH
  obtain ⟨locs, hlc⟩ : ∃ q : List Loc, q = [] := ⟨_, rfl⟩
  rw [← hlc] at Z ⊢
  clear hlc
  refine lv_aload_n (pc := 0) hx hb dX6_choice_0 rfl (lv_at hl 0 rfl) ?_
  refine lv_iconst (v := (0 : Int32)) (pc := 1) hx hb dX6_choice_1 (by decide) ?_
  obtain ⟨a1, h2, hf⟩ := o_bindE hf
  refine zg_callVr (pc := 2) (As := [.int (0 : Int32)]) (rest := []) (LF := []) (Lc := [[(a_B, .inr (6, [.int B_height, .int B_room, .int B_account, .ref c_B, .ref l_B]))], [(c_B, .inl (cA 0, 5, .inl B_costs))], [(l_B, .inl (cA 4, B_n, .inr (.inr (.inr (.inr (fun i => some (g_B i)))))))], (zLs g_B B_n B_v)]) zJ_pass hJ ⟨hx, hb, hml, hown, hts⟩ (kX6_places l D cA a_B c_B l_B g_B (0 : Int32) B_height B_room B_account B_costs B_n B_v _ h2) (cwV 1 hts gX6_choice_X6_places rfl rfl rfl (by decide +kernel) ⟨(Nat.le_of_ble_eq_true rfl), (Nat.le_of_ble_eq_true rfl)⟩) Z hA [0, 1, 2, 3] rfl (by decide) (ci := 6) rfl 0 0 rfl rfl rfl rfl hl.1 rfl (Nat.le_of_ble_eq_true rfl) dX6_choice_2 ⟨(by show 0 + 1 ≤ 3; omega), (by show 0 + 16 ≤ 39; omega)⟩ (fun h3 H locs Z => ?_)
  refine W.widen (k := 1) (n := 16) (by show 0 + 1 ≤ _; omega) (by show 0 + 16 ≤ _; omega) ?_
  replace Z : zw D (zTY cA) s A (zU [[(a_B, .inr (6, [.int B_height, .int B_room, .int B_account, .ref c_B, .ref l_B]))], [(c_B, .inl (cA 0, 5, .inl B_costs))], [(l_B, .inl (cA 4, B_n, .inr (.inr (.inr (.inr (fun i => some (g_B i)))))))], (zLs g_B B_n B_v), [((h3 0), .inl (cA 0, B_n, .inl a1))]]) H locs := Z
  refine lv_astore_n (lv' := [(2, .ref (h3 0)), (0, .ref a_B), (1, .int p1)]) (pc := 5) hx hb dX6_choice_5 rfl hl (by decide) rfl (fun ls hl => ?_)
  refine lv_aload_n (pc := 6) hx hb dX6_choice_6 rfl (lv_at hl 1 rfl) ?_
  refine lv_iload_n (pc := 7) hx hb dX6_choice_7 rfl (lv_at hl 2 rfl) ?_
  obtain ⟨a4, h5, hf⟩ := o_bindE hf
  refine zg_callVr (pc := 8) (As := [.int p1]) (rest := []) (LF := [[((h3 0), .inl (cA 0, B_n, .inl a1))]]) (Lc := [[(a_B, .inr (6, [.int B_height, .int B_room, .int B_account, .ref c_B, .ref l_B]))], [(c_B, .inl (cA 0, 5, .inl B_costs))], [(l_B, .inl (cA 4, B_n, .inr (.inr (.inr (.inr (fun i => some (g_B i)))))))], (zLs g_B B_n B_v)]) zJ_pass hJ ⟨hx, hb, hml, hown, hts⟩ (kX6_places l D cA a_B c_B l_B g_B p1 B_height B_room B_account B_costs B_n B_v _ h5) (cwV 1 hts gX6_choice_X6_places rfl rfl rfl (by decide +kernel) ⟨(Nat.le_of_ble_eq_true rfl), (Nat.le_of_ble_eq_true rfl)⟩) Z hA [0, 1, 2, 3, 4] rfl (by decide) (ci := 6) rfl 0 0 rfl rfl rfl rfl hl.1 rfl (Nat.le_of_ble_eq_true rfl) dX6_choice_8 ⟨(by show 1 + 1 ≤ 3; omega), (by show 16 + 16 ≤ 39; omega)⟩ (fun h6 H locs Z => ?_)
  refine W.widen (k := 2) (n := 32) (by show 1 + 1 ≤ _; omega) (by show 16 + 16 ≤ _; omega) ?_
  replace Z : zw D (zTY cA) s A (zU [[((h3 0), .inl (cA 0, B_n, .inl a1))], [(a_B, .inr (6, [.int B_height, .int B_room, .int B_account, .ref c_B, .ref l_B]))], [(c_B, .inl (cA 0, 5, .inl B_costs))], [(l_B, .inl (cA 4, B_n, .inr (.inr (.inr (.inr (fun i => some (g_B i)))))))], (zLs g_B B_n B_v), [((h6 0), .inl (cA 0, B_n, .inl a4))]]) H locs := Z
  refine lv_astore_n (lv' := [(3, .ref (h6 0)), (2, .ref (h3 0)), (0, .ref a_B), (1, .int p1)]) (pc := 11) hx hb dX6_choice_11 rfl hl (by decide) rfl (fun ls hl => ?_)
  refine lv_bipush (v := (7 : Int32)) (pc := 12) hx hb dX6_choice_12 (by decide) ?_
  refine zu_newa (atype := .int) (ty := .int) (a0 := (7, .inl (fun _ => 0))) 0 (pc := 14) hx hb hts (List.mem_of_getElem? (i := 1) rfl) rfl (fun _ => rfl) rfl Z hA (fun _ => rfl) (by decide +kernel) rfl (by decide +kernel) (by show 2 + 1 ≤ 3; omega) (by show 32 + 7 ≤ 39; omega) dX6_choice_14 (fun q7 H Z => ?_)
  replace Z : zw D (zTY cA) s A (zU [[((h3 0), .inl (cA 0, B_n, .inl a1))], [(a_B, .inr (6, [.int B_height, .int B_room, .int B_account, .ref c_B, .ref l_B]))], [(c_B, .inl (cA 0, 5, .inl B_costs))], [(l_B, .inl (cA 4, B_n, .inr (.inr (.inr (.inr (fun i => some (g_B i)))))))], (zLs g_B B_n B_v), [((h6 0), .inl (cA 0, B_n, .inl a4))], [(q7, .inl (cA 0, 7, .inl (fun _ => 0)))]]) H locs := Z
  refine lv_astore (lv' := [(4, .ref q7), (3, .ref (h6 0)), (2, .ref (h3 0)), (0, .ref a_B), (1, .int p1)]) (pc := 16) hx hb dX6_choice_16 hl (by decide) rfl (fun ls hl => ?_)
  refine lv_aload_n (pc := 18) hx hb dX6_choice_18 rfl (lv_at hl 3 rfl) ?_
  refine zu_get (ref := "LotSheetLaw$Bill") (ci := 6) (C := RX6) (T := TX6) (N := 5) (pc := 19) hx hb hts iw_X6_choice_X6 hown Z 1 rfl rfl 0 (by decide) (List.mem_of_getElem? (i := 2) rfl) rfl rfl dX6_choice_19 ?_
  refine lv_aload_n (pc := 22) hx hb dX6_choice_22 rfl (lv_at hl 3 rfl) ?_
  refine lv_aload_n (pc := 23) hx hb dX6_choice_23 rfl (lv_at hl 2 rfl) ?_
  obtain ⟨x8, h9, hf⟩ := o_bindE hf
  refine zg_callVi (pc := 24) (As := [.ref (h3 0)]) (rest := [.int B_height]) (LF := [[((h6 0), .inl (cA 0, B_n, .inl a4))], [(q7, .inl (cA 0, 7, .inl (fun _ => 0)))]]) (Lc := [[(a_B, .inr (6, [.int B_height, .int B_room, .int B_account, .ref c_B, .ref l_B]))], [(c_B, .inl (cA 0, 5, .inl B_costs))], [(l_B, .inl (cA 4, B_n, .inr (.inr (.inr (.inr (fun i => some (g_B i)))))))], (zLs g_B B_n B_v), [((h3 0), .inl (cA 0, B_n, .inl a1))]]) zJ_pass hJ ⟨hx, hb, hml, hown, hts⟩ (kX6_pages l D cA a_B c_B l_B g_B (h3 0) B_height B_room B_account B_costs B_n B_v B_n a1 _ h9) (cwV 1 hts gX6_choice_X6_pages rfl rfl rfl (by decide +kernel) ⟨(Nat.le_of_ble_eq_true rfl), (Nat.le_of_ble_eq_true rfl)⟩) Z hA [1, 2, 3, 4, 0, 5, 6] rfl (by decide) (ci := 6) rfl 0 0 rfl rfl rfl rfl hl.1 rfl (Nat.le_of_ble_eq_true rfl) dX6_choice_24 ⟨(by show 3 + 0 ≤ 3; omega), (by show 39 + 0 ≤ 39; omega)⟩ (fun _ H locs Z => ?_)
  replace Z : zw D (zTY cA) s A (zU [[((h6 0), .inl (cA 0, B_n, .inl a4))], [(q7, .inl (cA 0, 7, .inl (fun _ => 0)))], [(a_B, .inr (6, [.int B_height, .int B_room, .int B_account, .ref c_B, .ref l_B]))], [(c_B, .inl (cA 0, 5, .inl B_costs))], [(l_B, .inl (cA 4, B_n, .inr (.inr (.inr (.inr (fun i => some (g_B i)))))))], (zLs g_B B_n B_v), [((h3 0), .inl (cA 0, B_n, .inl a1))]]) H locs := Z
  refine lv_aload_n (pc := 27) hx hb dX6_choice_27 rfl (lv_at hl 3 rfl) ?_
  refine lv_aload_n (pc := 28) hx hb dX6_choice_28 rfl (lv_at hl 1 rfl) ?_
  obtain ⟨x10, h11, hf⟩ := o_bindE hf
  refine zg_callVi (pc := 29) (As := [.ref (h6 0)]) (rest := [.int x8, .int B_height]) (LF := [[(q7, .inl (cA 0, 7, .inl (fun _ => 0)))], [((h3 0), .inl (cA 0, B_n, .inl a1))]]) (Lc := [[(a_B, .inr (6, [.int B_height, .int B_room, .int B_account, .ref c_B, .ref l_B]))], [(c_B, .inl (cA 0, 5, .inl B_costs))], [(l_B, .inl (cA 4, B_n, .inr (.inr (.inr (.inr (fun i => some (g_B i)))))))], (zLs g_B B_n B_v), [((h6 0), .inl (cA 0, B_n, .inl a4))]]) zJ_pass hJ ⟨hx, hb, hml, hown, hts⟩ (kX6_pages l D cA a_B c_B l_B g_B (h6 0) B_height B_room B_account B_costs B_n B_v B_n a4 _ h11) (cwV 1 hts gX6_choice_X6_pages rfl rfl rfl (by decide +kernel) ⟨(Nat.le_of_ble_eq_true rfl), (Nat.le_of_ble_eq_true rfl)⟩) Z hA [2, 3, 4, 5, 0, 1, 6] rfl (by decide) (ci := 6) rfl 0 0 rfl rfl rfl rfl hl.1 rfl (Nat.le_of_ble_eq_true rfl) dX6_choice_29 ⟨(by show 3 + 0 ≤ 3; omega), (by show 39 + 0 ≤ 39; omega)⟩ (fun _ H locs Z => ?_)
  replace Z : zw D (zTY cA) s A (zU [[(q7, .inl (cA 0, 7, .inl (fun _ => 0)))], [((h3 0), .inl (cA 0, B_n, .inl a1))], [(a_B, .inr (6, [.int B_height, .int B_room, .int B_account, .ref c_B, .ref l_B]))], [(c_B, .inl (cA 0, 5, .inl B_costs))], [(l_B, .inl (cA 4, B_n, .inr (.inr (.inr (.inr (fun i => some (g_B i)))))))], (zLs g_B B_n B_v), [((h6 0), .inl (cA 0, B_n, .inl a4))]]) H locs := Z
  refine va_mmax (pc := 32) hx hb (hml.trans hl.1.symm) hown (hts _ (List.mem_of_getElem? (i := 3) rfl)) (hts _ (List.mem_of_getElem? (i := 4) rfl)) (hts _ (List.mem_of_getElem? (i := 5) rfl)) (hts _ (List.mem_of_getElem? (i := 6) rfl)) (Nat.le_of_ble_eq_true rfl) (Nat.le_of_ble_eq_true rfl) (by show 3 ≤ 3; omega) (by show 39 ≤ 39; omega) dX6_choice_32 ?_
  refine lv_topi (fun x12 ex12 => ?_)
  replace hf := o_letE ex12 hf
  refine lv_imul (pc := 35) hx hb dX6_choice_35 ?_
  refine lv_topi (fun x13 ex13 => ?_)
  replace hf := o_letE ex13 hf
  refine lv_istore (lv' := [(5, .int x13), (4, .ref q7), (3, .ref (h6 0)), (2, .ref (h3 0)), (0, .ref a_B), (1, .int p1)]) (pc := 36) hx hb dX6_choice_36 hl (by decide) rfl (fun ls hl => ?_)
  refine lv_iconst (v := (0 : Int32)) (pc := 38) hx hb dX6_choice_38 (by decide) ?_
  refine lv_istore (lv' := [(6, .int (0 : Int32)), (5, .int x13), (4, .ref q7), (3, .ref (h6 0)), (2, .ref (h3 0)), (0, .ref a_B), (1, .int p1)]) (pc := 39) hx hb dX6_choice_39 hl (by decide) rfl (fun ls hl => ?_)
  refine lv_iconst (v := (0 : Int32)) (pc := 41) hx hb dX6_choice_41 (by decide) ?_
  refine lv_istore (lv' := [(7, .int (0 : Int32)), (6, .int (0 : Int32)), (5, .int x13), (4, .ref q7), (3, .ref (h6 0)), (2, .ref (h3 0)), (0, .ref a_B), (1, .int p1)]) (pc := 42) hx hb dX6_choice_42 hl (by decide) rfl (fun ls hl => ?_)
  refine lv_iconst (v := (0 : Int32)) (pc := 44) hx hb dX6_choice_44 (by decide) ?_
  refine lv_istore (lv' := [(8, .int (0 : Int32)), (7, .int (0 : Int32)), (6, .int (0 : Int32)), (5, .int x13), (4, .ref q7), (3, .ref (h6 0)), (2, .ref (h3 0)), (0, .ref a_B), (1, .int p1)]) (pc := 45) hx hb dX6_choice_45 hl (by decide) rfl (fun ls hl => ?_)
  obtain ⟨j204_15, ej204_15, hf⟩ := o_jnE hf
  have hj204_15 : ∀ (a14 : Nat → Int32) (H : Heap) (locs : List Loc) (ls : Array Slot), zw D (zTY cA) s A (zU [[(q7, .inl (cA 0, 7, .inl a14))], [(a_B, .inr (6, [.int B_height, .int B_room, .int B_account, .ref c_B, .ref l_B]))], [(c_B, .inl (cA 0, 5, .inl B_costs))], [(l_B, .inl (cA 4, B_n, .inr (.inr (.inr (.inr (fun i => some (g_B i)))))))], (zLs g_B B_n B_v), [((h6 0), .inl (cA 0, B_n, .inl a4))]]) H locs → lv_has ls 12 [(0, .ref a_B), (1, .int p1), (3, .ref (h6 0)), (4, .ref q7)] → j204_15 a14 = some u → W p l e ({ frames := 3, cells := 3, slots := 39, locals := 69 } : Room) s m args below meth c H locs 3 39 Q9 (F0 m 204 ls []) := by
    intro a14 H locs ls Z hl hf
    rw [ej204_15] at hf
    refine lv_iconst (v := (0 : Int32)) (pc := 204) hx hb dX6_choice_204 (by decide) ?_
    refine lv_istore (lv' := [(8, .int (0 : Int32)), (0, .ref a_B), (1, .int p1), (3, .ref (h6 0)), (4, .ref q7)]) (pc := 205) hx hb dX6_choice_205 hl (by decide) rfl (fun ls hl => ?_)
    obtain ⟨j256_17, ej256_17, hf⟩ := o_jnE hf
    have hj256_17 : ∀ (a16 : Nat → Int32) (H : Heap) (locs : List Loc) (ls : Array Slot), zw D (zTY cA) s A (zU [[(q7, .inl (cA 0, 7, .inl a16))], [(a_B, .inr (6, [.int B_height, .int B_room, .int B_account, .ref c_B, .ref l_B]))], [(c_B, .inl (cA 0, 5, .inl B_costs))], [(l_B, .inl (cA 4, B_n, .inr (.inr (.inr (.inr (fun i => some (g_B i)))))))], (zLs g_B B_n B_v), [((h6 0), .inl (cA 0, B_n, .inl a4))]]) H locs → lv_has ls 12 [(0, .ref a_B), (3, .ref (h6 0)), (4, .ref q7)] → j256_17 a16 = some u → W p l e ({ frames := 3, cells := 3, slots := 39, locals := 69 } : Room) s m args below meth c H locs 3 39 Q9 (F0 m 256 ls []) := by
      intro a16 H locs ls Z hl hf
      rw [ej256_17] at hf
      refine lv_aload (pc := 256) hx hb dX6_choice_256 (lv_at hl 2 rfl) ?_
      refine lv_iconst (v := (4 : Int32)) (pc := 258) hx hb dX6_choice_258 (by decide) ?_
      refine lv_aload (pc := 259) hx hb dX6_choice_259 (lv_at hl 2 rfl) ?_
      refine lv_iconst (v := (5 : Int32)) (pc := 261) hx hb dX6_choice_261 (by decide) ?_
      refine zu_iald (pc := 262) hx hb Z 0 0 rfl rfl (show ¬ ((5 : Int32) < 0 ∨ 7 ≤ (5 : Int32).toNatClampNeg) by decide) dX6_choice_262 ?_
      refine lv_aload_n (pc := 263) hx hb dX6_choice_263 rfl (lv_at hl 0 rfl) ?_
      refine zu_get (ref := "LotSheetLaw$Bill") (ci := 6) (C := RX6) (T := TX6) (N := 5) (pc := 264) hx hb hts iw_X6_choice_X6 hown Z 1 rfl rfl 1 (by decide) (List.mem_of_getElem? (i := 9) rfl) rfl rfl dX6_choice_264 ?_
      obtain ⟨nz18, hf⟩ := o_asE hf
      refine lv_idiv (pc := 267) hx hb dX6_choice_267 nz18 ?_
      refine lv_aload (pc := 268) hx hb dX6_choice_268 (lv_at hl 2 rfl) ?_
      refine lv_iconst (v := (5 : Int32)) (pc := 270) hx hb dX6_choice_270 (by decide) ?_
      refine zu_iald (pc := 271) hx hb Z 0 0 rfl rfl (show ¬ ((5 : Int32) < 0 ∨ 7 ≤ (5 : Int32).toNatClampNeg) by decide) dX6_choice_271 ?_
      refine lv_aload_n (pc := 272) hx hb dX6_choice_272 rfl (lv_at hl 0 rfl) ?_
      refine zu_get (ref := "LotSheetLaw$Bill") (ci := 6) (C := RX6) (T := TX6) (N := 5) (pc := 273) hx hb hts iw_X6_choice_X6 hown Z 1 rfl rfl 1 (by decide) (List.mem_of_getElem? (i := 9) rfl) rfl rfl dX6_choice_273 ?_
      obtain ⟨nz19, hf⟩ := o_asE hf
      refine lv_irem (pc := 276) hx hb dX6_choice_276 nz19 ?_
      refine lv_topi (fun x20 ex20 => ?_)
      replace hf := o_letE ex20 hf
      obtain ⟨j285_23, ej285_23, hf⟩ := o_jnE hf
      have hj285_23 : ∀ (x22 : Int32) (H : Heap) (locs : List Loc) (ls : Array Slot), zw D (zTY cA) s A (zU [[(q7, .inl (cA 0, 7, .inl a16))], [(a_B, .inr (6, [.int B_height, .int B_room, .int B_account, .ref c_B, .ref l_B]))], [(c_B, .inl (cA 0, 5, .inl B_costs))], [(l_B, .inl (cA 4, B_n, .inr (.inr (.inr (.inr (fun i => some (g_B i)))))))], (zLs g_B B_n B_v), [((h6 0), .inl (cA 0, B_n, .inl a4))]]) H locs → lv_has ls 12 [(0, .ref a_B), (3, .ref (h6 0)), (4, .ref q7)] → j285_23 x22 = some u → W p l e ({ frames := 3, cells := 3, slots := 39, locals := 69 } : Room) s m args below meth c H locs 3 39 Q9 (F0 m 285 ls [.int x22, .int ((a16 (5 : Int32).toNatClampNeg) / B_room), .int (4 : Int32), .ref q7]) := by
        intro x22 H locs ls Z hl hf
        rw [ej285_23] at hf
        refine lv_iadd (pc := 285) hx hb dX6_choice_285 ?_
        refine zu_iast (pc := 286) hx hb Z 0 0 rfl rfl (show ¬ ((4 : Int32) < 0 ∨ 7 ≤ (4 : Int32).toNatClampNeg) by decide) dX6_choice_286 (fun g => [[(q7, .inl (cA 0, 7, .inl g))], [(a_B, .inr (6, [.int B_height, .int B_room, .int B_account, .ref c_B, .ref l_B]))], [(c_B, .inl (cA 0, 5, .inl B_costs))], [(l_B, .inl (cA 4, B_n, .inr (.inr (.inr (.inr (fun i => some (g_B i)))))))], (zLs g_B B_n B_v), [((h6 0), .inl (cA 0, B_n, .inl a4))]]) (fun _ => rfl) (fun a24 H locs ea24 Z => ?_)
        replace hf := o_letE ea24 hf
        replace Z : zw D (zTY cA) s A (zU [[(q7, .inl (cA 0, 7, .inl a24))], [(a_B, .inr (6, [.int B_height, .int B_room, .int B_account, .ref c_B, .ref l_B]))], [(c_B, .inl (cA 0, 5, .inl B_costs))], [(l_B, .inl (cA 4, B_n, .inr (.inr (.inr (.inr (fun i => some (g_B i)))))))], (zLs g_B B_n B_v), [((h6 0), .inl (cA 0, B_n, .inl a4))]]) H locs := Z
        refine lv_aload (pc := 287) hx hb dX6_choice_287 (lv_at hl 2 rfl) ?_
        refine lv_bipush (v := (6 : Int32)) (pc := 289) hx hb dX6_choice_289 (by decide) ?_
        refine lv_aload_n (pc := 291) hx hb dX6_choice_291 rfl (lv_at hl 0 rfl) ?_
        refine lv_aload_n (pc := 292) hx hb dX6_choice_292 rfl (lv_at hl 1 rfl) ?_
        obtain ⟨x25, h26, hf⟩ := o_bindE hf
        refine zg_callVi (pc := 293) (As := [.ref (h6 0)]) (rest := [.int (6 : Int32), .ref q7]) (LF := [[(q7, .inl (cA 0, 7, .inl a24))]]) (Lc := [[(a_B, .inr (6, [.int B_height, .int B_room, .int B_account, .ref c_B, .ref l_B]))], [(c_B, .inl (cA 0, 5, .inl B_costs))], [(l_B, .inl (cA 4, B_n, .inr (.inr (.inr (.inr (fun i => some (g_B i)))))))], (zLs g_B B_n B_v), [((h6 0), .inl (cA 0, B_n, .inl a4))]]) zJ_pass hJ ⟨hx, hb, hml, hown, hts⟩ (kX6_pages l D cA a_B c_B l_B g_B (h6 0) B_height B_room B_account B_costs B_n B_v B_n a4 _ h26) (cwV 1 hts gX6_choice_X6_pages rfl rfl rfl (by decide +kernel) ⟨(Nat.le_of_ble_eq_true rfl), (Nat.le_of_ble_eq_true rfl)⟩) Z hA [1, 2, 3, 4, 5, 0] rfl (by decide) (ci := 6) rfl 0 0 rfl rfl rfl rfl hl.1 rfl (Nat.le_of_ble_eq_true rfl) dX6_choice_293 ⟨(by show 3 + 0 ≤ 3; omega), (by show 39 + 0 ≤ 39; omega)⟩ (fun _ H locs Z => ?_)
        replace Z : zw D (zTY cA) s A (zU [[(q7, .inl (cA 0, 7, .inl a24))], [(a_B, .inr (6, [.int B_height, .int B_room, .int B_account, .ref c_B, .ref l_B]))], [(c_B, .inl (cA 0, 5, .inl B_costs))], [(l_B, .inl (cA 4, B_n, .inr (.inr (.inr (.inr (fun i => some (g_B i)))))))], (zLs g_B B_n B_v), [((h6 0), .inl (cA 0, B_n, .inl a4))]]) H locs := Z
        refine zu_iast (pc := 296) hx hb Z 0 0 rfl rfl (show ¬ ((6 : Int32) < 0 ∨ 7 ≤ (6 : Int32).toNatClampNeg) by decide) dX6_choice_296 (fun g => [[(q7, .inl (cA 0, 7, .inl g))], [(a_B, .inr (6, [.int B_height, .int B_room, .int B_account, .ref c_B, .ref l_B]))], [(c_B, .inl (cA 0, 5, .inl B_costs))], [(l_B, .inl (cA 4, B_n, .inr (.inr (.inr (.inr (fun i => some (g_B i)))))))], (zLs g_B B_n B_v), [((h6 0), .inl (cA 0, B_n, .inl a4))]]) (fun _ => rfl) (fun a27 H locs ea27 Z => ?_)
        replace hf := o_letE ea27 hf
        replace Z : zw D (zTY cA) s A (zU [[(q7, .inl (cA 0, 7, .inl a27))], [(a_B, .inr (6, [.int B_height, .int B_room, .int B_account, .ref c_B, .ref l_B]))], [(c_B, .inl (cA 0, 5, .inl B_costs))], [(l_B, .inl (cA 4, B_n, .inr (.inr (.inr (.inr (fun i => some (g_B i)))))))], (zLs g_B B_n B_v), [((h6 0), .inl (cA 0, B_n, .inl a4))]]) H locs := Z
        refine lv_iconst (v := (0 : Int32)) (pc := 297) hx hb dX6_choice_297 (by decide) ?_
        refine lv_istore (lv' := [(8, .int (0 : Int32)), (0, .ref a_B), (3, .ref (h6 0)), (4, .ref q7)]) (pc := 298) hx hb dX6_choice_298 hl (by decide) rfl (fun ls hl => ?_)
        have hL300 : ∀ (n0 : Nat) (x28 : Int32) (a29 : Nat → Int32) (H : Heap) (locs : List Loc) (ls : Array Slot), zw D (zTY cA) s A (zU [[(q7, .inl (cA 0, 7, .inl a29))], [(a_B, .inr (6, [.int B_height, .int B_room, .int B_account, .ref c_B, .ref l_B]))], [(c_B, .inl (cA 0, 5, .inl B_costs))], [(l_B, .inl (cA 4, B_n, .inr (.inr (.inr (.inr (fun i => some (g_B i)))))))], (zLs g_B B_n B_v)]) H locs → lv_has ls 12 [(0, .ref a_B), (4, .ref q7), (8, .int x28)] → fX6_choice_L300 B_costs n0 x28 a29 = some u → W p l e ({ frames := 3, cells := 3, slots := 39, locals := 69 } : Room) s m args below meth c H locs 3 39 Q9 (F0 m 300 ls []) := by
          intro n0
          induction n0 with
          | zero => intro x28 a29 H locs ls Z hl hf; exact o_no hf
          | succ n0 ih0 =>
            intro x28 a29 H locs ls Z hl hf
            refine lv_iload (pc := 300) hx hb dX6_choice_300 (lv_at hl 2 rfl) ?_
            refine lv_iconst (v := (5 : Int32)) (pc := 302) hx hb dX6_choice_302 (by decide) ?_
            refine lv_icmp_ge (tgt := 334) (pc := 303) hx hb dX6_choice_303 (by decide) (fun c30 => ?_) (fun c30 => ?_)
            · replace hf := o_pos c30 hf
              refine lv_aload (pc := 334) hx hb dX6_choice_334 (lv_at hl 1 rfl) ?_
              have hu9 := Option.some.inj hf
              subst hu9
              rw [hQ9]
              exact zg_aret (pc := 336) (L' := [[(a_B, .inr (6, [.int B_height, .int B_room, .int B_account, .ref c_B, .ref l_B]))], [(c_B, .inl (cA 0, 5, .inl B_costs))], [(l_B, .inl (cA 4, B_n, .inr (.inr (.inr (.inr (fun i => some (g_B i)))))))], (zLs g_B B_n B_v), [(q7, .inl (cA 0, 7, .inl a29))]]) (zhl [q7] (fun _ => 0)) (by show 3 ≤ 3; omega) (by show 39 ≤ 39; omega) hx hb hr (Or.inr ⟨_, rfl⟩) (Or.inr ⟨_, rfl⟩) hlocks Z [1, 2, 3, 4, 0] rfl (by decide) rfl rfl dX6_choice_336
            · replace hf := o_neg c30 hf
              refine lv_aload (pc := 306) hx hb dX6_choice_306 (lv_at hl 1 rfl) ?_
              refine lv_iconst (v := (0 : Int32)) (pc := 308) hx hb dX6_choice_308 (by decide) ?_
              refine lv_dup2_11 (pc := 309) hx hb dX6_choice_309 rfl rfl ?_
              refine zu_iald (pc := 310) hx hb Z 0 0 rfl rfl (show ¬ ((0 : Int32) < 0 ∨ 7 ≤ (0 : Int32).toNatClampNeg) by decide) dX6_choice_310 ?_
              refine lv_aload (pc := 311) hx hb dX6_choice_311 (lv_at hl 1 rfl) ?_
              refine lv_iload (pc := 313) hx hb dX6_choice_313 (lv_at hl 2 rfl) ?_
              refine lv_iconst (v := (1 : Int32)) (pc := 315) hx hb dX6_choice_315 (by decide) ?_
              refine lv_iadd (pc := 316) hx hb dX6_choice_316 ?_
              obtain ⟨i31, hf⟩ := o_rdE hf
              refine zu_iald (pc := 317) hx hb Z 0 0 rfl rfl i31 dX6_choice_317 ?_
              refine lv_aload_n (pc := 318) hx hb dX6_choice_318 rfl (lv_at hl 0 rfl) ?_
              refine zu_get (ref := "LotSheetLaw$Bill") (ci := 6) (C := RX6) (T := TX6) (N := 5) (pc := 319) hx hb hts iw_X6_choice_X6 hown Z 1 rfl rfl 3 (by decide) (List.mem_of_getElem? (i := 10) rfl) rfl rfl dX6_choice_319 ?_
              refine lv_iload (pc := 322) hx hb dX6_choice_322 (lv_at hl 2 rfl) ?_
              obtain ⟨i32, hf⟩ := o_rdE hf
              refine zu_iald (pc := 324) hx hb Z 2 0 rfl rfl i32 dX6_choice_324 ?_
              refine lv_imul (pc := 325) hx hb dX6_choice_325 ?_
              refine lv_iadd (pc := 326) hx hb dX6_choice_326 ?_
              refine zu_iast (pc := 327) hx hb Z 0 0 rfl rfl (show ¬ ((0 : Int32) < 0 ∨ 7 ≤ (0 : Int32).toNatClampNeg) by decide) dX6_choice_327 (fun g => [[(q7, .inl (cA 0, 7, .inl g))], [(a_B, .inr (6, [.int B_height, .int B_room, .int B_account, .ref c_B, .ref l_B]))], [(c_B, .inl (cA 0, 5, .inl B_costs))], [(l_B, .inl (cA 4, B_n, .inr (.inr (.inr (.inr (fun i => some (g_B i)))))))], (zLs g_B B_n B_v)]) (fun _ => rfl) (fun a33 H locs ea33 Z => ?_)
              replace hf := o_letE ea33 hf
              replace Z : zw D (zTY cA) s A (zU [[(q7, .inl (cA 0, 7, .inl a33))], [(a_B, .inr (6, [.int B_height, .int B_room, .int B_account, .ref c_B, .ref l_B]))], [(c_B, .inl (cA 0, 5, .inl B_costs))], [(l_B, .inl (cA 4, B_n, .inr (.inr (.inr (.inr (fun i => some (g_B i)))))))], (zLs g_B B_n B_v)]) H locs := Z
              obtain ⟨x34, ex34⟩ : ∃ y : Int32, y = (x28 + (1 : Int32)) := ⟨_, rfl⟩
              replace hf := o_letE ex34 hf
              refine lv_iinc (v := x34) (lv' := [(8, .int x34), (0, .ref a_B), (4, .ref q7)]) (pc := 328) hx hb dX6_choice_328 hl (k := 2) rfl (by rw [ex34]; rfl) (by decide) rfl (fun ls hl => ?_)
              refine lv_goto (tgt := 300) (pc := 331) hx hb dX6_choice_331 (by decide) ?_
              exact ih0 x34 a33 H locs ls Z (lv_sub hl [1, 2, 0] rfl) hf
        exact hL300 1024 (0 : Int32) a27 H locs ls (zu_sub Z [0, 1, 2, 3, 4] rfl (by decide)) (lv_sub hl [1, 3, 0] rfl) hf
      refine lv_if_le (tgt := 284) (pc := 277) hx hb dX6_choice_277 (by decide) (fun c21 => ?_) (fun c21 => ?_)
      · replace hf := o_pos c21 hf
        refine lv_iconst (v := (0 : Int32)) (pc := 284) hx hb dX6_choice_284 (by decide) ?_
        exact hj285_23 (0 : Int32) H locs ls Z (lv_sub hl [0, 1, 2] rfl) hf
      · replace hf := o_neg c21 hf
        refine lv_iconst (v := (1 : Int32)) (pc := 280) hx hb dX6_choice_280 (by decide) ?_
        refine lv_goto (tgt := 285) (pc := 281) hx hb dX6_choice_281 (by decide) ?_
        exact hj285_23 (1 : Int32) H locs ls Z (lv_sub hl [0, 1, 2] rfl) hf
    have hL207 : ∀ (n0 : Nat) (x35 : Int32) (a36 : Nat → Int32) (H : Heap) (locs : List Loc) (ls : Array Slot), zw D (zTY cA) s A (zU [[(q7, .inl (cA 0, 7, .inl a36))], [(a_B, .inr (6, [.int B_height, .int B_room, .int B_account, .ref c_B, .ref l_B]))], [(c_B, .inl (cA 0, 5, .inl B_costs))], [(l_B, .inl (cA 4, B_n, .inr (.inr (.inr (.inr (fun i => some (g_B i)))))))], (zLs g_B B_n B_v), [((h6 0), .inl (cA 0, B_n, .inl a4))]]) H locs → lv_has ls 12 [(0, .ref a_B), (1, .int p1), (3, .ref (h6 0)), (4, .ref q7), (8, .int x35)] → fX6_choice_L207 B_n B_v j256_17 p1 n0 x35 a36 = some u → W p l e ({ frames := 3, cells := 3, slots := 39, locals := 69 } : Room) s m args below meth c H locs 3 39 Q9 (F0 m 207 ls []) := by
      intro n0
      induction n0 with
      | zero => intro x35 a36 H locs ls Z hl hf; exact o_no hf
      | succ n0 ih0 =>
        intro x35 a36 H locs ls Z hl hf
        refine lv_iload (pc := 207) hx hb dX6_choice_207 (lv_at hl 4 rfl) ?_
        refine lv_aload_n (pc := 209) hx hb dX6_choice_209 rfl (lv_at hl 0 rfl) ?_
        obtain ⟨x37, h38, hf⟩ := o_bindE hf
        refine zg_callVi (pc := 210) (As := []) (rest := [.int x35]) (LF := [[(q7, .inl (cA 0, 7, .inl a36))], [((h6 0), .inl (cA 0, B_n, .inl a4))]]) (Lc := [[(a_B, .inr (6, [.int B_height, .int B_room, .int B_account, .ref c_B, .ref l_B]))], [(c_B, .inl (cA 0, 5, .inl B_costs))], [(l_B, .inl (cA 4, B_n, .inr (.inr (.inr (.inr (fun i => some (g_B i)))))))], (zLs g_B B_n B_v)]) zJ_pass hJ ⟨hx, hb, hml, hown, hts⟩ (kX6_different l D cA a_B c_B l_B g_B B_height B_room B_account B_costs B_n B_v _ h38) (cwV 0 hts gX6_choice_X6_different rfl rfl rfl (by decide +kernel) ⟨(Nat.le_of_ble_eq_true rfl), (Nat.le_of_ble_eq_true rfl)⟩) Z hA [1, 2, 3, 4, 0, 5] rfl (by decide) (ci := 6) rfl 0 0 rfl rfl rfl rfl hl.1 rfl (Nat.le_of_ble_eq_true rfl) dX6_choice_210 ⟨(by show 3 + 0 ≤ 3; omega), (by show 39 + 0 ≤ 39; omega)⟩ (fun _ H locs Z => ?_)
        replace Z : zw D (zTY cA) s A (zU [[(q7, .inl (cA 0, 7, .inl a36))], [((h6 0), .inl (cA 0, B_n, .inl a4))], [(a_B, .inr (6, [.int B_height, .int B_room, .int B_account, .ref c_B, .ref l_B]))], [(c_B, .inl (cA 0, 5, .inl B_costs))], [(l_B, .inl (cA 4, B_n, .inr (.inr (.inr (.inr (fun i => some (g_B i)))))))], (zLs g_B B_n B_v)]) H locs := Z
        refine lv_icmp_ge (tgt := 256) (pc := 213) hx hb dX6_choice_213 (by decide) (fun c39 => ?_) (fun c39 => ?_)
        · replace hf := o_pos c39 hf
          exact hj256_17 a36 H locs ls (zu_sub Z [0, 2, 3, 4, 5, 1] rfl (by decide)) (lv_sub hl [0, 2, 3] rfl) hf
        · replace hf := o_neg c39 hf
          refine lv_iload_n (pc := 216) hx hb dX6_choice_216 rfl (lv_at hl 1 rfl) ?_
          refine lv_iload (pc := 217) hx hb dX6_choice_217 (lv_at hl 4 rfl) ?_
          refine lv_ishr (pc := 219) hx hb dX6_choice_219 ?_
          refine lv_iconst (v := (1 : Int32)) (pc := 220) hx hb dX6_choice_220 (by decide) ?_
          refine lv_iand (pc := 221) hx hb dX6_choice_221 ?_
          refine lv_if_ne (tgt := 250) (pc := 222) hx hb dX6_choice_222 (by decide) (fun c40 => ?_) (fun c40 => ?_)
          · replace hf := o_neg c40 hf
            obtain ⟨x41, ex41⟩ : ∃ y : Int32, y = (x35 + (1 : Int32)) := ⟨_, rfl⟩
            replace hf := o_letE ex41 hf
            refine lv_iinc (v := x41) (lv' := [(8, .int x41), (0, .ref a_B), (1, .int p1), (3, .ref (h6 0)), (4, .ref q7)]) (pc := 250) hx hb dX6_choice_250 hl (k := 4) rfl (by rw [ex41]; rfl) (by decide) rfl (fun ls hl => ?_)
            refine lv_goto (tgt := 207) (pc := 253) hx hb dX6_choice_253 (by decide) ?_
            exact ih0 x41 a36 H locs ls (zu_sub Z [0, 2, 3, 4, 5, 1] rfl (by decide)) (lv_sub hl [1, 2, 3, 4, 0] rfl) hf
          · replace hf := o_pos c40 hf
            refine lv_aload_n (pc := 225) hx hb dX6_choice_225 rfl (lv_at hl 0 rfl) ?_
            refine zu_get (ref := "LotSheetLaw$Bill") (ci := 6) (C := RX6) (T := TX6) (N := 5) (pc := 226) hx hb hts iw_X6_choice_X6 hown Z 2 rfl rfl 4 (by decide) (List.mem_of_getElem? (i := 7) rfl) rfl rfl dX6_choice_226 ?_
            refine lv_aload_n (pc := 229) hx hb dX6_choice_229 rfl (lv_at hl 0 rfl) ?_
            refine lv_iload (pc := 230) hx hb dX6_choice_230 (lv_at hl 4 rfl) ?_
            obtain ⟨x42, h43, hf⟩ := o_bindE hf
            refine zg_callVi (pc := 232) (As := [.int x35]) (rest := [.ref l_B]) (LF := [[(q7, .inl (cA 0, 7, .inl a36))], [((h6 0), .inl (cA 0, B_n, .inl a4))]]) (Lc := [[(a_B, .inr (6, [.int B_height, .int B_room, .int B_account, .ref c_B, .ref l_B]))], [(c_B, .inl (cA 0, 5, .inl B_costs))], [(l_B, .inl (cA 4, B_n, .inr (.inr (.inr (.inr (fun i => some (g_B i)))))))], (zLs g_B B_n B_v)]) zJ_pass hJ ⟨hx, hb, hml, hown, hts⟩ (kX6_indexOf l D cA a_B c_B l_B g_B x35 B_height B_room B_account B_costs B_n B_v _ h43) (cwV 1 hts gX6_choice_X6_indexOf rfl rfl rfl (by decide +kernel) ⟨(Nat.le_of_ble_eq_true rfl), (Nat.le_of_ble_eq_true rfl)⟩) Z hA [2, 3, 4, 5, 0, 1] rfl (by decide) (ci := 6) rfl 0 0 rfl rfl rfl rfl hl.1 rfl (Nat.le_of_ble_eq_true rfl) dX6_choice_232 ⟨(by show 3 + 0 ≤ 3; omega), (by show 39 + 0 ≤ 39; omega)⟩ (fun _ H locs Z => ?_)
            replace Z : zw D (zTY cA) s A (zU [[(q7, .inl (cA 0, 7, .inl a36))], [((h6 0), .inl (cA 0, B_n, .inl a4))], [(a_B, .inr (6, [.int B_height, .int B_room, .int B_account, .ref c_B, .ref l_B]))], [(c_B, .inl (cA 0, 5, .inl B_costs))], [(l_B, .inl (cA 4, B_n, .inr (.inr (.inr (.inr (fun i => some (g_B i)))))))], (zLs g_B B_n B_v)]) H locs := Z
            obtain ⟨i44, hf⟩ := o_rdE hf
            refine zu_aald (b := g_B x42.toNatClampNeg) (pc := 235) hx hb Z 4 4 rfl rfl rfl i44 rfl dX6_choice_235 ?_
            refine zu_getL (ref := "LotSheetLaw$Lot") (pc := 236) hx hb hts iw_X6_choice_X7 hown Z 5 rfl (Nat.not_le.mp fun q => i44 (Or.inr q)) rfl 5 (by decide) (List.mem_of_getElem? (i := 8) rfl) rfl rfl dX6_choice_236 ?_
            refine lv_if_ne (tgt := 250) (pc := 239) hx hb dX6_choice_239 (by decide) (fun c45 => ?_) (fun c45 => ?_)
            · replace hf := o_neg c45 hf
              obtain ⟨x46, ex46⟩ : ∃ y : Int32, y = (x35 + (1 : Int32)) := ⟨_, rfl⟩
              replace hf := o_letE ex46 hf
              refine lv_iinc (v := x46) (lv' := [(8, .int x46), (0, .ref a_B), (1, .int p1), (3, .ref (h6 0)), (4, .ref q7)]) (pc := 250) hx hb dX6_choice_250 hl (k := 4) rfl (by rw [ex46]; rfl) (by decide) rfl (fun ls hl => ?_)
              refine lv_goto (tgt := 207) (pc := 253) hx hb dX6_choice_253 (by decide) ?_
              exact ih0 x46 a36 H locs ls (zu_sub Z [0, 2, 3, 4, 5, 1] rfl (by decide)) (lv_sub hl [1, 2, 3, 4, 0] rfl) hf
            · replace hf := o_pos c45 hf
              refine lv_aload (pc := 242) hx hb dX6_choice_242 (lv_at hl 3 rfl) ?_
              refine lv_iconst (v := (5 : Int32)) (pc := 244) hx hb dX6_choice_244 (by decide) ?_
              refine lv_dup2_11 (pc := 245) hx hb dX6_choice_245 rfl rfl ?_
              refine zu_iald (pc := 246) hx hb Z 0 0 rfl rfl (show ¬ ((5 : Int32) < 0 ∨ 7 ≤ (5 : Int32).toNatClampNeg) by decide) dX6_choice_246 ?_
              refine lv_iconst (v := (1 : Int32)) (pc := 247) hx hb dX6_choice_247 (by decide) ?_
              refine lv_iadd (pc := 248) hx hb dX6_choice_248 ?_
              refine zu_iast (pc := 249) hx hb Z 0 0 rfl rfl (show ¬ ((5 : Int32) < 0 ∨ 7 ≤ (5 : Int32).toNatClampNeg) by decide) dX6_choice_249 (fun g => [[(q7, .inl (cA 0, 7, .inl g))], [((h6 0), .inl (cA 0, B_n, .inl a4))], [(a_B, .inr (6, [.int B_height, .int B_room, .int B_account, .ref c_B, .ref l_B]))], [(c_B, .inl (cA 0, 5, .inl B_costs))], [(l_B, .inl (cA 4, B_n, .inr (.inr (.inr (.inr (fun i => some (g_B i)))))))], (zLs g_B B_n B_v)]) (fun _ => rfl) (fun a47 H locs ea47 Z => ?_)
              replace hf := o_letE ea47 hf
              replace Z : zw D (zTY cA) s A (zU [[(q7, .inl (cA 0, 7, .inl a47))], [((h6 0), .inl (cA 0, B_n, .inl a4))], [(a_B, .inr (6, [.int B_height, .int B_room, .int B_account, .ref c_B, .ref l_B]))], [(c_B, .inl (cA 0, 5, .inl B_costs))], [(l_B, .inl (cA 4, B_n, .inr (.inr (.inr (.inr (fun i => some (g_B i)))))))], (zLs g_B B_n B_v)]) H locs := Z
              obtain ⟨x48, ex48⟩ : ∃ y : Int32, y = (x35 + (1 : Int32)) := ⟨_, rfl⟩
              replace hf := o_letE ex48 hf
              refine lv_iinc (v := x48) (lv' := [(8, .int x48), (0, .ref a_B), (1, .int p1), (3, .ref (h6 0)), (4, .ref q7)]) (pc := 250) hx hb dX6_choice_250 hl (k := 4) rfl (by rw [ex48]; rfl) (by decide) rfl (fun ls hl => ?_)
              refine lv_goto (tgt := 207) (pc := 253) hx hb dX6_choice_253 (by decide) ?_
              exact ih0 x48 a47 H locs ls (zu_sub Z [0, 2, 3, 4, 5, 1] rfl (by decide)) (lv_sub hl [1, 2, 3, 4, 0] rfl) hf
    exact hL207 1024 (0 : Int32) a14 H locs ls Z (lv_sub hl [1, 2, 3, 4, 0] rfl) hf
  have hL47 : ∀ (n0 : Nat) (x49 : Int32) (x50 : Int32) (x51 : Int32) (a52 : Nat → Int32) (H : Heap) (locs : List Loc) (ls : Array Slot), zw D (zTY cA) s A (zU [[(q7, .inl (cA 0, 7, .inl a52))], [((h3 0), .inl (cA 0, B_n, .inl a1))], [(a_B, .inr (6, [.int B_height, .int B_room, .int B_account, .ref c_B, .ref l_B]))], [(c_B, .inl (cA 0, 5, .inl B_costs))], [(l_B, .inl (cA 4, B_n, .inr (.inr (.inr (.inr (fun i => some (g_B i)))))))], (zLs g_B B_n B_v), [((h6 0), .inl (cA 0, B_n, .inl a4))]]) H locs → lv_has ls 12 [(0, .ref a_B), (1, .int p1), (2, .ref (h3 0)), (3, .ref (h6 0)), (4, .ref q7), (5, .int x13), (6, .int x49), (7, .int x50), (8, .int x51)] → fX6_choice_L47 x13 j204_15 B_height B_n B_v a1 a4 n0 x49 x50 x51 a52 = some u → W p l e ({ frames := 3, cells := 3, slots := 39, locals := 69 } : Room) s m args below meth c H locs 3 39 Q9 (F0 m 47 ls []) := by
    intro n0
    induction n0 with
    | zero => intro x49 x50 x51 a52 H locs ls Z hl hf; exact o_no hf
    | succ n0 ih0 =>
      intro x49 x50 x51 a52 H locs ls Z hl hf
      refine lv_iload (pc := 47) hx hb dX6_choice_47 (lv_at hl 8 rfl) ?_
      refine lv_iload (pc := 49) hx hb dX6_choice_49 (lv_at hl 5 rfl) ?_
      refine lv_icmp_ge (tgt := 204) (pc := 51) hx hb dX6_choice_51 (by decide) (fun c53 => ?_) (fun c53 => ?_)
      · replace hf := o_pos c53 hf
        exact hj204_15 a52 H locs ls (zu_sub Z [0, 2, 3, 4, 5, 6] rfl (by decide)) (lv_sub hl [0, 1, 3, 4] rfl) hf
      · replace hf := o_neg c53 hf
        refine lv_iload (pc := 54) hx hb dX6_choice_54 (lv_at hl 8 rfl) ?_
        refine lv_aload_n (pc := 56) hx hb dX6_choice_56 rfl (lv_at hl 0 rfl) ?_
        refine zu_get (ref := "LotSheetLaw$Bill") (ci := 6) (C := RX6) (T := TX6) (N := 5) (pc := 57) hx hb hts iw_X6_choice_X6 hown Z 2 rfl rfl 0 (by decide) (List.mem_of_getElem? (i := 2) rfl) rfl rfl dX6_choice_57 ?_
        obtain ⟨nz54, hf⟩ := o_asE hf
        refine lv_irem (pc := 60) hx hb dX6_choice_60 nz54 ?_
        refine lv_topi (fun x55 ex55 => ?_)
        replace hf := o_letE ex55 hf
        obtain ⟨j67_58, ej67_58, hf⟩ := o_jnE hf
        have hj67_58 : ∀ (x57 : Int32) (H : Heap) (locs : List Loc) (ls : Array Slot), zw D (zTY cA) s A (zU [[(q7, .inl (cA 0, 7, .inl a52))], [((h3 0), .inl (cA 0, B_n, .inl a1))], [(a_B, .inr (6, [.int B_height, .int B_room, .int B_account, .ref c_B, .ref l_B]))], [(c_B, .inl (cA 0, 5, .inl B_costs))], [(l_B, .inl (cA 4, B_n, .inr (.inr (.inr (.inr (fun i => some (g_B i)))))))], (zLs g_B B_n B_v), [((h6 0), .inl (cA 0, B_n, .inl a4))]]) H locs → lv_has ls 12 [(0, .ref a_B), (1, .int p1), (2, .ref (h3 0)), (3, .ref (h6 0)), (4, .ref q7), (5, .int x13), (6, .int x57), (7, .int x50), (8, .int x51)] → j67_58 x57 = some u → W p l e ({ frames := 3, cells := 3, slots := 39, locals := 69 } : Room) s m args below meth c H locs 3 39 Q9 (F0 m 67 ls []) := by
          intro x57 H locs ls Z hl hf
          rw [ej67_58] at hf
          refine lv_iload (pc := 67) hx hb dX6_choice_67 (lv_at hl 8 rfl) ?_
          refine lv_iconst (v := (4 : Int32)) (pc := 69) hx hb dX6_choice_69 (by decide) ?_
          refine lv_aload_n (pc := 70) hx hb dX6_choice_70 rfl (lv_at hl 0 rfl) ?_
          refine zu_get (ref := "LotSheetLaw$Bill") (ci := 6) (C := RX6) (T := TX6) (N := 5) (pc := 71) hx hb hts iw_X6_choice_X6 hown Z 2 rfl rfl 0 (by decide) (List.mem_of_getElem? (i := 2) rfl) rfl rfl dX6_choice_71 ?_
          refine lv_imul (pc := 74) hx hb dX6_choice_74 ?_
          obtain ⟨nz59, hf⟩ := o_asE hf
          refine lv_irem (pc := 75) hx hb dX6_choice_75 nz59 ?_
          refine lv_topi (fun x60 ex60 => ?_)
          replace hf := o_letE ex60 hf
          obtain ⟨j82_63, ej82_63, hf⟩ := o_jnE hf
          have hj82_63 : ∀ (x62 : Int32) (H : Heap) (locs : List Loc) (ls : Array Slot), zw D (zTY cA) s A (zU [[(q7, .inl (cA 0, 7, .inl a52))], [((h3 0), .inl (cA 0, B_n, .inl a1))], [(a_B, .inr (6, [.int B_height, .int B_room, .int B_account, .ref c_B, .ref l_B]))], [(c_B, .inl (cA 0, 5, .inl B_costs))], [(l_B, .inl (cA 4, B_n, .inr (.inr (.inr (.inr (fun i => some (g_B i)))))))], (zLs g_B B_n B_v), [((h6 0), .inl (cA 0, B_n, .inl a4))]]) H locs → lv_has ls 12 [(0, .ref a_B), (1, .int p1), (2, .ref (h3 0)), (3, .ref (h6 0)), (4, .ref q7), (5, .int x13), (6, .int x57), (7, .int x62), (8, .int x51)] → j82_63 x62 = some u → W p l e ({ frames := 3, cells := 3, slots := 39, locals := 69 } : Room) s m args below meth c H locs 3 39 Q9 (F0 m 82 ls []) := by
            intro x62 H locs ls Z hl hf
            rw [ej82_63] at hf
            refine lv_aload_n (pc := 82) hx hb dX6_choice_82 rfl (lv_at hl 0 rfl) ?_
            refine lv_aload_n (pc := 83) hx hb dX6_choice_83 rfl (lv_at hl 2 rfl) ?_
            refine lv_iload (pc := 84) hx hb dX6_choice_84 (lv_at hl 8 rfl) ?_
            obtain ⟨x64, h65, hf⟩ := o_bindE hf
            refine zg_callVi (pc := 86) (As := [.ref (h3 0), .int x51]) (rest := []) (LF := [[(q7, .inl (cA 0, 7, .inl a52))], [((h6 0), .inl (cA 0, B_n, .inl a4))]]) (Lc := [[(a_B, .inr (6, [.int B_height, .int B_room, .int B_account, .ref c_B, .ref l_B]))], [(c_B, .inl (cA 0, 5, .inl B_costs))], [(l_B, .inl (cA 4, B_n, .inr (.inr (.inr (.inr (fun i => some (g_B i)))))))], (zLs g_B B_n B_v), [((h3 0), .inl (cA 0, B_n, .inl a1))]]) zJ_pass hJ ⟨hx, hb, hml, hown, hts⟩ (kX6_standing l D cA a_B c_B l_B g_B (h3 0) x51 B_height B_room B_account B_costs B_n B_v B_n a1 _ h65) (cwV 2 hts gX6_choice_X6_standing rfl rfl rfl (by decide +kernel) ⟨(Nat.le_of_ble_eq_true rfl), (Nat.le_of_ble_eq_true rfl)⟩) Z hA [2, 3, 4, 5, 1, 0, 6] rfl (by decide) (ci := 6) rfl 0 0 rfl rfl rfl rfl hl.1 rfl (Nat.le_of_ble_eq_true rfl) dX6_choice_86 ⟨(by show 3 + 0 ≤ 3; omega), (by show 39 + 0 ≤ 39; omega)⟩ (fun _ H locs Z => ?_)
            replace Z : zw D (zTY cA) s A (zU [[(q7, .inl (cA 0, 7, .inl a52))], [((h6 0), .inl (cA 0, B_n, .inl a4))], [(a_B, .inr (6, [.int B_height, .int B_room, .int B_account, .ref c_B, .ref l_B]))], [(c_B, .inl (cA 0, 5, .inl B_costs))], [(l_B, .inl (cA 4, B_n, .inr (.inr (.inr (.inr (fun i => some (g_B i)))))))], (zLs g_B B_n B_v), [((h3 0), .inl (cA 0, B_n, .inl a1))]]) H locs := Z
            refine lv_istore (lv' := [(9, .int x64), (0, .ref a_B), (1, .int p1), (2, .ref (h3 0)), (3, .ref (h6 0)), (4, .ref q7), (5, .int x13), (6, .int x57), (7, .int x62), (8, .int x51)]) (pc := 89) hx hb dX6_choice_89 hl (by decide) rfl (fun ls hl => ?_)
            refine lv_aload_n (pc := 91) hx hb dX6_choice_91 rfl (lv_at hl 1 rfl) ?_
            refine lv_aload_n (pc := 92) hx hb dX6_choice_92 rfl (lv_at hl 4 rfl) ?_
            refine lv_iload (pc := 93) hx hb dX6_choice_93 (lv_at hl 9 rfl) ?_
            obtain ⟨x66, h67, hf⟩ := o_bindE hf
            refine zg_callVi (pc := 95) (As := [.ref (h6 0), .int x51]) (rest := []) (LF := [[(q7, .inl (cA 0, 7, .inl a52))], [((h3 0), .inl (cA 0, B_n, .inl a1))]]) (Lc := [[(a_B, .inr (6, [.int B_height, .int B_room, .int B_account, .ref c_B, .ref l_B]))], [(c_B, .inl (cA 0, 5, .inl B_costs))], [(l_B, .inl (cA 4, B_n, .inr (.inr (.inr (.inr (fun i => some (g_B i)))))))], (zLs g_B B_n B_v), [((h6 0), .inl (cA 0, B_n, .inl a4))]]) zJ_pass hJ ⟨hx, hb, hml, hown, hts⟩ (kX6_standing l D cA a_B c_B l_B g_B (h6 0) x51 B_height B_room B_account B_costs B_n B_v B_n a4 _ h67) (cwV 2 hts gX6_choice_X6_standing rfl rfl rfl (by decide +kernel) ⟨(Nat.le_of_ble_eq_true rfl), (Nat.le_of_ble_eq_true rfl)⟩) Z hA [2, 3, 4, 5, 1, 0, 6] rfl (by decide) (ci := 6) rfl 0 0 rfl rfl rfl rfl hl.1 rfl (Nat.le_of_ble_eq_true rfl) dX6_choice_95 ⟨(by show 3 + 0 ≤ 3; omega), (by show 39 + 0 ≤ 39; omega)⟩ (fun _ H locs Z => ?_)
            replace Z : zw D (zTY cA) s A (zU [[(q7, .inl (cA 0, 7, .inl a52))], [((h3 0), .inl (cA 0, B_n, .inl a1))], [(a_B, .inr (6, [.int B_height, .int B_room, .int B_account, .ref c_B, .ref l_B]))], [(c_B, .inl (cA 0, 5, .inl B_costs))], [(l_B, .inl (cA 4, B_n, .inr (.inr (.inr (.inr (fun i => some (g_B i)))))))], (zLs g_B B_n B_v), [((h6 0), .inl (cA 0, B_n, .inl a4))]]) H locs := Z
            refine lv_istore (lv' := [(10, .int x66), (9, .int x64), (0, .ref a_B), (1, .int p1), (2, .ref (h3 0)), (3, .ref (h6 0)), (4, .ref q7), (5, .int x13), (6, .int x57), (7, .int x62), (8, .int x51)]) (pc := 98) hx hb dX6_choice_98 hl (by decide) rfl (fun ls hl => ?_)
            refine lv_iload (pc := 100) hx hb dX6_choice_100 (lv_at hl 1 rfl) ?_
            refine lv_iload (pc := 102) hx hb dX6_choice_102 (lv_at hl 0 rfl) ?_
            obtain ⟨j148_70, ej148_70, hf⟩ := o_jnE hf
            have hj148_70 : ∀ (x69 : Int32) (H : Heap) (locs : List Loc) (ls : Array Slot), zw D (zTY cA) s A (zU [[(q7, .inl (cA 0, 7, .inl a52))], [((h3 0), .inl (cA 0, B_n, .inl a1))], [(a_B, .inr (6, [.int B_height, .int B_room, .int B_account, .ref c_B, .ref l_B]))], [(c_B, .inl (cA 0, 5, .inl B_costs))], [(l_B, .inl (cA 4, B_n, .inr (.inr (.inr (.inr (fun i => some (g_B i)))))))], (zLs g_B B_n B_v), [((h6 0), .inl (cA 0, B_n, .inl a4))]]) H locs → lv_has ls 12 [(0, .ref a_B), (1, .int p1), (2, .ref (h3 0)), (3, .ref (h6 0)), (4, .ref q7), (5, .int x13), (6, .int x57), (7, .int x62), (8, .int x51)] → j148_70 x69 = some u → W p l e ({ frames := 3, cells := 3, slots := 39, locals := 69 } : Room) s m args below meth c H locs 3 39 Q9 (F0 m 148 ls [.int x69]) := by
              intro x69 H locs ls Z hl hf
              rw [ej148_70] at hf
              refine lv_istore (lv' := [(11, .int x69), (0, .ref a_B), (1, .int p1), (2, .ref (h3 0)), (3, .ref (h6 0)), (4, .ref q7), (5, .int x13), (6, .int x57), (7, .int x62), (8, .int x51)]) (pc := 148) hx hb dX6_choice_148 hl (by decide) rfl (fun ls hl => ?_)
              refine lv_iload (pc := 150) hx hb dX6_choice_150 (lv_at hl 0 rfl) ?_
              refine lv_if_eq (tgt := 158) (pc := 152) hx hb dX6_choice_152 (by decide) (fun c71 => ?_) (fun c71 => ?_)
              · replace hf := o_pos c71 hf
                refine lv_aload (pc := 158) hx hb dX6_choice_158 (lv_at hl 5 rfl) ?_
                refine lv_iconst (v := (1 : Int32)) (pc := 160) hx hb dX6_choice_160 (by decide) ?_
                refine lv_dup2_11 (pc := 161) hx hb dX6_choice_161 rfl rfl ?_
                refine zu_iald (pc := 162) hx hb Z 0 0 rfl rfl (show ¬ ((1 : Int32) < 0 ∨ 7 ≤ (1 : Int32).toNatClampNeg) by decide) dX6_choice_162 ?_
                refine lv_iconst (v := (1 : Int32)) (pc := 163) hx hb dX6_choice_163 (by decide) ?_
                refine lv_iadd (pc := 164) hx hb dX6_choice_164 ?_
                refine zu_iast (pc := 165) hx hb Z 0 0 rfl rfl (show ¬ ((1 : Int32) < 0 ∨ 7 ≤ (1 : Int32).toNatClampNeg) by decide) dX6_choice_165 (fun g => [[(q7, .inl (cA 0, 7, .inl g))], [((h3 0), .inl (cA 0, B_n, .inl a1))], [(a_B, .inr (6, [.int B_height, .int B_room, .int B_account, .ref c_B, .ref l_B]))], [(c_B, .inl (cA 0, 5, .inl B_costs))], [(l_B, .inl (cA 4, B_n, .inr (.inr (.inr (.inr (fun i => some (g_B i)))))))], (zLs g_B B_n B_v), [((h6 0), .inl (cA 0, B_n, .inl a4))]]) (fun _ => rfl) (fun a72 H locs ea72 Z => ?_)
                replace hf := o_letE ea72 hf
                replace Z : zw D (zTY cA) s A (zU [[(q7, .inl (cA 0, 7, .inl a72))], [((h3 0), .inl (cA 0, B_n, .inl a1))], [(a_B, .inr (6, [.int B_height, .int B_room, .int B_account, .ref c_B, .ref l_B]))], [(c_B, .inl (cA 0, 5, .inl B_costs))], [(l_B, .inl (cA 4, B_n, .inr (.inr (.inr (.inr (fun i => some (g_B i)))))))], (zLs g_B B_n B_v), [((h6 0), .inl (cA 0, B_n, .inl a4))]]) H locs := Z
                refine lv_iload (pc := 166) hx hb dX6_choice_166 (lv_at hl 7 rfl) ?_
                obtain ⟨j179_75, ej179_75, hf⟩ := o_jnE hf
                have hj179_75 : ∀ (a74 : Nat → Int32) (H : Heap) (locs : List Loc) (ls : Array Slot), zw D (zTY cA) s A (zU [[(q7, .inl (cA 0, 7, .inl a74))], [((h3 0), .inl (cA 0, B_n, .inl a1))], [(a_B, .inr (6, [.int B_height, .int B_room, .int B_account, .ref c_B, .ref l_B]))], [(c_B, .inl (cA 0, 5, .inl B_costs))], [(l_B, .inl (cA 4, B_n, .inr (.inr (.inr (.inr (fun i => some (g_B i)))))))], (zLs g_B B_n B_v), [((h6 0), .inl (cA 0, B_n, .inl a4))]]) H locs → lv_has ls 12 [(0, .ref a_B), (1, .int p1), (2, .ref (h3 0)), (3, .ref (h6 0)), (4, .ref q7), (5, .int x13), (7, .int x62), (8, .int x51)] → j179_75 a74 = some u → W p l e ({ frames := 3, cells := 3, slots := 39, locals := 69 } : Room) s m args below meth c H locs 3 39 Q9 (F0 m 179 ls []) := by
                  intro a74 H locs ls Z hl hf
                  rw [ej179_75] at hf
                  refine lv_iload (pc := 179) hx hb dX6_choice_179 (lv_at hl 6 rfl) ?_
                  obtain ⟨j192_78, ej192_78, hf⟩ := o_jnE hf
                  have hj192_78 : ∀ (a77 : Nat → Int32) (H : Heap) (locs : List Loc) (ls : Array Slot), zw D (zTY cA) s A (zU [[(q7, .inl (cA 0, 7, .inl a77))], [((h3 0), .inl (cA 0, B_n, .inl a1))], [(a_B, .inr (6, [.int B_height, .int B_room, .int B_account, .ref c_B, .ref l_B]))], [(c_B, .inl (cA 0, 5, .inl B_costs))], [(l_B, .inl (cA 4, B_n, .inr (.inr (.inr (.inr (fun i => some (g_B i)))))))], (zLs g_B B_n B_v), [((h6 0), .inl (cA 0, B_n, .inl a4))]]) H locs → lv_has ls 12 [(0, .ref a_B), (1, .int p1), (2, .ref (h3 0)), (3, .ref (h6 0)), (4, .ref q7), (5, .int x13), (8, .int x51)] → j192_78 a77 = some u → W p l e ({ frames := 3, cells := 3, slots := 39, locals := 69 } : Room) s m args below meth c H locs 3 39 Q9 (F0 m 192 ls []) := by
                    intro a77 H locs ls Z hl hf
                    rw [ej192_78] at hf
                    refine lv_iconst (v := (1 : Int32)) (pc := 192) hx hb dX6_choice_192 (by decide) ?_
                    refine lv_istore (lv' := [(6, .int (1 : Int32)), (0, .ref a_B), (1, .int p1), (2, .ref (h3 0)), (3, .ref (h6 0)), (4, .ref q7), (5, .int x13), (8, .int x51)]) (pc := 193) hx hb dX6_choice_193 hl (by decide) rfl (fun ls hl => ?_)
                    refine lv_iconst (v := (1 : Int32)) (pc := 195) hx hb dX6_choice_195 (by decide) ?_
                    refine lv_istore (lv' := [(7, .int (1 : Int32)), (6, .int (1 : Int32)), (0, .ref a_B), (1, .int p1), (2, .ref (h3 0)), (3, .ref (h6 0)), (4, .ref q7), (5, .int x13), (8, .int x51)]) (pc := 196) hx hb dX6_choice_196 hl (by decide) rfl (fun ls hl => ?_)
                    obtain ⟨x79, ex79⟩ : ∃ y : Int32, y = (x51 + (1 : Int32)) := ⟨_, rfl⟩
                    replace hf := o_letE ex79 hf
                    refine lv_iinc (v := x79) (lv' := [(8, .int x79), (7, .int (1 : Int32)), (6, .int (1 : Int32)), (0, .ref a_B), (1, .int p1), (2, .ref (h3 0)), (3, .ref (h6 0)), (4, .ref q7), (5, .int x13)]) (pc := 198) hx hb dX6_choice_198 hl (k := 8) rfl (by rw [ex79]; rfl) (by decide) rfl (fun ls hl => ?_)
                    refine lv_goto (tgt := 47) (pc := 201) hx hb dX6_choice_201 (by decide) ?_
                    exact ih0 (1 : Int32) (1 : Int32) x79 a77 H locs ls Z (lv_sub hl [3, 4, 5, 6, 7, 8, 2, 1, 0] rfl) hf
                  refine lv_if_ne (tgt := 192) (pc := 181) hx hb dX6_choice_181 (by decide) (fun c76 => ?_) (fun c76 => ?_)
                  · replace hf := o_neg c76 hf
                    exact hj192_78 a74 H locs ls Z (lv_sub hl [0, 1, 2, 3, 4, 5, 7] rfl) hf
                  · replace hf := o_pos c76 hf
                    refine lv_aload (pc := 184) hx hb dX6_choice_184 (lv_at hl 4 rfl) ?_
                    refine lv_iconst (v := (3 : Int32)) (pc := 186) hx hb dX6_choice_186 (by decide) ?_
                    refine lv_dup2_11 (pc := 187) hx hb dX6_choice_187 rfl rfl ?_
                    refine zu_iald (pc := 188) hx hb Z 0 0 rfl rfl (show ¬ ((3 : Int32) < 0 ∨ 7 ≤ (3 : Int32).toNatClampNeg) by decide) dX6_choice_188 ?_
                    refine lv_iconst (v := (1 : Int32)) (pc := 189) hx hb dX6_choice_189 (by decide) ?_
                    refine lv_iadd (pc := 190) hx hb dX6_choice_190 ?_
                    refine zu_iast (pc := 191) hx hb Z 0 0 rfl rfl (show ¬ ((3 : Int32) < 0 ∨ 7 ≤ (3 : Int32).toNatClampNeg) by decide) dX6_choice_191 (fun g => [[(q7, .inl (cA 0, 7, .inl g))], [((h3 0), .inl (cA 0, B_n, .inl a1))], [(a_B, .inr (6, [.int B_height, .int B_room, .int B_account, .ref c_B, .ref l_B]))], [(c_B, .inl (cA 0, 5, .inl B_costs))], [(l_B, .inl (cA 4, B_n, .inr (.inr (.inr (.inr (fun i => some (g_B i)))))))], (zLs g_B B_n B_v), [((h6 0), .inl (cA 0, B_n, .inl a4))]]) (fun _ => rfl) (fun a80 H locs ea80 Z => ?_)
                    replace hf := o_letE ea80 hf
                    replace Z : zw D (zTY cA) s A (zU [[(q7, .inl (cA 0, 7, .inl a80))], [((h3 0), .inl (cA 0, B_n, .inl a1))], [(a_B, .inr (6, [.int B_height, .int B_room, .int B_account, .ref c_B, .ref l_B]))], [(c_B, .inl (cA 0, 5, .inl B_costs))], [(l_B, .inl (cA 4, B_n, .inr (.inr (.inr (.inr (fun i => some (g_B i)))))))], (zLs g_B B_n B_v), [((h6 0), .inl (cA 0, B_n, .inl a4))]]) H locs := Z
                    exact hj192_78 a80 H locs ls Z (lv_sub hl [0, 1, 2, 3, 4, 5, 7] rfl) hf
                refine lv_if_ne (tgt := 179) (pc := 168) hx hb dX6_choice_168 (by decide) (fun c73 => ?_) (fun c73 => ?_)
                · replace hf := o_neg c73 hf
                  exact hj179_75 a72 H locs ls Z (lv_sub hl [1, 2, 3, 4, 5, 6, 8, 9] rfl) hf
                · replace hf := o_pos c73 hf
                  refine lv_aload (pc := 171) hx hb dX6_choice_171 (lv_at hl 5 rfl) ?_
                  refine lv_iconst (v := (2 : Int32)) (pc := 173) hx hb dX6_choice_173 (by decide) ?_
                  refine lv_dup2_11 (pc := 174) hx hb dX6_choice_174 rfl rfl ?_
                  refine zu_iald (pc := 175) hx hb Z 0 0 rfl rfl (show ¬ ((2 : Int32) < 0 ∨ 7 ≤ (2 : Int32).toNatClampNeg) by decide) dX6_choice_175 ?_
                  refine lv_iconst (v := (1 : Int32)) (pc := 176) hx hb dX6_choice_176 (by decide) ?_
                  refine lv_iadd (pc := 177) hx hb dX6_choice_177 ?_
                  refine zu_iast (pc := 178) hx hb Z 0 0 rfl rfl (show ¬ ((2 : Int32) < 0 ∨ 7 ≤ (2 : Int32).toNatClampNeg) by decide) dX6_choice_178 (fun g => [[(q7, .inl (cA 0, 7, .inl g))], [((h3 0), .inl (cA 0, B_n, .inl a1))], [(a_B, .inr (6, [.int B_height, .int B_room, .int B_account, .ref c_B, .ref l_B]))], [(c_B, .inl (cA 0, 5, .inl B_costs))], [(l_B, .inl (cA 4, B_n, .inr (.inr (.inr (.inr (fun i => some (g_B i)))))))], (zLs g_B B_n B_v), [((h6 0), .inl (cA 0, B_n, .inl a4))]]) (fun _ => rfl) (fun a81 H locs ea81 Z => ?_)
                  replace hf := o_letE ea81 hf
                  replace Z : zw D (zTY cA) s A (zU [[(q7, .inl (cA 0, 7, .inl a81))], [((h3 0), .inl (cA 0, B_n, .inl a1))], [(a_B, .inr (6, [.int B_height, .int B_room, .int B_account, .ref c_B, .ref l_B]))], [(c_B, .inl (cA 0, 5, .inl B_costs))], [(l_B, .inl (cA 4, B_n, .inr (.inr (.inr (.inr (fun i => some (g_B i)))))))], (zLs g_B B_n B_v), [((h6 0), .inl (cA 0, B_n, .inl a4))]]) H locs := Z
                  exact hj179_75 a81 H locs ls Z (lv_sub hl [1, 2, 3, 4, 5, 6, 8, 9] rfl) hf
              · replace hf := o_neg c71 hf
                refine lv_goto (tgt := 198) (pc := 155) hx hb dX6_choice_155 (by decide) ?_
                obtain ⟨x82, ex82⟩ : ∃ y : Int32, y = (x51 + (1 : Int32)) := ⟨_, rfl⟩
                replace hf := o_letE ex82 hf
                refine lv_iinc (v := x82) (lv' := [(8, .int x82), (11, .int x69), (0, .ref a_B), (1, .int p1), (2, .ref (h3 0)), (3, .ref (h6 0)), (4, .ref q7), (5, .int x13), (6, .int x57), (7, .int x62)]) (pc := 198) hx hb dX6_choice_198 hl (k := 9) rfl (by rw [ex82]; rfl) (by decide) rfl (fun ls hl => ?_)
                refine lv_goto (tgt := 47) (pc := 201) hx hb dX6_choice_201 (by decide) ?_
                exact ih0 x57 x62 x82 a52 H locs ls Z (lv_sub hl [2, 3, 4, 5, 6, 7, 8, 9, 0] rfl) hf
            refine lv_icmp_ne (tgt := 147) (pc := 104) hx hb dX6_choice_104 (by decide) (fun c68 => ?_) (fun c68 => ?_)
            · replace hf := o_neg c68 hf
              refine lv_iconst (v := (0 : Int32)) (pc := 147) hx hb dX6_choice_147 (by decide) ?_
              exact hj148_70 (0 : Int32) H locs ls Z (lv_sub hl [2, 3, 4, 5, 6, 7, 8, 9, 10] rfl) hf
            · replace hf := o_pos c68 hf
              refine lv_iload (pc := 107) hx hb dX6_choice_107 (lv_at hl 1 rfl) ?_
              refine lv_if_lt (tgt := 143) (pc := 109) hx hb dX6_choice_109 (by decide) (fun c83 => ?_) (fun c83 => ?_)
              · replace hf := o_pos c83 hf
                refine lv_iconst (v := (1 : Int32)) (pc := 143) hx hb dX6_choice_143 (by decide) ?_
                refine lv_goto (tgt := 148) (pc := 144) hx hb dX6_choice_144 (by decide) ?_
                exact hj148_70 (1 : Int32) H locs ls Z (lv_sub hl [2, 3, 4, 5, 6, 7, 8, 9, 10] rfl) hf
              · replace hf := o_neg c83 hf
                refine lv_iload (pc := 112) hx hb dX6_choice_112 (lv_at hl 1 rfl) ?_
                refine lv_bipush (v := (10 : Int32)) (pc := 114) hx hb dX6_choice_114 (by decide) ?_
                refine lv_irem (pc := 116) hx hb dX6_choice_116 (by decide) ?_
                refine lv_topi (fun x84 ex84 => ?_)
                replace hf := o_letE ex84 hf
                refine lv_if_gt (tgt := 143) (pc := 117) hx hb dX6_choice_117 (by decide) (fun c85 => ?_) (fun c85 => ?_)
                · replace hf := o_pos c85 hf
                  refine lv_iconst (v := (1 : Int32)) (pc := 143) hx hb dX6_choice_143 (by decide) ?_
                  refine lv_goto (tgt := 148) (pc := 144) hx hb dX6_choice_144 (by decide) ?_
                  exact hj148_70 (1 : Int32) H locs ls Z (lv_sub hl [2, 3, 4, 5, 6, 7, 8, 9, 10] rfl) hf
                · replace hf := o_neg c85 hf
                  refine lv_aload_n (pc := 120) hx hb dX6_choice_120 rfl (lv_at hl 2 rfl) ?_
                  refine lv_aload_n (pc := 121) hx hb dX6_choice_121 rfl (lv_at hl 4 rfl) ?_
                  refine lv_iload (pc := 122) hx hb dX6_choice_122 (lv_at hl 1 rfl) ?_
                  refine lv_bipush (v := (10 : Int32)) (pc := 124) hx hb dX6_choice_124 (by decide) ?_
                  refine lv_idiv (pc := 126) hx hb dX6_choice_126 (by decide) ?_
                  refine lv_topi (fun x86 ex86 => ?_)
                  replace hf := o_letE ex86 hf
                  obtain ⟨x87, h88, hf⟩ := o_bindE hf
                  refine zg_callVi (pc := 127) (As := [.ref (h3 0), .int x86]) (rest := []) (LF := [[(q7, .inl (cA 0, 7, .inl a52))], [((h6 0), .inl (cA 0, B_n, .inl a4))]]) (Lc := [[(a_B, .inr (6, [.int B_height, .int B_room, .int B_account, .ref c_B, .ref l_B]))], [(c_B, .inl (cA 0, 5, .inl B_costs))], [(l_B, .inl (cA 4, B_n, .inr (.inr (.inr (.inr (fun i => some (g_B i)))))))], (zLs g_B B_n B_v), [((h3 0), .inl (cA 0, B_n, .inl a1))]]) zJ_pass hJ ⟨hx, hb, hml, hown, hts⟩ (kX6_number l D cA a_B c_B l_B g_B (h3 0) x86 B_height B_room B_account B_costs B_n B_v B_n a1 _ h88) (cwV 2 hts gX6_choice_X6_number rfl rfl rfl (by decide +kernel) ⟨(Nat.le_of_ble_eq_true rfl), (Nat.le_of_ble_eq_true rfl)⟩) Z hA [2, 3, 4, 5, 1, 0, 6] rfl (by decide) (ci := 6) rfl 0 0 rfl rfl rfl rfl hl.1 rfl (Nat.le_of_ble_eq_true rfl) dX6_choice_127 ⟨(by show 3 + 0 ≤ 3; omega), (by show 39 + 0 ≤ 39; omega)⟩ (fun _ H locs Z => ?_)
                  replace Z : zw D (zTY cA) s A (zU [[(q7, .inl (cA 0, 7, .inl a52))], [((h6 0), .inl (cA 0, B_n, .inl a4))], [(a_B, .inr (6, [.int B_height, .int B_room, .int B_account, .ref c_B, .ref l_B]))], [(c_B, .inl (cA 0, 5, .inl B_costs))], [(l_B, .inl (cA 4, B_n, .inr (.inr (.inr (.inr (fun i => some (g_B i)))))))], (zLs g_B B_n B_v), [((h3 0), .inl (cA 0, B_n, .inl a1))]]) H locs := Z
                  refine lv_aload_n (pc := 130) hx hb dX6_choice_130 rfl (lv_at hl 2 rfl) ?_
                  refine lv_aload_n (pc := 131) hx hb dX6_choice_131 rfl (lv_at hl 5 rfl) ?_
                  refine lv_iload (pc := 132) hx hb dX6_choice_132 (lv_at hl 1 rfl) ?_
                  refine lv_bipush (v := (10 : Int32)) (pc := 134) hx hb dX6_choice_134 (by decide) ?_
                  refine lv_idiv (pc := 136) hx hb dX6_choice_136 (by decide) ?_
                  refine lv_topi (fun x89 ex89 => ?_)
                  replace hf := o_letE ex89 hf
                  obtain ⟨x90, h91, hf⟩ := o_bindE hf
                  refine zg_callVi (pc := 137) (As := [.ref (h6 0), .int x89]) (rest := [.int x87]) (LF := [[(q7, .inl (cA 0, 7, .inl a52))], [((h3 0), .inl (cA 0, B_n, .inl a1))]]) (Lc := [[(a_B, .inr (6, [.int B_height, .int B_room, .int B_account, .ref c_B, .ref l_B]))], [(c_B, .inl (cA 0, 5, .inl B_costs))], [(l_B, .inl (cA 4, B_n, .inr (.inr (.inr (.inr (fun i => some (g_B i)))))))], (zLs g_B B_n B_v), [((h6 0), .inl (cA 0, B_n, .inl a4))]]) zJ_pass hJ ⟨hx, hb, hml, hown, hts⟩ (kX6_number l D cA a_B c_B l_B g_B (h6 0) x89 B_height B_room B_account B_costs B_n B_v B_n a4 _ h91) (cwV 2 hts gX6_choice_X6_number rfl rfl rfl (by decide +kernel) ⟨(Nat.le_of_ble_eq_true rfl), (Nat.le_of_ble_eq_true rfl)⟩) Z hA [2, 3, 4, 5, 1, 0, 6] rfl (by decide) (ci := 6) rfl 0 0 rfl rfl rfl rfl hl.1 rfl (Nat.le_of_ble_eq_true rfl) dX6_choice_137 ⟨(by show 3 + 0 ≤ 3; omega), (by show 39 + 0 ≤ 39; omega)⟩ (fun _ H locs Z => ?_)
                  replace Z : zw D (zTY cA) s A (zU [[(q7, .inl (cA 0, 7, .inl a52))], [((h3 0), .inl (cA 0, B_n, .inl a1))], [(a_B, .inr (6, [.int B_height, .int B_room, .int B_account, .ref c_B, .ref l_B]))], [(c_B, .inl (cA 0, 5, .inl B_costs))], [(l_B, .inl (cA 4, B_n, .inr (.inr (.inr (.inr (fun i => some (g_B i)))))))], (zLs g_B B_n B_v), [((h6 0), .inl (cA 0, B_n, .inl a4))]]) H locs := Z
                  refine lv_icmp_ne (tgt := 147) (pc := 140) hx hb dX6_choice_140 (by decide) (fun c92 => ?_) (fun c92 => ?_)
                  · replace hf := o_neg c92 hf
                    refine lv_iconst (v := (0 : Int32)) (pc := 147) hx hb dX6_choice_147 (by decide) ?_
                    exact hj148_70 (0 : Int32) H locs ls Z (lv_sub hl [2, 3, 4, 5, 6, 7, 8, 9, 10] rfl) hf
                  · replace hf := o_pos c92 hf
                    refine lv_iconst (v := (1 : Int32)) (pc := 143) hx hb dX6_choice_143 (by decide) ?_
                    refine lv_goto (tgt := 148) (pc := 144) hx hb dX6_choice_144 (by decide) ?_
                    exact hj148_70 (1 : Int32) H locs ls Z (lv_sub hl [2, 3, 4, 5, 6, 7, 8, 9, 10] rfl) hf
          refine lv_if_ne (tgt := 82) (pc := 76) hx hb dX6_choice_76 (by decide) (fun c61 => ?_) (fun c61 => ?_)
          · replace hf := o_neg c61 hf
            exact hj82_63 x50 H locs ls Z (lv_sub hl [0, 1, 2, 3, 4, 5, 6, 7, 8] rfl) hf
          · replace hf := o_pos c61 hf
            refine lv_iconst (v := (0 : Int32)) (pc := 79) hx hb dX6_choice_79 (by decide) ?_
            refine lv_istore (lv' := [(7, .int (0 : Int32)), (0, .ref a_B), (1, .int p1), (2, .ref (h3 0)), (3, .ref (h6 0)), (4, .ref q7), (5, .int x13), (6, .int x57), (8, .int x51)]) (pc := 80) hx hb dX6_choice_80 hl (by decide) rfl (fun ls hl => ?_)
            exact hj82_63 (0 : Int32) H locs ls Z (lv_sub hl [1, 2, 3, 4, 5, 6, 7, 0, 8] rfl) hf
        refine lv_if_ne (tgt := 67) (pc := 61) hx hb dX6_choice_61 (by decide) (fun c56 => ?_) (fun c56 => ?_)
        · replace hf := o_neg c56 hf
          exact hj67_58 x49 H locs ls Z (lv_sub hl [0, 1, 2, 3, 4, 5, 6, 7, 8] rfl) hf
        · replace hf := o_pos c56 hf
          refine lv_iconst (v := (0 : Int32)) (pc := 64) hx hb dX6_choice_64 (by decide) ?_
          refine lv_istore (lv' := [(6, .int (0 : Int32)), (0, .ref a_B), (1, .int p1), (2, .ref (h3 0)), (3, .ref (h6 0)), (4, .ref q7), (5, .int x13), (7, .int x50), (8, .int x51)]) (pc := 65) hx hb dX6_choice_65 hl (by decide) rfl (fun ls hl => ?_)
          exact hj67_58 (0 : Int32) H locs ls Z (lv_sub hl [1, 2, 3, 4, 5, 6, 0, 7, 8] rfl) hf
  exact hL47 1024 (0 : Int32) (0 : Int32) (0 : Int32) (fun _ => 0) H locs ls Z (lv_sub hl [7, 8, 6, 5, 4, 3, 2, 1, 0] rfl) hf
