def fX6_carries_L47 (x5 : Int32) (j101_12 : (Nat → ZL) → Option (Int32 × Int32 × (Nat → ZL))) (B_n : Nat) (a9 : Nat → Int32) (p1 : Int32) : Nat → Int32 → (Nat → ZL) → Option (Int32 × Int32 × (Nat → ZL))
  | 0, _, _ => none
  | n0 + 1, x14, a15 => (if x5 ≤ x14 then (j101_12 a15) else o_rd (x5.toNatClampNeg) x14 (o_rd B_n (a9 x14.toNatClampNeg) (o_let (fun (a20 : Nat → ZL) => o_bind (fX7_differs (a20 (a9 x14.toNatClampNeg).toNatClampNeg)) (fun x22 => o_as (x22 = 0 ∨ x22 = 1) (o_let (va_up a20 ((a9 x14.toNatClampNeg).toNatClampNeg) ((a20 (a9 x14.toNatClampNeg).toNatClampNeg).1, (a20 (a9 x14.toNatClampNeg).toNatClampNeg).2.1, (a20 (a9 x14.toNatClampNeg).toNatClampNeg).2.2.1, (a20 (a9 x14.toNatClampNeg).toNatClampNeg).2.2.2.1, (a20 (a9 x14.toNatClampNeg).toNatClampNeg).2.2.2.2.1, x22)) (fun a25 => o_let (x14 + (1 : Int32)) (fun x26 => (fX6_carries_L47 x5 j101_12 B_n a9 p1 n0 x26 a25)))))) (fun (j85_21 : (Nat → ZL) → Option (Int32 × Int32 × (Nat → ZL))) => (if ((p1 >>> (x14 &&& 31)) &&& (1 : Int32)) = (1 : Int32) then o_let ((a15 (a9 x14.toNatClampNeg).toNatClampNeg).2.2.2.2.1) (fun x27 => o_as (x27 = 0 ∨ x27 = 1) (o_let (va_up a15 ((a9 x14.toNatClampNeg).toNatClampNeg) ((a15 (a9 x14.toNatClampNeg).toNatClampNeg).1, (a15 (a9 x14.toNatClampNeg).toNatClampNeg).2.1, (a15 (a9 x14.toNatClampNeg).toNatClampNeg).2.2.1, x27, (a15 (a9 x14.toNatClampNeg).toNatClampNeg).2.2.2.2.1, (a15 (a9 x14.toNatClampNeg).toNatClampNeg).2.2.2.2.2)) (fun a29 => (j85_21 a29)))) else (j85_21 a15))))))
def fX6_carries_L21 (x5 : Int32) (j44_10 : (Nat → Int32) → Option (Int32 × Int32 × (Nat → ZL))) (B_n : Nat) (B_v : Nat → ZL) : Nat → Int32 → (Nat → Int32) → Option (Int32 × Int32 × (Nat → ZL))
  | 0, _, _ => none
  | n0 + 1, x30, a31 => (if x5 ≤ x30 then (j44_10 a31) else o_bind (fX6_indexOf x30 B_n B_v) (fun x33 => o_rd (x5.toNatClampNeg) x30 (o_let (upd a31 x30.toNatClampNeg x33) (fun a36 => o_let (x30 + (1 : Int32)) (fun x37 => (fX6_carries_L21 x5 j44_10 B_n B_v n0 x37 a36))))))
def fX6_carries (p1 : Int32) (B_height : Int32) (B_room : Int32) (B_account : Int32) (B_costs : Nat → Int32) (B_n : Nat) (B_v : Nat → ZL) : Option (Int32 × Int32 × (Nat → ZL)) := o_bind (fX6_choice p1 B_height B_room B_costs B_n B_v) (fun a1 => o_let (a1 (0 : Int32).toNatClampNeg) (fun x4 => o_bind (fX6_different B_n B_v) (fun x5 => o_as ((¬ x5 < 0) ∧ x5.toNatClampNeg ≤ 16) (o_let (fun (a9 : Nat → Int32) => o_let (fun (a11 : Nat → ZL) => o_let (B_account + x4) (fun x13 => some (x4, x13, a11))) (fun (j101_12 : (Nat → ZL) → Option (Int32 × Int32 × (Nat → ZL))) => (fX6_carries_L47 x5 j101_12 B_n a9 p1 1024 (0 : Int32) B_v))) (fun (j44_10 : (Nat → Int32) → Option (Int32 × Int32 × (Nat → ZL))) => (fX6_carries_L21 x5 j44_10 B_n B_v 1024 (0 : Int32) (fun _ => 0)))))))
theorem iw_X6_carries_X6 : ∀ w ∈ u_ws RX6 TX6 5, w ∈ wsX6_carries := z_inr [55, 56, 57, 58, 59] rfl
theorem iw_X6_carries_X7 : ∀ w ∈ u_ws RX7 TX7 6, w ∈ wsX6_carries := z_inr [60, 61, 62, 63, 64, 65] rfl
set_option maxHeartbeats 8000000 in
set_option maxRecDepth 100000 in
theorem kX6_carries (l : Launch) (D : va_G) (cA : Nat → ClassId) (a_B : Nat) (c_B : Nat) (l_B : Nat) (g_B : Nat → Nat) (p1 : Int32) (B_height : Int32) (B_room : Int32) (B_account : Int32) (B_costs : Nat → Int32) (B_n : Nat) (B_v : Nat → ZL) (u : Int32 × Int32 × (Nat → ZL)) (hf : fX6_carries p1 B_height B_room B_account B_costs B_n B_v = some u) : zG zJ l yX6_carries wsX6_carries ({ frames := 4, cells := 4, slots := 55, locals := 100 } : Room) D (zTY cA) [.ref a_B, .int p1] (zU [[(a_B, .inr (6, [.int B_height, .int B_room, .int B_account, .ref c_B, .ref l_B]))], [(c_B, .inl (cA 0, 5, .inl B_costs))], [(l_B, .inl (cA 4, B_n, .inr (.inr (.inr (.inr (fun i => some (g_B i)))))))], (zLs g_B B_n B_v)]) (fun v _ => v = some (.int u.1)) (fun h9 => zU [[(a_B, .inr (6, [.int B_height, .int B_room, .int (u.2.1), .ref c_B, .ref l_B]))], [(c_B, .inl (cA 0, 5, .inl B_costs))], [(l_B, .inl (cA 4, B_n, .inr (.inr (.inr (.inr (fun i => some (g_B i)))))))], (zLs g_B B_n (u.2.2))]) := by
  refine z_startG (cc := cX6_carries) (maxL := 7) (ret := (some .int)) (by decide) rfl (Nat.le_of_ble_eq_true rfl) ?_
  intro p e s m args below meth c A hx hb hr hts hown hlocks hml hA hmn hJ Z ls hl
  replace hown : s.vm.findClass RX6 = some m.cls := hown
  replace hl : lv_has ls 7 [(0, .ref a_B), (1, .int p1)] := hl
  obtain ⟨Q9, hQ9⟩ : ∃ Q9 : State → Prop, Q9 = MQ below (zQG D (zTY cA) A (fun v _ => v = some (.int u.1)) (fun h9 => zU [[(a_B, .inr (6, [.int B_height, .int B_room, .int (u.2.1), .ref c_B, .ref l_B]))], [(c_B, .inl (cA 0, 5, .inl B_costs))], [(l_B, .inl (cA 4, B_n, .inr (.inr (.inr (.inr (fun i => some (g_B i)))))))], (zLs g_B B_n (u.2.2))])) args s 4 55 A := ⟨_, rfl⟩
  show W p l e ({ frames := 4, cells := 4, slots := 55, locals := 100 } : Room) s m args below meth c s.heap [] 0 0 (MQ below (zQG D (zTY cA) A (fun v _ => v = some (.int u.1)) (fun h9 => zU [[(a_B, .inr (6, [.int B_height, .int B_room, .int (u.2.1), .ref c_B, .ref l_B]))], [(c_B, .inl (cA 0, 5, .inl B_costs))], [(l_B, .inl (cA 4, B_n, .inr (.inr (.inr (.inr (fun i => some (g_B i)))))))], (zLs g_B B_n (u.2.2))])) args s 4 55 A) (F0 m 0 ls [])
  rw [← hQ9]
  obtain ⟨H, hH⟩ : ∃ H, H = s.heap := ⟨_, rfl⟩
  rw [← hH] at Z ⊢
  clear hH
  obtain ⟨locs, hlc⟩ : ∃ q : List Loc, q = [] := ⟨_, rfl⟩
  rw [← hlc] at Z ⊢
  clear hlc
  refine lv_aload_n (pc := 0) hx hb dX6_carries_0 rfl (lv_at hl 0 rfl) ?_
  refine lv_iload_n (pc := 1) hx hb dX6_carries_1 rfl (lv_at hl 1 rfl) ?_
  obtain ⟨a1, h2, hf⟩ := o_bindE hf
  refine zg_callVr (pc := 2) (As := [.int p1]) (rest := []) (LF := []) (Lc := [[(a_B, .inr (6, [.int B_height, .int B_room, .int B_account, .ref c_B, .ref l_B]))], [(c_B, .inl (cA 0, 5, .inl B_costs))], [(l_B, .inl (cA 4, B_n, .inr (.inr (.inr (.inr (fun i => some (g_B i)))))))], (zLs g_B B_n B_v)]) zJ_pass hJ ⟨hx, hb, hml, hown, hts⟩ (kX6_choice l D cA a_B c_B l_B g_B p1 B_height B_room B_account B_costs B_n B_v _ h2) (cwV 1 hts gX6_carries_X6_choice rfl rfl rfl (by decide +kernel) ⟨(Nat.le_of_ble_eq_true rfl), (Nat.le_of_ble_eq_true rfl)⟩) Z hA [0, 1, 2, 3] rfl (by decide) (ci := 6) rfl 0 0 rfl rfl rfl rfl hl.1 rfl (Nat.le_of_ble_eq_true rfl) dX6_carries_2 ⟨(by show 0 + 3 ≤ 4; omega), (by show 0 + 39 ≤ 55; omega)⟩ (fun h3 H locs Z => ?_)
  refine W.widen (k := 3) (n := 39) (by show 0 + 3 ≤ _; omega) (by show 0 + 39 ≤ _; omega) ?_
  replace Z : zw D (zTY cA) s A (zU [[(a_B, .inr (6, [.int B_height, .int B_room, .int B_account, .ref c_B, .ref l_B]))], [(c_B, .inl (cA 0, 5, .inl B_costs))], [(l_B, .inl (cA 4, B_n, .inr (.inr (.inr (.inr (fun i => some (g_B i)))))))], (zLs g_B B_n B_v), [((h3 0), .inl (cA 0, 7, .inl a1))]]) H locs := Z
  refine lv_iconst (v := (0 : Int32)) (pc := 5) hx hb dX6_carries_5 (by decide) ?_
  refine zu_iald (pc := 6) hx hb Z 4 0 rfl rfl (show ¬ ((0 : Int32) < 0 ∨ 7 ≤ (0 : Int32).toNatClampNeg) by decide) dX6_carries_6 ?_
  refine lv_topi (fun x4 ex4 => ?_)
  replace hf := o_letE ex4 hf
  refine lv_istore_n (lv' := [(2, .int x4), (0, .ref a_B), (1, .int p1)]) (pc := 7) hx hb dX6_carries_7 rfl hl (by decide) rfl (fun ls hl => ?_)
  refine lv_aload_n (pc := 8) hx hb dX6_carries_8 rfl (lv_at hl 1 rfl) ?_
  obtain ⟨x5, h6, hf⟩ := o_bindE hf
  refine zg_callVi (pc := 9) (As := []) (rest := []) (LF := [[((h3 0), .inl (cA 0, 7, .inl a1))]]) (Lc := [[(a_B, .inr (6, [.int B_height, .int B_room, .int B_account, .ref c_B, .ref l_B]))], [(c_B, .inl (cA 0, 5, .inl B_costs))], [(l_B, .inl (cA 4, B_n, .inr (.inr (.inr (.inr (fun i => some (g_B i)))))))], (zLs g_B B_n B_v)]) zJ_pass hJ ⟨hx, hb, hml, hown, hts⟩ (kX6_different l D cA a_B c_B l_B g_B B_height B_room B_account B_costs B_n B_v _ h6) (cwV 0 hts gX6_carries_X6_different rfl rfl rfl (by decide +kernel) ⟨(Nat.le_of_ble_eq_true rfl), (Nat.le_of_ble_eq_true rfl)⟩) Z hA [0, 1, 2, 3, 4] rfl (by decide) (ci := 6) rfl 0 0 rfl rfl rfl rfl hl.1 rfl (Nat.le_of_ble_eq_true rfl) dX6_carries_9 ⟨(by show 3 + 0 ≤ 4; omega), (by show 39 + 0 ≤ 55; omega)⟩ (fun _ H locs Z => ?_)
  replace Z : zw D (zTY cA) s A (zU [[((h3 0), .inl (cA 0, 7, .inl a1))], [(a_B, .inr (6, [.int B_height, .int B_room, .int B_account, .ref c_B, .ref l_B]))], [(c_B, .inl (cA 0, 5, .inl B_costs))], [(l_B, .inl (cA 4, B_n, .inr (.inr (.inr (.inr (fun i => some (g_B i)))))))], (zLs g_B B_n B_v)]) H locs := Z
  refine lv_istore_n (lv' := [(3, .int x5), (2, .int x4), (0, .ref a_B), (1, .int p1)]) (pc := 12) hx hb dX6_carries_12 rfl hl (by decide) rfl (fun ls hl => ?_)
  refine lv_iload_n (pc := 13) hx hb dX6_carries_13 rfl (lv_at hl 0 rfl) ?_
  obtain ⟨hn8, hf⟩ := o_asE hf
  refine zu_newa (atype := .int) (ty := .int) (a0 := (x5.toNatClampNeg, .inl (fun _ => 0))) 0 (pc := 14) hx hb hts (List.mem_of_getElem? (i := 1) rfl) rfl (fun _ => rfl) rfl Z hA (fun _ => rfl) hn8.1 rfl (by show x5.toNatClampNeg * 4 ≤ 536870912; have := hn8.2; omega) (by show 3 + 1 ≤ 4; omega) (by have := hn8.2; show 39 + x5.toNatClampNeg ≤ 55; omega) dX6_carries_14 (fun q7 H Z => ?_)
  refine W.widen (k := 4) (n := 55) (by show 3 + 1 ≤ _; omega) (by have := hn8.2; show 39 + x5.toNatClampNeg ≤ _; omega) ?_
  replace Z : zw D (zTY cA) s A (zU [[((h3 0), .inl (cA 0, 7, .inl a1))], [(a_B, .inr (6, [.int B_height, .int B_room, .int B_account, .ref c_B, .ref l_B]))], [(c_B, .inl (cA 0, 5, .inl B_costs))], [(l_B, .inl (cA 4, B_n, .inr (.inr (.inr (.inr (fun i => some (g_B i)))))))], (zLs g_B B_n B_v), [(q7, .inl (cA 0, (x5.toNatClampNeg), .inl (fun _ => 0)))]]) H locs := Z
  refine lv_astore (lv' := [(4, .ref q7), (3, .int x5), (2, .int x4), (0, .ref a_B), (1, .int p1)]) (pc := 16) hx hb dX6_carries_16 hl (by decide) rfl (fun ls hl => ?_)
  refine lv_iconst (v := (0 : Int32)) (pc := 18) hx hb dX6_carries_18 (by decide) ?_
  refine lv_istore (lv' := [(5, .int (0 : Int32)), (4, .ref q7), (3, .int x5), (2, .int x4), (0, .ref a_B), (1, .int p1)]) (pc := 19) hx hb dX6_carries_19 hl (by decide) rfl (fun ls hl => ?_)
  obtain ⟨j44_10, ej44_10, hf⟩ := o_jnE hf
  have hj44_10 : ∀ (a9 : Nat → Int32) (H : Heap) (locs : List Loc) (ls : Array Slot), zw D (zTY cA) s A (zU [[(a_B, .inr (6, [.int B_height, .int B_room, .int B_account, .ref c_B, .ref l_B]))], [(c_B, .inl (cA 0, 5, .inl B_costs))], [(l_B, .inl (cA 4, B_n, .inr (.inr (.inr (.inr (fun i => some (g_B i)))))))], (zLs g_B B_n B_v), [(q7, .inl (cA 0, (x5.toNatClampNeg), .inl a9))]]) H locs → lv_has ls 7 [(0, .ref a_B), (1, .int p1), (2, .int x4), (3, .int x5), (4, .ref q7)] → j44_10 a9 = some u → W p l e ({ frames := 4, cells := 4, slots := 55, locals := 100 } : Room) s m args below meth c H locs 4 55 Q9 (F0 m 44 ls []) := by
    intro a9 H locs ls Z hl hf
    rw [ej44_10] at hf
    refine lv_iconst (v := (0 : Int32)) (pc := 44) hx hb dX6_carries_44 (by decide) ?_
    refine lv_istore (lv' := [(5, .int (0 : Int32)), (0, .ref a_B), (1, .int p1), (2, .int x4), (3, .int x5), (4, .ref q7)]) (pc := 45) hx hb dX6_carries_45 hl (by decide) rfl (fun ls hl => ?_)
    obtain ⟨j101_12, ej101_12, hf⟩ := o_jnE hf
    have hj101_12 : ∀ (a11 : Nat → ZL) (H : Heap) (locs : List Loc) (ls : Array Slot), zw D (zTY cA) s A (zU [[(a_B, .inr (6, [.int B_height, .int B_room, .int B_account, .ref c_B, .ref l_B]))], [(c_B, .inl (cA 0, 5, .inl B_costs))], [(l_B, .inl (cA 4, B_n, .inr (.inr (.inr (.inr (fun i => some (g_B i)))))))], (zLs g_B B_n a11)]) H locs → lv_has ls 7 [(0, .ref a_B), (2, .int x4)] → j101_12 a11 = some u → W p l e ({ frames := 4, cells := 4, slots := 55, locals := 100 } : Room) s m args below meth c H locs 4 55 Q9 (F0 m 101 ls []) := by
      intro a11 H locs ls Z hl hf
      rw [ej101_12] at hf
      refine lv_aload_n (pc := 101) hx hb dX6_carries_101 rfl (lv_at hl 0 rfl) ?_
      refine lv_dup (pc := 102) hx hb dX6_carries_102 rfl ?_
      refine zu_get (ref := "LotSheetLaw$Bill") (ci := 6) (C := RX6) (T := TX6) (N := 5) (pc := 103) hx hb hts iw_X6_carries_X6 hown Z 0 rfl rfl 2 (by decide) (List.mem_of_getElem? (i := 6) rfl) rfl rfl dX6_carries_103 ?_
      refine lv_iload_n (pc := 106) hx hb dX6_carries_106 rfl (lv_at hl 1 rfl) ?_
      refine lv_iadd (pc := 107) hx hb dX6_carries_107 ?_
      refine lv_topi (fun x13 ex13 => ?_)
      replace hf := o_letE ex13 hf
      refine zu_put (ref := "LotSheetLaw$Bill") (ci := 6) (C := RX6) (T := TX6) (N := 5) (L' := [[(a_B, .inr (6, [.int B_height, .int B_room, .int x13, .ref c_B, .ref l_B]))], [(c_B, .inl (cA 0, 5, .inl B_costs))], [(l_B, .inl (cA 4, B_n, .inr (.inr (.inr (.inr (fun i => some (g_B i)))))))], (zLs g_B B_n a11)]) (pc := 108) hx hb hts iw_X6_carries_X6 tyX6 tyX6_ok nmX6 hown Z 0 rfl rfl 2 (by decide) (List.mem_of_getElem? (i := 6) rfl) rfl rfl rfl rfl (Nat.le_of_ble_eq_true rfl) dX6_carries_108 rfl (fun H locs Z => ?_)
      refine lv_iload_n (pc := 111) hx hb dX6_carries_111 rfl (lv_at hl 1 rfl) ?_
      cases hf
      rw [hQ9]
      exact zg_iret (pc := 112) (L' := [[(a_B, .inr (6, [.int B_height, .int B_room, .int x13, .ref c_B, .ref l_B]))], [(c_B, .inl (cA 0, 5, .inl B_costs))], [(l_B, .inl (cA 4, B_n, .inr (.inr (.inr (.inr (fun i => some (g_B i)))))))], (zLs g_B B_n a11)]) (fun _ => 0) (by show 4 ≤ 4; omega) (by show 55 ≤ 55; omega) hx hb hr hlocks Z [0, 1, 2, 3] rfl (by decide) rfl rfl dX6_carries_112
    have hL47 : ∀ (n0 : Nat) (x14 : Int32) (a15 : Nat → ZL) (H : Heap) (locs : List Loc) (ls : Array Slot), zw D (zTY cA) s A (zU [[(a_B, .inr (6, [.int B_height, .int B_room, .int B_account, .ref c_B, .ref l_B]))], [(c_B, .inl (cA 0, 5, .inl B_costs))], [(l_B, .inl (cA 4, B_n, .inr (.inr (.inr (.inr (fun i => some (g_B i)))))))], (zLs g_B B_n a15), [(q7, .inl (cA 0, (x5.toNatClampNeg), .inl a9))]]) H locs → lv_has ls 7 [(0, .ref a_B), (1, .int p1), (2, .int x4), (3, .int x5), (4, .ref q7), (5, .int x14)] → fX6_carries_L47 x5 j101_12 B_n a9 p1 n0 x14 a15 = some u → W p l e ({ frames := 4, cells := 4, slots := 55, locals := 100 } : Room) s m args below meth c H locs 4 55 Q9 (F0 m 47 ls []) := by
      intro n0
      induction n0 with
      | zero => intro x14 a15 H locs ls Z hl hf; exact o_no hf
      | succ n0 ih0 =>
        intro x14 a15 H locs ls Z hl hf
        refine lv_iload (pc := 47) hx hb dX6_carries_47 (lv_at hl 5 rfl) ?_
        refine lv_iload_n (pc := 49) hx hb dX6_carries_49 rfl (lv_at hl 3 rfl) ?_
        refine lv_icmp_ge (tgt := 101) (pc := 50) hx hb dX6_carries_50 (by decide) (fun c16 => ?_) (fun c16 => ?_)
        · replace hf := o_pos c16 hf
          exact hj101_12 a15 H locs ls (zu_sub Z [0, 1, 2, 3] rfl (by decide)) (lv_sub hl [0, 2] rfl) hf
        · replace hf := o_neg c16 hf
          refine lv_aload_n (pc := 53) hx hb dX6_carries_53 rfl (lv_at hl 0 rfl) ?_
          refine zu_get (ref := "LotSheetLaw$Bill") (ci := 6) (C := RX6) (T := TX6) (N := 5) (pc := 54) hx hb hts iw_X6_carries_X6 hown Z 0 rfl rfl 4 (by decide) (List.mem_of_getElem? (i := 2) rfl) rfl rfl dX6_carries_54 ?_
          refine lv_aload (pc := 57) hx hb dX6_carries_57 (lv_at hl 4 rfl) ?_
          refine lv_iload (pc := 59) hx hb dX6_carries_59 (lv_at hl 5 rfl) ?_
          obtain ⟨i17, hf⟩ := o_rdE hf
          refine zu_iald (pc := 61) hx hb Z 4 0 rfl rfl i17 dX6_carries_61 ?_
          obtain ⟨i18, hf⟩ := o_rdE hf
          refine zu_aald (b := g_B (a9 x14.toNatClampNeg).toNatClampNeg) (pc := 62) hx hb Z 2 4 rfl rfl rfl i18 rfl dX6_carries_62 ?_
          refine lv_astore (lv' := [(6, .ref (g_B (a9 x14.toNatClampNeg).toNatClampNeg)), (0, .ref a_B), (1, .int p1), (2, .int x4), (3, .int x5), (4, .ref q7), (5, .int x14)]) (pc := 63) hx hb dX6_carries_63 hl (by decide) rfl (fun ls hl => ?_)
          refine lv_iload_n (pc := 65) hx hb dX6_carries_65 rfl (lv_at hl 2 rfl) ?_
          refine lv_iload (pc := 66) hx hb dX6_carries_66 (lv_at hl 6 rfl) ?_
          refine lv_ishr (pc := 68) hx hb dX6_carries_68 ?_
          refine lv_iconst (v := (1 : Int32)) (pc := 69) hx hb dX6_carries_69 (by decide) ?_
          refine lv_iand (pc := 70) hx hb dX6_carries_70 ?_
          refine lv_iconst (v := (1 : Int32)) (pc := 71) hx hb dX6_carries_71 (by decide) ?_
          obtain ⟨j85_21, ej85_21, hf⟩ := o_jnE hf
          have hj85_21 : ∀ (a20 : Nat → ZL) (H : Heap) (locs : List Loc) (ls : Array Slot), zw D (zTY cA) s A (zU [[(a_B, .inr (6, [.int B_height, .int B_room, .int B_account, .ref c_B, .ref l_B]))], [(c_B, .inl (cA 0, 5, .inl B_costs))], [(l_B, .inl (cA 4, B_n, .inr (.inr (.inr (.inr (fun i => some (g_B i)))))))], (zLs g_B B_n a20), [(q7, .inl (cA 0, (x5.toNatClampNeg), .inl a9))]]) H locs → lv_has ls 7 [(0, .ref a_B), (1, .int p1), (2, .int x4), (3, .int x5), (4, .ref q7), (5, .int x14), (6, .ref (g_B (a9 x14.toNatClampNeg).toNatClampNeg))] → j85_21 a20 = some u → W p l e ({ frames := 4, cells := 4, slots := 55, locals := 100 } : Room) s m args below meth c H locs 4 55 Q9 (F0 m 85 ls []) := by
            intro a20 H locs ls Z hl hf
            rw [ej85_21] at hf
            refine lv_aload (pc := 85) hx hb dX6_carries_85 (lv_at hl 6 rfl) ?_
            refine lv_aload (pc := 87) hx hb dX6_carries_87 (lv_at hl 6 rfl) ?_
            obtain ⟨x22, h23, hf⟩ := o_bindE hf
            refine zg_callVi (pc := 89) (As := []) (rest := [.ref (g_B (a9 x14.toNatClampNeg).toNatClampNeg)]) (LF := [[(a_B, .inr (6, [.int B_height, .int B_room, .int B_account, .ref c_B, .ref l_B]))], [(c_B, .inl (cA 0, 5, .inl B_costs))], [(l_B, .inl (cA 4, B_n, .inr (.inr (.inr (.inr (fun i => some (g_B i)))))))], [(q7, .inl (cA 0, (x5.toNatClampNeg), .inl a9))]]) (Lc := [(zLs g_B B_n a20)]) zJ_pass hJ ⟨hx, hb, hml, hown, hts⟩ (kX7_differs l D cA g_B B_n a20 ((a9 x14.toNatClampNeg).toNatClampNeg) ((Nat.not_le.mp fun q => i18 (Or.inr q))) _ h23) (cwV 0 hts gX6_carries_X7_differs rfl rfl rfl (by decide +kernel) ⟨(Nat.le_of_ble_eq_true rfl), (Nat.le_of_ble_eq_true rfl)⟩) Z hA [3, 0, 1, 2, 4] rfl (by decide) (ci := 7) rfl 0 ((a9 x14.toNatClampNeg).toNatClampNeg) rfl (zLs_at ((Nat.not_le.mp fun q => i18 (Or.inr q)))) rfl rfl hl.1 rfl (Nat.le_of_ble_eq_true rfl) dX6_carries_89 ⟨(by show 4 + 0 ≤ 4; omega), (by show 55 + 0 ≤ 55; omega)⟩ (fun _ H locs Z => ?_)
            replace Z : zw D (zTY cA) s A (zU [[(a_B, .inr (6, [.int B_height, .int B_room, .int B_account, .ref c_B, .ref l_B]))], [(c_B, .inl (cA 0, 5, .inl B_costs))], [(l_B, .inl (cA 4, B_n, .inr (.inr (.inr (.inr (fun i => some (g_B i)))))))], [(q7, .inl (cA 0, (x5.toNatClampNeg), .inl a9))], (zLs g_B B_n a20)]) H locs := Z
            obtain ⟨hz24, hf⟩ := o_asE hf
            refine zu_putL (ref := "LotSheetLaw$Lot") (w := ((a20 (a9 x14.toNatClampNeg).toNatClampNeg).1, (a20 (a9 x14.toNatClampNeg).toNatClampNeg).2.1, (a20 (a9 x14.toNatClampNeg).toNatClampNeg).2.2.1, (a20 (a9 x14.toNatClampNeg).toNatClampNeg).2.2.2.1, (a20 (a9 x14.toNatClampNeg).toNatClampNeg).2.2.2.2.1, x22)) (L' := [[(a_B, .inr (6, [.int B_height, .int B_room, .int B_account, .ref c_B, .ref l_B]))], [(c_B, .inl (cA 0, 5, .inl B_costs))], [(l_B, .inl (cA 4, B_n, .inr (.inr (.inr (.inr (fun i => some (g_B i)))))))], [(q7, .inl (cA 0, (x5.toNatClampNeg), .inl a9))], (zLs g_B B_n (va_up a20 ((a9 x14.toNatClampNeg).toNatClampNeg) ((a20 (a9 x14.toNatClampNeg).toNatClampNeg).1, (a20 (a9 x14.toNatClampNeg).toNatClampNeg).2.1, (a20 (a9 x14.toNatClampNeg).toNatClampNeg).2.2.1, (a20 (a9 x14.toNatClampNeg).toNatClampNeg).2.2.2.1, (a20 (a9 x14.toNatClampNeg).toNatClampNeg).2.2.2.2.1, x22)))]) (pc := 92) hx hb hts iw_X6_carries_X7 tyX7 tyX7_ok nmX7 hown Z 4 rfl (Nat.not_le.mp fun q => i18 (Or.inr q)) rfl 5 (by decide) (List.mem_of_getElem? (i := 5) rfl) rfl rfl (z_b01 hz24) (z_f01 hz24) dX6_carries_92 rfl rfl (fun H locs Z => ?_)
            obtain ⟨a25, ea25⟩ : ∃ y : Nat → ZL, y = (va_up a20 ((a9 x14.toNatClampNeg).toNatClampNeg) ((a20 (a9 x14.toNatClampNeg).toNatClampNeg).1, (a20 (a9 x14.toNatClampNeg).toNatClampNeg).2.1, (a20 (a9 x14.toNatClampNeg).toNatClampNeg).2.2.1, (a20 (a9 x14.toNatClampNeg).toNatClampNeg).2.2.2.1, (a20 (a9 x14.toNatClampNeg).toNatClampNeg).2.2.2.2.1, x22)) := ⟨_, rfl⟩
            rw [← ea25] at Z
            replace hf := o_letE ea25 hf
            obtain ⟨x26, ex26⟩ : ∃ y : Int32, y = (x14 + (1 : Int32)) := ⟨_, rfl⟩
            replace hf := o_letE ex26 hf
            refine lv_iinc (v := x26) (lv' := [(5, .int x26), (0, .ref a_B), (1, .int p1), (2, .int x4), (3, .int x5), (4, .ref q7), (6, .ref (g_B (a9 x14.toNatClampNeg).toNatClampNeg))]) (pc := 95) hx hb dX6_carries_95 hl (k := 5) rfl (by rw [ex26]; rfl) (by decide) rfl (fun ls hl => ?_)
            refine lv_goto (tgt := 47) (pc := 98) hx hb dX6_carries_98 (by decide) ?_
            exact ih0 x26 a25 H locs ls (zu_sub Z [0, 1, 2, 4, 3] rfl (by decide)) (lv_sub hl [1, 2, 3, 4, 5, 0] rfl) hf
          refine lv_icmp_ne (tgt := 85) (pc := 72) hx hb dX6_carries_72 (by decide) (fun c19 => ?_) (fun c19 => ?_)
          · replace hf := o_neg c19 hf
            exact hj85_21 a15 H locs ls Z (lv_sub hl [1, 2, 3, 4, 5, 6, 0] rfl) hf
          · replace hf := o_pos c19 hf
            refine lv_aload (pc := 75) hx hb dX6_carries_75 (lv_at hl 0 rfl) ?_
            refine lv_aload (pc := 77) hx hb dX6_carries_77 (lv_at hl 0 rfl) ?_
            refine zu_getL (ref := "LotSheetLaw$Lot") (pc := 79) hx hb hts iw_X6_carries_X7 hown Z 3 rfl (Nat.not_le.mp fun q => i18 (Or.inr q)) rfl 4 (by decide) (List.mem_of_getElem? (i := 3) rfl) rfl rfl dX6_carries_79 ?_
            refine lv_topi (fun x27 ex27 => ?_)
            replace hf := o_letE ex27 hf
            obtain ⟨hz28, hf⟩ := o_asE hf
            refine zu_putL (ref := "LotSheetLaw$Lot") (w := ((a15 (a9 x14.toNatClampNeg).toNatClampNeg).1, (a15 (a9 x14.toNatClampNeg).toNatClampNeg).2.1, (a15 (a9 x14.toNatClampNeg).toNatClampNeg).2.2.1, x27, (a15 (a9 x14.toNatClampNeg).toNatClampNeg).2.2.2.2.1, (a15 (a9 x14.toNatClampNeg).toNatClampNeg).2.2.2.2.2)) (L' := [[(a_B, .inr (6, [.int B_height, .int B_room, .int B_account, .ref c_B, .ref l_B]))], [(c_B, .inl (cA 0, 5, .inl B_costs))], [(l_B, .inl (cA 4, B_n, .inr (.inr (.inr (.inr (fun i => some (g_B i)))))))], (zLs g_B B_n (va_up a15 ((a9 x14.toNatClampNeg).toNatClampNeg) ((a15 (a9 x14.toNatClampNeg).toNatClampNeg).1, (a15 (a9 x14.toNatClampNeg).toNatClampNeg).2.1, (a15 (a9 x14.toNatClampNeg).toNatClampNeg).2.2.1, x27, (a15 (a9 x14.toNatClampNeg).toNatClampNeg).2.2.2.2.1, (a15 (a9 x14.toNatClampNeg).toNatClampNeg).2.2.2.2.2))), [(q7, .inl (cA 0, (x5.toNatClampNeg), .inl a9))]]) (pc := 82) hx hb hts iw_X6_carries_X7 tyX7 tyX7_ok nmX7 hown Z 3 rfl (Nat.not_le.mp fun q => i18 (Or.inr q)) rfl 3 (by decide) (List.mem_of_getElem? (i := 4) rfl) rfl rfl (z_b01 hz28) (z_f01 hz28) dX6_carries_82 rfl rfl (fun H locs Z => ?_)
            obtain ⟨a29, ea29⟩ : ∃ y : Nat → ZL, y = (va_up a15 ((a9 x14.toNatClampNeg).toNatClampNeg) ((a15 (a9 x14.toNatClampNeg).toNatClampNeg).1, (a15 (a9 x14.toNatClampNeg).toNatClampNeg).2.1, (a15 (a9 x14.toNatClampNeg).toNatClampNeg).2.2.1, x27, (a15 (a9 x14.toNatClampNeg).toNatClampNeg).2.2.2.2.1, (a15 (a9 x14.toNatClampNeg).toNatClampNeg).2.2.2.2.2)) := ⟨_, rfl⟩
            rw [← ea29] at Z
            replace hf := o_letE ea29 hf
            exact hj85_21 a29 H locs ls Z (lv_sub hl [1, 2, 3, 4, 5, 6, 0] rfl) hf
    exact hL47 1024 (0 : Int32) B_v H locs ls Z (lv_sub hl [1, 2, 3, 4, 5, 0] rfl) hf
  have hL21 : ∀ (n0 : Nat) (x30 : Int32) (a31 : Nat → Int32) (H : Heap) (locs : List Loc) (ls : Array Slot), zw D (zTY cA) s A (zU [[(a_B, .inr (6, [.int B_height, .int B_room, .int B_account, .ref c_B, .ref l_B]))], [(c_B, .inl (cA 0, 5, .inl B_costs))], [(l_B, .inl (cA 4, B_n, .inr (.inr (.inr (.inr (fun i => some (g_B i)))))))], (zLs g_B B_n B_v), [(q7, .inl (cA 0, (x5.toNatClampNeg), .inl a31))]]) H locs → lv_has ls 7 [(0, .ref a_B), (1, .int p1), (2, .int x4), (3, .int x5), (4, .ref q7), (5, .int x30)] → fX6_carries_L21 x5 j44_10 B_n B_v n0 x30 a31 = some u → W p l e ({ frames := 4, cells := 4, slots := 55, locals := 100 } : Room) s m args below meth c H locs 4 55 Q9 (F0 m 21 ls []) := by
    intro n0
    induction n0 with
    | zero => intro x30 a31 H locs ls Z hl hf; exact o_no hf
    | succ n0 ih0 =>
      intro x30 a31 H locs ls Z hl hf
      refine lv_iload (pc := 21) hx hb dX6_carries_21 (lv_at hl 5 rfl) ?_
      refine lv_iload_n (pc := 23) hx hb dX6_carries_23 rfl (lv_at hl 3 rfl) ?_
      refine lv_icmp_ge (tgt := 44) (pc := 24) hx hb dX6_carries_24 (by decide) (fun c32 => ?_) (fun c32 => ?_)
      · replace hf := o_pos c32 hf
        exact hj44_10 a31 H locs ls Z (lv_sub hl [0, 1, 2, 3, 4] rfl) hf
      · replace hf := o_neg c32 hf
        refine lv_aload (pc := 27) hx hb dX6_carries_27 (lv_at hl 4 rfl) ?_
        refine lv_iload (pc := 29) hx hb dX6_carries_29 (lv_at hl 5 rfl) ?_
        refine lv_aload_n (pc := 31) hx hb dX6_carries_31 rfl (lv_at hl 0 rfl) ?_
        refine lv_iload (pc := 32) hx hb dX6_carries_32 (lv_at hl 5 rfl) ?_
        obtain ⟨x33, h34, hf⟩ := o_bindE hf
        refine zg_callVi (pc := 34) (As := [.int x30]) (rest := [.int x30, .ref q7]) (LF := [[(q7, .inl (cA 0, (x5.toNatClampNeg), .inl a31))]]) (Lc := [[(a_B, .inr (6, [.int B_height, .int B_room, .int B_account, .ref c_B, .ref l_B]))], [(c_B, .inl (cA 0, 5, .inl B_costs))], [(l_B, .inl (cA 4, B_n, .inr (.inr (.inr (.inr (fun i => some (g_B i)))))))], (zLs g_B B_n B_v)]) zJ_pass hJ ⟨hx, hb, hml, hown, hts⟩ (kX6_indexOf l D cA a_B c_B l_B g_B x30 B_height B_room B_account B_costs B_n B_v _ h34) (cwV 1 hts gX6_carries_X6_indexOf rfl rfl rfl (by decide +kernel) ⟨(Nat.le_of_ble_eq_true rfl), (Nat.le_of_ble_eq_true rfl)⟩) Z hA [0, 1, 2, 3, 4] rfl (by decide) (ci := 6) rfl 0 0 rfl rfl rfl rfl hl.1 rfl (Nat.le_of_ble_eq_true rfl) dX6_carries_34 ⟨(by show 4 + 0 ≤ 4; omega), (by show 55 + 0 ≤ 55; omega)⟩ (fun _ H locs Z => ?_)
        replace Z : zw D (zTY cA) s A (zU [[(q7, .inl (cA 0, (x5.toNatClampNeg), .inl a31))], [(a_B, .inr (6, [.int B_height, .int B_room, .int B_account, .ref c_B, .ref l_B]))], [(c_B, .inl (cA 0, 5, .inl B_costs))], [(l_B, .inl (cA 4, B_n, .inr (.inr (.inr (.inr (fun i => some (g_B i)))))))], (zLs g_B B_n B_v)]) H locs := Z
        obtain ⟨i35, hf⟩ := o_rdE hf
        refine zu_iast (pc := 37) hx hb Z 0 0 rfl rfl i35 dX6_carries_37 (fun g => [[(q7, .inl (cA 0, (x5.toNatClampNeg), .inl g))], [(a_B, .inr (6, [.int B_height, .int B_room, .int B_account, .ref c_B, .ref l_B]))], [(c_B, .inl (cA 0, 5, .inl B_costs))], [(l_B, .inl (cA 4, B_n, .inr (.inr (.inr (.inr (fun i => some (g_B i)))))))], (zLs g_B B_n B_v)]) (fun _ => rfl) (fun a36 H locs ea36 Z => ?_)
        replace hf := o_letE ea36 hf
        replace Z : zw D (zTY cA) s A (zU [[(q7, .inl (cA 0, (x5.toNatClampNeg), .inl a36))], [(a_B, .inr (6, [.int B_height, .int B_room, .int B_account, .ref c_B, .ref l_B]))], [(c_B, .inl (cA 0, 5, .inl B_costs))], [(l_B, .inl (cA 4, B_n, .inr (.inr (.inr (.inr (fun i => some (g_B i)))))))], (zLs g_B B_n B_v)]) H locs := Z
        obtain ⟨x37, ex37⟩ : ∃ y : Int32, y = (x30 + (1 : Int32)) := ⟨_, rfl⟩
        replace hf := o_letE ex37 hf
        refine lv_iinc (v := x37) (lv' := [(5, .int x37), (0, .ref a_B), (1, .int p1), (2, .int x4), (3, .int x5), (4, .ref q7)]) (pc := 38) hx hb dX6_carries_38 hl (k := 5) rfl (by rw [ex37]; rfl) (by decide) rfl (fun ls hl => ?_)
        refine lv_goto (tgt := 21) (pc := 41) hx hb dX6_carries_41 (by decide) ?_
        exact ih0 x37 a36 H locs ls (zu_sub Z [1, 2, 3, 4, 0] rfl (by decide)) (lv_sub hl [1, 2, 3, 4, 5, 0] rfl) hf
  exact hL21 1024 (0 : Int32) (fun _ => 0) H locs ls (zu_sub Z [1, 2, 3, 4, 5] rfl (by decide)) (lv_sub hl [4, 5, 3, 2, 1, 0] rfl) hf
