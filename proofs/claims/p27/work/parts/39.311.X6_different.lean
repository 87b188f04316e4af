def fX6_different_L13 (x1 : Int32) (B_n : Nat) (B_v : Nat → ZL) : Nat → Int32 → Int32 → Option (Int32)
  | 0, _, _ => none
  | n0 + 1, x2, x3 => (if x1 ≤ x3 then some (x2) else o_rd B_n x3 (o_bind (fX7_differs (B_v x3.toNatClampNeg)) (fun x6 => (if x6 = 0 then o_let (x3 + (1 : Int32)) (fun x9 => (fX6_different_L13 x1 B_n B_v n0 x2 x9)) else o_let (x2 + (1 : Int32)) (fun x10 => o_let (x3 + (1 : Int32)) (fun x11 => (fX6_different_L13 x1 B_n B_v n0 x10 x11)))))))
def fX6_different (B_n : Nat) (B_v : Nat → ZL) : Option (Int32) := o_let (Int32.ofNat B_n) (fun x1 => (fX6_different_L13 x1 B_n B_v 1024 (0 : Int32) (0 : Int32)))
theorem iw_X6_different_X6 : ∀ w ∈ u_ws RX6 TX6 5, w ∈ wsX6_different := z_inr [9, 10, 11, 12, 13] rfl
set_option maxHeartbeats 8000000 in
set_option maxRecDepth 100000 in
theorem kX6_different (l : Launch) (D : va_G) (cA : Nat → ClassId) (a_B : Nat) (c_B : Nat) (l_B : Nat) (g_B : Nat → Nat) (B_height : Int32) (B_room : Int32) (B_account : Int32) (B_costs : Nat → Int32) (B_n : Nat) (B_v : Nat → ZL) (u : Int32) (hf : fX6_different B_n B_v = some u) : zG zJ l yX6_different wsX6_different ({ frames := 1, cells := 0, slots := 0, locals := 20 } : Room) D (zTY cA) [.ref a_B] (zU [[(a_B, .inr (6, [.int B_height, .int B_room, .int B_account, .ref c_B, .ref l_B]))], [(c_B, .inl (cA 0, 5, .inl B_costs))], [(l_B, .inl (cA 4, B_n, .inr (.inr (.inr (.inr (fun i => some (g_B i)))))))], (zLs g_B B_n B_v)]) (fun v _ => v = some (.int u)) (fun h9 => zU [[(a_B, .inr (6, [.int B_height, .int B_room, .int B_account, .ref c_B, .ref l_B]))], [(c_B, .inl (cA 0, 5, .inl B_costs))], [(l_B, .inl (cA 4, B_n, .inr (.inr (.inr (.inr (fun i => some (g_B i)))))))], (zLs g_B B_n B_v)]) := by
  refine z_startG (cc := cX6_different) (maxL := 6) (ret := (some .int)) (by decide) rfl (Nat.le_of_ble_eq_true rfl) ?_
  intro p e s m args below meth c A hx hb hr hts hown hlocks hml hA hmn hJ Z ls hl
  replace hown : s.vm.findClass RX6 = some m.cls := hown
  replace hl : lv_has ls 6 [(0, .ref a_B)] := hl
  obtain ⟨Q9, hQ9⟩ : ∃ Q9 : State → Prop, Q9 = MQ below (zQG D (zTY cA) A (fun v _ => v = some (.int u)) (fun h9 => zU [[(a_B, .inr (6, [.int B_height, .int B_room, .int B_account, .ref c_B, .ref l_B]))], [(c_B, .inl (cA 0, 5, .inl B_costs))], [(l_B, .inl (cA 4, B_n, .inr (.inr (.inr (.inr (fun i => some (g_B i)))))))], (zLs g_B B_n B_v)])) args s 0 0 A := ⟨_, rfl⟩
  show W p l e ({ frames := 1, cells := 0, slots := 0, locals := 20 } : Room) s m args below meth c s.heap [] 0 0 (MQ below (zQG D (zTY cA) A (fun v _ => v = some (.int u)) (fun h9 => zU [[(a_B, .inr (6, [.int B_height, .int B_room, .int B_account, .ref c_B, .ref l_B]))], [(c_B, .inl (cA 0, 5, .inl B_costs))], [(l_B, .inl (cA 4, B_n, .inr (.inr (.inr (.inr (fun i => some (g_B i)))))))], (zLs g_B B_n B_v)])) args s 0 0 A) (F0 m 0 ls [])
  rw [← hQ9]
  obtain ⟨H, hH⟩ : ∃ H, H = s.heap := ⟨_, rfl⟩
  rw [← hH] at Z ⊢
  clear hH
  obtain ⟨locs, hlc⟩ : ∃ q : List Loc, q = [] := ⟨_, rfl⟩
  rw [← hlc] at Z ⊢
  clear hlc
  refine lv_iconst (v := (0 : Int32)) (pc := 0) hx hb dX6_different_0 (by decide) ?_
  refine lv_istore_n (lv' := [(1, .int (0 : Int32)), (0, .ref a_B)]) (pc := 1) hx hb dX6_different_1 rfl hl (by decide) rfl (fun ls hl => ?_)
  refine lv_aload_n (pc := 2) hx hb dX6_different_2 rfl (lv_at hl 1 rfl) ?_
  refine zu_get (ref := "LotSheetLaw$Bill") (ci := 6) (C := RX6) (T := TX6) (N := 5) (pc := 3) hx hb hts iw_X6_different_X6 hown Z 0 rfl rfl 4 (by decide) (List.mem_of_getElem? (i := 1) rfl) rfl rfl dX6_different_3 ?_
  refine lv_astore_n (lv' := [(2, .ref l_B), (1, .int (0 : Int32)), (0, .ref a_B)]) (pc := 6) hx hb dX6_different_6 rfl hl (by decide) rfl (fun ls hl => ?_)
  refine lv_aload_n (pc := 7) hx hb dX6_different_7 rfl (lv_at hl 0 rfl) ?_
  refine zu_alen (v := (Int32.ofNat B_n)) (pc := 8) hx hb Z 2 4 rfl rfl rfl dX6_different_8 ?_
  refine lv_topi (fun x1 ex1 => ?_)
  replace hf := o_letE ex1 hf
  refine lv_istore_n (lv' := [(3, .int x1), (2, .ref l_B), (1, .int (0 : Int32)), (0, .ref a_B)]) (pc := 9) hx hb dX6_different_9 rfl hl (by decide) rfl (fun ls hl => ?_)
  refine lv_iconst (v := (0 : Int32)) (pc := 10) hx hb dX6_different_10 (by decide) ?_
  refine lv_istore (lv' := [(4, .int (0 : Int32)), (3, .int x1), (2, .ref l_B), (1, .int (0 : Int32)), (0, .ref a_B)]) (pc := 11) hx hb dX6_different_11 hl (by decide) rfl (fun ls hl => ?_)
  have hL13 : ∀ (n0 : Nat) (x2 : Int32) (x3 : Int32) (H : Heap) (locs : List Loc) (ls : Array Slot), zw D (zTY cA) s A (zU [[(a_B, .inr (6, [.int B_height, .int B_room, .int B_account, .ref c_B, .ref l_B]))], [(c_B, .inl (cA 0, 5, .inl B_costs))], [(l_B, .inl (cA 4, B_n, .inr (.inr (.inr (.inr (fun i => some (g_B i)))))))], (zLs g_B B_n B_v)]) H locs → lv_has ls 6 [(1, .int x2), (2, .ref l_B), (3, .int x1), (4, .int x3)] → fX6_different_L13 x1 B_n B_v n0 x2 x3 = some u → W p l e ({ frames := 1, cells := 0, slots := 0, locals := 20 } : Room) s m args below meth c H locs 0 0 Q9 (F0 m 13 ls []) := by
    intro n0
    induction n0 with
    | zero => intro x2 x3 H locs ls Z hl hf; exact o_no hf
    | succ n0 ih0 =>
      intro x2 x3 H locs ls Z hl hf
      refine lv_iload (pc := 13) hx hb dX6_different_13 (lv_at hl 3 rfl) ?_
      refine lv_iload_n (pc := 15) hx hb dX6_different_15 rfl (lv_at hl 2 rfl) ?_
      refine lv_icmp_ge (tgt := 42) (pc := 16) hx hb dX6_different_16 (by decide) (fun c4 => ?_) (fun c4 => ?_)
      · replace hf := o_pos c4 hf
        refine lv_iload_n (pc := 42) hx hb dX6_different_42 rfl (lv_at hl 0 rfl) ?_
        have hu9 := Option.some.inj hf
        subst hu9
        rw [hQ9]
        exact zg_iret (pc := 43) (L' := [[(a_B, .inr (6, [.int B_height, .int B_room, .int B_account, .ref c_B, .ref l_B]))], [(c_B, .inl (cA 0, 5, .inl B_costs))], [(l_B, .inl (cA 4, B_n, .inr (.inr (.inr (.inr (fun i => some (g_B i)))))))], (zLs g_B B_n B_v)]) (fun _ => 0) (by show 0 ≤ 0; omega) (by show 0 ≤ 0; omega) hx hb hr hlocks Z [0, 1, 2, 3] rfl (by decide) rfl rfl dX6_different_43
      · replace hf := o_neg c4 hf
        refine lv_aload_n (pc := 19) hx hb dX6_different_19 rfl (lv_at hl 1 rfl) ?_
        refine lv_iload (pc := 20) hx hb dX6_different_20 (lv_at hl 3 rfl) ?_
        obtain ⟨i5, hf⟩ := o_rdE hf
        refine zu_aald (b := g_B x3.toNatClampNeg) (pc := 22) hx hb Z 2 4 rfl rfl rfl i5 rfl dX6_different_22 ?_
        refine lv_astore (lv' := [(5, .ref (g_B x3.toNatClampNeg)), (1, .int x2), (2, .ref l_B), (3, .int x1), (4, .int x3)]) (pc := 23) hx hb dX6_different_23 hl (by decide) rfl (fun ls hl => ?_)
        refine lv_aload (pc := 25) hx hb dX6_different_25 (lv_at hl 0 rfl) ?_
        obtain ⟨x6, h7, hf⟩ := o_bindE hf
        refine zg_callVi (pc := 27) (As := []) (rest := []) (LF := [[(a_B, .inr (6, [.int B_height, .int B_room, .int B_account, .ref c_B, .ref l_B]))], [(c_B, .inl (cA 0, 5, .inl B_costs))], [(l_B, .inl (cA 4, B_n, .inr (.inr (.inr (.inr (fun i => some (g_B i)))))))]]) (Lc := [(zLs g_B B_n B_v)]) zJ_pass hJ ⟨hx, hb, hml, hown, hts⟩ (kX7_differs l D cA g_B B_n B_v (x3.toNatClampNeg) ((Nat.not_le.mp fun q => i5 (Or.inr q))) _ h7) (cwV 0 hts gX6_different_X7_differs rfl rfl rfl (by decide +kernel) ⟨(Nat.le_of_ble_eq_true rfl), (Nat.le_of_ble_eq_true rfl)⟩) Z hA [3, 0, 1, 2] rfl (by decide) (ci := 7) rfl 0 (x3.toNatClampNeg) rfl (zLs_at ((Nat.not_le.mp fun q => i5 (Or.inr q)))) rfl rfl hl.1 rfl (Nat.le_of_ble_eq_true rfl) dX6_different_27 ⟨(by show 0 + 0 ≤ 0; omega), (by show 0 + 0 ≤ 0; omega)⟩ (fun _ H locs Z => ?_)
        replace Z : zw D (zTY cA) s A (zU [[(a_B, .inr (6, [.int B_height, .int B_room, .int B_account, .ref c_B, .ref l_B]))], [(c_B, .inl (cA 0, 5, .inl B_costs))], [(l_B, .inl (cA 4, B_n, .inr (.inr (.inr (.inr (fun i => some (g_B i)))))))], (zLs g_B B_n B_v)]) H locs := Z
        refine lv_if_eq (tgt := 36) (pc := 30) hx hb dX6_different_30 (by decide) (fun c8 => ?_) (fun c8 => ?_)
        · replace hf := o_pos c8 hf
          obtain ⟨x9, ex9⟩ : ∃ y : Int32, y = (x3 + (1 : Int32)) := ⟨_, rfl⟩
          replace hf := o_letE ex9 hf
          refine lv_iinc (v := x9) (lv' := [(4, .int x9), (5, .ref (g_B x3.toNatClampNeg)), (1, .int x2), (2, .ref l_B), (3, .int x1)]) (pc := 36) hx hb dX6_different_36 hl (k := 4) rfl (by rw [ex9]; rfl) (by decide) rfl (fun ls hl => ?_)
          refine lv_goto (tgt := 13) (pc := 39) hx hb dX6_different_39 (by decide) ?_
          exact ih0 x2 x9 H locs ls Z (lv_sub hl [2, 3, 4, 0] rfl) hf
        · replace hf := o_neg c8 hf
          obtain ⟨x10, ex10⟩ : ∃ y : Int32, y = (x2 + (1 : Int32)) := ⟨_, rfl⟩
          replace hf := o_letE ex10 hf
          refine lv_iinc (v := x10) (lv' := [(1, .int x10), (5, .ref (g_B x3.toNatClampNeg)), (2, .ref l_B), (3, .int x1), (4, .int x3)]) (pc := 33) hx hb dX6_different_33 hl (k := 1) rfl (by rw [ex10]; rfl) (by decide) rfl (fun ls hl => ?_)
          obtain ⟨x11, ex11⟩ : ∃ y : Int32, y = (x3 + (1 : Int32)) := ⟨_, rfl⟩
          replace hf := o_letE ex11 hf
          refine lv_iinc (v := x11) (lv' := [(4, .int x11), (1, .int x10), (5, .ref (g_B x3.toNatClampNeg)), (2, .ref l_B), (3, .int x1)]) (pc := 36) hx hb dX6_different_36 hl (k := 4) rfl (by rw [ex11]; rfl) (by decide) rfl (fun ls hl => ?_)
          refine lv_goto (tgt := 13) (pc := 39) hx hb dX6_different_39 (by decide) ?_
          exact ih0 x10 x11 H locs ls Z (lv_sub hl [1, 3, 4, 0] rfl) hf
  exact hL13 1024 (0 : Int32) (0 : Int32) H locs ls Z (lv_sub hl [3, 2, 1, 0] rfl) hf
