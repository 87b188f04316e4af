def fX6_indexOf_L4 (B_n : Nat) (B_v : Nat → ZL) : Nat → Int32 → Int32 → Option (Int32)
  | 0, _, _ => none
  | n0 + 1, x1, x2 => (if (Int32.ofNat B_n) ≤ x2 then some ((-1 : Int32)) else o_rd B_n x2 (o_bind (fX7_differs (B_v x2.toNatClampNeg)) (fun x5 => (if x5 = 0 then o_let (x2 + (1 : Int32)) (fun x11 => (fX6_indexOf_L4 B_n B_v n0 x1 x11)) else (if x1 = 0 then some (x2) else o_let (x1 + (-1 : Int32)) (fun x9 => o_let (x2 + (1 : Int32)) (fun x10 => (fX6_indexOf_L4 B_n B_v n0 x9 x10))))))))
def fX6_indexOf (p1 : Int32) (B_n : Nat) (B_v : Nat → ZL) : Option (Int32) := (fX6_indexOf_L4 B_n B_v 1024 p1 (0 : Int32))
theorem iw_X6_indexOf_X6 : ∀ w ∈ u_ws RX6 TX6 5, w ∈ wsX6_indexOf := z_inr [9, 10, 11, 12, 13] rfl
set_option maxHeartbeats 8000000 in
set_option maxRecDepth 100000 in
theorem kX6_indexOf (l : Launch) (D : va_G) (cA : Nat → ClassId) (a_B : Nat) (c_B : Nat) (l_B : Nat) (g_B : Nat → Nat) (p1 : Int32) (B_height : Int32) (B_room : Int32) (B_account : Int32) (B_costs : Nat → Int32) (B_n : Nat) (B_v : Nat → ZL) (u : Int32) (hf : fX6_indexOf p1 B_n B_v = some u) : zG zJ l yX6_indexOf wsX6_indexOf ({ frames := 1, cells := 0, slots := 0, locals := 20 } : Room) D (zTY cA) [.ref a_B, .int p1] (zU [[(a_B, .inr (6, [.int B_height, .int B_room, .int B_account, .ref c_B, .ref l_B]))], [(c_B, .inl (cA 0, 5, .inl B_costs))], [(l_B, .inl (cA 4, B_n, .inr (.inr (.inr (.inr (fun i => some (g_B i)))))))], (zLs g_B B_n B_v)]) (fun v _ => v = some (.int u)) (fun h9 => zU [[(a_B, .inr (6, [.int B_height, .int B_room, .int B_account, .ref c_B, .ref l_B]))], [(c_B, .inl (cA 0, 5, .inl B_costs))], [(l_B, .inl (cA 4, B_n, .inr (.inr (.inr (.inr (fun i => some (g_B i)))))))], (zLs g_B B_n B_v)]) := by
  refine z_startG (cc := cX6_indexOf) (maxL := 4) (ret := (some .int)) (by decide) rfl (Nat.le_of_ble_eq_true rfl) ?_
  intro p e s m args below meth c A hx hb hr hts hown hlocks hml hA hmn hJ Z ls hl
  replace hown : s.vm.findClass RX6 = some m.cls := hown
  replace hl : lv_has ls 4 [(0, .ref a_B), (1, .int p1)] := hl
  obtain ⟨Q9, hQ9⟩ : ∃ Q9 : State → Prop, Q9 = MQ below (zQG D (zTY cA) A (fun v _ => v = some (.int u)) (fun h9 => zU [[(a_B, .inr (6, [.int B_height, .int B_room, .int B_account, .ref c_B, .ref l_B]))], [(c_B, .inl (cA 0, 5, .inl B_costs))], [(l_B, .inl (cA 4, B_n, .inr (.inr (.inr (.inr (fun i => some (g_B i)))))))], (zLs g_B B_n B_v)])) args s 0 0 A := ⟨_, rfl⟩
  show W p l e ({ frames := 1, cells := 0, slots := 0, locals := 20 } : Room) s m args below meth c s.heap [] 0 0 (MQ below (zQG D (zTY cA) A (fun v _ => v = some (.int u)) (fun h9 => zU [[(a_B, .inr (6, [.int B_height, .int B_room, .int B_account, .ref c_B, .ref l_B]))], [(c_B, .inl (cA 0, 5, .inl B_costs))], [(l_B, .inl (cA 4, B_n, .inr (.inr (.inr (.inr (fun i => some (g_B i)))))))], (zLs g_B B_n B_v)])) args s 0 0 A) (F0 m 0 ls [])
  rw [← hQ9]
  obtain ⟨H, hH⟩ : ∃ H, H = s.heap := ⟨_, rfl⟩
  rw [← hH] at Z ⊢
  clear hH
  obtain ⟨locs, hlc⟩ : ∃ q : List Loc, q = [] := ⟨_, rfl⟩
  rw [← hlc] at Z ⊢
  clear hlc
  refine lv_iload_n (pc := 0) hx hb dX6_indexOf_0 rfl (lv_at hl 1 rfl) ?_
  refine lv_istore_n (lv' := [(2, .int p1), (0, .ref a_B), (1, .int p1)]) (pc := 1) hx hb dX6_indexOf_1 rfl hl (by decide) rfl (fun ls hl => ?_)
  refine lv_iconst (v := (0 : Int32)) (pc := 2) hx hb dX6_indexOf_2 (by decide) ?_
  refine lv_istore_n (lv' := [(3, .int (0 : Int32)), (2, .int p1), (0, .ref a_B), (1, .int p1)]) (pc := 3) hx hb dX6_indexOf_3 rfl hl (by decide) rfl (fun ls hl => ?_)
  have hL4 : ∀ (n0 : Nat) (x1 : Int32) (x2 : Int32) (H : Heap) (locs : List Loc) (ls : Array Slot), zw D (zTY cA) s A (zU [[(a_B, .inr (6, [.int B_height, .int B_room, .int B_account, .ref c_B, .ref l_B]))], [(c_B, .inl (cA 0, 5, .inl B_costs))], [(l_B, .inl (cA 4, B_n, .inr (.inr (.inr (.inr (fun i => some (g_B i)))))))], (zLs g_B B_n B_v)]) H locs → lv_has ls 4 [(0, .ref a_B), (2, .int x1), (3, .int x2)] → fX6_indexOf_L4 B_n B_v n0 x1 x2 = some u → W p l e ({ frames := 1, cells := 0, slots := 0, locals := 20 } : Room) s m args below meth c H locs 0 0 Q9 (F0 m 4 ls []) := by
    intro n0
    induction n0 with
    | zero => intro x1 x2 H locs ls Z hl hf; exact o_no hf
    | succ n0 ih0 =>
      intro x1 x2 H locs ls Z hl hf
      refine lv_iload_n (pc := 4) hx hb dX6_indexOf_4 rfl (lv_at hl 2 rfl) ?_
      refine lv_aload_n (pc := 5) hx hb dX6_indexOf_5 rfl (lv_at hl 0 rfl) ?_
      refine zu_get (ref := "LotSheetLaw$Bill") (ci := 6) (C := RX6) (T := TX6) (N := 5) (pc := 6) hx hb hts iw_X6_indexOf_X6 hown Z 0 rfl rfl 4 (by decide) (List.mem_of_getElem? (i := 1) rfl) rfl rfl dX6_indexOf_6 ?_
      refine zu_alen (v := (Int32.ofNat B_n)) (pc := 9) hx hb Z 2 4 rfl rfl rfl dX6_indexOf_9 ?_
      refine lv_icmp_ge (tgt := 43) (pc := 10) hx hb dX6_indexOf_10 (by decide) (fun c3 => ?_) (fun c3 => ?_)
      · replace hf := o_pos c3 hf
        refine lv_iconst (v := (-1 : Int32)) (pc := 43) hx hb dX6_indexOf_43 (by decide) ?_
        cases hf
        rw [hQ9]
        exact zg_iret (pc := 44) (L' := [[(a_B, .inr (6, [.int B_height, .int B_room, .int B_account, .ref c_B, .ref l_B]))], [(c_B, .inl (cA 0, 5, .inl B_costs))], [(l_B, .inl (cA 4, B_n, .inr (.inr (.inr (.inr (fun i => some (g_B i)))))))], (zLs g_B B_n B_v)]) (fun _ => 0) (by show 0 ≤ 0; omega) (by show 0 ≤ 0; omega) hx hb hr hlocks Z [0, 1, 2, 3] rfl (by decide) rfl rfl dX6_indexOf_44
      · replace hf := o_neg c3 hf
        refine lv_aload_n (pc := 13) hx hb dX6_indexOf_13 rfl (lv_at hl 0 rfl) ?_
        refine zu_get (ref := "LotSheetLaw$Bill") (ci := 6) (C := RX6) (T := TX6) (N := 5) (pc := 14) hx hb hts iw_X6_indexOf_X6 hown Z 0 rfl rfl 4 (by decide) (List.mem_of_getElem? (i := 1) rfl) rfl rfl dX6_indexOf_14 ?_
        refine lv_iload_n (pc := 17) hx hb dX6_indexOf_17 rfl (lv_at hl 2 rfl) ?_
        obtain ⟨i4, hf⟩ := o_rdE hf
        refine zu_aald (b := g_B x2.toNatClampNeg) (pc := 18) hx hb Z 2 4 rfl rfl rfl i4 rfl dX6_indexOf_18 ?_
        obtain ⟨x5, h6, hf⟩ := o_bindE hf
        refine zg_callVi (pc := 19) (As := []) (rest := []) (LF := [[(a_B, .inr (6, [.int B_height, .int B_room, .int B_account, .ref c_B, .ref l_B]))], [(c_B, .inl (cA 0, 5, .inl B_costs))], [(l_B, .inl (cA 4, B_n, .inr (.inr (.inr (.inr (fun i => some (g_B i)))))))]]) (Lc := [(zLs g_B B_n B_v)]) zJ_pass hJ ⟨hx, hb, hml, hown, hts⟩ (kX7_differs l D cA g_B B_n B_v (x2.toNatClampNeg) ((Nat.not_le.mp fun q => i4 (Or.inr q))) _ h6) (cwV 0 hts gX6_indexOf_X7_differs rfl rfl rfl (by decide +kernel) ⟨(Nat.le_of_ble_eq_true rfl), (Nat.le_of_ble_eq_true rfl)⟩) Z hA [3, 0, 1, 2] rfl (by decide) (ci := 7) rfl 0 (x2.toNatClampNeg) rfl (zLs_at ((Nat.not_le.mp fun q => i4 (Or.inr q)))) rfl rfl hl.1 rfl (Nat.le_of_ble_eq_true rfl) dX6_indexOf_19 ⟨(by show 0 + 0 ≤ 0; omega), (by show 0 + 0 ≤ 0; omega)⟩ (fun _ H locs Z => ?_)
        replace Z : zw D (zTY cA) s A (zU [[(a_B, .inr (6, [.int B_height, .int B_room, .int B_account, .ref c_B, .ref l_B]))], [(c_B, .inl (cA 0, 5, .inl B_costs))], [(l_B, .inl (cA 4, B_n, .inr (.inr (.inr (.inr (fun i => some (g_B i)))))))], (zLs g_B B_n B_v)]) H locs := Z
        refine lv_if_ne (tgt := 28) (pc := 22) hx hb dX6_indexOf_22 (by decide) (fun c7 => ?_) (fun c7 => ?_)
        · replace hf := o_neg c7 hf
          refine lv_iload_n (pc := 28) hx hb dX6_indexOf_28 rfl (lv_at hl 1 rfl) ?_
          refine lv_if_ne (tgt := 34) (pc := 29) hx hb dX6_indexOf_29 (by decide) (fun c8 => ?_) (fun c8 => ?_)
          · replace hf := o_neg c8 hf
            obtain ⟨x9, ex9⟩ : ∃ y : Int32, y = (x1 + (-1 : Int32)) := ⟨_, rfl⟩
            replace hf := o_letE ex9 hf
            refine lv_iinc (v := x9) (lv' := [(2, .int x9), (0, .ref a_B), (3, .int x2)]) (pc := 34) hx hb dX6_indexOf_34 hl (k := 1) rfl (by rw [ex9]; rfl) (by decide) rfl (fun ls hl => ?_)
            obtain ⟨x10, ex10⟩ : ∃ y : Int32, y = (x2 + (1 : Int32)) := ⟨_, rfl⟩
            replace hf := o_letE ex10 hf
            refine lv_iinc (v := x10) (lv' := [(3, .int x10), (2, .int x9), (0, .ref a_B)]) (pc := 37) hx hb dX6_indexOf_37 hl (k := 2) rfl (by rw [ex10]; rfl) (by decide) rfl (fun ls hl => ?_)
            refine lv_goto (tgt := 4) (pc := 40) hx hb dX6_indexOf_40 (by decide) ?_
            exact ih0 x9 x10 H locs ls Z (lv_sub hl [2, 1, 0] rfl) hf
          · replace hf := o_pos c8 hf
            refine lv_iload_n (pc := 32) hx hb dX6_indexOf_32 rfl (lv_at hl 2 rfl) ?_
            have hu9 := Option.some.inj hf
            subst hu9
            rw [hQ9]
            exact zg_iret (pc := 33) (L' := [[(a_B, .inr (6, [.int B_height, .int B_room, .int B_account, .ref c_B, .ref l_B]))], [(c_B, .inl (cA 0, 5, .inl B_costs))], [(l_B, .inl (cA 4, B_n, .inr (.inr (.inr (.inr (fun i => some (g_B i)))))))], (zLs g_B B_n B_v)]) (fun _ => 0) (by show 0 ≤ 0; omega) (by show 0 ≤ 0; omega) hx hb hr hlocks Z [0, 1, 2, 3] rfl (by decide) rfl rfl dX6_indexOf_33
        · replace hf := o_pos c7 hf
          refine lv_goto (tgt := 37) (pc := 25) hx hb dX6_indexOf_25 (by decide) ?_
          obtain ⟨x11, ex11⟩ : ∃ y : Int32, y = (x2 + (1 : Int32)) := ⟨_, rfl⟩
          replace hf := o_letE ex11 hf
          refine lv_iinc (v := x11) (lv' := [(3, .int x11), (0, .ref a_B), (2, .int x1)]) (pc := 37) hx hb dX6_indexOf_37 hl (k := 2) rfl (by rw [ex11]; rfl) (by decide) rfl (fun ls hl => ?_)
          refine lv_goto (tgt := 4) (pc := 40) hx hb dX6_indexOf_40 (by decide) ?_
          exact ih0 x1 x11 H locs ls Z (lv_sub hl [1, 2, 0] rfl) hf
  exact hL4 1024 p1 (0 : Int32) H locs ls Z (lv_sub hl [2, 1, 0] rfl) hf
