def fX6_isPrinted_L5 (p1 : Int32) (j33_2 : Int32 → Option (Int32)) (B_n : Nat) (B_v : Nat → ZL) : Nat → Int32 → Int32 → Option (Int32)
  | 0, _, _ => none
  | n0 + 1, x11, x12 => (if p1 ≤ x12 then (j33_2 x11) else o_rd B_n x12 (o_bind (fX7_differs (B_v x12.toNatClampNeg)) (fun x15 => (if x15 = 0 then o_let (x12 + (1 : Int32)) (fun x18 => (fX6_isPrinted_L5 p1 j33_2 B_n B_v n0 x11 x18)) else o_let (x11 + (1 : Int32)) (fun x19 => o_let (x12 + (1 : Int32)) (fun x20 => (fX6_isPrinted_L5 p1 j33_2 B_n B_v n0 x19 x20)))))))
def fX6_isPrinted (p1 : Int32) (p2 : Int32) (B_n : Nat) (B_v : Nat → ZL) : Option (Int32) := o_let (fun (x1 : Int32) => o_rd B_n p1 (o_bind (fX7_differs (B_v p1.toNatClampNeg)) (fun x4 => (if x4 = 0 then o_as (((B_v p1.toNatClampNeg).2.2.2.1) &&& 1 = ((B_v p1.toNatClampNeg).2.2.2.1)) (some (((B_v p1.toNatClampNeg).2.2.2.1))) else (if ((p2 >>> (x1 &&& 31)) &&& (1 : Int32)) = (1 : Int32) then o_as (((B_v p1.toNatClampNeg).2.2.2.2.1) &&& 1 = ((B_v p1.toNatClampNeg).2.2.2.2.1)) (some (((B_v p1.toNatClampNeg).2.2.2.2.1))) else o_as (((B_v p1.toNatClampNeg).2.2.2.1) &&& 1 = ((B_v p1.toNatClampNeg).2.2.2.1)) (some (((B_v p1.toNatClampNeg).2.2.2.1)))))))) (fun (j33_2 : Int32 → Option (Int32)) => (fX6_isPrinted_L5 p1 j33_2 B_n B_v 1024 (0 : Int32) (0 : Int32)))
theorem iw_X6_isPrinted_X6 : ∀ w ∈ u_ws RX6 TX6 5, w ∈ wsX6_isPrinted := z_inr [11, 12, 13, 14, 15] rfl
theorem iw_X6_isPrinted_X7 : ∀ w ∈ u_ws RX7 TX7 6, w ∈ wsX6_isPrinted := z_inr [16, 17, 18, 19, 20, 21] rfl
set_option maxHeartbeats 8000000 in
set_option maxRecDepth 100000 in
theorem kX6_isPrinted (l : Launch) (D : va_G) (cA : Nat → ClassId) (a_B : Nat) (c_B : Nat) (l_B : Nat) (g_B : Nat → Nat) (p1 : Int32) (p2 : Int32) (B_height : Int32) (B_room : Int32) (B_account : Int32) (B_costs : Nat → Int32) (B_n : Nat) (B_v : Nat → ZL) (u : Int32) (hf : fX6_isPrinted p1 p2 B_n B_v = some u) : zG zJ l yX6_isPrinted wsX6_isPrinted ({ frames := 1, cells := 0, slots := 0, locals := 20 } : Room) D (zTY cA) [.ref a_B, .int p1, .int p2] (zU [[(a_B, .inr (6, [.int B_height, .int B_room, .int B_account, .ref c_B, .ref l_B]))], [(c_B, .inl (cA 0, 5, .inl B_costs))], [(l_B, .inl (cA 4, B_n, .inr (.inr (.inr (.inr (fun i => some (g_B i)))))))], (zLs g_B B_n B_v)]) (fun v _ => v = some (.int u)) (fun h9 => zU [[(a_B, .inr (6, [.int B_height, .int B_room, .int B_account, .ref c_B, .ref l_B]))], [(c_B, .inl (cA 0, 5, .inl B_costs))], [(l_B, .inl (cA 4, B_n, .inr (.inr (.inr (.inr (fun i => some (g_B i)))))))], (zLs g_B B_n B_v)]) := by
  refine z_startG (cc := cX6_isPrinted) (maxL := 5) (ret := (some .boolean)) (by decide) rfl (Nat.le_of_ble_eq_true rfl) ?_
  intro p e s m args below meth c A hx hb hr hts hown hlocks hml hA hmn hJ Z ls hl
  replace hown : s.vm.findClass RX6 = some m.cls := hown
  replace hl : lv_has ls 5 [(0, .ref a_B), (1, .int p1), (2, .int p2)] := hl
  obtain ⟨Q9, hQ9⟩ : ∃ Q9 : State → Prop, Q9 = MQ below (zQG D (zTY cA) A (fun v _ => v = some (.int u)) (fun h9 => zU [[(a_B, .inr (6, [.int B_height, .int B_room, .int B_account, .ref c_B, .ref l_B]))], [(c_B, .inl (cA 0, 5, .inl B_costs))], [(l_B, .inl (cA 4, B_n, .inr (.inr (.inr (.inr (fun i => some (g_B i)))))))], (zLs g_B B_n B_v)])) args s 0 0 A := ⟨_, rfl⟩
  show W p l e ({ frames := 1, cells := 0, slots := 0, locals := 20 } : Room) s m args below meth c s.heap [] 0 0 (MQ below (zQG D (zTY cA) A (fun v _ => v = some (.int u)) (fun h9 => zU [[(a_B, .inr (6, [.int B_height, .int B_room, .int B_account, .ref c_B, .ref l_B]))], [(c_B, .inl (cA 0, 5, .inl B_costs))], [(l_B, .inl (cA 4, B_n, .inr (.inr (.inr (.inr (fun i => some (g_B i)))))))], (zLs g_B B_n B_v)])) args s 0 0 A) (F0 m 0 ls [])
  rw [← hQ9]
  obtain ⟨H, hH⟩ : ∃ H, H = s.heap := ⟨_, rfl⟩
  rw [← hH] at Z ⊢
  clear hH
  obtain ⟨locs, hlc⟩ : ∃ q : List Loc, q = [] := ⟨_, rfl⟩
  rw [← hlc] at Z ⊢
  clear hlc
  refine lv_iconst (v := (0 : Int32)) (pc := 0) hx hb dX6_isPrinted_0 (by decide) ?_
  refine lv_istore_n (lv' := [(3, .int (0 : Int32)), (0, .ref a_B), (1, .int p1), (2, .int p2)]) (pc := 1) hx hb dX6_isPrinted_1 rfl hl (by decide) rfl (fun ls hl => ?_)
  refine lv_iconst (v := (0 : Int32)) (pc := 2) hx hb dX6_isPrinted_2 (by decide) ?_
  refine lv_istore (lv' := [(4, .int (0 : Int32)), (3, .int (0 : Int32)), (0, .ref a_B), (1, .int p1), (2, .int p2)]) (pc := 3) hx hb dX6_isPrinted_3 hl (by decide) rfl (fun ls hl => ?_)
  obtain ⟨j33_2, ej33_2, hf⟩ := o_jnE hf
  have hj33_2 : ∀ (x1 : Int32) (H : Heap) (locs : List Loc) (ls : Array Slot), zw D (zTY cA) s A (zU [[(a_B, .inr (6, [.int B_height, .int B_room, .int B_account, .ref c_B, .ref l_B]))], [(c_B, .inl (cA 0, 5, .inl B_costs))], [(l_B, .inl (cA 4, B_n, .inr (.inr (.inr (.inr (fun i => some (g_B i)))))))], (zLs g_B B_n B_v)]) H locs → lv_has ls 5 [(0, .ref a_B), (1, .int p1), (2, .int p2), (3, .int x1)] → j33_2 x1 = some u → W p l e ({ frames := 1, cells := 0, slots := 0, locals := 20 } : Room) s m args below meth c H locs 0 0 Q9 (F0 m 33 ls []) := by
    intro x1 H locs ls Z hl hf
    rw [ej33_2] at hf
    refine lv_aload_n (pc := 33) hx hb dX6_isPrinted_33 rfl (lv_at hl 0 rfl) ?_
    refine zu_get (ref := "LotSheetLaw$Bill") (ci := 6) (C := RX6) (T := TX6) (N := 5) (pc := 34) hx hb hts iw_X6_isPrinted_X6 hown Z 0 rfl rfl 4 (by decide) (List.mem_of_getElem? (i := 1) rfl) rfl rfl dX6_isPrinted_34 ?_
    refine lv_iload_n (pc := 37) hx hb dX6_isPrinted_37 rfl (lv_at hl 1 rfl) ?_
    obtain ⟨i3, hf⟩ := o_rdE hf
    refine zu_aald (b := g_B p1.toNatClampNeg) (pc := 38) hx hb Z 2 4 rfl rfl rfl i3 rfl dX6_isPrinted_38 ?_
    refine lv_astore (lv' := [(4, .ref (g_B p1.toNatClampNeg)), (0, .ref a_B), (1, .int p1), (2, .int p2), (3, .int x1)]) (pc := 39) hx hb dX6_isPrinted_39 hl (by decide) rfl (fun ls hl => ?_)
    refine lv_aload (pc := 41) hx hb dX6_isPrinted_41 (lv_at hl 0 rfl) ?_
    obtain ⟨x4, h5, hf⟩ := o_bindE hf
    refine zg_callVi (pc := 43) (As := []) (rest := []) (LF := [[(a_B, .inr (6, [.int B_height, .int B_room, .int B_account, .ref c_B, .ref l_B]))], [(c_B, .inl (cA 0, 5, .inl B_costs))], [(l_B, .inl (cA 4, B_n, .inr (.inr (.inr (.inr (fun i => some (g_B i)))))))]]) (Lc := [(zLs g_B B_n B_v)]) zJ_pass hJ ⟨hx, hb, hml, hown, hts⟩ (kX7_differs l D cA g_B B_n B_v (p1.toNatClampNeg) ((Nat.not_le.mp fun q => i3 (Or.inr q))) _ h5) (cwV 0 hts gX6_isPrinted_X7_differs rfl rfl rfl (by decide +kernel) ⟨(Nat.le_of_ble_eq_true rfl), (Nat.le_of_ble_eq_true rfl)⟩) Z hA [3, 0, 1, 2] rfl (by decide) (ci := 7) rfl 0 (p1.toNatClampNeg) rfl (zLs_at ((Nat.not_le.mp fun q => i3 (Or.inr q)))) rfl rfl hl.1 rfl (Nat.le_of_ble_eq_true rfl) dX6_isPrinted_43 ⟨(by show 0 + 0 ≤ 0; omega), (by show 0 + 0 ≤ 0; omega)⟩ (fun _ H locs Z => ?_)
    replace Z : zw D (zTY cA) s A (zU [[(a_B, .inr (6, [.int B_height, .int B_room, .int B_account, .ref c_B, .ref l_B]))], [(c_B, .inl (cA 0, 5, .inl B_costs))], [(l_B, .inl (cA 4, B_n, .inr (.inr (.inr (.inr (fun i => some (g_B i)))))))], (zLs g_B B_n B_v)]) H locs := Z
    refine lv_if_eq (tgt := 66) (pc := 46) hx hb dX6_isPrinted_46 (by decide) (fun c6 => ?_) (fun c6 => ?_)
    · replace hf := o_pos c6 hf
      refine lv_aload (pc := 66) hx hb dX6_isPrinted_66 (lv_at hl 0 rfl) ?_
      refine zu_getL (ref := "LotSheetLaw$Lot") (pc := 68) hx hb hts iw_X6_isPrinted_X7 hown Z 3 rfl (Nat.not_le.mp fun q => i3 (Or.inr q)) rfl 3 (by decide) (List.mem_of_getElem? (i := 3) rfl) rfl rfl dX6_isPrinted_68 ?_
      obtain ⟨bz7, hf⟩ := o_asE hf
      cases hf
      rw [hQ9]
      exact zg_zret (pc := 71) (L' := [[(a_B, .inr (6, [.int B_height, .int B_room, .int B_account, .ref c_B, .ref l_B]))], [(c_B, .inl (cA 0, 5, .inl B_costs))], [(l_B, .inl (cA 4, B_n, .inr (.inr (.inr (.inr (fun i => some (g_B i)))))))], (zLs g_B B_n B_v)]) (fun _ => 0) (by show 0 ≤ 0; omega) (by show 0 ≤ 0; omega) hx hb hr hlocks Z [0, 1, 2, 3] rfl (by decide) rfl rfl (congrArg Value.int bz7) dX6_isPrinted_71
    · replace hf := o_neg c6 hf
      refine lv_iload_n (pc := 49) hx hb dX6_isPrinted_49 rfl (lv_at hl 3 rfl) ?_
      refine lv_iload_n (pc := 50) hx hb dX6_isPrinted_50 rfl (lv_at hl 4 rfl) ?_
      refine lv_ishr (pc := 51) hx hb dX6_isPrinted_51 ?_
      refine lv_iconst (v := (1 : Int32)) (pc := 52) hx hb dX6_isPrinted_52 (by decide) ?_
      refine lv_iand (pc := 53) hx hb dX6_isPrinted_53 ?_
      refine lv_iconst (v := (1 : Int32)) (pc := 54) hx hb dX6_isPrinted_54 (by decide) ?_
      refine lv_icmp_ne (tgt := 66) (pc := 55) hx hb dX6_isPrinted_55 (by decide) (fun c8 => ?_) (fun c8 => ?_)
      · replace hf := o_neg c8 hf
        refine lv_aload (pc := 66) hx hb dX6_isPrinted_66 (lv_at hl 0 rfl) ?_
        refine zu_getL (ref := "LotSheetLaw$Lot") (pc := 68) hx hb hts iw_X6_isPrinted_X7 hown Z 3 rfl (Nat.not_le.mp fun q => i3 (Or.inr q)) rfl 3 (by decide) (List.mem_of_getElem? (i := 3) rfl) rfl rfl dX6_isPrinted_68 ?_
        obtain ⟨bz9, hf⟩ := o_asE hf
        cases hf
        rw [hQ9]
        exact zg_zret (pc := 71) (L' := [[(a_B, .inr (6, [.int B_height, .int B_room, .int B_account, .ref c_B, .ref l_B]))], [(c_B, .inl (cA 0, 5, .inl B_costs))], [(l_B, .inl (cA 4, B_n, .inr (.inr (.inr (.inr (fun i => some (g_B i)))))))], (zLs g_B B_n B_v)]) (fun _ => 0) (by show 0 ≤ 0; omega) (by show 0 ≤ 0; omega) hx hb hr hlocks Z [0, 1, 2, 3] rfl (by decide) rfl rfl (congrArg Value.int bz9) dX6_isPrinted_71
      · replace hf := o_pos c8 hf
        refine lv_aload (pc := 58) hx hb dX6_isPrinted_58 (lv_at hl 0 rfl) ?_
        refine zu_getL (ref := "LotSheetLaw$Lot") (pc := 60) hx hb hts iw_X6_isPrinted_X7 hown Z 3 rfl (Nat.not_le.mp fun q => i3 (Or.inr q)) rfl 4 (by decide) (List.mem_of_getElem? (i := 2) rfl) rfl rfl dX6_isPrinted_60 ?_
        refine lv_goto (tgt := 71) (pc := 63) hx hb dX6_isPrinted_63 (by decide) ?_
        obtain ⟨bz10, hf⟩ := o_asE hf
        cases hf
        rw [hQ9]
        exact zg_zret (pc := 71) (L' := [[(a_B, .inr (6, [.int B_height, .int B_room, .int B_account, .ref c_B, .ref l_B]))], [(c_B, .inl (cA 0, 5, .inl B_costs))], [(l_B, .inl (cA 4, B_n, .inr (.inr (.inr (.inr (fun i => some (g_B i)))))))], (zLs g_B B_n B_v)]) (fun _ => 0) (by show 0 ≤ 0; omega) (by show 0 ≤ 0; omega) hx hb hr hlocks Z [0, 1, 2, 3] rfl (by decide) rfl rfl (congrArg Value.int bz10) dX6_isPrinted_71
  have hL5 : ∀ (n0 : Nat) (x11 : Int32) (x12 : Int32) (H : Heap) (locs : List Loc) (ls : Array Slot), zw D (zTY cA) s A (zU [[(a_B, .inr (6, [.int B_height, .int B_room, .int B_account, .ref c_B, .ref l_B]))], [(c_B, .inl (cA 0, 5, .inl B_costs))], [(l_B, .inl (cA 4, B_n, .inr (.inr (.inr (.inr (fun i => some (g_B i)))))))], (zLs g_B B_n B_v)]) H locs → lv_has ls 5 [(0, .ref a_B), (1, .int p1), (2, .int p2), (3, .int x11), (4, .int x12)] → fX6_isPrinted_L5 p1 j33_2 B_n B_v n0 x11 x12 = some u → W p l e ({ frames := 1, cells := 0, slots := 0, locals := 20 } : Room) s m args below meth c H locs 0 0 Q9 (F0 m 5 ls []) := by
    intro n0
    induction n0 with
    | zero => intro x11 x12 H locs ls Z hl hf; exact o_no hf
    | succ n0 ih0 =>
      intro x11 x12 H locs ls Z hl hf
      refine lv_iload (pc := 5) hx hb dX6_isPrinted_5 (lv_at hl 4 rfl) ?_
      refine lv_iload_n (pc := 7) hx hb dX6_isPrinted_7 rfl (lv_at hl 1 rfl) ?_
      refine lv_icmp_ge (tgt := 33) (pc := 8) hx hb dX6_isPrinted_8 (by decide) (fun c13 => ?_) (fun c13 => ?_)
      · replace hf := o_pos c13 hf
        exact hj33_2 x11 H locs ls Z (lv_sub hl [0, 1, 2, 3] rfl) hf
      · replace hf := o_neg c13 hf
        refine lv_aload_n (pc := 11) hx hb dX6_isPrinted_11 rfl (lv_at hl 0 rfl) ?_
        refine zu_get (ref := "LotSheetLaw$Bill") (ci := 6) (C := RX6) (T := TX6) (N := 5) (pc := 12) hx hb hts iw_X6_isPrinted_X6 hown Z 0 rfl rfl 4 (by decide) (List.mem_of_getElem? (i := 1) rfl) rfl rfl dX6_isPrinted_12 ?_
        refine lv_iload (pc := 15) hx hb dX6_isPrinted_15 (lv_at hl 4 rfl) ?_
        obtain ⟨i14, hf⟩ := o_rdE hf
        refine zu_aald (b := g_B x12.toNatClampNeg) (pc := 17) hx hb Z 2 4 rfl rfl rfl i14 rfl dX6_isPrinted_17 ?_
        obtain ⟨x15, h16, hf⟩ := o_bindE hf
        refine zg_callVi (pc := 18) (As := []) (rest := []) (LF := [[(a_B, .inr (6, [.int B_height, .int B_room, .int B_account, .ref c_B, .ref l_B]))], [(c_B, .inl (cA 0, 5, .inl B_costs))], [(l_B, .inl (cA 4, B_n, .inr (.inr (.inr (.inr (fun i => some (g_B i)))))))]]) (Lc := [(zLs g_B B_n B_v)]) zJ_pass hJ ⟨hx, hb, hml, hown, hts⟩ (kX7_differs l D cA g_B B_n B_v (x12.toNatClampNeg) ((Nat.not_le.mp fun q => i14 (Or.inr q))) _ h16) (cwV 0 hts gX6_isPrinted_X7_differs rfl rfl rfl (by decide +kernel) ⟨(Nat.le_of_ble_eq_true rfl), (Nat.le_of_ble_eq_true rfl)⟩) Z hA [3, 0, 1, 2] rfl (by decide) (ci := 7) rfl 0 (x12.toNatClampNeg) rfl (zLs_at ((Nat.not_le.mp fun q => i14 (Or.inr q)))) rfl rfl hl.1 rfl (Nat.le_of_ble_eq_true rfl) dX6_isPrinted_18 ⟨(by show 0 + 0 ≤ 0; omega), (by show 0 + 0 ≤ 0; omega)⟩ (fun _ H locs Z => ?_)
        replace Z : zw D (zTY cA) s A (zU [[(a_B, .inr (6, [.int B_height, .int B_room, .int B_account, .ref c_B, .ref l_B]))], [(c_B, .inl (cA 0, 5, .inl B_costs))], [(l_B, .inl (cA 4, B_n, .inr (.inr (.inr (.inr (fun i => some (g_B i)))))))], (zLs g_B B_n B_v)]) H locs := Z
        refine lv_if_eq (tgt := 27) (pc := 21) hx hb dX6_isPrinted_21 (by decide) (fun c17 => ?_) (fun c17 => ?_)
        · replace hf := o_pos c17 hf
          obtain ⟨x18, ex18⟩ : ∃ y : Int32, y = (x12 + (1 : Int32)) := ⟨_, rfl⟩
          replace hf := o_letE ex18 hf
          refine lv_iinc (v := x18) (lv' := [(4, .int x18), (0, .ref a_B), (1, .int p1), (2, .int p2), (3, .int x11)]) (pc := 27) hx hb dX6_isPrinted_27 hl (k := 4) rfl (by rw [ex18]; rfl) (by decide) rfl (fun ls hl => ?_)
          refine lv_goto (tgt := 5) (pc := 30) hx hb dX6_isPrinted_30 (by decide) ?_
          exact ih0 x11 x18 H locs ls Z (lv_sub hl [1, 2, 3, 4, 0] rfl) hf
        · replace hf := o_neg c17 hf
          obtain ⟨x19, ex19⟩ : ∃ y : Int32, y = (x11 + (1 : Int32)) := ⟨_, rfl⟩
          replace hf := o_letE ex19 hf
          refine lv_iinc (v := x19) (lv' := [(3, .int x19), (0, .ref a_B), (1, .int p1), (2, .int p2), (4, .int x12)]) (pc := 24) hx hb dX6_isPrinted_24 hl (k := 3) rfl (by rw [ex19]; rfl) (by decide) rfl (fun ls hl => ?_)
          obtain ⟨x20, ex20⟩ : ∃ y : Int32, y = (x12 + (1 : Int32)) := ⟨_, rfl⟩
          replace hf := o_letE ex20 hf
          refine lv_iinc (v := x20) (lv' := [(4, .int x20), (3, .int x19), (0, .ref a_B), (1, .int p1), (2, .int p2)]) (pc := 27) hx hb dX6_isPrinted_27 hl (k := 4) rfl (by rw [ex20]; rfl) (by decide) rfl (fun ls hl => ?_)
          refine lv_goto (tgt := 5) (pc := 30) hx hb dX6_isPrinted_30 (by decide) ?_
          exact ih0 x19 x20 H locs ls Z (lv_sub hl [2, 3, 4, 1, 0] rfl) hf
  exact hL5 1024 (0 : Int32) (0 : Int32) H locs ls Z (lv_sub hl [2, 3, 4, 1, 0] rfl) hf
