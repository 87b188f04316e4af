def fX6_places_L16 (B_n : Nat) (p1 : Int32) (B_v : Nat → ZL) (B_height : Int32) : Nat → Int32 → Int32 → Int32 → (Nat → Int32) → Option ((Nat → Int32))
  | 0, _, _, _, _ => none
  | n0 + 1, x3, x4, x5, a6 => (if (Int32.ofNat B_n) ≤ x5 then some (a6) else o_rd B_n x5 (o_let (upd a6 x5.toNatClampNeg (-1 : Int32)) (fun a9 => o_bind (fX6_isPrinted x5 p1 B_n B_v) (fun x10 => (if x10 = 0 then o_let (x5 + (1 : Int32)) (fun x24 => (fX6_places_L16 B_n p1 B_v B_height n0 x3 x4 x24 a9)) else o_rd B_n x5 (o_let (fun (x15 : Int32) (x16 : Int32) => o_rd B_n x5 (o_let (upd a9 x5.toNatClampNeg ((x15 * B_height) + x16)) (fun a19 => o_rd B_n x5 (o_let (x16 + ((B_v x5.toNatClampNeg).1)) (fun x21 => o_let (x5 + (1 : Int32)) (fun x22 => (fX6_places_L16 B_n p1 B_v B_height n0 x15 x21 x22 a19))))))) (fun (j70_17 : Int32 → Int32 → Option ((Nat → Int32))) => (if (x4 + ((B_v x5.toNatClampNeg).1)) ≤ B_height then (j70_17 x3 x4) else o_let (x3 + (1 : Int32)) (fun x23 => (j70_17 x23 (0 : Int32)))))))))))
def fX6_places (p1 : Int32) (B_height : Int32) (B_n : Nat) (B_v : Nat → ZL) : Option ((Nat → Int32)) := o_as (B_n ≤ 16) ((fX6_places_L16 B_n p1 B_v B_height 1024 (0 : Int32) (0 : Int32) (0 : Int32) (fun _ => 0)))
theorem iw_X6_places_X6 : ∀ w ∈ u_ws RX6 TX6 5, w ∈ wsX6_places := z_inr [19, 20, 21, 22, 23] rfl
theorem iw_X6_places_X7 : ∀ w ∈ u_ws RX7 TX7 6, w ∈ wsX6_places := z_inr [24, 25, 26, 27, 28, 29] rfl
set_option maxHeartbeats 8000000 in
set_option maxRecDepth 100000 in
theorem kX6_places (l : Launch) (D : va_G) (cA : Nat → ClassId) (a_B : Nat) (c_B : Nat) (l_B : Nat) (g_B : Nat → Nat) (p1 : Int32) (B_height : Int32) (B_room : Int32) (B_account : Int32) (B_costs : Nat → Int32) (B_n : Nat) (B_v : Nat → ZL) (u : (Nat → Int32)) (hf : fX6_places p1 B_height B_n B_v = some u) : zG zJ l yX6_places wsX6_places ({ frames := 2, cells := 1, slots := 16, locals := 44 } : Room) D (zTY cA) [.ref a_B, .int p1] (zU [[(a_B, .inr (6, [.int B_height, .int B_room, .int B_account, .ref c_B, .ref l_B]))], [(c_B, .inl (cA 0, 5, .inl B_costs))], [(l_B, .inl (cA 4, B_n, .inr (.inr (.inr (.inr (fun i => some (g_B i)))))))], (zLs g_B B_n B_v)]) (fun v h => v = some (.ref (h 0))) (fun h9 => zU [[(a_B, .inr (6, [.int B_height, .int B_room, .int B_account, .ref c_B, .ref l_B]))], [(c_B, .inl (cA 0, 5, .inl B_costs))], [(l_B, .inl (cA 4, B_n, .inr (.inr (.inr (.inr (fun i => some (g_B i)))))))], (zLs g_B B_n B_v), [((h9 0), .inl (cA 0, B_n, .inl u))]]) := by
  refine z_startG (cc := cX6_places) (maxL := 6) (ret := (some (.array .int))) (by decide) rfl (Nat.le_of_ble_eq_true rfl) ?_
  intro p e s m args below meth c A hx hb hr hts hown hlocks hml hA hmn hJ Z ls hl
  replace hown : s.vm.findClass RX6 = some m.cls := hown
  replace hl : lv_has ls 6 [(0, .ref a_B), (1, .int p1)] := hl
  obtain ⟨Q9, hQ9⟩ : ∃ Q9 : State → Prop, Q9 = MQ below (zQG D (zTY cA) A (fun v h => v = some (.ref (h 0))) (fun h9 => zU [[(a_B, .inr (6, [.int B_height, .int B_room, .int B_account, .ref c_B, .ref l_B]))], [(c_B, .inl (cA 0, 5, .inl B_costs))], [(l_B, .inl (cA 4, B_n, .inr (.inr (.inr (.inr (fun i => some (g_B i)))))))], (zLs g_B B_n B_v), [((h9 0), .inl (cA 0, B_n, .inl u))]])) args s 1 16 A := ⟨_, rfl⟩
  show W p l e ({ frames := 2, cells := 1, slots := 16, locals := 44 } : Room) s m args below meth c s.heap [] 0 0 (MQ below (zQG D (zTY cA) A (fun v h => v = some (.ref (h 0))) (fun h9 => zU [[(a_B, .inr (6, [.int B_height, .int B_room, .int B_account, .ref c_B, .ref l_B]))], [(c_B, .inl (cA 0, 5, .inl B_costs))], [(l_B, .inl (cA 4, B_n, .inr (.inr (.inr (.inr (fun i => some (g_B i)))))))], (zLs g_B B_n B_v), [((h9 0), .inl (cA 0, B_n, .inl u))]])) args s 1 16 A) (F0 m 0 ls [])
  rw [← hQ9]
  obtain ⟨H, hH⟩ : ∃ H, H = s.heap := ⟨_, rfl⟩
  rw [← hH] at Z ⊢
  clear hH
  obtain ⟨locs, hlc⟩ : ∃ q : List Loc, q = [] := ⟨_, rfl⟩
  rw [← hlc] at Z ⊢
  clear hlc
  refine lv_aload_n (pc := 0) hx hb dX6_places_0 rfl (lv_at hl 0 rfl) ?_
  refine zu_get (ref := "LotSheetLaw$Bill") (ci := 6) (C := RX6) (T := TX6) (N := 5) (pc := 1) hx hb hts iw_X6_places_X6 hown Z 0 rfl rfl 4 (by decide) (List.mem_of_getElem? (i := 1) rfl) rfl rfl dX6_places_1 ?_
  refine zu_alen (v := (Int32.ofNat B_n)) (pc := 4) hx hb Z 2 4 rfl rfl rfl dX6_places_4 ?_
  obtain ⟨hn2, hf⟩ := o_asE hf
  refine zu_newa (atype := .int) (ty := .int) (a0 := (B_n, .inl (fun _ => 0))) 0 (pc := 5) hx hb hts (List.mem_of_getElem? (i := 2) rfl) rfl (fun _ => rfl) rfl Z hA (fun _ => rfl) (z_ofN (Nat.le_trans hn2 (by decide))).1 (z_ofN (Nat.le_trans hn2 (by decide))).2 (by show B_n * 4 ≤ 536870912; have := hn2; omega) (by show 0 + 1 ≤ 1; omega) (by have := hn2; show 0 + B_n ≤ 16; omega) dX6_places_5 (fun q1 H Z => ?_)
  refine W.widen (k := 1) (n := 16) (by show 0 + 1 ≤ _; omega) (by have := hn2; show 0 + B_n ≤ _; omega) ?_
  replace Z : zw D (zTY cA) s A (zU [[(a_B, .inr (6, [.int B_height, .int B_room, .int B_account, .ref c_B, .ref l_B]))], [(c_B, .inl (cA 0, 5, .inl B_costs))], [(l_B, .inl (cA 4, B_n, .inr (.inr (.inr (.inr (fun i => some (g_B i)))))))], (zLs g_B B_n B_v), [(q1, .inl (cA 0, B_n, .inl (fun _ => 0)))]]) H locs := Z
  refine lv_astore_n (lv' := [(2, .ref q1), (0, .ref a_B), (1, .int p1)]) (pc := 7) hx hb dX6_places_7 rfl hl (by decide) rfl (fun ls hl => ?_)
  refine lv_iconst (v := (0 : Int32)) (pc := 8) hx hb dX6_places_8 (by decide) ?_
  refine lv_istore_n (lv' := [(3, .int (0 : Int32)), (2, .ref q1), (0, .ref a_B), (1, .int p1)]) (pc := 9) hx hb dX6_places_9 rfl hl (by decide) rfl (fun ls hl => ?_)
  refine lv_iconst (v := (0 : Int32)) (pc := 10) hx hb dX6_places_10 (by decide) ?_
  refine lv_istore (lv' := [(4, .int (0 : Int32)), (3, .int (0 : Int32)), (2, .ref q1), (0, .ref a_B), (1, .int p1)]) (pc := 11) hx hb dX6_places_11 hl (by decide) rfl (fun ls hl => ?_)
  refine lv_iconst (v := (0 : Int32)) (pc := 13) hx hb dX6_places_13 (by decide) ?_
  refine lv_istore (lv' := [(5, .int (0 : Int32)), (4, .int (0 : Int32)), (3, .int (0 : Int32)), (2, .ref q1), (0, .ref a_B), (1, .int p1)]) (pc := 14) hx hb dX6_places_14 hl (by decide) rfl (fun ls hl => ?_)
  have hL16 : ∀ (n0 : Nat) (x3 : Int32) (x4 : Int32) (x5 : Int32) (a6 : Nat → Int32) (H : Heap) (locs : List Loc) (ls : Array Slot), zw D (zTY cA) s A (zU [[(a_B, .inr (6, [.int B_height, .int B_room, .int B_account, .ref c_B, .ref l_B]))], [(c_B, .inl (cA 0, 5, .inl B_costs))], [(l_B, .inl (cA 4, B_n, .inr (.inr (.inr (.inr (fun i => some (g_B i)))))))], (zLs g_B B_n B_v), [(q1, .inl (cA 0, B_n, .inl a6))]]) H locs → lv_has ls 6 [(0, .ref a_B), (1, .int p1), (2, .ref q1), (3, .int x3), (4, .int x4), (5, .int x5)] → fX6_places_L16 B_n p1 B_v B_height n0 x3 x4 x5 a6 = some u → W p l e ({ frames := 2, cells := 1, slots := 16, locals := 44 } : Room) s m args below meth c H locs 1 16 Q9 (F0 m 16 ls []) := by
    intro n0
    induction n0 with
    | zero => intro x3 x4 x5 a6 H locs ls Z hl hf; exact o_no hf
    | succ n0 ih0 =>
      intro x3 x4 x5 a6 H locs ls Z hl hf
      refine lv_iload (pc := 16) hx hb dX6_places_16 (lv_at hl 5 rfl) ?_
      refine lv_aload_n (pc := 18) hx hb dX6_places_18 rfl (lv_at hl 0 rfl) ?_
      refine zu_get (ref := "LotSheetLaw$Bill") (ci := 6) (C := RX6) (T := TX6) (N := 5) (pc := 19) hx hb hts iw_X6_places_X6 hown Z 0 rfl rfl 4 (by decide) (List.mem_of_getElem? (i := 1) rfl) rfl rfl dX6_places_19 ?_
      refine zu_alen (v := (Int32.ofNat B_n)) (pc := 22) hx hb Z 2 4 rfl rfl rfl dX6_places_22 ?_
      refine lv_icmp_ge (tgt := 104) (pc := 23) hx hb dX6_places_23 (by decide) (fun c7 => ?_) (fun c7 => ?_)
      · replace hf := o_pos c7 hf
        refine lv_aload_n (pc := 104) hx hb dX6_places_104 rfl (lv_at hl 2 rfl) ?_
        have hu9 := Option.some.inj hf
        subst hu9
        rw [hQ9]
        exact zg_aret (pc := 105) (L' := [[(a_B, .inr (6, [.int B_height, .int B_room, .int B_account, .ref c_B, .ref l_B]))], [(c_B, .inl (cA 0, 5, .inl B_costs))], [(l_B, .inl (cA 4, B_n, .inr (.inr (.inr (.inr (fun i => some (g_B i)))))))], (zLs g_B B_n B_v), [(q1, .inl (cA 0, B_n, .inl a6))]]) (zhl [q1] (fun _ => 0)) (by show 1 ≤ 1; omega) (by show 16 ≤ 16; omega) hx hb hr (Or.inr ⟨_, rfl⟩) (Or.inr ⟨_, rfl⟩) hlocks Z [0, 1, 2, 3, 4] rfl (by decide) rfl rfl dX6_places_105
      · replace hf := o_neg c7 hf
        refine lv_aload_n (pc := 26) hx hb dX6_places_26 rfl (lv_at hl 2 rfl) ?_
        refine lv_iload (pc := 27) hx hb dX6_places_27 (lv_at hl 5 rfl) ?_
        refine lv_iconst (v := (-1 : Int32)) (pc := 29) hx hb dX6_places_29 (by decide) ?_
        obtain ⟨i8, hf⟩ := o_rdE hf
        refine zu_iast (pc := 30) hx hb Z 4 0 rfl rfl i8 dX6_places_30 (fun g => [[(a_B, .inr (6, [.int B_height, .int B_room, .int B_account, .ref c_B, .ref l_B]))], [(c_B, .inl (cA 0, 5, .inl B_costs))], [(l_B, .inl (cA 4, B_n, .inr (.inr (.inr (.inr (fun i => some (g_B i)))))))], (zLs g_B B_n B_v), [(q1, .inl (cA 0, B_n, .inl g))]]) (fun _ => rfl) (fun a9 H locs ea9 Z => ?_)
        replace hf := o_letE ea9 hf
        replace Z : zw D (zTY cA) s A (zU [[(a_B, .inr (6, [.int B_height, .int B_room, .int B_account, .ref c_B, .ref l_B]))], [(c_B, .inl (cA 0, 5, .inl B_costs))], [(l_B, .inl (cA 4, B_n, .inr (.inr (.inr (.inr (fun i => some (g_B i)))))))], (zLs g_B B_n B_v), [(q1, .inl (cA 0, B_n, .inl a9))]]) H locs := Z
        refine lv_aload_n (pc := 31) hx hb dX6_places_31 rfl (lv_at hl 0 rfl) ?_
        refine lv_iload (pc := 32) hx hb dX6_places_32 (lv_at hl 5 rfl) ?_
        refine lv_iload_n (pc := 34) hx hb dX6_places_34 rfl (lv_at hl 1 rfl) ?_
        obtain ⟨x10, h11, hf⟩ := o_bindE hf
        refine zg_callVi (pc := 35) (As := [.int x5, .int p1]) (rest := []) (LF := [[(q1, .inl (cA 0, B_n, .inl a9))]]) (Lc := [[(a_B, .inr (6, [.int B_height, .int B_room, .int B_account, .ref c_B, .ref l_B]))], [(c_B, .inl (cA 0, 5, .inl B_costs))], [(l_B, .inl (cA 4, B_n, .inr (.inr (.inr (.inr (fun i => some (g_B i)))))))], (zLs g_B B_n B_v)]) zJ_pass hJ ⟨hx, hb, hml, hown, hts⟩ (kX6_isPrinted l D cA a_B c_B l_B g_B x5 p1 B_height B_room B_account B_costs B_n B_v _ h11) (cwV 2 hts gX6_places_X6_isPrinted rfl rfl rfl (by decide +kernel) ⟨(Nat.le_of_ble_eq_true rfl), (Nat.le_of_ble_eq_true rfl)⟩) Z hA [0, 1, 2, 3, 4] rfl (by decide) (ci := 6) rfl 0 0 rfl rfl rfl rfl hl.1 rfl (Nat.le_of_ble_eq_true rfl) dX6_places_35 ⟨(by show 1 + 0 ≤ 1; omega), (by show 16 + 0 ≤ 16; omega)⟩ (fun _ H locs Z => ?_)
        replace Z : zw D (zTY cA) s A (zU [[(q1, .inl (cA 0, B_n, .inl a9))], [(a_B, .inr (6, [.int B_height, .int B_room, .int B_account, .ref c_B, .ref l_B]))], [(c_B, .inl (cA 0, 5, .inl B_costs))], [(l_B, .inl (cA 4, B_n, .inr (.inr (.inr (.inr (fun i => some (g_B i)))))))], (zLs g_B B_n B_v)]) H locs := Z
        refine lv_if_ne (tgt := 44) (pc := 38) hx hb dX6_places_38 (by decide) (fun c12 => ?_) (fun c12 => ?_)
        · replace hf := o_neg c12 hf
          refine lv_iload (pc := 44) hx hb dX6_places_44 (lv_at hl 4 rfl) ?_
          refine lv_aload_n (pc := 46) hx hb dX6_places_46 rfl (lv_at hl 0 rfl) ?_
          refine zu_get (ref := "LotSheetLaw$Bill") (ci := 6) (C := RX6) (T := TX6) (N := 5) (pc := 47) hx hb hts iw_X6_places_X6 hown Z 1 rfl rfl 4 (by decide) (List.mem_of_getElem? (i := 1) rfl) rfl rfl dX6_places_47 ?_
          refine lv_iload (pc := 50) hx hb dX6_places_50 (lv_at hl 5 rfl) ?_
          obtain ⟨i13, hf⟩ := o_rdE hf
          refine zu_aald (b := g_B x5.toNatClampNeg) (pc := 52) hx hb Z 3 4 rfl rfl rfl i13 rfl dX6_places_52 ?_
          refine zu_getL (ref := "LotSheetLaw$Lot") (pc := 53) hx hb hts iw_X6_places_X7 hown Z 4 rfl (Nat.not_le.mp fun q => i13 (Or.inr q)) rfl 0 (by decide) (List.mem_of_getElem? (i := 3) rfl) rfl rfl dX6_places_53 ?_
          refine lv_iadd (pc := 56) hx hb dX6_places_56 ?_
          refine lv_aload_n (pc := 57) hx hb dX6_places_57 rfl (lv_at hl 0 rfl) ?_
          refine zu_get (ref := "LotSheetLaw$Bill") (ci := 6) (C := RX6) (T := TX6) (N := 5) (pc := 58) hx hb hts iw_X6_places_X6 hown Z 1 rfl rfl 0 (by decide) (List.mem_of_getElem? (i := 4) rfl) rfl rfl dX6_places_58 ?_
          obtain ⟨j70_17, ej70_17, hf⟩ := o_jnE hf
          have hj70_17 : ∀ (x15 : Int32) (x16 : Int32) (H : Heap) (locs : List Loc) (ls : Array Slot), zw D (zTY cA) s A (zU [[(q1, .inl (cA 0, B_n, .inl a9))], [(a_B, .inr (6, [.int B_height, .int B_room, .int B_account, .ref c_B, .ref l_B]))], [(c_B, .inl (cA 0, 5, .inl B_costs))], [(l_B, .inl (cA 4, B_n, .inr (.inr (.inr (.inr (fun i => some (g_B i)))))))], (zLs g_B B_n B_v)]) H locs → lv_has ls 6 [(0, .ref a_B), (1, .int p1), (2, .ref q1), (3, .int x15), (4, .int x16), (5, .int x5)] → j70_17 x15 x16 = some u → W p l e ({ frames := 2, cells := 1, slots := 16, locals := 44 } : Room) s m args below meth c H locs 1 16 Q9 (F0 m 70 ls []) := by
            intro x15 x16 H locs ls Z hl hf
            rw [ej70_17] at hf
            refine lv_aload_n (pc := 70) hx hb dX6_places_70 rfl (lv_at hl 2 rfl) ?_
            refine lv_iload (pc := 71) hx hb dX6_places_71 (lv_at hl 5 rfl) ?_
            refine lv_iload_n (pc := 73) hx hb dX6_places_73 rfl (lv_at hl 3 rfl) ?_
            refine lv_aload_n (pc := 74) hx hb dX6_places_74 rfl (lv_at hl 0 rfl) ?_
            refine zu_get (ref := "LotSheetLaw$Bill") (ci := 6) (C := RX6) (T := TX6) (N := 5) (pc := 75) hx hb hts iw_X6_places_X6 hown Z 1 rfl rfl 0 (by decide) (List.mem_of_getElem? (i := 4) rfl) rfl rfl dX6_places_75 ?_
            refine lv_imul (pc := 78) hx hb dX6_places_78 ?_
            refine lv_iload (pc := 79) hx hb dX6_places_79 (lv_at hl 4 rfl) ?_
            refine lv_iadd (pc := 81) hx hb dX6_places_81 ?_
            obtain ⟨i18, hf⟩ := o_rdE hf
            refine zu_iast (pc := 82) hx hb Z 0 0 rfl rfl i18 dX6_places_82 (fun g => [[(q1, .inl (cA 0, B_n, .inl g))], [(a_B, .inr (6, [.int B_height, .int B_room, .int B_account, .ref c_B, .ref l_B]))], [(c_B, .inl (cA 0, 5, .inl B_costs))], [(l_B, .inl (cA 4, B_n, .inr (.inr (.inr (.inr (fun i => some (g_B i)))))))], (zLs g_B B_n B_v)]) (fun _ => rfl) (fun a19 H locs ea19 Z => ?_)
            replace hf := o_letE ea19 hf
            replace Z : zw D (zTY cA) s A (zU [[(q1, .inl (cA 0, B_n, .inl a19))], [(a_B, .inr (6, [.int B_height, .int B_room, .int B_account, .ref c_B, .ref l_B]))], [(c_B, .inl (cA 0, 5, .inl B_costs))], [(l_B, .inl (cA 4, B_n, .inr (.inr (.inr (.inr (fun i => some (g_B i)))))))], (zLs g_B B_n B_v)]) H locs := Z
            refine lv_iload (pc := 83) hx hb dX6_places_83 (lv_at hl 4 rfl) ?_
            refine lv_aload_n (pc := 85) hx hb dX6_places_85 rfl (lv_at hl 0 rfl) ?_
            refine zu_get (ref := "LotSheetLaw$Bill") (ci := 6) (C := RX6) (T := TX6) (N := 5) (pc := 86) hx hb hts iw_X6_places_X6 hown Z 1 rfl rfl 4 (by decide) (List.mem_of_getElem? (i := 1) rfl) rfl rfl dX6_places_86 ?_
            refine lv_iload (pc := 89) hx hb dX6_places_89 (lv_at hl 5 rfl) ?_
            obtain ⟨i20, hf⟩ := o_rdE hf
            refine zu_aald (b := g_B x5.toNatClampNeg) (pc := 91) hx hb Z 3 4 rfl rfl rfl i20 rfl dX6_places_91 ?_
            refine zu_getL (ref := "LotSheetLaw$Lot") (pc := 92) hx hb hts iw_X6_places_X7 hown Z 4 rfl (Nat.not_le.mp fun q => i20 (Or.inr q)) rfl 0 (by decide) (List.mem_of_getElem? (i := 3) rfl) rfl rfl dX6_places_92 ?_
            refine lv_iadd (pc := 95) hx hb dX6_places_95 ?_
            refine lv_topi (fun x21 ex21 => ?_)
            replace hf := o_letE ex21 hf
            refine lv_istore (lv' := [(4, .int x21), (0, .ref a_B), (1, .int p1), (2, .ref q1), (3, .int x15), (5, .int x5)]) (pc := 96) hx hb dX6_places_96 hl (by decide) rfl (fun ls hl => ?_)
            obtain ⟨x22, ex22⟩ : ∃ y : Int32, y = (x5 + (1 : Int32)) := ⟨_, rfl⟩
            replace hf := o_letE ex22 hf
            refine lv_iinc (v := x22) (lv' := [(5, .int x22), (4, .int x21), (0, .ref a_B), (1, .int p1), (2, .ref q1), (3, .int x15)]) (pc := 98) hx hb dX6_places_98 hl (k := 5) rfl (by rw [ex22]; rfl) (by decide) rfl (fun ls hl => ?_)
            refine lv_goto (tgt := 16) (pc := 101) hx hb dX6_places_101 (by decide) ?_
            exact ih0 x15 x21 x22 a19 H locs ls (zu_sub Z [1, 2, 3, 4, 0] rfl (by decide)) (lv_sub hl [2, 3, 4, 5, 1, 0] rfl) hf
          refine lv_icmp_le (tgt := 70) (pc := 61) hx hb dX6_places_61 (by decide) (fun c14 => ?_) (fun c14 => ?_)
          · replace hf := o_pos c14 hf
            exact hj70_17 x3 x4 H locs ls Z (lv_sub hl [0, 1, 2, 3, 4, 5] rfl) hf
          · replace hf := o_neg c14 hf
            obtain ⟨x23, ex23⟩ : ∃ y : Int32, y = (x3 + (1 : Int32)) := ⟨_, rfl⟩
            replace hf := o_letE ex23 hf
            refine lv_iinc (v := x23) (lv' := [(3, .int x23), (0, .ref a_B), (1, .int p1), (2, .ref q1), (4, .int x4), (5, .int x5)]) (pc := 64) hx hb dX6_places_64 hl (k := 3) rfl (by rw [ex23]; rfl) (by decide) rfl (fun ls hl => ?_)
            refine lv_iconst (v := (0 : Int32)) (pc := 67) hx hb dX6_places_67 (by decide) ?_
            refine lv_istore (lv' := [(4, .int (0 : Int32)), (3, .int x23), (0, .ref a_B), (1, .int p1), (2, .ref q1), (5, .int x5)]) (pc := 68) hx hb dX6_places_68 hl (by decide) rfl (fun ls hl => ?_)
            exact hj70_17 x23 (0 : Int32) H locs ls Z (lv_sub hl [2, 3, 4, 1, 0, 5] rfl) hf
        · replace hf := o_pos c12 hf
          refine lv_goto (tgt := 98) (pc := 41) hx hb dX6_places_41 (by decide) ?_
          obtain ⟨x24, ex24⟩ : ∃ y : Int32, y = (x5 + (1 : Int32)) := ⟨_, rfl⟩
          replace hf := o_letE ex24 hf
          refine lv_iinc (v := x24) (lv' := [(5, .int x24), (0, .ref a_B), (1, .int p1), (2, .ref q1), (3, .int x3), (4, .int x4)]) (pc := 98) hx hb dX6_places_98 hl (k := 5) rfl (by rw [ex24]; rfl) (by decide) rfl (fun ls hl => ?_)
          refine lv_goto (tgt := 16) (pc := 101) hx hb dX6_places_101 (by decide) ?_
          exact ih0 x3 x4 x24 a9 H locs ls (zu_sub Z [1, 2, 3, 4, 0] rfl (by decide)) (lv_sub hl [1, 2, 3, 4, 5, 0] rfl) hf
  exact hL16 1024 (0 : Int32) (0 : Int32) (0 : Int32) (fun _ => 0) H locs ls Z (lv_sub hl [4, 5, 3, 2, 1, 0] rfl) hf
