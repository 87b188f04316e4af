def fX6_ofPage_L18 (B_n : Nat) (j116_5 : Int32 → Int32 → Int32 → Int32 → Option (Int32)) (m_p1 : Nat) (p1_f : Nat → Int32) (B_height : Int32) (p2 : Int32) (B_v : Nat → ZL) : Nat → Int32 → Int32 → Int32 → Int32 → Int32 → Option (Int32)
  | 0, _, _, _, _, _ => none
  | n0 + 1, x9, x10, x11, x12, x13 => (if (Int32.ofNat B_n) ≤ x13 then (j116_5 x9 x10 x11 x12) else o_rd m_p1 x13 ((if (p1_f x13.toNatClampNeg) < 0 then o_let (x13 + (1 : Int32)) (fun x17 => (fX6_ofPage_L18 B_n j116_5 m_p1 p1_f B_height p2 B_v n0 x9 x10 x11 x12 x17)) else o_rd m_p1 x13 (o_as (¬ B_height = 0) ((if ((p1_f x13.toNatClampNeg) / B_height) = p2 then o_let (fun (x22 : Int32) => o_let (x9 + (1 : Int32)) (fun x24 => o_rd B_n x13 (o_let (x11 - ((B_v x13.toNatClampNeg).1)) (fun x26 => o_rd B_n x13 ((if ((B_v x13.toNatClampNeg).2.2.2.2.1) = 0 then o_let (x12 + (0 : Int32)) (fun x29 => o_let (x13 + (1 : Int32)) (fun x30 => (fX6_ofPage_L18 B_n j116_5 m_p1 p1_f B_height p2 B_v n0 x24 x22 x26 x29 x30))) else o_rd B_n x13 (o_let (x12 + ((B_v x13.toNatClampNeg).2.1)) (fun x32 => o_let (x13 + (1 : Int32)) (fun x33 => (fX6_ofPage_L18 B_n j116_5 m_p1 p1_f B_height p2 B_v n0 x24 x22 x26 x32 x33)))))))))) (fun (j60_23 : Int32 → Option (Int32)) => (if 0 ≤ x10 then (j60_23 x10) else (j60_23 x13))) else o_let (x13 + (1 : Int32)) (fun x34 => (fX6_ofPage_L18 B_n j116_5 m_p1 p1_f B_height p2 B_v n0 x9 x10 x11 x12 x34))))))))
def fX6_ofPage (p2 : Int32) (p3 : Int32) (B_height : Int32) (B_n : Nat) (B_v : Nat → ZL) (m_p1 : Nat) (p1_f : Nat → Int32) : Option (Int32) := o_let (fun (x1 : Int32) (x2 : Int32) (x3 : Int32) (x4 : Int32) => (if p3 = 0 then some (x1) else (if p3 = (1 : Int32) then some (x2) else (if p3 = (2 : Int32) then some (x3) else some (x4))))) (fun (j116_5 : Int32 → Int32 → Int32 → Int32 → Option (Int32)) => (fX6_ofPage_L18 B_n j116_5 m_p1 p1_f B_height p2 B_v 1024 (0 : Int32) (-1 : Int32) B_height (0 : Int32) (0 : Int32)))
theorem iw_X6_ofPage_X6 : ∀ w ∈ u_ws RX6 TX6 5, w ∈ wsX6_ofPage := z_inr [6, 7, 8, 9, 10] rfl
theorem iw_X6_ofPage_X7 : ∀ w ∈ u_ws RX7 TX7 6, w ∈ wsX6_ofPage := z_inr [11, 12, 13, 14, 15, 16] rfl
set_option maxHeartbeats 8000000 in
set_option maxRecDepth 100000 in
theorem kX6_ofPage (l : Launch) (D : va_G) (cA : Nat → ClassId) (a_B : Nat) (c_B : Nat) (l_B : Nat) (g_B : Nat → Nat) (a_p1 : Nat) (p2 : Int32) (p3 : Int32) (B_height : Int32) (B_room : Int32) (B_account : Int32) (B_costs : Nat → Int32) (B_n : Nat) (B_v : Nat → ZL) (m_p1 : Nat) (p1_f : Nat → Int32) (u : Int32) (hf : fX6_ofPage p2 p3 B_height B_n B_v m_p1 p1_f = some u) : zG zJ l yX6_ofPage wsX6_ofPage ({ frames := 0, cells := 0, slots := 0, locals := 0 } : Room) D (zTY cA) [.ref a_B, .ref a_p1, .int p2, .int p3] (zU [[(a_B, .inr (6, [.int B_height, .int B_room, .int B_account, .ref c_B, .ref l_B]))], [(c_B, .inl (cA 0, 5, .inl B_costs))], [(l_B, .inl (cA 4, B_n, .inr (.inr (.inr (.inr (fun i => some (g_B i)))))))], (zLs g_B B_n B_v), [(a_p1, .inl (cA 0, m_p1, .inl p1_f))]]) (fun v _ => v = some (.int u)) (fun h9 => zU [[(a_B, .inr (6, [.int B_height, .int B_room, .int B_account, .ref c_B, .ref l_B]))], [(c_B, .inl (cA 0, 5, .inl B_costs))], [(l_B, .inl (cA 4, B_n, .inr (.inr (.inr (.inr (fun i => some (g_B i)))))))], (zLs g_B B_n B_v), [(a_p1, .inl (cA 0, m_p1, .inl p1_f))]]) := by
  refine z_startG (cc := cX6_ofPage) (maxL := 9) (ret := (some .int)) (by decide) rfl (Nat.le_of_ble_eq_true rfl) ?_
  intro p e s m args below meth c A hx hb hr hts hown hlocks hml hA hmn hJ Z ls hl
  replace hown : s.vm.findClass RX6 = some m.cls := hown
  replace hl : lv_has ls 9 [(0, .ref a_B), (1, .ref a_p1), (2, .int p2), (3, .int p3)] := hl
  obtain ⟨Q9, hQ9⟩ : ∃ Q9 : State → Prop, Q9 = MQ below (zQG D (zTY cA) A (fun v _ => v = some (.int u)) (fun h9 => zU [[(a_B, .inr (6, [.int B_height, .int B_room, .int B_account, .ref c_B, .ref l_B]))], [(c_B, .inl (cA 0, 5, .inl B_costs))], [(l_B, .inl (cA 4, B_n, .inr (.inr (.inr (.inr (fun i => some (g_B i)))))))], (zLs g_B B_n B_v), [(a_p1, .inl (cA 0, m_p1, .inl p1_f))]])) args s 0 0 A := ⟨_, rfl⟩
  show W p l e ({ frames := 0, cells := 0, slots := 0, locals := 0 } : Room) s m args below meth c s.heap [] 0 0 (MQ below (zQG D (zTY cA) A (fun v _ => v = some (.int u)) (fun h9 => zU [[(a_B, .inr (6, [.int B_height, .int B_room, .int B_account, .ref c_B, .ref l_B]))], [(c_B, .inl (cA 0, 5, .inl B_costs))], [(l_B, .inl (cA 4, B_n, .inr (.inr (.inr (.inr (fun i => some (g_B i)))))))], (zLs g_B B_n B_v), [(a_p1, .inl (cA 0, m_p1, .inl p1_f))]])) args s 0 0 A) (F0 m 0 ls [])
  rw [← hQ9]
  obtain ⟨H, hH⟩ : ∃ H, H = s.heap := ⟨_, rfl⟩
  rw [← hH] at Z ⊢
  clear hH
  obtain ⟨locs, hlc⟩ : ∃ q : List Loc, q = [] := ⟨_, rfl⟩
  rw [← hlc] at Z ⊢
  clear hlc
  refine lv_iconst (v := (0 : Int32)) (pc := 0) hx hb dX6_ofPage_0 (by decide) ?_
  refine lv_istore (lv' := [(4, .int (0 : Int32)), (0, .ref a_B), (1, .ref a_p1), (2, .int p2), (3, .int p3)]) (pc := 1) hx hb dX6_ofPage_1 hl (by decide) rfl (fun ls hl => ?_)
  refine lv_iconst (v := (-1 : Int32)) (pc := 3) hx hb dX6_ofPage_3 (by decide) ?_
  refine lv_istore (lv' := [(5, .int (-1 : Int32)), (4, .int (0 : Int32)), (0, .ref a_B), (1, .ref a_p1), (2, .int p2), (3, .int p3)]) (pc := 4) hx hb dX6_ofPage_4 hl (by decide) rfl (fun ls hl => ?_)
  refine lv_aload_n (pc := 6) hx hb dX6_ofPage_6 rfl (lv_at hl 2 rfl) ?_
  refine zu_get (ref := "LotSheetLaw$Bill") (ci := 6) (C := RX6) (T := TX6) (N := 5) (pc := 7) hx hb hts iw_X6_ofPage_X6 hown Z 0 rfl rfl 0 (by decide) (List.mem_of_getElem? (i := 1) rfl) rfl rfl dX6_ofPage_7 ?_
  refine lv_istore (lv' := [(6, .int B_height), (5, .int (-1 : Int32)), (4, .int (0 : Int32)), (0, .ref a_B), (1, .ref a_p1), (2, .int p2), (3, .int p3)]) (pc := 10) hx hb dX6_ofPage_10 hl (by decide) rfl (fun ls hl => ?_)
  refine lv_iconst (v := (0 : Int32)) (pc := 12) hx hb dX6_ofPage_12 (by decide) ?_
  refine lv_istore (lv' := [(7, .int (0 : Int32)), (6, .int B_height), (5, .int (-1 : Int32)), (4, .int (0 : Int32)), (0, .ref a_B), (1, .ref a_p1), (2, .int p2), (3, .int p3)]) (pc := 13) hx hb dX6_ofPage_13 hl (by decide) rfl (fun ls hl => ?_)
  refine lv_iconst (v := (0 : Int32)) (pc := 15) hx hb dX6_ofPage_15 (by decide) ?_
  refine lv_istore (lv' := [(8, .int (0 : Int32)), (7, .int (0 : Int32)), (6, .int B_height), (5, .int (-1 : Int32)), (4, .int (0 : Int32)), (0, .ref a_B), (1, .ref a_p1), (2, .int p2), (3, .int p3)]) (pc := 16) hx hb dX6_ofPage_16 hl (by decide) rfl (fun ls hl => ?_)
  obtain ⟨j116_5, ej116_5, hf⟩ := o_jnE hf
  have hj116_5 : ∀ (x1 : Int32) (x2 : Int32) (x3 : Int32) (x4 : Int32) (H : Heap) (locs : List Loc) (ls : Array Slot), zw D (zTY cA) s A (zU [[(a_B, .inr (6, [.int B_height, .int B_room, .int B_account, .ref c_B, .ref l_B]))], [(c_B, .inl (cA 0, 5, .inl B_costs))], [(l_B, .inl (cA 4, B_n, .inr (.inr (.inr (.inr (fun i => some (g_B i)))))))], (zLs g_B B_n B_v), [(a_p1, .inl (cA 0, m_p1, .inl p1_f))]]) H locs → lv_has ls 9 [(3, .int p3), (4, .int x1), (5, .int x2), (6, .int x3), (7, .int x4)] → j116_5 x1 x2 x3 x4 = some u → W p l e ({ frames := 0, cells := 0, slots := 0, locals := 0 } : Room) s m args below meth c H locs 0 0 Q9 (F0 m 116 ls []) := by
    intro x1 x2 x3 x4 H locs ls Z hl hf
    rw [ej116_5] at hf
    refine lv_iload_n (pc := 116) hx hb dX6_ofPage_116 rfl (lv_at hl 0 rfl) ?_
    refine lv_if_ne (tgt := 125) (pc := 117) hx hb dX6_ofPage_117 (by decide) (fun c6 => ?_) (fun c6 => ?_)
    · replace hf := o_neg c6 hf
      refine lv_iload_n (pc := 125) hx hb dX6_ofPage_125 rfl (lv_at hl 0 rfl) ?_
      refine lv_iconst (v := (1 : Int32)) (pc := 126) hx hb dX6_ofPage_126 (by decide) ?_
      refine lv_icmp_ne (tgt := 135) (pc := 127) hx hb dX6_ofPage_127 (by decide) (fun c7 => ?_) (fun c7 => ?_)
      · replace hf := o_neg c7 hf
        refine lv_iload_n (pc := 135) hx hb dX6_ofPage_135 rfl (lv_at hl 0 rfl) ?_
        refine lv_iconst (v := (2 : Int32)) (pc := 136) hx hb dX6_ofPage_136 (by decide) ?_
        refine lv_icmp_ne (tgt := 145) (pc := 137) hx hb dX6_ofPage_137 (by decide) (fun c8 => ?_) (fun c8 => ?_)
        · replace hf := o_neg c8 hf
          refine lv_iload (pc := 145) hx hb dX6_ofPage_145 (lv_at hl 4 rfl) ?_
          have hu9 := Option.some.inj hf
          subst hu9
          rw [hQ9]
          exact zg_iret (pc := 147) (L' := [[(a_B, .inr (6, [.int B_height, .int B_room, .int B_account, .ref c_B, .ref l_B]))], [(c_B, .inl (cA 0, 5, .inl B_costs))], [(l_B, .inl (cA 4, B_n, .inr (.inr (.inr (.inr (fun i => some (g_B i)))))))], (zLs g_B B_n B_v), [(a_p1, .inl (cA 0, m_p1, .inl p1_f))]]) (fun _ => 0) (by show 0 ≤ 0; omega) (by show 0 ≤ 0; omega) hx hb hr hlocks Z [0, 1, 2, 3, 4] rfl (by decide) rfl rfl dX6_ofPage_147
        · replace hf := o_pos c8 hf
          refine lv_iload (pc := 140) hx hb dX6_ofPage_140 (lv_at hl 3 rfl) ?_
          refine lv_goto (tgt := 147) (pc := 142) hx hb dX6_ofPage_142 (by decide) ?_
          have hu9 := Option.some.inj hf
          subst hu9
          rw [hQ9]
          exact zg_iret (pc := 147) (L' := [[(a_B, .inr (6, [.int B_height, .int B_room, .int B_account, .ref c_B, .ref l_B]))], [(c_B, .inl (cA 0, 5, .inl B_costs))], [(l_B, .inl (cA 4, B_n, .inr (.inr (.inr (.inr (fun i => some (g_B i)))))))], (zLs g_B B_n B_v), [(a_p1, .inl (cA 0, m_p1, .inl p1_f))]]) (fun _ => 0) (by show 0 ≤ 0; omega) (by show 0 ≤ 0; omega) hx hb hr hlocks Z [0, 1, 2, 3, 4] rfl (by decide) rfl rfl dX6_ofPage_147
      · replace hf := o_pos c7 hf
        refine lv_iload (pc := 130) hx hb dX6_ofPage_130 (lv_at hl 2 rfl) ?_
        refine lv_goto (tgt := 147) (pc := 132) hx hb dX6_ofPage_132 (by decide) ?_
        have hu9 := Option.some.inj hf
        subst hu9
        rw [hQ9]
        exact zg_iret (pc := 147) (L' := [[(a_B, .inr (6, [.int B_height, .int B_room, .int B_account, .ref c_B, .ref l_B]))], [(c_B, .inl (cA 0, 5, .inl B_costs))], [(l_B, .inl (cA 4, B_n, .inr (.inr (.inr (.inr (fun i => some (g_B i)))))))], (zLs g_B B_n B_v), [(a_p1, .inl (cA 0, m_p1, .inl p1_f))]]) (fun _ => 0) (by show 0 ≤ 0; omega) (by show 0 ≤ 0; omega) hx hb hr hlocks Z [0, 1, 2, 3, 4] rfl (by decide) rfl rfl dX6_ofPage_147
    · replace hf := o_pos c6 hf
      refine lv_iload (pc := 120) hx hb dX6_ofPage_120 (lv_at hl 1 rfl) ?_
      refine lv_goto (tgt := 147) (pc := 122) hx hb dX6_ofPage_122 (by decide) ?_
      have hu9 := Option.some.inj hf
      subst hu9
      rw [hQ9]
      exact zg_iret (pc := 147) (L' := [[(a_B, .inr (6, [.int B_height, .int B_room, .int B_account, .ref c_B, .ref l_B]))], [(c_B, .inl (cA 0, 5, .inl B_costs))], [(l_B, .inl (cA 4, B_n, .inr (.inr (.inr (.inr (fun i => some (g_B i)))))))], (zLs g_B B_n B_v), [(a_p1, .inl (cA 0, m_p1, .inl p1_f))]]) (fun _ => 0) (by show 0 ≤ 0; omega) (by show 0 ≤ 0; omega) hx hb hr hlocks Z [0, 1, 2, 3, 4] rfl (by decide) rfl rfl dX6_ofPage_147
  have hL18 : ∀ (n0 : Nat) (x9 : Int32) (x10 : Int32) (x11 : Int32) (x12 : Int32) (x13 : Int32) (H : Heap) (locs : List Loc) (ls : Array Slot), zw D (zTY cA) s A (zU [[(a_B, .inr (6, [.int B_height, .int B_room, .int B_account, .ref c_B, .ref l_B]))], [(c_B, .inl (cA 0, 5, .inl B_costs))], [(l_B, .inl (cA 4, B_n, .inr (.inr (.inr (.inr (fun i => some (g_B i)))))))], (zLs g_B B_n B_v), [(a_p1, .inl (cA 0, m_p1, .inl p1_f))]]) H locs → lv_has ls 9 [(0, .ref a_B), (1, .ref a_p1), (2, .int p2), (3, .int p3), (4, .int x9), (5, .int x10), (6, .int x11), (7, .int x12), (8, .int x13)] → fX6_ofPage_L18 B_n j116_5 m_p1 p1_f B_height p2 B_v n0 x9 x10 x11 x12 x13 = some u → W p l e ({ frames := 0, cells := 0, slots := 0, locals := 0 } : Room) s m args below meth c H locs 0 0 Q9 (F0 m 18 ls []) := by
    intro n0
    induction n0 with
    | zero => intro x9 x10 x11 x12 x13 H locs ls Z hl hf; exact o_no hf
    | succ n0 ih0 =>
      intro x9 x10 x11 x12 x13 H locs ls Z hl hf
      refine lv_iload (pc := 18) hx hb dX6_ofPage_18 (lv_at hl 8 rfl) ?_
      refine lv_aload_n (pc := 20) hx hb dX6_ofPage_20 rfl (lv_at hl 0 rfl) ?_
      refine zu_get (ref := "LotSheetLaw$Bill") (ci := 6) (C := RX6) (T := TX6) (N := 5) (pc := 21) hx hb hts iw_X6_ofPage_X6 hown Z 0 rfl rfl 4 (by decide) (List.mem_of_getElem? (i := 2) rfl) rfl rfl dX6_ofPage_21 ?_
      refine zu_alen (v := (Int32.ofNat B_n)) (pc := 24) hx hb Z 2 4 rfl rfl rfl dX6_ofPage_24 ?_
      refine lv_icmp_ge (tgt := 116) (pc := 25) hx hb dX6_ofPage_25 (by decide) (fun c14 => ?_) (fun c14 => ?_)
      · replace hf := o_pos c14 hf
        exact hj116_5 x9 x10 x11 x12 H locs ls Z (lv_sub hl [3, 4, 5, 6, 7] rfl) hf
      · replace hf := o_neg c14 hf
        refine lv_aload_n (pc := 28) hx hb dX6_ofPage_28 rfl (lv_at hl 1 rfl) ?_
        refine lv_iload (pc := 29) hx hb dX6_ofPage_29 (lv_at hl 8 rfl) ?_
        obtain ⟨i15, hf⟩ := o_rdE hf
        refine zu_iald (pc := 31) hx hb Z 4 0 rfl rfl i15 dX6_ofPage_31 ?_
        refine lv_if_lt (tgt := 110) (pc := 32) hx hb dX6_ofPage_32 (by decide) (fun c16 => ?_) (fun c16 => ?_)
        · replace hf := o_pos c16 hf
          obtain ⟨x17, ex17⟩ : ∃ y : Int32, y = (x13 + (1 : Int32)) := ⟨_, rfl⟩
          replace hf := o_letE ex17 hf
          refine lv_iinc (v := x17) (lv' := [(8, .int x17), (0, .ref a_B), (1, .ref a_p1), (2, .int p2), (3, .int p3), (4, .int x9), (5, .int x10), (6, .int x11), (7, .int x12)]) (pc := 110) hx hb dX6_ofPage_110 hl (k := 8) rfl (by rw [ex17]; rfl) (by decide) rfl (fun ls hl => ?_)
          refine lv_goto (tgt := 18) (pc := 113) hx hb dX6_ofPage_113 (by decide) ?_
          exact ih0 x9 x10 x11 x12 x17 H locs ls Z (lv_sub hl [1, 2, 3, 4, 5, 6, 7, 8, 0] rfl) hf
        · replace hf := o_neg c16 hf
          refine lv_aload_n (pc := 35) hx hb dX6_ofPage_35 rfl (lv_at hl 1 rfl) ?_
          refine lv_iload (pc := 36) hx hb dX6_ofPage_36 (lv_at hl 8 rfl) ?_
          obtain ⟨i18, hf⟩ := o_rdE hf
          refine zu_iald (pc := 38) hx hb Z 4 0 rfl rfl i18 dX6_ofPage_38 ?_
          refine lv_aload_n (pc := 39) hx hb dX6_ofPage_39 rfl (lv_at hl 0 rfl) ?_
          refine zu_get (ref := "LotSheetLaw$Bill") (ci := 6) (C := RX6) (T := TX6) (N := 5) (pc := 40) hx hb hts iw_X6_ofPage_X6 hown Z 0 rfl rfl 0 (by decide) (List.mem_of_getElem? (i := 1) rfl) rfl rfl dX6_ofPage_40 ?_
          obtain ⟨nz19, hf⟩ := o_asE hf
          refine lv_idiv (pc := 43) hx hb dX6_ofPage_43 nz19 ?_
          refine lv_iload_n (pc := 44) hx hb dX6_ofPage_44 rfl (lv_at hl 2 rfl) ?_
          refine lv_icmp_eq (tgt := 51) (pc := 45) hx hb dX6_ofPage_45 (by decide) (fun c20 => ?_) (fun c20 => ?_)
          · replace hf := o_pos c20 hf
            refine lv_iload (pc := 51) hx hb dX6_ofPage_51 (lv_at hl 5 rfl) ?_
            obtain ⟨j60_23, ej60_23, hf⟩ := o_jnE hf
            have hj60_23 : ∀ (x22 : Int32) (H : Heap) (locs : List Loc) (ls : Array Slot), zw D (zTY cA) s A (zU [[(a_B, .inr (6, [.int B_height, .int B_room, .int B_account, .ref c_B, .ref l_B]))], [(c_B, .inl (cA 0, 5, .inl B_costs))], [(l_B, .inl (cA 4, B_n, .inr (.inr (.inr (.inr (fun i => some (g_B i)))))))], (zLs g_B B_n B_v), [(a_p1, .inl (cA 0, m_p1, .inl p1_f))]]) H locs → lv_has ls 9 [(0, .ref a_B), (1, .ref a_p1), (2, .int p2), (3, .int p3), (4, .int x9), (5, .int x22), (6, .int x11), (7, .int x12), (8, .int x13)] → j60_23 x22 = some u → W p l e ({ frames := 0, cells := 0, slots := 0, locals := 0 } : Room) s m args below meth c H locs 0 0 Q9 (F0 m 60 ls []) := by
              intro x22 H locs ls Z hl hf
              rw [ej60_23] at hf
              obtain ⟨x24, ex24⟩ : ∃ y : Int32, y = (x9 + (1 : Int32)) := ⟨_, rfl⟩
              replace hf := o_letE ex24 hf
              refine lv_iinc (v := x24) (lv' := [(4, .int x24), (0, .ref a_B), (1, .ref a_p1), (2, .int p2), (3, .int p3), (5, .int x22), (6, .int x11), (7, .int x12), (8, .int x13)]) (pc := 60) hx hb dX6_ofPage_60 hl (k := 4) rfl (by rw [ex24]; rfl) (by decide) rfl (fun ls hl => ?_)
              refine lv_iload (pc := 63) hx hb dX6_ofPage_63 (lv_at hl 6 rfl) ?_
              refine lv_aload_n (pc := 65) hx hb dX6_ofPage_65 rfl (lv_at hl 1 rfl) ?_
              refine zu_get (ref := "LotSheetLaw$Bill") (ci := 6) (C := RX6) (T := TX6) (N := 5) (pc := 66) hx hb hts iw_X6_ofPage_X6 hown Z 0 rfl rfl 4 (by decide) (List.mem_of_getElem? (i := 2) rfl) rfl rfl dX6_ofPage_66 ?_
              refine lv_iload (pc := 69) hx hb dX6_ofPage_69 (lv_at hl 8 rfl) ?_
              obtain ⟨i25, hf⟩ := o_rdE hf
              refine zu_aald (b := g_B x13.toNatClampNeg) (pc := 71) hx hb Z 2 4 rfl rfl rfl i25 rfl dX6_ofPage_71 ?_
              refine zu_getL (ref := "LotSheetLaw$Lot") (pc := 72) hx hb hts iw_X6_ofPage_X7 hown Z 3 rfl (Nat.not_le.mp fun q => i25 (Or.inr q)) rfl 0 (by decide) (List.mem_of_getElem? (i := 3) rfl) rfl rfl dX6_ofPage_72 ?_
              refine lv_isub (pc := 75) hx hb dX6_ofPage_75 ?_
              refine lv_topi (fun x26 ex26 => ?_)
              replace hf := o_letE ex26 hf
              refine lv_istore (lv' := [(6, .int x26), (4, .int x24), (0, .ref a_B), (1, .ref a_p1), (2, .int p2), (3, .int p3), (5, .int x22), (7, .int x12), (8, .int x13)]) (pc := 76) hx hb dX6_ofPage_76 hl (by decide) rfl (fun ls hl => ?_)
              refine lv_iload (pc := 78) hx hb dX6_ofPage_78 (lv_at hl 7 rfl) ?_
              refine lv_aload_n (pc := 80) hx hb dX6_ofPage_80 rfl (lv_at hl 2 rfl) ?_
              refine zu_get (ref := "LotSheetLaw$Bill") (ci := 6) (C := RX6) (T := TX6) (N := 5) (pc := 81) hx hb hts iw_X6_ofPage_X6 hown Z 0 rfl rfl 4 (by decide) (List.mem_of_getElem? (i := 2) rfl) rfl rfl dX6_ofPage_81 ?_
              refine lv_iload (pc := 84) hx hb dX6_ofPage_84 (lv_at hl 8 rfl) ?_
              obtain ⟨i27, hf⟩ := o_rdE hf
              refine zu_aald (b := g_B x13.toNatClampNeg) (pc := 86) hx hb Z 2 4 rfl rfl rfl i27 rfl dX6_ofPage_86 ?_
              refine zu_getL (ref := "LotSheetLaw$Lot") (pc := 87) hx hb hts iw_X6_ofPage_X7 hown Z 3 rfl (Nat.not_le.mp fun q => i27 (Or.inr q)) rfl 4 (by decide) (List.mem_of_getElem? (i := 4) rfl) rfl rfl dX6_ofPage_87 ?_
              refine lv_if_eq (tgt := 106) (pc := 90) hx hb dX6_ofPage_90 (by decide) (fun c28 => ?_) (fun c28 => ?_)
              · replace hf := o_pos c28 hf
                refine lv_iconst (v := (0 : Int32)) (pc := 106) hx hb dX6_ofPage_106 (by decide) ?_
                refine lv_iadd (pc := 107) hx hb dX6_ofPage_107 ?_
                refine lv_topi (fun x29 ex29 => ?_)
                replace hf := o_letE ex29 hf
                refine lv_istore (lv' := [(7, .int x29), (6, .int x26), (4, .int x24), (0, .ref a_B), (1, .ref a_p1), (2, .int p2), (3, .int p3), (5, .int x22), (8, .int x13)]) (pc := 108) hx hb dX6_ofPage_108 hl (by decide) rfl (fun ls hl => ?_)
                obtain ⟨x30, ex30⟩ : ∃ y : Int32, y = (x13 + (1 : Int32)) := ⟨_, rfl⟩
                replace hf := o_letE ex30 hf
                refine lv_iinc (v := x30) (lv' := [(8, .int x30), (7, .int x29), (6, .int x26), (4, .int x24), (0, .ref a_B), (1, .ref a_p1), (2, .int p2), (3, .int p3), (5, .int x22)]) (pc := 110) hx hb dX6_ofPage_110 hl (k := 8) rfl (by rw [ex30]; rfl) (by decide) rfl (fun ls hl => ?_)
                refine lv_goto (tgt := 18) (pc := 113) hx hb dX6_ofPage_113 (by decide) ?_
                exact ih0 x24 x22 x26 x29 x30 H locs ls Z (lv_sub hl [4, 5, 6, 7, 3, 8, 2, 1, 0] rfl) hf
              · replace hf := o_neg c28 hf
                refine lv_aload_n (pc := 93) hx hb dX6_ofPage_93 rfl (lv_at hl 2 rfl) ?_
                refine zu_get (ref := "LotSheetLaw$Bill") (ci := 6) (C := RX6) (T := TX6) (N := 5) (pc := 94) hx hb hts iw_X6_ofPage_X6 hown Z 0 rfl rfl 4 (by decide) (List.mem_of_getElem? (i := 2) rfl) rfl rfl dX6_ofPage_94 ?_
                refine lv_iload (pc := 97) hx hb dX6_ofPage_97 (lv_at hl 8 rfl) ?_
                obtain ⟨i31, hf⟩ := o_rdE hf
                refine zu_aald (b := g_B x13.toNatClampNeg) (pc := 99) hx hb Z 2 4 rfl rfl rfl i31 rfl dX6_ofPage_99 ?_
                refine zu_getL (ref := "LotSheetLaw$Lot") (pc := 100) hx hb hts iw_X6_ofPage_X7 hown Z 3 rfl (Nat.not_le.mp fun q => i31 (Or.inr q)) rfl 1 (by decide) (List.mem_of_getElem? (i := 5) rfl) rfl rfl dX6_ofPage_100 ?_
                refine lv_goto (tgt := 107) (pc := 103) hx hb dX6_ofPage_103 (by decide) ?_
                refine lv_iadd (pc := 107) hx hb dX6_ofPage_107 ?_
                refine lv_topi (fun x32 ex32 => ?_)
                replace hf := o_letE ex32 hf
                refine lv_istore (lv' := [(7, .int x32), (6, .int x26), (4, .int x24), (0, .ref a_B), (1, .ref a_p1), (2, .int p2), (3, .int p3), (5, .int x22), (8, .int x13)]) (pc := 108) hx hb dX6_ofPage_108 hl (by decide) rfl (fun ls hl => ?_)
                obtain ⟨x33, ex33⟩ : ∃ y : Int32, y = (x13 + (1 : Int32)) := ⟨_, rfl⟩
                replace hf := o_letE ex33 hf
                refine lv_iinc (v := x33) (lv' := [(8, .int x33), (7, .int x32), (6, .int x26), (4, .int x24), (0, .ref a_B), (1, .ref a_p1), (2, .int p2), (3, .int p3), (5, .int x22)]) (pc := 110) hx hb dX6_ofPage_110 hl (k := 8) rfl (by rw [ex33]; rfl) (by decide) rfl (fun ls hl => ?_)
                refine lv_goto (tgt := 18) (pc := 113) hx hb dX6_ofPage_113 (by decide) ?_
                exact ih0 x24 x22 x26 x32 x33 H locs ls Z (lv_sub hl [4, 5, 6, 7, 3, 8, 2, 1, 0] rfl) hf
            refine lv_if_ge (tgt := 60) (pc := 53) hx hb dX6_ofPage_53 (by decide) (fun c21 => ?_) (fun c21 => ?_)
            · replace hf := o_pos c21 hf
              exact hj60_23 x10 H locs ls Z (lv_sub hl [0, 1, 2, 3, 4, 5, 6, 7, 8] rfl) hf
            · replace hf := o_neg c21 hf
              refine lv_iload (pc := 56) hx hb dX6_ofPage_56 (lv_at hl 8 rfl) ?_
              refine lv_istore (lv' := [(5, .int x13), (0, .ref a_B), (1, .ref a_p1), (2, .int p2), (3, .int p3), (4, .int x9), (6, .int x11), (7, .int x12), (8, .int x13)]) (pc := 58) hx hb dX6_ofPage_58 hl (by decide) rfl (fun ls hl => ?_)
              exact hj60_23 x13 H locs ls Z (lv_sub hl [1, 2, 3, 4, 5, 0, 6, 7, 8] rfl) hf
          · replace hf := o_neg c20 hf
            refine lv_goto (tgt := 110) (pc := 48) hx hb dX6_ofPage_48 (by decide) ?_
            obtain ⟨x34, ex34⟩ : ∃ y : Int32, y = (x13 + (1 : Int32)) := ⟨_, rfl⟩
            replace hf := o_letE ex34 hf
            refine lv_iinc (v := x34) (lv' := [(8, .int x34), (0, .ref a_B), (1, .ref a_p1), (2, .int p2), (3, .int p3), (4, .int x9), (5, .int x10), (6, .int x11), (7, .int x12)]) (pc := 110) hx hb dX6_ofPage_110 hl (k := 8) rfl (by rw [ex34]; rfl) (by decide) rfl (fun ls hl => ?_)
            refine lv_goto (tgt := 18) (pc := 113) hx hb dX6_ofPage_113 (by decide) ?_
            exact ih0 x9 x10 x11 x12 x34 H locs ls Z (lv_sub hl [1, 2, 3, 4, 5, 6, 7, 8, 0] rfl) hf
  exact hL18 1024 (0 : Int32) (-1 : Int32) B_height (0 : Int32) (0 : Int32) H locs ls Z (lv_sub hl [5, 6, 7, 8, 4, 3, 2, 1, 0] rfl) hf
