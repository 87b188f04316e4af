def fX6_of (p2 : Int32) (p3 : Int32) (B_height : Int32) (B_n : Nat) (B_v : Nat → ZL) (m_p1 : Nat) (p1_f : Nat → Int32) : Option (Int32) := o_rd B_n p2 ((if p3 = 0 then some (((B_v p2.toNatClampNeg).1)) else (if p3 = (1 : Int32) then some (((B_v p2.toNatClampNeg).2.1)) else (if p3 = (2 : Int32) then some (((B_v p2.toNatClampNeg).2.2.1)) else (if p3 = (3 : Int32) then (if ((B_v p2.toNatClampNeg).2.2.2.1) = 0 then some ((0 : Int32)) else some ((1 : Int32))) else (if p3 = (4 : Int32) then (if ((B_v p2.toNatClampNeg).2.2.2.2.1) = 0 then some ((0 : Int32)) else some ((1 : Int32))) else (if p3 = (5 : Int32) then (if ((B_v p2.toNatClampNeg).2.2.2.2.2) = 0 then some ((0 : Int32)) else some ((1 : Int32))) else (if p3 = (6 : Int32) then o_bind (fX6_number p2 m_p1 p1_f) (fun x17 => some (x17)) else o_rd m_p1 p2 ((if 0 ≤ (p1_f p2.toNatClampNeg) then (if p3 = (7 : Int32) then o_rd m_p1 p2 (o_as (¬ B_height = 0) (some (((p1_f p2.toNatClampNeg) / B_height)))) else o_rd m_p1 p2 (o_as (¬ B_height = 0) (o_let ((p1_f p2.toNatClampNeg) - (p1_f p2.toNatClampNeg) / B_height * B_height) (fun x14 => some (x14))))) else some ((-1 : Int32))))))))))))
theorem iw_X6_of_X6 : ∀ w ∈ u_ws RX6 TX6 5, w ∈ wsX6_of := z_inr [14, 15, 16, 17, 18] rfl
theorem iw_X6_of_X7 : ∀ w ∈ u_ws RX7 TX7 6, w ∈ wsX6_of := z_inr [19, 20, 21, 22, 23, 24] rfl
set_option maxHeartbeats 8000000 in
set_option maxRecDepth 100000 in
theorem kX6_of (l : Launch) (D : va_G) (cA : Nat → ClassId) (a_B : Nat) (c_B : Nat) (l_B : Nat) (g_B : Nat → Nat) (a_p1 : Nat) (p2 : Int32) (p3 : Int32) (B_height : Int32) (B_room : Int32) (B_account : Int32) (B_costs : Nat → Int32) (B_n : Nat) (B_v : Nat → ZL) (m_p1 : Nat) (p1_f : Nat → Int32) (u : Int32) (hf : fX6_of p2 p3 B_height B_n B_v m_p1 p1_f = some u) : zG zJ l yX6_of wsX6_of ({ frames := 1, cells := 0, slots := 0, locals := 24 } : Room) D (zTY cA) [.ref a_B, .ref a_p1, .int p2, .int p3] (zU [[(a_B, .inr (6, [.int B_height, .int B_room, .int B_account, .ref c_B, .ref l_B]))], [(c_B, .inl (cA 0, 5, .inl B_costs))], [(l_B, .inl (cA 4, B_n, .inr (.inr (.inr (.inr (fun i => some (g_B i)))))))], (zLs g_B B_n B_v), [(a_p1, .inl (cA 0, m_p1, .inl p1_f))]]) (fun v _ => v = some (.int u)) (fun h9 => zU [[(a_B, .inr (6, [.int B_height, .int B_room, .int B_account, .ref c_B, .ref l_B]))], [(c_B, .inl (cA 0, 5, .inl B_costs))], [(l_B, .inl (cA 4, B_n, .inr (.inr (.inr (.inr (fun i => some (g_B i)))))))], (zLs g_B B_n B_v), [(a_p1, .inl (cA 0, m_p1, .inl p1_f))]]) := by
  refine z_startG (cc := cX6_of) (maxL := 5) (ret := (some .int)) (by decide) rfl (Nat.le_of_ble_eq_true rfl) ?_
  intro p e s m args below meth c A hx hb hr hts hown hlocks hml hA hmn hJ Z ls hl
  replace hown : s.vm.findClass RX6 = some m.cls := hown
  replace hl : lv_has ls 5 [(0, .ref a_B), (1, .ref a_p1), (2, .int p2), (3, .int p3)] := hl
  obtain ⟨Q9, hQ9⟩ : ∃ Q9 : State → Prop, Q9 = MQ below (zQG D (zTY cA) A (fun v _ => v = some (.int u)) (fun h9 => zU [[(a_B, .inr (6, [.int B_height, .int B_room, .int B_account, .ref c_B, .ref l_B]))], [(c_B, .inl (cA 0, 5, .inl B_costs))], [(l_B, .inl (cA 4, B_n, .inr (.inr (.inr (.inr (fun i => some (g_B i)))))))], (zLs g_B B_n B_v), [(a_p1, .inl (cA 0, m_p1, .inl p1_f))]])) args s 0 0 A := ⟨_, rfl⟩
  show W p l e ({ frames := 1, cells := 0, slots := 0, locals := 24 } : Room) s m args below meth c s.heap [] 0 0 (MQ below (zQG D (zTY cA) A (fun v _ => v = some (.int u)) (fun h9 => zU [[(a_B, .inr (6, [.int B_height, .int B_room, .int B_account, .ref c_B, .ref l_B]))], [(c_B, .inl (cA 0, 5, .inl B_costs))], [(l_B, .inl (cA 4, B_n, .inr (.inr (.inr (.inr (fun i => some (g_B i)))))))], (zLs g_B B_n B_v), [(a_p1, .inl (cA 0, m_p1, .inl p1_f))]])) args s 0 0 A) (F0 m 0 ls [])
  rw [← hQ9]
  obtain ⟨H, hH⟩ : ∃ H, H = s.heap := ⟨_, rfl⟩
  rw [← hH] at Z ⊢
  clear hH
  obtain ⟨locs, hlc⟩ : ∃ q : List Loc, q = [] := ⟨_, rfl⟩
  rw [← hlc] at Z ⊢
  clear hlc
  refine lv_aload_n (pc := 0) hx hb dX6_of_0 rfl (lv_at hl 0 rfl) ?_
  refine zu_get (ref := "LotSheetLaw$Bill") (ci := 6) (C := RX6) (T := TX6) (N := 5) (pc := 1) hx hb hts iw_X6_of_X6 hown Z 0 rfl rfl 4 (by decide) (List.mem_of_getElem? (i := 1) rfl) rfl rfl dX6_of_1 ?_
  refine lv_iload_n (pc := 4) hx hb dX6_of_4 rfl (lv_at hl 2 rfl) ?_
  obtain ⟨i1, hf⟩ := o_rdE hf
  refine zu_aald (b := g_B p2.toNatClampNeg) (pc := 5) hx hb Z 2 4 rfl rfl rfl i1 rfl dX6_of_5 ?_
  refine lv_astore (lv' := [(4, .ref (g_B p2.toNatClampNeg)), (0, .ref a_B), (1, .ref a_p1), (2, .int p2), (3, .int p3)]) (pc := 6) hx hb dX6_of_6 hl (by decide) rfl (fun ls hl => ?_)
  refine lv_iload_n (pc := 8) hx hb dX6_of_8 rfl (lv_at hl 4 rfl) ?_
  refine lv_if_ne (tgt := 20) (pc := 9) hx hb dX6_of_9 (by decide) (fun c2 => ?_) (fun c2 => ?_)
  · replace hf := o_neg c2 hf
    refine lv_iload_n (pc := 20) hx hb dX6_of_20 rfl (lv_at hl 4 rfl) ?_
    refine lv_iconst (v := (1 : Int32)) (pc := 21) hx hb dX6_of_21 (by decide) ?_
    refine lv_icmp_ne (tgt := 33) (pc := 22) hx hb dX6_of_22 (by decide) (fun c3 => ?_) (fun c3 => ?_)
    · replace hf := o_neg c3 hf
      refine lv_iload_n (pc := 33) hx hb dX6_of_33 rfl (lv_at hl 4 rfl) ?_
      refine lv_iconst (v := (2 : Int32)) (pc := 34) hx hb dX6_of_34 (by decide) ?_
      refine lv_icmp_ne (tgt := 46) (pc := 35) hx hb dX6_of_35 (by decide) (fun c4 => ?_) (fun c4 => ?_)
      · replace hf := o_neg c4 hf
        refine lv_iload_n (pc := 46) hx hb dX6_of_46 rfl (lv_at hl 4 rfl) ?_
        refine lv_iconst (v := (3 : Int32)) (pc := 47) hx hb dX6_of_47 (by decide) ?_
        refine lv_icmp_ne (tgt := 67) (pc := 48) hx hb dX6_of_48 (by decide) (fun c5 => ?_) (fun c5 => ?_)
        · replace hf := o_neg c5 hf
          refine lv_iload_n (pc := 67) hx hb dX6_of_67 rfl (lv_at hl 4 rfl) ?_
          refine lv_iconst (v := (4 : Int32)) (pc := 68) hx hb dX6_of_68 (by decide) ?_
          refine lv_icmp_ne (tgt := 88) (pc := 69) hx hb dX6_of_69 (by decide) (fun c6 => ?_) (fun c6 => ?_)
          · replace hf := o_neg c6 hf
            refine lv_iload_n (pc := 88) hx hb dX6_of_88 rfl (lv_at hl 4 rfl) ?_
            refine lv_iconst (v := (5 : Int32)) (pc := 89) hx hb dX6_of_89 (by decide) ?_
            refine lv_icmp_ne (tgt := 109) (pc := 90) hx hb dX6_of_90 (by decide) (fun c7 => ?_) (fun c7 => ?_)
            · replace hf := o_neg c7 hf
              refine lv_iload_n (pc := 109) hx hb dX6_of_109 rfl (lv_at hl 4 rfl) ?_
              refine lv_bipush (v := (6 : Int32)) (pc := 110) hx hb dX6_of_110 (by decide) ?_
              refine lv_icmp_ne (tgt := 124) (pc := 112) hx hb dX6_of_112 (by decide) (fun c8 => ?_) (fun c8 => ?_)
              · replace hf := o_neg c8 hf
                refine lv_aload_n (pc := 124) hx hb dX6_of_124 rfl (lv_at hl 2 rfl) ?_
                refine lv_iload_n (pc := 125) hx hb dX6_of_125 rfl (lv_at hl 3 rfl) ?_
                obtain ⟨i9, hf⟩ := o_rdE hf
                refine zu_iald (pc := 126) hx hb Z 4 0 rfl rfl i9 dX6_of_126 ?_
                refine lv_if_ge (tgt := 134) (pc := 127) hx hb dX6_of_127 (by decide) (fun c10 => ?_) (fun c10 => ?_)
                · replace hf := o_pos c10 hf
                  refine lv_iload_n (pc := 134) hx hb dX6_of_134 rfl (lv_at hl 4 rfl) ?_
                  refine lv_bipush (v := (7 : Int32)) (pc := 135) hx hb dX6_of_135 (by decide) ?_
                  refine lv_icmp_ne (tgt := 151) (pc := 137) hx hb dX6_of_137 (by decide) (fun c11 => ?_) (fun c11 => ?_)
                  · replace hf := o_neg c11 hf
                    refine lv_aload_n (pc := 151) hx hb dX6_of_151 rfl (lv_at hl 2 rfl) ?_
                    refine lv_iload_n (pc := 152) hx hb dX6_of_152 rfl (lv_at hl 3 rfl) ?_
                    obtain ⟨i12, hf⟩ := o_rdE hf
                    refine zu_iald (pc := 153) hx hb Z 4 0 rfl rfl i12 dX6_of_153 ?_
                    refine lv_aload_n (pc := 154) hx hb dX6_of_154 rfl (lv_at hl 1 rfl) ?_
                    refine zu_get (ref := "LotSheetLaw$Bill") (ci := 6) (C := RX6) (T := TX6) (N := 5) (pc := 155) hx hb hts iw_X6_of_X6 hown Z 0 rfl rfl 0 (by decide) (List.mem_of_getElem? (i := 8) rfl) rfl rfl dX6_of_155 ?_
                    obtain ⟨nz13, hf⟩ := o_asE hf
                    refine lv_irem (pc := 158) hx hb dX6_of_158 nz13 ?_
                    refine lv_topi (fun x14 ex14 => ?_)
                    replace hf := o_letE ex14 hf
                    have hu9 := Option.some.inj hf
                    subst hu9
                    rw [hQ9]
                    exact zg_iret (pc := 159) (L' := [[(a_B, .inr (6, [.int B_height, .int B_room, .int B_account, .ref c_B, .ref l_B]))], [(c_B, .inl (cA 0, 5, .inl B_costs))], [(l_B, .inl (cA 4, B_n, .inr (.inr (.inr (.inr (fun i => some (g_B i)))))))], (zLs g_B B_n B_v), [(a_p1, .inl (cA 0, m_p1, .inl p1_f))]]) (fun _ => 0) (by show 0 ≤ 0; omega) (by show 0 ≤ 0; omega) hx hb hr hlocks Z [0, 1, 2, 3, 4] rfl (by decide) rfl rfl dX6_of_159
                  · replace hf := o_pos c11 hf
                    refine lv_aload_n (pc := 140) hx hb dX6_of_140 rfl (lv_at hl 2 rfl) ?_
                    refine lv_iload_n (pc := 141) hx hb dX6_of_141 rfl (lv_at hl 3 rfl) ?_
                    obtain ⟨i15, hf⟩ := o_rdE hf
                    refine zu_iald (pc := 142) hx hb Z 4 0 rfl rfl i15 dX6_of_142 ?_
                    refine lv_aload_n (pc := 143) hx hb dX6_of_143 rfl (lv_at hl 1 rfl) ?_
                    refine zu_get (ref := "LotSheetLaw$Bill") (ci := 6) (C := RX6) (T := TX6) (N := 5) (pc := 144) hx hb hts iw_X6_of_X6 hown Z 0 rfl rfl 0 (by decide) (List.mem_of_getElem? (i := 8) rfl) rfl rfl dX6_of_144 ?_
                    obtain ⟨nz16, hf⟩ := o_asE hf
                    refine lv_idiv (pc := 147) hx hb dX6_of_147 nz16 ?_
                    refine lv_goto (tgt := 159) (pc := 148) hx hb dX6_of_148 (by decide) ?_
                    cases hf
                    rw [hQ9]
                    exact zg_iret (pc := 159) (L' := [[(a_B, .inr (6, [.int B_height, .int B_room, .int B_account, .ref c_B, .ref l_B]))], [(c_B, .inl (cA 0, 5, .inl B_costs))], [(l_B, .inl (cA 4, B_n, .inr (.inr (.inr (.inr (fun i => some (g_B i)))))))], (zLs g_B B_n B_v), [(a_p1, .inl (cA 0, m_p1, .inl p1_f))]]) (fun _ => 0) (by show 0 ≤ 0; omega) (by show 0 ≤ 0; omega) hx hb hr hlocks Z [0, 1, 2, 3, 4] rfl (by decide) rfl rfl dX6_of_159
                · replace hf := o_neg c10 hf
                  refine lv_iconst (v := (-1 : Int32)) (pc := 130) hx hb dX6_of_130 (by decide) ?_
                  refine lv_goto (tgt := 159) (pc := 131) hx hb dX6_of_131 (by decide) ?_
                  cases hf
                  rw [hQ9]
                  exact zg_iret (pc := 159) (L' := [[(a_B, .inr (6, [.int B_height, .int B_room, .int B_account, .ref c_B, .ref l_B]))], [(c_B, .inl (cA 0, 5, .inl B_costs))], [(l_B, .inl (cA 4, B_n, .inr (.inr (.inr (.inr (fun i => some (g_B i)))))))], (zLs g_B B_n B_v), [(a_p1, .inl (cA 0, m_p1, .inl p1_f))]]) (fun _ => 0) (by show 0 ≤ 0; omega) (by show 0 ≤ 0; omega) hx hb hr hlocks Z [0, 1, 2, 3, 4] rfl (by decide) rfl rfl dX6_of_159
              · replace hf := o_pos c8 hf
                refine lv_aload_n (pc := 115) hx hb dX6_of_115 rfl (lv_at hl 1 rfl) ?_
                refine lv_aload_n (pc := 116) hx hb dX6_of_116 rfl (lv_at hl 2 rfl) ?_
                refine lv_iload_n (pc := 117) hx hb dX6_of_117 rfl (lv_at hl 3 rfl) ?_
                obtain ⟨x17, h18, hf⟩ := o_bindE hf
                refine zg_callVi (pc := 118) (As := [.ref a_p1, .int p2]) (rest := []) (LF := []) (Lc := [[(a_B, .inr (6, [.int B_height, .int B_room, .int B_account, .ref c_B, .ref l_B]))], [(c_B, .inl (cA 0, 5, .inl B_costs))], [(l_B, .inl (cA 4, B_n, .inr (.inr (.inr (.inr (fun i => some (g_B i)))))))], (zLs g_B B_n B_v), [(a_p1, .inl (cA 0, m_p1, .inl p1_f))]]) zJ_pass hJ ⟨hx, hb, hml, hown, hts⟩ (kX6_number l D cA a_B c_B l_B g_B a_p1 p2 B_height B_room B_account B_costs B_n B_v m_p1 p1_f _ h18) (cwV 2 hts gX6_of_X6_number rfl rfl rfl (by decide +kernel) ⟨(Nat.le_of_ble_eq_true rfl), (Nat.le_of_ble_eq_true rfl)⟩) Z hA [0, 1, 2, 3, 4] rfl (by decide) (ci := 6) rfl 0 0 rfl rfl rfl rfl hl.1 rfl (Nat.le_of_ble_eq_true rfl) dX6_of_118 ⟨(by show 0 + 0 ≤ 0; omega), (by show 0 + 0 ≤ 0; omega)⟩ (fun _ H locs Z => ?_)
                replace Z : zw D (zTY cA) s A (zU [[(a_B, .inr (6, [.int B_height, .int B_room, .int B_account, .ref c_B, .ref l_B]))], [(c_B, .inl (cA 0, 5, .inl B_costs))], [(l_B, .inl (cA 4, B_n, .inr (.inr (.inr (.inr (fun i => some (g_B i)))))))], (zLs g_B B_n B_v), [(a_p1, .inl (cA 0, m_p1, .inl p1_f))]]) H locs := Z
                refine lv_goto (tgt := 159) (pc := 121) hx hb dX6_of_121 (by decide) ?_
                have hu9 := Option.some.inj hf
                subst hu9
                rw [hQ9]
                exact zg_iret (pc := 159) (L' := [[(a_B, .inr (6, [.int B_height, .int B_room, .int B_account, .ref c_B, .ref l_B]))], [(c_B, .inl (cA 0, 5, .inl B_costs))], [(l_B, .inl (cA 4, B_n, .inr (.inr (.inr (.inr (fun i => some (g_B i)))))))], (zLs g_B B_n B_v), [(a_p1, .inl (cA 0, m_p1, .inl p1_f))]]) (fun _ => 0) (by show 0 ≤ 0; omega) (by show 0 ≤ 0; omega) hx hb hr hlocks Z [0, 1, 2, 3, 4] rfl (by decide) rfl rfl dX6_of_159
            · replace hf := o_pos c7 hf
              refine lv_aload (pc := 93) hx hb dX6_of_93 (lv_at hl 0 rfl) ?_
              refine zu_getL (ref := "LotSheetLaw$Lot") (pc := 95) hx hb hts iw_X6_of_X7 hown Z 3 rfl (Nat.not_le.mp fun q => i1 (Or.inr q)) rfl 5 (by decide) (List.mem_of_getElem? (i := 7) rfl) rfl rfl dX6_of_95 ?_
              refine lv_if_eq (tgt := 105) (pc := 98) hx hb dX6_of_98 (by decide) (fun c19 => ?_) (fun c19 => ?_)
              · replace hf := o_pos c19 hf
                refine lv_iconst (v := (0 : Int32)) (pc := 105) hx hb dX6_of_105 (by decide) ?_
                refine lv_goto (tgt := 159) (pc := 106) hx hb dX6_of_106 (by decide) ?_
                cases hf
                rw [hQ9]
                exact zg_iret (pc := 159) (L' := [[(a_B, .inr (6, [.int B_height, .int B_room, .int B_account, .ref c_B, .ref l_B]))], [(c_B, .inl (cA 0, 5, .inl B_costs))], [(l_B, .inl (cA 4, B_n, .inr (.inr (.inr (.inr (fun i => some (g_B i)))))))], (zLs g_B B_n B_v), [(a_p1, .inl (cA 0, m_p1, .inl p1_f))]]) (fun _ => 0) (by show 0 ≤ 0; omega) (by show 0 ≤ 0; omega) hx hb hr hlocks Z [0, 1, 2, 3, 4] rfl (by decide) rfl rfl dX6_of_159
              · replace hf := o_neg c19 hf
                refine lv_iconst (v := (1 : Int32)) (pc := 101) hx hb dX6_of_101 (by decide) ?_
                refine lv_goto (tgt := 159) (pc := 102) hx hb dX6_of_102 (by decide) ?_
                cases hf
                rw [hQ9]
                exact zg_iret (pc := 159) (L' := [[(a_B, .inr (6, [.int B_height, .int B_room, .int B_account, .ref c_B, .ref l_B]))], [(c_B, .inl (cA 0, 5, .inl B_costs))], [(l_B, .inl (cA 4, B_n, .inr (.inr (.inr (.inr (fun i => some (g_B i)))))))], (zLs g_B B_n B_v), [(a_p1, .inl (cA 0, m_p1, .inl p1_f))]]) (fun _ => 0) (by show 0 ≤ 0; omega) (by show 0 ≤ 0; omega) hx hb hr hlocks Z [0, 1, 2, 3, 4] rfl (by decide) rfl rfl dX6_of_159
          · replace hf := o_pos c6 hf
            refine lv_aload (pc := 72) hx hb dX6_of_72 (lv_at hl 0 rfl) ?_
            refine zu_getL (ref := "LotSheetLaw$Lot") (pc := 74) hx hb hts iw_X6_of_X7 hown Z 3 rfl (Nat.not_le.mp fun q => i1 (Or.inr q)) rfl 4 (by decide) (List.mem_of_getElem? (i := 6) rfl) rfl rfl dX6_of_74 ?_
            refine lv_if_eq (tgt := 84) (pc := 77) hx hb dX6_of_77 (by decide) (fun c20 => ?_) (fun c20 => ?_)
            · replace hf := o_pos c20 hf
              refine lv_iconst (v := (0 : Int32)) (pc := 84) hx hb dX6_of_84 (by decide) ?_
              refine lv_goto (tgt := 159) (pc := 85) hx hb dX6_of_85 (by decide) ?_
              cases hf
              rw [hQ9]
              exact zg_iret (pc := 159) (L' := [[(a_B, .inr (6, [.int B_height, .int B_room, .int B_account, .ref c_B, .ref l_B]))], [(c_B, .inl (cA 0, 5, .inl B_costs))], [(l_B, .inl (cA 4, B_n, .inr (.inr (.inr (.inr (fun i => some (g_B i)))))))], (zLs g_B B_n B_v), [(a_p1, .inl (cA 0, m_p1, .inl p1_f))]]) (fun _ => 0) (by show 0 ≤ 0; omega) (by show 0 ≤ 0; omega) hx hb hr hlocks Z [0, 1, 2, 3, 4] rfl (by decide) rfl rfl dX6_of_159
            · replace hf := o_neg c20 hf
              refine lv_iconst (v := (1 : Int32)) (pc := 80) hx hb dX6_of_80 (by decide) ?_
              refine lv_goto (tgt := 159) (pc := 81) hx hb dX6_of_81 (by decide) ?_
              cases hf
              rw [hQ9]
              exact zg_iret (pc := 159) (L' := [[(a_B, .inr (6, [.int B_height, .int B_room, .int B_account, .ref c_B, .ref l_B]))], [(c_B, .inl (cA 0, 5, .inl B_costs))], [(l_B, .inl (cA 4, B_n, .inr (.inr (.inr (.inr (fun i => some (g_B i)))))))], (zLs g_B B_n B_v), [(a_p1, .inl (cA 0, m_p1, .inl p1_f))]]) (fun _ => 0) (by show 0 ≤ 0; omega) (by show 0 ≤ 0; omega) hx hb hr hlocks Z [0, 1, 2, 3, 4] rfl (by decide) rfl rfl dX6_of_159
        · replace hf := o_pos c5 hf
          refine lv_aload (pc := 51) hx hb dX6_of_51 (lv_at hl 0 rfl) ?_
          refine zu_getL (ref := "LotSheetLaw$Lot") (pc := 53) hx hb hts iw_X6_of_X7 hown Z 3 rfl (Nat.not_le.mp fun q => i1 (Or.inr q)) rfl 3 (by decide) (List.mem_of_getElem? (i := 5) rfl) rfl rfl dX6_of_53 ?_
          refine lv_if_eq (tgt := 63) (pc := 56) hx hb dX6_of_56 (by decide) (fun c21 => ?_) (fun c21 => ?_)
          · replace hf := o_pos c21 hf
            refine lv_iconst (v := (0 : Int32)) (pc := 63) hx hb dX6_of_63 (by decide) ?_
            refine lv_goto (tgt := 159) (pc := 64) hx hb dX6_of_64 (by decide) ?_
            cases hf
            rw [hQ9]
            exact zg_iret (pc := 159) (L' := [[(a_B, .inr (6, [.int B_height, .int B_room, .int B_account, .ref c_B, .ref l_B]))], [(c_B, .inl (cA 0, 5, .inl B_costs))], [(l_B, .inl (cA 4, B_n, .inr (.inr (.inr (.inr (fun i => some (g_B i)))))))], (zLs g_B B_n B_v), [(a_p1, .inl (cA 0, m_p1, .inl p1_f))]]) (fun _ => 0) (by show 0 ≤ 0; omega) (by show 0 ≤ 0; omega) hx hb hr hlocks Z [0, 1, 2, 3, 4] rfl (by decide) rfl rfl dX6_of_159
          · replace hf := o_neg c21 hf
            refine lv_iconst (v := (1 : Int32)) (pc := 59) hx hb dX6_of_59 (by decide) ?_
            refine lv_goto (tgt := 159) (pc := 60) hx hb dX6_of_60 (by decide) ?_
            cases hf
            rw [hQ9]
            exact zg_iret (pc := 159) (L' := [[(a_B, .inr (6, [.int B_height, .int B_room, .int B_account, .ref c_B, .ref l_B]))], [(c_B, .inl (cA 0, 5, .inl B_costs))], [(l_B, .inl (cA 4, B_n, .inr (.inr (.inr (.inr (fun i => some (g_B i)))))))], (zLs g_B B_n B_v), [(a_p1, .inl (cA 0, m_p1, .inl p1_f))]]) (fun _ => 0) (by show 0 ≤ 0; omega) (by show 0 ≤ 0; omega) hx hb hr hlocks Z [0, 1, 2, 3, 4] rfl (by decide) rfl rfl dX6_of_159
      · replace hf := o_pos c4 hf
        refine lv_aload (pc := 38) hx hb dX6_of_38 (lv_at hl 0 rfl) ?_
        refine zu_getL (ref := "LotSheetLaw$Lot") (pc := 40) hx hb hts iw_X6_of_X7 hown Z 3 rfl (Nat.not_le.mp fun q => i1 (Or.inr q)) rfl 2 (by decide) (List.mem_of_getElem? (i := 4) rfl) rfl rfl dX6_of_40 ?_
        refine lv_goto (tgt := 159) (pc := 43) hx hb dX6_of_43 (by decide) ?_
        cases hf
        rw [hQ9]
        exact zg_iret (pc := 159) (L' := [[(a_B, .inr (6, [.int B_height, .int B_room, .int B_account, .ref c_B, .ref l_B]))], [(c_B, .inl (cA 0, 5, .inl B_costs))], [(l_B, .inl (cA 4, B_n, .inr (.inr (.inr (.inr (fun i => some (g_B i)))))))], (zLs g_B B_n B_v), [(a_p1, .inl (cA 0, m_p1, .inl p1_f))]]) (fun _ => 0) (by show 0 ≤ 0; omega) (by show 0 ≤ 0; omega) hx hb hr hlocks Z [0, 1, 2, 3, 4] rfl (by decide) rfl rfl dX6_of_159
    · replace hf := o_pos c3 hf
      refine lv_aload (pc := 25) hx hb dX6_of_25 (lv_at hl 0 rfl) ?_
      refine zu_getL (ref := "LotSheetLaw$Lot") (pc := 27) hx hb hts iw_X6_of_X7 hown Z 3 rfl (Nat.not_le.mp fun q => i1 (Or.inr q)) rfl 1 (by decide) (List.mem_of_getElem? (i := 3) rfl) rfl rfl dX6_of_27 ?_
      refine lv_goto (tgt := 159) (pc := 30) hx hb dX6_of_30 (by decide) ?_
      cases hf
      rw [hQ9]
      exact zg_iret (pc := 159) (L' := [[(a_B, .inr (6, [.int B_height, .int B_room, .int B_account, .ref c_B, .ref l_B]))], [(c_B, .inl (cA 0, 5, .inl B_costs))], [(l_B, .inl (cA 4, B_n, .inr (.inr (.inr (.inr (fun i => some (g_B i)))))))], (zLs g_B B_n B_v), [(a_p1, .inl (cA 0, m_p1, .inl p1_f))]]) (fun _ => 0) (by show 0 ≤ 0; omega) (by show 0 ≤ 0; omega) hx hb hr hlocks Z [0, 1, 2, 3, 4] rfl (by decide) rfl rfl dX6_of_159
  · replace hf := o_pos c2 hf
    refine lv_aload (pc := 12) hx hb dX6_of_12 (lv_at hl 0 rfl) ?_
    refine zu_getL (ref := "LotSheetLaw$Lot") (pc := 14) hx hb hts iw_X6_of_X7 hown Z 3 rfl (Nat.not_le.mp fun q => i1 (Or.inr q)) rfl 0 (by decide) (List.mem_of_getElem? (i := 2) rfl) rfl rfl dX6_of_14 ?_
    refine lv_goto (tgt := 159) (pc := 17) hx hb dX6_of_17 (by decide) ?_
    cases hf
    rw [hQ9]
    exact zg_iret (pc := 159) (L' := [[(a_B, .inr (6, [.int B_height, .int B_room, .int B_account, .ref c_B, .ref l_B]))], [(c_B, .inl (cA 0, 5, .inl B_costs))], [(l_B, .inl (cA 4, B_n, .inr (.inr (.inr (.inr (fun i => some (g_B i)))))))], (zLs g_B B_n B_v), [(a_p1, .inl (cA 0, m_p1, .inl p1_f))]]) (fun _ => 0) (by show 0 ≤ 0; omega) (by show 0 ≤ 0; omega) hx hb hr hlocks Z [0, 1, 2, 3, 4] rfl (by decide) rfl rfl dX6_of_159
