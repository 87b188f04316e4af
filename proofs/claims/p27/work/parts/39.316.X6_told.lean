def fX6_told_L124 (x4 : Int32) (j151_11 : Int32 → Option (Int32)) (B_height : Int32) (B_n : Nat) (B_v : Nat → ZL) (a1 : Nat → Int32) : Nat → Int32 → Int32 → Option (Int32)
  | 0, _, _ => none
  | n0 + 1, x23, x24 => (if x4 ≤ (x24 + (1 : Int32)) then (j151_11 x23) else o_bind (fX6_ofPage x24 (2 : Int32) B_height B_n B_v B_n a1) (fun x26 => o_let (x23 + x26) (fun x28 => o_let (x24 + (1 : Int32)) (fun x29 => (fX6_told_L124 x4 j151_11 B_height B_n B_v a1 n0 x28 x29)))))
def fX6_told_L29 (x6 : Int32) (j115_8 : Int32 → Option (Int32)) (B_n : Nat) (p1 : Int32) (B_v : Nat → ZL) : Nat → Int32 → Int32 → Option (Int32)
  | 0, _, _ => none
  | n0 + 1, x30, x31 => (if x6 ≤ x31 then (j115_8 x30) else o_rd B_n x31 (o_let (fun (x35 : Int32) => (if p1 = (9 : Int32) then (if ((B_v x31.toNatClampNeg).2.2.2.2.1) = 0 then o_let (x31 + (1 : Int32)) (fun x40 => (fX6_told_L29 x6 j115_8 B_n p1 B_v n0 x35 x40)) else o_let (x35 + ((B_v x31.toNatClampNeg).2.1)) (fun x41 => o_let (x31 + (1 : Int32)) (fun x42 => (fX6_told_L29 x6 j115_8 B_n p1 B_v n0 x41 x42)))) else o_let (x31 + (1 : Int32)) (fun x38 => (fX6_told_L29 x6 j115_8 B_n p1 B_v n0 x35 x38)))) (fun (j85_36 : Int32 → Option (Int32)) => o_let (o_let ((if p1 = (5 : Int32) then (if ((B_v x31.toNatClampNeg).2.2.2.2.2) = 0 then (j85_36 x30) else o_let (x30 + (1 : Int32)) (fun x48 => (j85_36 x48))) else (j85_36 x30))) (fun (j69_45 : Option (Int32)) => (if p1 = (3 : Int32) then (if ((B_v x31.toNatClampNeg).2.2.2.2.1) = 0 then j69_45 else o_let (x30 + (1 : Int32)) (fun x50 => (j85_36 x50))) else j69_45))) (fun (j56_43 : Option (Int32)) => (if p1 = (2 : Int32) then (if ((B_v x31.toNatClampNeg).2.2.2.1) = 0 then j56_43 else o_let (x30 + (1 : Int32)) (fun x52 => (j85_36 x52))) else j56_43)))))
def fX6_told (p1 : Int32) (B_height : Int32) (B_room : Int32) (B_account : Int32) (B_n : Nat) (B_v : Nat → ZL) : Option (Int32) := o_bind (fX6_places (0 : Int32) B_height B_n B_v) (fun a1 => o_bind (fX6_pages B_height B_n a1) (fun x4 => o_let (Int32.ofNat B_n) (fun x6 => o_let (fun (x7 : Int32) => o_let (fun (x10 : Int32) => (if p1 = 0 then some (B_height) else (if p1 = (1 : Int32) then some ((Int32.ofNat B_n)) else (if p1 = (4 : Int32) then o_bind (fX6_different B_n B_v) (fun x21 => some (x21)) else (if p1 = (6 : Int32) then some (x4) else (if p1 = (7 : Int32) then o_let (x4 - x4 / (4 : Int32) * (4 : Int32)) (fun x19 => (if x19 ≤ 0 then some (((x4 / (4 : Int32)) + (0 : Int32))) else some (((x4 / (4 : Int32)) + (1 : Int32))))) else (if p1 = (8 : Int32) then some (B_account) else (if p1 = (11 : Int32) then some (B_room) else some (x10))))))))) (fun (j151_11 : Int32 → Option (Int32)) => (if p1 = (10 : Int32) then (fX6_told_L124 x4 j151_11 B_height B_n B_v a1 1024 x7 (0 : Int32)) else (j151_11 x7)))) (fun (j115_8 : Int32 → Option (Int32)) => (fX6_told_L29 x6 j115_8 B_n p1 B_v 1024 (0 : Int32) (0 : Int32))))))
theorem iw_X6_told_X6 : ∀ w ∈ u_ws RX6 TX6 5, w ∈ wsX6_told := z_inr [43, 44, 45, 46, 47] rfl
theorem iw_X6_told_X7 : ∀ w ∈ u_ws RX7 TX7 6, w ∈ wsX6_told := z_inr [48, 49, 50, 51, 52, 53] rfl
set_option maxHeartbeats 8000000 in
set_option maxRecDepth 100000 in
theorem kX6_told (l : Launch) (D : va_G) (cA : Nat → ClassId) (a_B : Nat) (c_B : Nat) (l_B : Nat) (g_B : Nat → Nat) (p1 : Int32) (B_height : Int32) (B_room : Int32) (B_account : Int32) (B_costs : Nat → Int32) (B_n : Nat) (B_v : Nat → ZL) (u : Int32) (hf : fX6_told p1 B_height B_room B_account B_n B_v = some u) : zG zJ l yX6_told wsX6_told ({ frames := 3, cells := 1, slots := 16, locals := 69 } : Room) D (zTY cA) [.ref a_B, .int p1] (zU [[(a_B, .inr (6, [.int B_height, .int B_room, .int B_account, .ref c_B, .ref l_B]))], [(c_B, .inl (cA 0, 5, .inl B_costs))], [(l_B, .inl (cA 4, B_n, .inr (.inr (.inr (.inr (fun i => some (g_B i)))))))], (zLs g_B B_n B_v)]) (fun v _ => v = some (.int u)) (fun h9 => zU [[(a_B, .inr (6, [.int B_height, .int B_room, .int B_account, .ref c_B, .ref l_B]))], [(c_B, .inl (cA 0, 5, .inl B_costs))], [(l_B, .inl (cA 4, B_n, .inr (.inr (.inr (.inr (fun i => some (g_B i)))))))], (zLs g_B B_n B_v)]) := by
  refine z_startG (cc := cX6_told) (maxL := 9) (ret := (some .int)) (by decide) rfl (Nat.le_of_ble_eq_true rfl) ?_
  intro p e s m args below meth c A hx hb hr hts hown hlocks hml hA hmn hJ Z ls hl
  replace hown : s.vm.findClass RX6 = some m.cls := hown
  replace hl : lv_has ls 9 [(0, .ref a_B), (1, .int p1)] := hl
  obtain ⟨Q9, hQ9⟩ : ∃ Q9 : State → Prop, Q9 = MQ below (zQG D (zTY cA) A (fun v _ => v = some (.int u)) (fun h9 => zU [[(a_B, .inr (6, [.int B_height, .int B_room, .int B_account, .ref c_B, .ref l_B]))], [(c_B, .inl (cA 0, 5, .inl B_costs))], [(l_B, .inl (cA 4, B_n, .inr (.inr (.inr (.inr (fun i => some (g_B i)))))))], (zLs g_B B_n B_v)])) args s 1 16 A := ⟨_, rfl⟩
  show W p l e ({ frames := 3, cells := 1, slots := 16, locals := 69 } : Room) s m args below meth c s.heap [] 0 0 (MQ below (zQG D (zTY cA) A (fun v _ => v = some (.int u)) (fun h9 => zU [[(a_B, .inr (6, [.int B_height, .int B_room, .int B_account, .ref c_B, .ref l_B]))], [(c_B, .inl (cA 0, 5, .inl B_costs))], [(l_B, .inl (cA 4, B_n, .inr (.inr (.inr (.inr (fun i => some (g_B i)))))))], (zLs g_B B_n B_v)])) args s 1 16 A) (F0 m 0 ls [])
  rw [← hQ9]
  obtain ⟨H, hH⟩ : ∃ H, H = s.heap := ⟨_, rfl⟩
  rw [← hH] at Z ⊢
  clear hH
  obtain ⟨locs, hlc⟩ : ∃ q : List Loc, q = [] := ⟨_, rfl⟩
  rw [← hlc] at Z ⊢
  clear hlc
  refine lv_aload_n (pc := 0) hx hb dX6_told_0 rfl (lv_at hl 0 rfl) ?_
  refine lv_iconst (v := (0 : Int32)) (pc := 1) hx hb dX6_told_1 (by decide) ?_
  obtain ⟨a1, h2, hf⟩ := o_bindE hf
  refine zg_callVr (pc := 2) (As := [.int (0 : Int32)]) (rest := []) (LF := []) (Lc := [[(a_B, .inr (6, [.int B_height, .int B_room, .int B_account, .ref c_B, .ref l_B]))], [(c_B, .inl (cA 0, 5, .inl B_costs))], [(l_B, .inl (cA 4, B_n, .inr (.inr (.inr (.inr (fun i => some (g_B i)))))))], (zLs g_B B_n B_v)]) zJ_pass hJ ⟨hx, hb, hml, hown, hts⟩ (kX6_places l D cA a_B c_B l_B g_B (0 : Int32) B_height B_room B_account B_costs B_n B_v _ h2) (cwV 1 hts gX6_told_X6_places rfl rfl rfl (by decide +kernel) ⟨(Nat.le_of_ble_eq_true rfl), (Nat.le_of_ble_eq_true rfl)⟩) Z hA [0, 1, 2, 3] rfl (by decide) (ci := 6) rfl 0 0 rfl rfl rfl rfl hl.1 rfl (Nat.le_of_ble_eq_true rfl) dX6_told_2 ⟨(by show 0 + 1 ≤ 1; omega), (by show 0 + 16 ≤ 16; omega)⟩ (fun h3 H locs Z => ?_)
  refine W.widen (k := 1) (n := 16) (by show 0 + 1 ≤ _; omega) (by show 0 + 16 ≤ _; omega) ?_
  replace Z : zw D (zTY cA) s A (zU [[(a_B, .inr (6, [.int B_height, .int B_room, .int B_account, .ref c_B, .ref l_B]))], [(c_B, .inl (cA 0, 5, .inl B_costs))], [(l_B, .inl (cA 4, B_n, .inr (.inr (.inr (.inr (fun i => some (g_B i)))))))], (zLs g_B B_n B_v), [((h3 0), .inl (cA 0, B_n, .inl a1))]]) H locs := Z
  refine lv_astore_n (lv' := [(2, .ref (h3 0)), (0, .ref a_B), (1, .int p1)]) (pc := 5) hx hb dX6_told_5 rfl hl (by decide) rfl (fun ls hl => ?_)
  refine lv_aload_n (pc := 6) hx hb dX6_told_6 rfl (lv_at hl 1 rfl) ?_
  refine lv_aload_n (pc := 7) hx hb dX6_told_7 rfl (lv_at hl 0 rfl) ?_
  obtain ⟨x4, h5, hf⟩ := o_bindE hf
  refine zg_callVi (pc := 8) (As := [.ref (h3 0)]) (rest := []) (LF := []) (Lc := [[(a_B, .inr (6, [.int B_height, .int B_room, .int B_account, .ref c_B, .ref l_B]))], [(c_B, .inl (cA 0, 5, .inl B_costs))], [(l_B, .inl (cA 4, B_n, .inr (.inr (.inr (.inr (fun i => some (g_B i)))))))], (zLs g_B B_n B_v), [((h3 0), .inl (cA 0, B_n, .inl a1))]]) zJ_pass hJ ⟨hx, hb, hml, hown, hts⟩ (kX6_pages l D cA a_B c_B l_B g_B (h3 0) B_height B_room B_account B_costs B_n B_v B_n a1 _ h5) (cwV 1 hts gX6_told_X6_pages rfl rfl rfl (by decide +kernel) ⟨(Nat.le_of_ble_eq_true rfl), (Nat.le_of_ble_eq_true rfl)⟩) Z hA [0, 1, 2, 3, 4] rfl (by decide) (ci := 6) rfl 0 0 rfl rfl rfl rfl hl.1 rfl (Nat.le_of_ble_eq_true rfl) dX6_told_8 ⟨(by show 1 + 0 ≤ 1; omega), (by show 16 + 0 ≤ 16; omega)⟩ (fun _ H locs Z => ?_)
  replace Z : zw D (zTY cA) s A (zU [[(a_B, .inr (6, [.int B_height, .int B_room, .int B_account, .ref c_B, .ref l_B]))], [(c_B, .inl (cA 0, 5, .inl B_costs))], [(l_B, .inl (cA 4, B_n, .inr (.inr (.inr (.inr (fun i => some (g_B i)))))))], (zLs g_B B_n B_v), [((h3 0), .inl (cA 0, B_n, .inl a1))]]) H locs := Z
  refine lv_istore_n (lv' := [(3, .int x4), (2, .ref (h3 0)), (0, .ref a_B), (1, .int p1)]) (pc := 11) hx hb dX6_told_11 rfl hl (by decide) rfl (fun ls hl => ?_)
  refine lv_iconst (v := (0 : Int32)) (pc := 12) hx hb dX6_told_12 (by decide) ?_
  refine lv_istore (lv' := [(4, .int (0 : Int32)), (3, .int x4), (2, .ref (h3 0)), (0, .ref a_B), (1, .int p1)]) (pc := 13) hx hb dX6_told_13 hl (by decide) rfl (fun ls hl => ?_)
  refine lv_aload_n (pc := 15) hx hb dX6_told_15 rfl (lv_at hl 3 rfl) ?_
  refine zu_get (ref := "LotSheetLaw$Bill") (ci := 6) (C := RX6) (T := TX6) (N := 5) (pc := 16) hx hb hts iw_X6_told_X6 hown Z 0 rfl rfl 4 (by decide) (List.mem_of_getElem? (i := 1) rfl) rfl rfl dX6_told_16 ?_
  refine lv_astore (lv' := [(5, .ref l_B), (4, .int (0 : Int32)), (3, .int x4), (2, .ref (h3 0)), (0, .ref a_B), (1, .int p1)]) (pc := 19) hx hb dX6_told_19 hl (by decide) rfl (fun ls hl => ?_)
  refine lv_aload (pc := 21) hx hb dX6_told_21 (lv_at hl 0 rfl) ?_
  refine zu_alen (v := (Int32.ofNat B_n)) (pc := 23) hx hb Z 2 4 rfl rfl rfl dX6_told_23 ?_
  refine lv_topi (fun x6 ex6 => ?_)
  replace hf := o_letE ex6 hf
  refine lv_istore (lv' := [(6, .int x6), (5, .ref l_B), (4, .int (0 : Int32)), (3, .int x4), (2, .ref (h3 0)), (0, .ref a_B), (1, .int p1)]) (pc := 24) hx hb dX6_told_24 hl (by decide) rfl (fun ls hl => ?_)
  refine lv_iconst (v := (0 : Int32)) (pc := 26) hx hb dX6_told_26 (by decide) ?_
  refine lv_istore (lv' := [(7, .int (0 : Int32)), (6, .int x6), (5, .ref l_B), (4, .int (0 : Int32)), (3, .int x4), (2, .ref (h3 0)), (0, .ref a_B), (1, .int p1)]) (pc := 27) hx hb dX6_told_27 hl (by decide) rfl (fun ls hl => ?_)
  obtain ⟨j115_8, ej115_8, hf⟩ := o_jnE hf
  have hj115_8 : ∀ (x7 : Int32) (H : Heap) (locs : List Loc) (ls : Array Slot), zw D (zTY cA) s A (zU [[(a_B, .inr (6, [.int B_height, .int B_room, .int B_account, .ref c_B, .ref l_B]))], [(c_B, .inl (cA 0, 5, .inl B_costs))], [(l_B, .inl (cA 4, B_n, .inr (.inr (.inr (.inr (fun i => some (g_B i)))))))], (zLs g_B B_n B_v), [((h3 0), .inl (cA 0, B_n, .inl a1))]]) H locs → lv_has ls 9 [(0, .ref a_B), (1, .int p1), (2, .ref (h3 0)), (3, .int x4), (4, .int x7)] → j115_8 x7 = some u → W p l e ({ frames := 3, cells := 1, slots := 16, locals := 69 } : Room) s m args below meth c H locs 1 16 Q9 (F0 m 115 ls []) := by
    intro x7 H locs ls Z hl hf
    rw [ej115_8] at hf
    refine lv_iload_n (pc := 115) hx hb dX6_told_115 rfl (lv_at hl 1 rfl) ?_
    refine lv_bipush (v := (10 : Int32)) (pc := 116) hx hb dX6_told_116 (by decide) ?_
    obtain ⟨j151_11, ej151_11, hf⟩ := o_jnE hf
    have hj151_11 : ∀ (x10 : Int32) (H : Heap) (locs : List Loc) (ls : Array Slot), zw D (zTY cA) s A (zU [[(a_B, .inr (6, [.int B_height, .int B_room, .int B_account, .ref c_B, .ref l_B]))], [(c_B, .inl (cA 0, 5, .inl B_costs))], [(l_B, .inl (cA 4, B_n, .inr (.inr (.inr (.inr (fun i => some (g_B i)))))))], (zLs g_B B_n B_v)]) H locs → lv_has ls 9 [(0, .ref a_B), (1, .int p1), (3, .int x4), (4, .int x10)] → j151_11 x10 = some u → W p l e ({ frames := 3, cells := 1, slots := 16, locals := 69 } : Room) s m args below meth c H locs 1 16 Q9 (F0 m 151 ls []) := by
      intro x10 H locs ls Z hl hf
      rw [ej151_11] at hf
      refine lv_iload_n (pc := 151) hx hb dX6_told_151 rfl (lv_at hl 1 rfl) ?_
      refine lv_if_ne (tgt := 162) (pc := 152) hx hb dX6_told_152 (by decide) (fun c12 => ?_) (fun c12 => ?_)
      · replace hf := o_neg c12 hf
        refine lv_iload_n (pc := 162) hx hb dX6_told_162 rfl (lv_at hl 1 rfl) ?_
        refine lv_iconst (v := (1 : Int32)) (pc := 163) hx hb dX6_told_163 (by decide) ?_
        refine lv_icmp_ne (tgt := 175) (pc := 164) hx hb dX6_told_164 (by decide) (fun c13 => ?_) (fun c13 => ?_)
        · replace hf := o_neg c13 hf
          refine lv_iload_n (pc := 175) hx hb dX6_told_175 rfl (lv_at hl 1 rfl) ?_
          refine lv_iconst (v := (4 : Int32)) (pc := 176) hx hb dX6_told_176 (by decide) ?_
          refine lv_icmp_ne (tgt := 187) (pc := 177) hx hb dX6_told_177 (by decide) (fun c14 => ?_) (fun c14 => ?_)
          · replace hf := o_neg c14 hf
            refine lv_iload_n (pc := 187) hx hb dX6_told_187 rfl (lv_at hl 1 rfl) ?_
            refine lv_bipush (v := (6 : Int32)) (pc := 188) hx hb dX6_told_188 (by decide) ?_
            refine lv_icmp_ne (tgt := 197) (pc := 190) hx hb dX6_told_190 (by decide) (fun c15 => ?_) (fun c15 => ?_)
            · replace hf := o_neg c15 hf
              refine lv_iload_n (pc := 197) hx hb dX6_told_197 rfl (lv_at hl 1 rfl) ?_
              refine lv_bipush (v := (7 : Int32)) (pc := 198) hx hb dX6_told_198 (by decide) ?_
              refine lv_icmp_ne (tgt := 221) (pc := 200) hx hb dX6_told_200 (by decide) (fun c16 => ?_) (fun c16 => ?_)
              · replace hf := o_neg c16 hf
                refine lv_iload_n (pc := 221) hx hb dX6_told_221 rfl (lv_at hl 1 rfl) ?_
                refine lv_bipush (v := (8 : Int32)) (pc := 222) hx hb dX6_told_222 (by decide) ?_
                refine lv_icmp_ne (tgt := 234) (pc := 224) hx hb dX6_told_224 (by decide) (fun c17 => ?_) (fun c17 => ?_)
                · replace hf := o_neg c17 hf
                  refine lv_iload_n (pc := 234) hx hb dX6_told_234 rfl (lv_at hl 1 rfl) ?_
                  refine lv_bipush (v := (11 : Int32)) (pc := 235) hx hb dX6_told_235 (by decide) ?_
                  refine lv_icmp_ne (tgt := 247) (pc := 237) hx hb dX6_told_237 (by decide) (fun c18 => ?_) (fun c18 => ?_)
                  · replace hf := o_neg c18 hf
                    refine lv_iload (pc := 247) hx hb dX6_told_247 (lv_at hl 3 rfl) ?_
                    have hu9 := Option.some.inj hf
                    subst hu9
                    rw [hQ9]
                    exact zg_iret (pc := 249) (L' := [[(a_B, .inr (6, [.int B_height, .int B_room, .int B_account, .ref c_B, .ref l_B]))], [(c_B, .inl (cA 0, 5, .inl B_costs))], [(l_B, .inl (cA 4, B_n, .inr (.inr (.inr (.inr (fun i => some (g_B i)))))))], (zLs g_B B_n B_v)]) (fun _ => 0) (by show 1 ≤ 1; omega) (by show 16 ≤ 16; omega) hx hb hr hlocks Z [0, 1, 2, 3] rfl (by decide) rfl rfl dX6_told_249
                  · replace hf := o_pos c18 hf
                    refine lv_aload_n (pc := 240) hx hb dX6_told_240 rfl (lv_at hl 0 rfl) ?_
                    refine zu_get (ref := "LotSheetLaw$Bill") (ci := 6) (C := RX6) (T := TX6) (N := 5) (pc := 241) hx hb hts iw_X6_told_X6 hown Z 0 rfl rfl 1 (by decide) (List.mem_of_getElem? (i := 8) rfl) rfl rfl dX6_told_241 ?_
                    refine lv_goto (tgt := 249) (pc := 244) hx hb dX6_told_244 (by decide) ?_
                    have hu9 := Option.some.inj hf
                    subst hu9
                    rw [hQ9]
                    exact zg_iret (pc := 249) (L' := [[(a_B, .inr (6, [.int B_height, .int B_room, .int B_account, .ref c_B, .ref l_B]))], [(c_B, .inl (cA 0, 5, .inl B_costs))], [(l_B, .inl (cA 4, B_n, .inr (.inr (.inr (.inr (fun i => some (g_B i)))))))], (zLs g_B B_n B_v)]) (fun _ => 0) (by show 1 ≤ 1; omega) (by show 16 ≤ 16; omega) hx hb hr hlocks Z [0, 1, 2, 3] rfl (by decide) rfl rfl dX6_told_249
                · replace hf := o_pos c17 hf
                  refine lv_aload_n (pc := 227) hx hb dX6_told_227 rfl (lv_at hl 0 rfl) ?_
                  refine zu_get (ref := "LotSheetLaw$Bill") (ci := 6) (C := RX6) (T := TX6) (N := 5) (pc := 228) hx hb hts iw_X6_told_X6 hown Z 0 rfl rfl 2 (by decide) (List.mem_of_getElem? (i := 7) rfl) rfl rfl dX6_told_228 ?_
                  refine lv_goto (tgt := 249) (pc := 231) hx hb dX6_told_231 (by decide) ?_
                  have hu9 := Option.some.inj hf
                  subst hu9
                  rw [hQ9]
                  exact zg_iret (pc := 249) (L' := [[(a_B, .inr (6, [.int B_height, .int B_room, .int B_account, .ref c_B, .ref l_B]))], [(c_B, .inl (cA 0, 5, .inl B_costs))], [(l_B, .inl (cA 4, B_n, .inr (.inr (.inr (.inr (fun i => some (g_B i)))))))], (zLs g_B B_n B_v)]) (fun _ => 0) (by show 1 ≤ 1; omega) (by show 16 ≤ 16; omega) hx hb hr hlocks Z [0, 1, 2, 3] rfl (by decide) rfl rfl dX6_told_249
              · replace hf := o_pos c16 hf
                refine lv_iload_n (pc := 203) hx hb dX6_told_203 rfl (lv_at hl 2 rfl) ?_
                refine lv_iconst (v := (4 : Int32)) (pc := 204) hx hb dX6_told_204 (by decide) ?_
                refine lv_idiv (pc := 205) hx hb dX6_told_205 (by decide) ?_
                refine lv_iload_n (pc := 206) hx hb dX6_told_206 rfl (lv_at hl 2 rfl) ?_
                refine lv_iconst (v := (4 : Int32)) (pc := 207) hx hb dX6_told_207 (by decide) ?_
                refine lv_irem (pc := 208) hx hb dX6_told_208 (by decide) ?_
                refine lv_topi (fun x19 ex19 => ?_)
                replace hf := o_letE ex19 hf
                refine lv_if_le (tgt := 216) (pc := 209) hx hb dX6_told_209 (by decide) (fun c20 => ?_) (fun c20 => ?_)
                · replace hf := o_pos c20 hf
                  refine lv_iconst (v := (0 : Int32)) (pc := 216) hx hb dX6_told_216 (by decide) ?_
                  refine lv_iadd (pc := 217) hx hb dX6_told_217 ?_
                  refine lv_goto (tgt := 249) (pc := 218) hx hb dX6_told_218 (by decide) ?_
                  cases hf
                  rw [hQ9]
                  exact zg_iret (pc := 249) (L' := [[(a_B, .inr (6, [.int B_height, .int B_room, .int B_account, .ref c_B, .ref l_B]))], [(c_B, .inl (cA 0, 5, .inl B_costs))], [(l_B, .inl (cA 4, B_n, .inr (.inr (.inr (.inr (fun i => some (g_B i)))))))], (zLs g_B B_n B_v)]) (fun _ => 0) (by show 1 ≤ 1; omega) (by show 16 ≤ 16; omega) hx hb hr hlocks Z [0, 1, 2, 3] rfl (by decide) rfl rfl dX6_told_249
                · replace hf := o_neg c20 hf
                  refine lv_iconst (v := (1 : Int32)) (pc := 212) hx hb dX6_told_212 (by decide) ?_
                  refine lv_goto (tgt := 217) (pc := 213) hx hb dX6_told_213 (by decide) ?_
                  refine lv_iadd (pc := 217) hx hb dX6_told_217 ?_
                  refine lv_goto (tgt := 249) (pc := 218) hx hb dX6_told_218 (by decide) ?_
                  cases hf
                  rw [hQ9]
                  exact zg_iret (pc := 249) (L' := [[(a_B, .inr (6, [.int B_height, .int B_room, .int B_account, .ref c_B, .ref l_B]))], [(c_B, .inl (cA 0, 5, .inl B_costs))], [(l_B, .inl (cA 4, B_n, .inr (.inr (.inr (.inr (fun i => some (g_B i)))))))], (zLs g_B B_n B_v)]) (fun _ => 0) (by show 1 ≤ 1; omega) (by show 16 ≤ 16; omega) hx hb hr hlocks Z [0, 1, 2, 3] rfl (by decide) rfl rfl dX6_told_249
            · replace hf := o_pos c15 hf
              refine lv_iload_n (pc := 193) hx hb dX6_told_193 rfl (lv_at hl 2 rfl) ?_
              refine lv_goto (tgt := 249) (pc := 194) hx hb dX6_told_194 (by decide) ?_
              have hu9 := Option.some.inj hf
              subst hu9
              rw [hQ9]
              exact zg_iret (pc := 249) (L' := [[(a_B, .inr (6, [.int B_height, .int B_room, .int B_account, .ref c_B, .ref l_B]))], [(c_B, .inl (cA 0, 5, .inl B_costs))], [(l_B, .inl (cA 4, B_n, .inr (.inr (.inr (.inr (fun i => some (g_B i)))))))], (zLs g_B B_n B_v)]) (fun _ => 0) (by show 1 ≤ 1; omega) (by show 16 ≤ 16; omega) hx hb hr hlocks Z [0, 1, 2, 3] rfl (by decide) rfl rfl dX6_told_249
          · replace hf := o_pos c14 hf
            refine lv_aload_n (pc := 180) hx hb dX6_told_180 rfl (lv_at hl 0 rfl) ?_
            obtain ⟨x21, h22, hf⟩ := o_bindE hf
            refine zg_callVi (pc := 181) (As := []) (rest := []) (LF := []) (Lc := [[(a_B, .inr (6, [.int B_height, .int B_room, .int B_account, .ref c_B, .ref l_B]))], [(c_B, .inl (cA 0, 5, .inl B_costs))], [(l_B, .inl (cA 4, B_n, .inr (.inr (.inr (.inr (fun i => some (g_B i)))))))], (zLs g_B B_n B_v)]) zJ_pass hJ ⟨hx, hb, hml, hown, hts⟩ (kX6_different l D cA a_B c_B l_B g_B B_height B_room B_account B_costs B_n B_v _ h22) (cwV 0 hts gX6_told_X6_different rfl rfl rfl (by decide +kernel) ⟨(Nat.le_of_ble_eq_true rfl), (Nat.le_of_ble_eq_true rfl)⟩) Z hA [0, 1, 2, 3] rfl (by decide) (ci := 6) rfl 0 0 rfl rfl rfl rfl hl.1 rfl (Nat.le_of_ble_eq_true rfl) dX6_told_181 ⟨(by show 1 + 0 ≤ 1; omega), (by show 16 + 0 ≤ 16; omega)⟩ (fun _ H locs Z => ?_)
            replace Z : zw D (zTY cA) s A (zU [[(a_B, .inr (6, [.int B_height, .int B_room, .int B_account, .ref c_B, .ref l_B]))], [(c_B, .inl (cA 0, 5, .inl B_costs))], [(l_B, .inl (cA 4, B_n, .inr (.inr (.inr (.inr (fun i => some (g_B i)))))))], (zLs g_B B_n B_v)]) H locs := Z
            refine lv_goto (tgt := 249) (pc := 184) hx hb dX6_told_184 (by decide) ?_
            have hu9 := Option.some.inj hf
            subst hu9
            rw [hQ9]
            exact zg_iret (pc := 249) (L' := [[(a_B, .inr (6, [.int B_height, .int B_room, .int B_account, .ref c_B, .ref l_B]))], [(c_B, .inl (cA 0, 5, .inl B_costs))], [(l_B, .inl (cA 4, B_n, .inr (.inr (.inr (.inr (fun i => some (g_B i)))))))], (zLs g_B B_n B_v)]) (fun _ => 0) (by show 1 ≤ 1; omega) (by show 16 ≤ 16; omega) hx hb hr hlocks Z [0, 1, 2, 3] rfl (by decide) rfl rfl dX6_told_249
        · replace hf := o_pos c13 hf
          refine lv_aload_n (pc := 167) hx hb dX6_told_167 rfl (lv_at hl 0 rfl) ?_
          refine zu_get (ref := "LotSheetLaw$Bill") (ci := 6) (C := RX6) (T := TX6) (N := 5) (pc := 168) hx hb hts iw_X6_told_X6 hown Z 0 rfl rfl 4 (by decide) (List.mem_of_getElem? (i := 1) rfl) rfl rfl dX6_told_168 ?_
          refine zu_alen (v := (Int32.ofNat B_n)) (pc := 171) hx hb Z 2 4 rfl rfl rfl dX6_told_171 ?_
          refine lv_goto (tgt := 249) (pc := 172) hx hb dX6_told_172 (by decide) ?_
          cases hf
          rw [hQ9]
          exact zg_iret (pc := 249) (L' := [[(a_B, .inr (6, [.int B_height, .int B_room, .int B_account, .ref c_B, .ref l_B]))], [(c_B, .inl (cA 0, 5, .inl B_costs))], [(l_B, .inl (cA 4, B_n, .inr (.inr (.inr (.inr (fun i => some (g_B i)))))))], (zLs g_B B_n B_v)]) (fun _ => 0) (by show 1 ≤ 1; omega) (by show 16 ≤ 16; omega) hx hb hr hlocks Z [0, 1, 2, 3] rfl (by decide) rfl rfl dX6_told_249
      · replace hf := o_pos c12 hf
        refine lv_aload_n (pc := 155) hx hb dX6_told_155 rfl (lv_at hl 0 rfl) ?_
        refine zu_get (ref := "LotSheetLaw$Bill") (ci := 6) (C := RX6) (T := TX6) (N := 5) (pc := 156) hx hb hts iw_X6_told_X6 hown Z 0 rfl rfl 0 (by decide) (List.mem_of_getElem? (i := 6) rfl) rfl rfl dX6_told_156 ?_
        refine lv_goto (tgt := 249) (pc := 159) hx hb dX6_told_159 (by decide) ?_
        have hu9 := Option.some.inj hf
        subst hu9
        rw [hQ9]
        exact zg_iret (pc := 249) (L' := [[(a_B, .inr (6, [.int B_height, .int B_room, .int B_account, .ref c_B, .ref l_B]))], [(c_B, .inl (cA 0, 5, .inl B_costs))], [(l_B, .inl (cA 4, B_n, .inr (.inr (.inr (.inr (fun i => some (g_B i)))))))], (zLs g_B B_n B_v)]) (fun _ => 0) (by show 1 ≤ 1; omega) (by show 16 ≤ 16; omega) hx hb hr hlocks Z [0, 1, 2, 3] rfl (by decide) rfl rfl dX6_told_249
    refine lv_icmp_ne (tgt := 151) (pc := 118) hx hb dX6_told_118 (by decide) (fun c9 => ?_) (fun c9 => ?_)
    · replace hf := o_neg c9 hf
      exact hj151_11 x7 H locs ls (zu_sub Z [0, 1, 2, 3] rfl (by decide)) (lv_sub hl [0, 1, 3, 4] rfl) hf
    · replace hf := o_pos c9 hf
      refine lv_iconst (v := (0 : Int32)) (pc := 121) hx hb dX6_told_121 (by decide) ?_
      refine lv_istore (lv' := [(5, .int (0 : Int32)), (0, .ref a_B), (1, .int p1), (2, .ref (h3 0)), (3, .int x4), (4, .int x7)]) (pc := 122) hx hb dX6_told_122 hl (by decide) rfl (fun ls hl => ?_)
      have hL124 : ∀ (n0 : Nat) (x23 : Int32) (x24 : Int32) (H : Heap) (locs : List Loc) (ls : Array Slot), zw D (zTY cA) s A (zU [[(a_B, .inr (6, [.int B_height, .int B_room, .int B_account, .ref c_B, .ref l_B]))], [(c_B, .inl (cA 0, 5, .inl B_costs))], [(l_B, .inl (cA 4, B_n, .inr (.inr (.inr (.inr (fun i => some (g_B i)))))))], (zLs g_B B_n B_v), [((h3 0), .inl (cA 0, B_n, .inl a1))]]) H locs → lv_has ls 9 [(0, .ref a_B), (1, .int p1), (2, .ref (h3 0)), (3, .int x4), (4, .int x23), (5, .int x24)] → fX6_told_L124 x4 j151_11 B_height B_n B_v a1 n0 x23 x24 = some u → W p l e ({ frames := 3, cells := 1, slots := 16, locals := 69 } : Room) s m args below meth c H locs 1 16 Q9 (F0 m 124 ls []) := by
        intro n0
        induction n0 with
        | zero => intro x23 x24 H locs ls Z hl hf; exact o_no hf
        | succ n0 ih0 =>
          intro x23 x24 H locs ls Z hl hf
          refine lv_iload (pc := 124) hx hb dX6_told_124 (lv_at hl 5 rfl) ?_
          refine lv_iconst (v := (1 : Int32)) (pc := 126) hx hb dX6_told_126 (by decide) ?_
          refine lv_iadd (pc := 127) hx hb dX6_told_127 ?_
          refine lv_iload_n (pc := 128) hx hb dX6_told_128 rfl (lv_at hl 3 rfl) ?_
          refine lv_icmp_ge (tgt := 151) (pc := 129) hx hb dX6_told_129 (by decide) (fun c25 => ?_) (fun c25 => ?_)
          · replace hf := o_pos c25 hf
            exact hj151_11 x23 H locs ls (zu_sub Z [0, 1, 2, 3] rfl (by decide)) (lv_sub hl [0, 1, 3, 4] rfl) hf
          · replace hf := o_neg c25 hf
            refine lv_iload (pc := 132) hx hb dX6_told_132 (lv_at hl 4 rfl) ?_
            refine lv_aload_n (pc := 134) hx hb dX6_told_134 rfl (lv_at hl 0 rfl) ?_
            refine lv_aload_n (pc := 135) hx hb dX6_told_135 rfl (lv_at hl 2 rfl) ?_
            refine lv_iload (pc := 136) hx hb dX6_told_136 (lv_at hl 5 rfl) ?_
            refine lv_iconst (v := (2 : Int32)) (pc := 138) hx hb dX6_told_138 (by decide) ?_
            obtain ⟨x26, h27, hf⟩ := o_bindE hf
            refine zg_callVi (pc := 139) (As := [.ref (h3 0), .int x24, .int (2 : Int32)]) (rest := [.int x23]) (LF := []) (Lc := [[(a_B, .inr (6, [.int B_height, .int B_room, .int B_account, .ref c_B, .ref l_B]))], [(c_B, .inl (cA 0, 5, .inl B_costs))], [(l_B, .inl (cA 4, B_n, .inr (.inr (.inr (.inr (fun i => some (g_B i)))))))], (zLs g_B B_n B_v), [((h3 0), .inl (cA 0, B_n, .inl a1))]]) zJ_pass hJ ⟨hx, hb, hml, hown, hts⟩ (kX6_ofPage l D cA a_B c_B l_B g_B (h3 0) x24 (2 : Int32) B_height B_room B_account B_costs B_n B_v B_n a1 _ h27) (cwV 3 hts gX6_told_X6_ofPage rfl rfl rfl (by decide +kernel) ⟨(Nat.le_of_ble_eq_true rfl), (Nat.le_of_ble_eq_true rfl)⟩) Z hA [0, 1, 2, 3, 4] rfl (by decide) (ci := 6) rfl 0 0 rfl rfl rfl rfl hl.1 rfl (Nat.le_of_ble_eq_true rfl) dX6_told_139 ⟨(by show 1 + 0 ≤ 1; omega), (by show 16 + 0 ≤ 16; omega)⟩ (fun _ H locs Z => ?_)
            replace Z : zw D (zTY cA) s A (zU [[(a_B, .inr (6, [.int B_height, .int B_room, .int B_account, .ref c_B, .ref l_B]))], [(c_B, .inl (cA 0, 5, .inl B_costs))], [(l_B, .inl (cA 4, B_n, .inr (.inr (.inr (.inr (fun i => some (g_B i)))))))], (zLs g_B B_n B_v), [((h3 0), .inl (cA 0, B_n, .inl a1))]]) H locs := Z
            refine lv_iadd (pc := 142) hx hb dX6_told_142 ?_
            refine lv_topi (fun x28 ex28 => ?_)
            replace hf := o_letE ex28 hf
            refine lv_istore (lv' := [(4, .int x28), (0, .ref a_B), (1, .int p1), (2, .ref (h3 0)), (3, .int x4), (5, .int x24)]) (pc := 143) hx hb dX6_told_143 hl (by decide) rfl (fun ls hl => ?_)
            obtain ⟨x29, ex29⟩ : ∃ y : Int32, y = (x24 + (1 : Int32)) := ⟨_, rfl⟩
            replace hf := o_letE ex29 hf
            refine lv_iinc (v := x29) (lv' := [(5, .int x29), (4, .int x28), (0, .ref a_B), (1, .int p1), (2, .ref (h3 0)), (3, .int x4)]) (pc := 145) hx hb dX6_told_145 hl (k := 5) rfl (by rw [ex29]; rfl) (by decide) rfl (fun ls hl => ?_)
            refine lv_goto (tgt := 124) (pc := 148) hx hb dX6_told_148 (by decide) ?_
            exact ih0 x28 x29 H locs ls Z (lv_sub hl [2, 3, 4, 5, 1, 0] rfl) hf
      exact hL124 1024 x7 (0 : Int32) H locs ls Z (lv_sub hl [1, 2, 3, 4, 5, 0] rfl) hf
  have hL29 : ∀ (n0 : Nat) (x30 : Int32) (x31 : Int32) (H : Heap) (locs : List Loc) (ls : Array Slot), zw D (zTY cA) s A (zU [[(a_B, .inr (6, [.int B_height, .int B_room, .int B_account, .ref c_B, .ref l_B]))], [(c_B, .inl (cA 0, 5, .inl B_costs))], [(l_B, .inl (cA 4, B_n, .inr (.inr (.inr (.inr (fun i => some (g_B i)))))))], (zLs g_B B_n B_v), [((h3 0), .inl (cA 0, B_n, .inl a1))]]) H locs → lv_has ls 9 [(0, .ref a_B), (1, .int p1), (2, .ref (h3 0)), (3, .int x4), (4, .int x30), (5, .ref l_B), (6, .int x6), (7, .int x31)] → fX6_told_L29 x6 j115_8 B_n p1 B_v n0 x30 x31 = some u → W p l e ({ frames := 3, cells := 1, slots := 16, locals := 69 } : Room) s m args below meth c H locs 1 16 Q9 (F0 m 29 ls []) := by
    intro n0
    induction n0 with
    | zero => intro x30 x31 H locs ls Z hl hf; exact o_no hf
    | succ n0 ih0 =>
      intro x30 x31 H locs ls Z hl hf
      refine lv_iload (pc := 29) hx hb dX6_told_29 (lv_at hl 7 rfl) ?_
      refine lv_iload (pc := 31) hx hb dX6_told_31 (lv_at hl 6 rfl) ?_
      refine lv_icmp_ge (tgt := 115) (pc := 33) hx hb dX6_told_33 (by decide) (fun c32 => ?_) (fun c32 => ?_)
      · replace hf := o_pos c32 hf
        exact hj115_8 x30 H locs ls Z (lv_sub hl [0, 1, 2, 3, 4] rfl) hf
      · replace hf := o_neg c32 hf
        refine lv_aload (pc := 36) hx hb dX6_told_36 (lv_at hl 5 rfl) ?_
        refine lv_iload (pc := 38) hx hb dX6_told_38 (lv_at hl 7 rfl) ?_
        obtain ⟨i33, hf⟩ := o_rdE hf
        refine zu_aald (b := g_B x31.toNatClampNeg) (pc := 40) hx hb Z 2 4 rfl rfl rfl i33 rfl dX6_told_40 ?_
        refine lv_astore (lv' := [(8, .ref (g_B x31.toNatClampNeg)), (0, .ref a_B), (1, .int p1), (2, .ref (h3 0)), (3, .int x4), (4, .int x30), (5, .ref l_B), (6, .int x6), (7, .int x31)]) (pc := 41) hx hb dX6_told_41 hl (by decide) rfl (fun ls hl => ?_)
        refine lv_iload_n (pc := 43) hx hb dX6_told_43 rfl (lv_at hl 2 rfl) ?_
        refine lv_iconst (v := (2 : Int32)) (pc := 44) hx hb dX6_told_44 (by decide) ?_
        obtain ⟨j85_36, ej85_36, hf⟩ := o_jnE hf
        have hj85_36 : ∀ (x35 : Int32) (H : Heap) (locs : List Loc) (ls : Array Slot), zw D (zTY cA) s A (zU [[(a_B, .inr (6, [.int B_height, .int B_room, .int B_account, .ref c_B, .ref l_B]))], [(c_B, .inl (cA 0, 5, .inl B_costs))], [(l_B, .inl (cA 4, B_n, .inr (.inr (.inr (.inr (fun i => some (g_B i)))))))], (zLs g_B B_n B_v), [((h3 0), .inl (cA 0, B_n, .inl a1))]]) H locs → lv_has ls 9 [(0, .ref a_B), (1, .int p1), (2, .ref (h3 0)), (3, .int x4), (4, .int x35), (5, .ref l_B), (6, .int x6), (7, .int x31), (8, .ref (g_B x31.toNatClampNeg))] → j85_36 x35 = some u → W p l e ({ frames := 3, cells := 1, slots := 16, locals := 69 } : Room) s m args below meth c H locs 1 16 Q9 (F0 m 85 ls []) := by
          intro x35 H locs ls Z hl hf
          rw [ej85_36] at hf
          refine lv_iload_n (pc := 85) hx hb dX6_told_85 rfl (lv_at hl 1 rfl) ?_
          refine lv_bipush (v := (9 : Int32)) (pc := 86) hx hb dX6_told_86 (by decide) ?_
          refine lv_icmp_ne (tgt := 109) (pc := 88) hx hb dX6_told_88 (by decide) (fun c37 => ?_) (fun c37 => ?_)
          · replace hf := o_neg c37 hf
            obtain ⟨x38, ex38⟩ : ∃ y : Int32, y = (x31 + (1 : Int32)) := ⟨_, rfl⟩
            replace hf := o_letE ex38 hf
            refine lv_iinc (v := x38) (lv' := [(7, .int x38), (0, .ref a_B), (1, .int p1), (2, .ref (h3 0)), (3, .int x4), (4, .int x35), (5, .ref l_B), (6, .int x6), (8, .ref (g_B x31.toNatClampNeg))]) (pc := 109) hx hb dX6_told_109 hl (k := 7) rfl (by rw [ex38]; rfl) (by decide) rfl (fun ls hl => ?_)
            refine lv_goto (tgt := 29) (pc := 112) hx hb dX6_told_112 (by decide) ?_
            exact ih0 x35 x38 H locs ls Z (lv_sub hl [1, 2, 3, 4, 5, 6, 7, 0] rfl) hf
          · replace hf := o_pos c37 hf
            refine lv_aload (pc := 91) hx hb dX6_told_91 (lv_at hl 8 rfl) ?_
            refine zu_getL (ref := "LotSheetLaw$Lot") (pc := 93) hx hb hts iw_X6_told_X7 hown Z 3 rfl (Nat.not_le.mp fun q => i33 (Or.inr q)) rfl 4 (by decide) (List.mem_of_getElem? (i := 3) rfl) rfl rfl dX6_told_93 ?_
            refine lv_if_eq (tgt := 109) (pc := 96) hx hb dX6_told_96 (by decide) (fun c39 => ?_) (fun c39 => ?_)
            · replace hf := o_pos c39 hf
              obtain ⟨x40, ex40⟩ : ∃ y : Int32, y = (x31 + (1 : Int32)) := ⟨_, rfl⟩
              replace hf := o_letE ex40 hf
              refine lv_iinc (v := x40) (lv' := [(7, .int x40), (0, .ref a_B), (1, .int p1), (2, .ref (h3 0)), (3, .int x4), (4, .int x35), (5, .ref l_B), (6, .int x6), (8, .ref (g_B x31.toNatClampNeg))]) (pc := 109) hx hb dX6_told_109 hl (k := 7) rfl (by rw [ex40]; rfl) (by decide) rfl (fun ls hl => ?_)
              refine lv_goto (tgt := 29) (pc := 112) hx hb dX6_told_112 (by decide) ?_
              exact ih0 x35 x40 H locs ls Z (lv_sub hl [1, 2, 3, 4, 5, 6, 7, 0] rfl) hf
            · replace hf := o_neg c39 hf
              refine lv_iload (pc := 99) hx hb dX6_told_99 (lv_at hl 4 rfl) ?_
              refine lv_aload (pc := 101) hx hb dX6_told_101 (lv_at hl 8 rfl) ?_
              refine zu_getL (ref := "LotSheetLaw$Lot") (pc := 103) hx hb hts iw_X6_told_X7 hown Z 3 rfl (Nat.not_le.mp fun q => i33 (Or.inr q)) rfl 1 (by decide) (List.mem_of_getElem? (i := 5) rfl) rfl rfl dX6_told_103 ?_
              refine lv_iadd (pc := 106) hx hb dX6_told_106 ?_
              refine lv_topi (fun x41 ex41 => ?_)
              replace hf := o_letE ex41 hf
              refine lv_istore (lv' := [(4, .int x41), (0, .ref a_B), (1, .int p1), (2, .ref (h3 0)), (3, .int x4), (5, .ref l_B), (6, .int x6), (7, .int x31), (8, .ref (g_B x31.toNatClampNeg))]) (pc := 107) hx hb dX6_told_107 hl (by decide) rfl (fun ls hl => ?_)
              obtain ⟨x42, ex42⟩ : ∃ y : Int32, y = (x31 + (1 : Int32)) := ⟨_, rfl⟩
              replace hf := o_letE ex42 hf
              refine lv_iinc (v := x42) (lv' := [(7, .int x42), (4, .int x41), (0, .ref a_B), (1, .int p1), (2, .ref (h3 0)), (3, .int x4), (5, .ref l_B), (6, .int x6), (8, .ref (g_B x31.toNatClampNeg))]) (pc := 109) hx hb dX6_told_109 hl (k := 7) rfl (by rw [ex42]; rfl) (by decide) rfl (fun ls hl => ?_)
              refine lv_goto (tgt := 29) (pc := 112) hx hb dX6_told_112 (by decide) ?_
              exact ih0 x41 x42 H locs ls Z (lv_sub hl [2, 3, 4, 5, 1, 6, 7, 0] rfl) hf
        obtain ⟨j56_43, ej56_43, hf⟩ := o_jnE hf
        have hj56_43 : ∀ (H : Heap) (locs : List Loc) (ls : Array Slot), zw D (zTY cA) s A (zU [[(a_B, .inr (6, [.int B_height, .int B_room, .int B_account, .ref c_B, .ref l_B]))], [(c_B, .inl (cA 0, 5, .inl B_costs))], [(l_B, .inl (cA 4, B_n, .inr (.inr (.inr (.inr (fun i => some (g_B i)))))))], (zLs g_B B_n B_v), [((h3 0), .inl (cA 0, B_n, .inl a1))]]) H locs → lv_has ls 9 [(0, .ref a_B), (1, .int p1), (2, .ref (h3 0)), (3, .int x4), (4, .int x30), (5, .ref l_B), (6, .int x6), (7, .int x31), (8, .ref (g_B x31.toNatClampNeg))] → j56_43 = some u → W p l e ({ frames := 3, cells := 1, slots := 16, locals := 69 } : Room) s m args below meth c H locs 1 16 Q9 (F0 m 56 ls []) := by
          intro H locs ls Z hl hf
          rw [ej56_43] at hf
          refine lv_iload_n (pc := 56) hx hb dX6_told_56 rfl (lv_at hl 1 rfl) ?_
          refine lv_iconst (v := (3 : Int32)) (pc := 57) hx hb dX6_told_57 (by decide) ?_
          obtain ⟨j69_45, ej69_45, hf⟩ := o_jnE hf
          have hj69_45 : ∀ (H : Heap) (locs : List Loc) (ls : Array Slot), zw D (zTY cA) s A (zU [[(a_B, .inr (6, [.int B_height, .int B_room, .int B_account, .ref c_B, .ref l_B]))], [(c_B, .inl (cA 0, 5, .inl B_costs))], [(l_B, .inl (cA 4, B_n, .inr (.inr (.inr (.inr (fun i => some (g_B i)))))))], (zLs g_B B_n B_v), [((h3 0), .inl (cA 0, B_n, .inl a1))]]) H locs → lv_has ls 9 [(0, .ref a_B), (1, .int p1), (2, .ref (h3 0)), (3, .int x4), (4, .int x30), (5, .ref l_B), (6, .int x6), (7, .int x31), (8, .ref (g_B x31.toNatClampNeg))] → j69_45 = some u → W p l e ({ frames := 3, cells := 1, slots := 16, locals := 69 } : Room) s m args below meth c H locs 1 16 Q9 (F0 m 69 ls []) := by
            intro H locs ls Z hl hf
            rw [ej69_45] at hf
            refine lv_iload_n (pc := 69) hx hb dX6_told_69 rfl (lv_at hl 1 rfl) ?_
            refine lv_iconst (v := (5 : Int32)) (pc := 70) hx hb dX6_told_70 (by decide) ?_
            refine lv_icmp_ne (tgt := 85) (pc := 71) hx hb dX6_told_71 (by decide) (fun c46 => ?_) (fun c46 => ?_)
            · replace hf := o_neg c46 hf
              exact hj85_36 x30 H locs ls Z (lv_sub hl [0, 1, 2, 3, 4, 5, 6, 7, 8] rfl) hf
            · replace hf := o_pos c46 hf
              refine lv_aload (pc := 74) hx hb dX6_told_74 (lv_at hl 8 rfl) ?_
              refine zu_getL (ref := "LotSheetLaw$Lot") (pc := 76) hx hb hts iw_X6_told_X7 hown Z 3 rfl (Nat.not_le.mp fun q => i33 (Or.inr q)) rfl 5 (by decide) (List.mem_of_getElem? (i := 4) rfl) rfl rfl dX6_told_76 ?_
              refine lv_if_eq (tgt := 85) (pc := 79) hx hb dX6_told_79 (by decide) (fun c47 => ?_) (fun c47 => ?_)
              · replace hf := o_pos c47 hf
                exact hj85_36 x30 H locs ls Z (lv_sub hl [0, 1, 2, 3, 4, 5, 6, 7, 8] rfl) hf
              · replace hf := o_neg c47 hf
                obtain ⟨x48, ex48⟩ : ∃ y : Int32, y = (x30 + (1 : Int32)) := ⟨_, rfl⟩
                replace hf := o_letE ex48 hf
                refine lv_iinc (v := x48) (lv' := [(4, .int x48), (0, .ref a_B), (1, .int p1), (2, .ref (h3 0)), (3, .int x4), (5, .ref l_B), (6, .int x6), (7, .int x31), (8, .ref (g_B x31.toNatClampNeg))]) (pc := 82) hx hb dX6_told_82 hl (k := 4) rfl (by rw [ex48]; rfl) (by decide) rfl (fun ls hl => ?_)
                exact hj85_36 x48 H locs ls Z (lv_sub hl [1, 2, 3, 4, 0, 5, 6, 7, 8] rfl) hf
          refine lv_icmp_ne (tgt := 69) (pc := 58) hx hb dX6_told_58 (by decide) (fun c44 => ?_) (fun c44 => ?_)
          · replace hf := o_neg c44 hf
            exact hj69_45 H locs ls Z (lv_sub hl [0, 1, 2, 3, 4, 5, 6, 7, 8] rfl) hf
          · replace hf := o_pos c44 hf
            refine lv_aload (pc := 61) hx hb dX6_told_61 (lv_at hl 8 rfl) ?_
            refine zu_getL (ref := "LotSheetLaw$Lot") (pc := 63) hx hb hts iw_X6_told_X7 hown Z 3 rfl (Nat.not_le.mp fun q => i33 (Or.inr q)) rfl 4 (by decide) (List.mem_of_getElem? (i := 3) rfl) rfl rfl dX6_told_63 ?_
            refine lv_if_ne (tgt := 82) (pc := 66) hx hb dX6_told_66 (by decide) (fun c49 => ?_) (fun c49 => ?_)
            · replace hf := o_neg c49 hf
              obtain ⟨x50, ex50⟩ : ∃ y : Int32, y = (x30 + (1 : Int32)) := ⟨_, rfl⟩
              replace hf := o_letE ex50 hf
              refine lv_iinc (v := x50) (lv' := [(4, .int x50), (0, .ref a_B), (1, .int p1), (2, .ref (h3 0)), (3, .int x4), (5, .ref l_B), (6, .int x6), (7, .int x31), (8, .ref (g_B x31.toNatClampNeg))]) (pc := 82) hx hb dX6_told_82 hl (k := 4) rfl (by rw [ex50]; rfl) (by decide) rfl (fun ls hl => ?_)
              exact hj85_36 x50 H locs ls Z (lv_sub hl [1, 2, 3, 4, 0, 5, 6, 7, 8] rfl) hf
            · replace hf := o_pos c49 hf
              exact hj69_45 H locs ls Z (lv_sub hl [0, 1, 2, 3, 4, 5, 6, 7, 8] rfl) hf
        refine lv_icmp_ne (tgt := 56) (pc := 45) hx hb dX6_told_45 (by decide) (fun c34 => ?_) (fun c34 => ?_)
        · replace hf := o_neg c34 hf
          exact hj56_43 H locs ls Z (lv_sub hl [1, 2, 3, 4, 5, 6, 7, 8, 0] rfl) hf
        · replace hf := o_pos c34 hf
          refine lv_aload (pc := 48) hx hb dX6_told_48 (lv_at hl 0 rfl) ?_
          refine zu_getL (ref := "LotSheetLaw$Lot") (pc := 50) hx hb hts iw_X6_told_X7 hown Z 3 rfl (Nat.not_le.mp fun q => i33 (Or.inr q)) rfl 3 (by decide) (List.mem_of_getElem? (i := 2) rfl) rfl rfl dX6_told_50 ?_
          refine lv_if_ne (tgt := 82) (pc := 53) hx hb dX6_told_53 (by decide) (fun c51 => ?_) (fun c51 => ?_)
          · replace hf := o_neg c51 hf
            obtain ⟨x52, ex52⟩ : ∃ y : Int32, y = (x30 + (1 : Int32)) := ⟨_, rfl⟩
            replace hf := o_letE ex52 hf
            refine lv_iinc (v := x52) (lv' := [(4, .int x52), (8, .ref (g_B x31.toNatClampNeg)), (0, .ref a_B), (1, .int p1), (2, .ref (h3 0)), (3, .int x4), (5, .ref l_B), (6, .int x6), (7, .int x31)]) (pc := 82) hx hb dX6_told_82 hl (k := 5) rfl (by rw [ex52]; rfl) (by decide) rfl (fun ls hl => ?_)
            exact hj85_36 x52 H locs ls Z (lv_sub hl [2, 3, 4, 5, 0, 6, 7, 8, 1] rfl) hf
          · replace hf := o_pos c51 hf
            exact hj56_43 H locs ls Z (lv_sub hl [1, 2, 3, 4, 5, 6, 7, 8, 0] rfl) hf
  exact hL29 1024 (0 : Int32) (0 : Int32) H locs ls Z (lv_sub hl [6, 7, 5, 4, 3, 2, 1, 0] rfl) hf
