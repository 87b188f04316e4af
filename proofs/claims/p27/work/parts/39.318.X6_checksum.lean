def fX6_checksum_L124 (a12 : Nat → Int32) : Nat → Int64 → Int32 → Option (Int64)
  | 0, _, _ => none
  | n0 + 1, w15, x16 => (if (7 : Int32) ≤ x16 then some (w15) else o_rd 7 x16 (o_let (a12 x16.toNatClampNeg) (fun x19 => o_let (((31 : Int64) * w15) + (x19.toInt64)) (fun w20 => o_let (x16 + (1 : Int32)) (fun x21 => (fX6_checksum_L124 a12 n0 w20 x21))))))
def fX6_checksum_L54 (j84_26 : Int64 → Option (Int64)) (x23 : Int32) (B_height : Int32) (B_n : Nat) (B_v : Nat → ZL) (a1 : Nat → Int32) : Nat → Int64 → Int32 → Option (Int64)
  | 0, _, _ => none
  | n1 + 1, w28, x29 => (if (9 : Int32) ≤ x29 then (j84_26 w28) else o_bind (fX6_of x23 x29 B_height B_n B_v B_n a1) (fun x31 => o_let (((31 : Int64) * w28) + (x31.toInt64)) (fun w33 => o_let (x29 + (1 : Int32)) (fun x34 => (fX6_checksum_L54 j84_26 x23 B_height B_n B_v a1 n1 w33 x34)))))
def fX6_checksum_L41 (B_n : Nat) (j90_8 : Int64 → Option (Int64)) (B_height : Int32) (B_v : Nat → ZL) (a1 : Nat → Int32) : Nat → Int64 → Int32 → Option (Int64)
  | 0, _, _ => none
  | n0 + 1, w22, x23 => (if (Int32.ofNat B_n) ≤ x23 then (j90_8 w22) else o_let (fun (w25 : Int64) => o_let (x23 + (1 : Int32)) (fun x27 => (fX6_checksum_L41 B_n j90_8 B_height B_v a1 n0 w25 x27))) (fun (j84_26 : Int64 → Option (Int64)) => (fX6_checksum_L54 j84_26 x23 B_height B_n B_v a1 1024 w22 (0 : Int32))))
def fX6_checksum_L11 (j38_6 : Int64 → Option (Int64)) (B_height : Int32) (B_room : Int32) (B_account : Int32) (B_n : Nat) (B_v : Nat → ZL) : Nat → Int64 → Int32 → Option (Int64)
  | 0, _, _ => none
  | n0 + 1, w35, x36 => (if (12 : Int32) ≤ x36 then (j38_6 w35) else o_bind (fX6_told x36 B_height B_room B_account B_n B_v) (fun x38 => o_let (((31 : Int64) * w35) + (x38.toInt64)) (fun w40 => o_let (x36 + (1 : Int32)) (fun x41 => (fX6_checksum_L11 j38_6 B_height B_room B_account B_n B_v n0 w40 x41)))))
def fX6_checksum (B_height : Int32) (B_room : Int32) (B_account : Int32) (B_costs : Nat → Int32) (B_n : Nat) (B_v : Nat → ZL) : Option (Int64) := o_bind (fX6_places (0 : Int32) B_height B_n B_v) (fun a1 => o_let (0 : Int64) (fun w4 => o_let (fun (w5 : Int64) => o_let (fun (w7 : Int64) => o_bind (fX6_best (0 : Int32) (-1 : Int32) B_height B_room B_costs B_n B_v) (fun x9 => o_let (((31 : Int64) * w7) + (x9.toInt64)) (fun w11 => o_bind (fX6_choice x9 B_height B_room B_costs B_n B_v) (fun a12 => (fX6_checksum_L124 a12 1024 w11 (0 : Int32)))))) (fun (j90_8 : Int64 → Option (Int64)) => (fX6_checksum_L41 B_n j90_8 B_height B_v a1 1024 w5 (0 : Int32)))) (fun (j38_6 : Int64 → Option (Int64)) => (fX6_checksum_L11 j38_6 B_height B_room B_account B_n B_v 14 w4 (0 : Int32)))))
theorem iw_X6_checksum_X6 : ∀ w ∈ u_ws RX6 TX6 5, w ∈ wsX6_checksum := z_inr [74, 75, 76, 77, 78] rfl
set_option maxHeartbeats 8000000 in
set_option maxRecDepth 100000 in
theorem kX6_checksum (l : Launch) (D : va_G) (cA : Nat → ClassId) (a_B : Nat) (c_B : Nat) (l_B : Nat) (g_B : Nat → Nat) (B_height : Int32) (B_room : Int32) (B_account : Int32) (B_costs : Nat → Int32) (B_n : Nat) (B_v : Nat → ZL) (u : Int64) (hf : fX6_checksum B_height B_room B_account B_costs B_n B_v = some u) : zG zJ l yX6_checksum wsX6_checksum ({ frames := 5, cells := 78, slots := 1059, locals := 126 } : Room) D (zTY cA) [.ref a_B] (zU [[(a_B, .inr (6, [.int B_height, .int B_room, .int B_account, .ref c_B, .ref l_B]))], [(c_B, .inl (cA 0, 5, .inl B_costs))], [(l_B, .inl (cA 4, B_n, .inr (.inr (.inr (.inr (fun i => some (g_B i)))))))], (zLs g_B B_n B_v)]) (fun v _ => v = some (.long u)) (fun h9 => zU [[(a_B, .inr (6, [.int B_height, .int B_room, .int B_account, .ref c_B, .ref l_B]))], [(c_B, .inl (cA 0, 5, .inl B_costs))], [(l_B, .inl (cA 4, B_n, .inr (.inr (.inr (.inr (fun i => some (g_B i)))))))], (zLs g_B B_n B_v)]) := by
  refine z_startG (cc := cX6_checksum) (maxL := 9) (ret := (some .long)) (by decide) rfl (Nat.le_of_ble_eq_true rfl) ?_
  intro p e s m args below meth c A hx hb hr hts hown hlocks hml hA hmn hJ Z ls hl
  replace hown : s.vm.findClass RX6 = some m.cls := hown
  replace hl : lv_has ls 9 [(0, .ref a_B)] := hl
  obtain ⟨Q9, hQ9⟩ : ∃ Q9 : State → Prop, Q9 = MQ below (zQG D (zTY cA) A (fun v _ => v = some (.long u)) (fun h9 => zU [[(a_B, .inr (6, [.int B_height, .int B_room, .int B_account, .ref c_B, .ref l_B]))], [(c_B, .inl (cA 0, 5, .inl B_costs))], [(l_B, .inl (cA 4, B_n, .inr (.inr (.inr (.inr (fun i => some (g_B i)))))))], (zLs g_B B_n B_v)])) args s 78 1059 A := ⟨_, rfl⟩
  show W p l e ({ frames := 5, cells := 78, slots := 1059, locals := 126 } : Room) s m args below meth c s.heap [] 0 0 (MQ below (zQG D (zTY cA) A (fun v _ => v = some (.long u)) (fun h9 => zU [[(a_B, .inr (6, [.int B_height, .int B_room, .int B_account, .ref c_B, .ref l_B]))], [(c_B, .inl (cA 0, 5, .inl B_costs))], [(l_B, .inl (cA 4, B_n, .inr (.inr (.inr (.inr (fun i => some (g_B i)))))))], (zLs g_B B_n B_v)])) args s 78 1059 A) (F0 m 0 ls [])
  rw [← hQ9]
  obtain ⟨H, hH⟩ : ∃ H, H = s.heap := ⟨_, rfl⟩
  rw [← hH] at Z ⊢
  clear hH
  obtain ⟨locs, hlc⟩ : ∃ q : List Loc, q = [] := ⟨_, rfl⟩
  rw [← hlc] at Z ⊢
  clear hlc
  refine lv_aload_n (pc := 0) hx hb dX6_checksum_0 rfl (lv_at hl 0 rfl) ?_
  refine lv_iconst (v := (0 : Int32)) (pc := 1) hx hb dX6_checksum_1 (by decide) ?_
  obtain ⟨a1, h2, hf⟩ := o_bindE hf
  refine zg_callVr (pc := 2) (As := [.int (0 : Int32)]) (rest := []) (LF := []) (Lc := [[(a_B, .inr (6, [.int B_height, .int B_room, .int B_account, .ref c_B, .ref l_B]))], [(c_B, .inl (cA 0, 5, .inl B_costs))], [(l_B, .inl (cA 4, B_n, .inr (.inr (.inr (.inr (fun i => some (g_B i)))))))], (zLs g_B B_n B_v)]) zJ_pass hJ ⟨hx, hb, hml, hown, hts⟩ (kX6_places l D cA a_B c_B l_B g_B (0 : Int32) B_height B_room B_account B_costs B_n B_v _ h2) (cwV 1 hts gX6_checksum_X6_places rfl rfl rfl (by decide +kernel) ⟨(Nat.le_of_ble_eq_true rfl), (Nat.le_of_ble_eq_true rfl)⟩) Z hA [0, 1, 2, 3] rfl (by decide) (ci := 6) rfl 0 0 rfl rfl rfl rfl hl.1 rfl (Nat.le_of_ble_eq_true rfl) dX6_checksum_2 ⟨(by show 0 + 1 ≤ 78; omega), (by show 0 + 16 ≤ 1059; omega)⟩ (fun h3 H locs Z => ?_)
  refine W.widen (k := 1) (n := 16) (by show 0 + 1 ≤ _; omega) (by show 0 + 16 ≤ _; omega) ?_
  replace Z : zw D (zTY cA) s A (zU [[(a_B, .inr (6, [.int B_height, .int B_room, .int B_account, .ref c_B, .ref l_B]))], [(c_B, .inl (cA 0, 5, .inl B_costs))], [(l_B, .inl (cA 4, B_n, .inr (.inr (.inr (.inr (fun i => some (g_B i)))))))], (zLs g_B B_n B_v), [((h3 0), .inl (cA 0, B_n, .inl a1))]]) H locs := Z
  refine lv_astore_n (lv' := [(1, .ref (h3 0)), (0, .ref a_B)]) (pc := 5) hx hb dX6_checksum_5 rfl hl (by decide) rfl (fun ls hl => ?_)
  refine lv_lconst (v := (0 : Int64)) (pc := 6) hx hb dX6_checksum_6 (by decide) ?_
  refine lv_topl (fun w4 ew4 => ?_)
  replace hf := o_letE ew4 hf
  refine lv_lstore_n (lv' := [(2, .long w4), (1, .ref (h3 0)), (0, .ref a_B)]) (pc := 7) hx hb dX6_checksum_7 rfl hl (by decide) rfl (fun ls hl => ?_)
  refine lv_iconst (v := (0 : Int32)) (pc := 8) hx hb dX6_checksum_8 (by decide) ?_
  refine lv_istore (lv' := [(4, .int (0 : Int32)), (2, .long w4), (1, .ref (h3 0)), (0, .ref a_B)]) (pc := 9) hx hb dX6_checksum_9 hl (by decide) rfl (fun ls hl => ?_)
  obtain ⟨j38_6, ej38_6, hf⟩ := o_jnE hf
  have hj38_6 : ∀ (w5 : Int64) (H : Heap) (locs : List Loc) (ls : Array Slot), zw D (zTY cA) s A (zU [[(a_B, .inr (6, [.int B_height, .int B_room, .int B_account, .ref c_B, .ref l_B]))], [(c_B, .inl (cA 0, 5, .inl B_costs))], [(l_B, .inl (cA 4, B_n, .inr (.inr (.inr (.inr (fun i => some (g_B i)))))))], (zLs g_B B_n B_v), [((h3 0), .inl (cA 0, B_n, .inl a1))]]) H locs → lv_has ls 9 [(0, .ref a_B), (1, .ref (h3 0)), (2, .long w5)] → j38_6 w5 = some u → W p l e ({ frames := 5, cells := 78, slots := 1059, locals := 126 } : Room) s m args below meth c H locs 15 240 Q9 (F0 m 38 ls []) := by
    intro w5 H locs ls Z hl hf
    rw [ej38_6] at hf
    refine lv_iconst (v := (0 : Int32)) (pc := 38) hx hb dX6_checksum_38 (by decide) ?_
    refine lv_istore (lv' := [(4, .int (0 : Int32)), (0, .ref a_B), (1, .ref (h3 0)), (2, .long w5)]) (pc := 39) hx hb dX6_checksum_39 hl (by decide) rfl (fun ls hl => ?_)
    obtain ⟨j90_8, ej90_8, hf⟩ := o_jnE hf
    have hj90_8 : ∀ (w7 : Int64) (H : Heap) (locs : List Loc) (ls : Array Slot), zw D (zTY cA) s A (zU [[(a_B, .inr (6, [.int B_height, .int B_room, .int B_account, .ref c_B, .ref l_B]))], [(c_B, .inl (cA 0, 5, .inl B_costs))], [(l_B, .inl (cA 4, B_n, .inr (.inr (.inr (.inr (fun i => some (g_B i)))))))], (zLs g_B B_n B_v)]) H locs → lv_has ls 9 [(0, .ref a_B), (2, .long w7)] → j90_8 w7 = some u → W p l e ({ frames := 5, cells := 78, slots := 1059, locals := 126 } : Room) s m args below meth c H locs 15 240 Q9 (F0 m 90 ls []) := by
      intro w7 H locs ls Z hl hf
      rw [ej90_8] at hf
      refine lv_aload_n (pc := 90) hx hb dX6_checksum_90 rfl (lv_at hl 0 rfl) ?_
      refine lv_iconst (v := (0 : Int32)) (pc := 91) hx hb dX6_checksum_91 (by decide) ?_
      refine lv_iconst (v := (-1 : Int32)) (pc := 92) hx hb dX6_checksum_92 (by decide) ?_
      obtain ⟨x9, h10, hf⟩ := o_bindE hf
      refine zg_callVi (pc := 93) (As := [.int (0 : Int32), .int (-1 : Int32)]) (rest := []) (LF := []) (Lc := [[(a_B, .inr (6, [.int B_height, .int B_room, .int B_account, .ref c_B, .ref l_B]))], [(c_B, .inl (cA 0, 5, .inl B_costs))], [(l_B, .inl (cA 4, B_n, .inr (.inr (.inr (.inr (fun i => some (g_B i)))))))], (zLs g_B B_n B_v)]) zJ_pass hJ ⟨hx, hb, hml, hown, hts⟩ (kX6_best l D cA a_B c_B l_B g_B (0 : Int32) (-1 : Int32) B_height B_room B_account B_costs B_n B_v _ h10) (cwV 2 hts gX6_checksum_X6_best rfl rfl rfl (by decide +kernel) ⟨(Nat.le_of_ble_eq_true rfl), (Nat.le_of_ble_eq_true rfl)⟩) Z hA [0, 1, 2, 3] rfl (by decide) (ci := 6) rfl 0 0 rfl rfl rfl rfl hl.1 rfl (Nat.le_of_ble_eq_true rfl) dX6_checksum_93 ⟨(by show 15 + 60 ≤ 78; omega), (by show 240 + 780 ≤ 1059; omega)⟩ (fun _ H locs Z => ?_)
      refine W.widen (k := 75) (n := 1020) (by show 15 + 60 ≤ _; omega) (by show 240 + 780 ≤ _; omega) ?_
      replace Z : zw D (zTY cA) s A (zU [[(a_B, .inr (6, [.int B_height, .int B_room, .int B_account, .ref c_B, .ref l_B]))], [(c_B, .inl (cA 0, 5, .inl B_costs))], [(l_B, .inl (cA 4, B_n, .inr (.inr (.inr (.inr (fun i => some (g_B i)))))))], (zLs g_B B_n B_v)]) H locs := Z
      refine lv_istore (lv' := [(4, .int x9), (0, .ref a_B), (2, .long w7)]) (pc := 96) hx hb dX6_checksum_96 hl (by decide) rfl (fun ls hl => ?_)
      refine lv_ldc2 (v := (31 : Int64)) (pc := 98) hx hb hown (hts _ (List.mem_of_getElem? (i := 1) rfl)) dX6_checksum_98 ?_
      refine lv_lload_n (pc := 101) hx hb dX6_checksum_101 rfl (lv_at hl 2 rfl) ?_
      refine lv_lmul (pc := 102) hx hb dX6_checksum_102 ?_
      refine lv_iload (pc := 103) hx hb dX6_checksum_103 (lv_at hl 0 rfl) ?_
      refine lv_i2l (pc := 105) hx hb dX6_checksum_105 rfl ?_
      refine lv_ladd (pc := 106) hx hb dX6_checksum_106 ?_
      refine lv_topl (fun w11 ew11 => ?_)
      replace hf := o_letE ew11 hf
      refine lv_lstore_n (lv' := [(2, .long w11), (4, .int x9), (0, .ref a_B)]) (pc := 107) hx hb dX6_checksum_107 rfl hl (by decide) rfl (fun ls hl => ?_)
      refine lv_aload_n (pc := 108) hx hb dX6_checksum_108 rfl (lv_at hl 2 rfl) ?_
      refine lv_iload (pc := 109) hx hb dX6_checksum_109 (lv_at hl 1 rfl) ?_
      obtain ⟨a12, h13, hf⟩ := o_bindE hf
      refine zg_callVr (pc := 111) (As := [.int x9]) (rest := []) (LF := []) (Lc := [[(a_B, .inr (6, [.int B_height, .int B_room, .int B_account, .ref c_B, .ref l_B]))], [(c_B, .inl (cA 0, 5, .inl B_costs))], [(l_B, .inl (cA 4, B_n, .inr (.inr (.inr (.inr (fun i => some (g_B i)))))))], (zLs g_B B_n B_v)]) zJ_pass hJ ⟨hx, hb, hml, hown, hts⟩ (kX6_choice l D cA a_B c_B l_B g_B x9 B_height B_room B_account B_costs B_n B_v _ h13) (cwV 1 hts gX6_checksum_X6_choice rfl rfl rfl (by decide +kernel) ⟨(Nat.le_of_ble_eq_true rfl), (Nat.le_of_ble_eq_true rfl)⟩) Z hA [0, 1, 2, 3] rfl (by decide) (ci := 6) rfl 0 0 rfl rfl rfl rfl hl.1 rfl (Nat.le_of_ble_eq_true rfl) dX6_checksum_111 ⟨(by show 75 + 3 ≤ 78; omega), (by show 1020 + 39 ≤ 1059; omega)⟩ (fun h14 H locs Z => ?_)
      refine W.widen (k := 78) (n := 1059) (by show 75 + 3 ≤ _; omega) (by show 1020 + 39 ≤ _; omega) ?_
      replace Z : zw D (zTY cA) s A (zU [[(a_B, .inr (6, [.int B_height, .int B_room, .int B_account, .ref c_B, .ref l_B]))], [(c_B, .inl (cA 0, 5, .inl B_costs))], [(l_B, .inl (cA 4, B_n, .inr (.inr (.inr (.inr (fun i => some (g_B i)))))))], (zLs g_B B_n B_v), [((h14 0), .inl (cA 0, 7, .inl a12))]]) H locs := Z
      refine lv_astore (lv' := [(5, .ref (h14 0)), (2, .long w11), (4, .int x9), (0, .ref a_B)]) (pc := 114) hx hb dX6_checksum_114 hl (by decide) rfl (fun ls hl => ?_)
      refine lv_aload (pc := 116) hx hb dX6_checksum_116 (lv_at hl 0 rfl) ?_
      refine zu_alen (v := (7 : Int32)) (pc := 118) hx hb Z 4 0 rfl rfl rfl dX6_checksum_118 ?_
      refine lv_istore (lv' := [(6, .int (7 : Int32)), (5, .ref (h14 0)), (2, .long w11), (4, .int x9), (0, .ref a_B)]) (pc := 119) hx hb dX6_checksum_119 hl (by decide) rfl (fun ls hl => ?_)
      refine lv_iconst (v := (0 : Int32)) (pc := 121) hx hb dX6_checksum_121 (by decide) ?_
      refine lv_istore (lv' := [(7, .int (0 : Int32)), (6, .int (7 : Int32)), (5, .ref (h14 0)), (2, .long w11), (4, .int x9), (0, .ref a_B)]) (pc := 122) hx hb dX6_checksum_122 hl (by decide) rfl (fun ls hl => ?_)
      have hL124 : ∀ (n0 : Nat) (w15 : Int64) (x16 : Int32) (H : Heap) (locs : List Loc) (ls : Array Slot), zw D (zTY cA) s A (zU [[(a_B, .inr (6, [.int B_height, .int B_room, .int B_account, .ref c_B, .ref l_B]))], [(c_B, .inl (cA 0, 5, .inl B_costs))], [(l_B, .inl (cA 4, B_n, .inr (.inr (.inr (.inr (fun i => some (g_B i)))))))], (zLs g_B B_n B_v), [((h14 0), .inl (cA 0, 7, .inl a12))]]) H locs → lv_has ls 9 [(2, .long w15), (5, .ref (h14 0)), (6, .int (7 : Int32)), (7, .int x16)] → fX6_checksum_L124 a12 n0 w15 x16 = some u → W p l e ({ frames := 5, cells := 78, slots := 1059, locals := 126 } : Room) s m args below meth c H locs 78 1059 Q9 (F0 m 124 ls []) := by
        intro n0
        induction n0 with
        | zero => intro w15 x16 H locs ls Z hl hf; exact o_no hf
        | succ n0 ih0 =>
          intro w15 x16 H locs ls Z hl hf
          refine lv_iload (pc := 124) hx hb dX6_checksum_124 (lv_at hl 3 rfl) ?_
          refine lv_iload (pc := 126) hx hb dX6_checksum_126 (lv_at hl 2 rfl) ?_
          refine lv_icmp_ge (tgt := 154) (pc := 128) hx hb dX6_checksum_128 (by decide) (fun c17 => ?_) (fun c17 => ?_)
          · replace hf := o_pos c17 hf
            refine lv_lload_n (pc := 154) hx hb dX6_checksum_154 rfl (lv_at hl 0 rfl) ?_
            have hu9 := Option.some.inj hf
            subst hu9
            rw [hQ9]
            exact zg_lret (pc := 155) (L' := [[(a_B, .inr (6, [.int B_height, .int B_room, .int B_account, .ref c_B, .ref l_B]))], [(c_B, .inl (cA 0, 5, .inl B_costs))], [(l_B, .inl (cA 4, B_n, .inr (.inr (.inr (.inr (fun i => some (g_B i)))))))], (zLs g_B B_n B_v)]) (fun _ => 0) (by show 78 ≤ 78; omega) (by show 1059 ≤ 1059; omega) hx hb hr hlocks Z [0, 1, 2, 3] rfl (by decide) rfl rfl dX6_checksum_155
          · replace hf := o_neg c17 hf
            refine lv_aload (pc := 131) hx hb dX6_checksum_131 (lv_at hl 1 rfl) ?_
            refine lv_iload (pc := 133) hx hb dX6_checksum_133 (lv_at hl 3 rfl) ?_
            obtain ⟨i18, hf⟩ := o_rdE hf
            refine zu_iald (pc := 135) hx hb Z 4 0 rfl rfl i18 dX6_checksum_135 ?_
            refine lv_topi (fun x19 ex19 => ?_)
            replace hf := o_letE ex19 hf
            refine lv_istore (lv' := [(8, .int x19), (2, .long w15), (5, .ref (h14 0)), (6, .int (7 : Int32)), (7, .int x16)]) (pc := 136) hx hb dX6_checksum_136 hl (by decide) rfl (fun ls hl => ?_)
            refine lv_ldc2 (v := (31 : Int64)) (pc := 138) hx hb hown (hts _ (List.mem_of_getElem? (i := 1) rfl)) dX6_checksum_138 ?_
            refine lv_lload_n (pc := 141) hx hb dX6_checksum_141 rfl (lv_at hl 1 rfl) ?_
            refine lv_lmul (pc := 142) hx hb dX6_checksum_142 ?_
            refine lv_iload (pc := 143) hx hb dX6_checksum_143 (lv_at hl 0 rfl) ?_
            refine lv_i2l (pc := 145) hx hb dX6_checksum_145 rfl ?_
            refine lv_ladd (pc := 146) hx hb dX6_checksum_146 ?_
            refine lv_topl (fun w20 ew20 => ?_)
            replace hf := o_letE ew20 hf
            refine lv_lstore_n (lv' := [(2, .long w20), (8, .int x19), (5, .ref (h14 0)), (6, .int (7 : Int32)), (7, .int x16)]) (pc := 147) hx hb dX6_checksum_147 rfl hl (by decide) rfl (fun ls hl => ?_)
            obtain ⟨x21, ex21⟩ : ∃ y : Int32, y = (x16 + (1 : Int32)) := ⟨_, rfl⟩
            replace hf := o_letE ex21 hf
            refine lv_iinc (v := x21) (lv' := [(7, .int x21), (2, .long w20), (8, .int x19), (5, .ref (h14 0)), (6, .int (7 : Int32))]) (pc := 148) hx hb dX6_checksum_148 hl (k := 4) rfl (by rw [ex21]; rfl) (by decide) rfl (fun ls hl => ?_)
            refine lv_goto (tgt := 124) (pc := 151) hx hb dX6_checksum_151 (by decide) ?_
            exact ih0 w20 x21 H locs ls Z (lv_sub hl [1, 3, 4, 0] rfl) hf
      exact hL124 1024 w11 (0 : Int32) H locs ls Z (lv_sub hl [3, 2, 1, 0] rfl) hf
    have hL41 : ∀ (n0 : Nat) (w22 : Int64) (x23 : Int32) (H : Heap) (locs : List Loc) (ls : Array Slot), zw D (zTY cA) s A (zU [[(a_B, .inr (6, [.int B_height, .int B_room, .int B_account, .ref c_B, .ref l_B]))], [(c_B, .inl (cA 0, 5, .inl B_costs))], [(l_B, .inl (cA 4, B_n, .inr (.inr (.inr (.inr (fun i => some (g_B i)))))))], (zLs g_B B_n B_v), [((h3 0), .inl (cA 0, B_n, .inl a1))]]) H locs → lv_has ls 9 [(0, .ref a_B), (1, .ref (h3 0)), (2, .long w22), (4, .int x23)] → fX6_checksum_L41 B_n j90_8 B_height B_v a1 n0 w22 x23 = some u → W p l e ({ frames := 5, cells := 78, slots := 1059, locals := 126 } : Room) s m args below meth c H locs 15 240 Q9 (F0 m 41 ls []) := by
      intro n0
      induction n0 with
      | zero => intro w22 x23 H locs ls Z hl hf; exact o_no hf
      | succ n0 ih0 =>
        intro w22 x23 H locs ls Z hl hf
        refine lv_iload (pc := 41) hx hb dX6_checksum_41 (lv_at hl 3 rfl) ?_
        refine lv_aload_n (pc := 43) hx hb dX6_checksum_43 rfl (lv_at hl 0 rfl) ?_
        refine zu_get (ref := "LotSheetLaw$Bill") (ci := 6) (C := RX6) (T := TX6) (N := 5) (pc := 44) hx hb hts iw_X6_checksum_X6 hown Z 0 rfl rfl 4 (by decide) (List.mem_of_getElem? (i := 2) rfl) rfl rfl dX6_checksum_44 ?_
        refine zu_alen (v := (Int32.ofNat B_n)) (pc := 47) hx hb Z 2 4 rfl rfl rfl dX6_checksum_47 ?_
        refine lv_icmp_ge (tgt := 90) (pc := 48) hx hb dX6_checksum_48 (by decide) (fun c24 => ?_) (fun c24 => ?_)
        · replace hf := o_pos c24 hf
          exact hj90_8 w22 H locs ls (zu_sub Z [0, 1, 2, 3] rfl (by decide)) (lv_sub hl [0, 2] rfl) hf
        · replace hf := o_neg c24 hf
          refine lv_iconst (v := (0 : Int32)) (pc := 51) hx hb dX6_checksum_51 (by decide) ?_
          refine lv_istore (lv' := [(5, .int (0 : Int32)), (0, .ref a_B), (1, .ref (h3 0)), (2, .long w22), (4, .int x23)]) (pc := 52) hx hb dX6_checksum_52 hl (by decide) rfl (fun ls hl => ?_)
          obtain ⟨j84_26, ej84_26, hf⟩ := o_jnE hf
          have hj84_26 : ∀ (w25 : Int64) (H : Heap) (locs : List Loc) (ls : Array Slot), zw D (zTY cA) s A (zU [[(a_B, .inr (6, [.int B_height, .int B_room, .int B_account, .ref c_B, .ref l_B]))], [(c_B, .inl (cA 0, 5, .inl B_costs))], [(l_B, .inl (cA 4, B_n, .inr (.inr (.inr (.inr (fun i => some (g_B i)))))))], (zLs g_B B_n B_v), [((h3 0), .inl (cA 0, B_n, .inl a1))]]) H locs → lv_has ls 9 [(0, .ref a_B), (1, .ref (h3 0)), (2, .long w25), (4, .int x23)] → j84_26 w25 = some u → W p l e ({ frames := 5, cells := 78, slots := 1059, locals := 126 } : Room) s m args below meth c H locs 15 240 Q9 (F0 m 84 ls []) := by
            intro w25 H locs ls Z hl hf
            rw [ej84_26] at hf
            obtain ⟨x27, ex27⟩ : ∃ y : Int32, y = (x23 + (1 : Int32)) := ⟨_, rfl⟩
            replace hf := o_letE ex27 hf
            refine lv_iinc (v := x27) (lv' := [(4, .int x27), (0, .ref a_B), (1, .ref (h3 0)), (2, .long w25)]) (pc := 84) hx hb dX6_checksum_84 hl (k := 3) rfl (by rw [ex27]; rfl) (by decide) rfl (fun ls hl => ?_)
            refine lv_goto (tgt := 41) (pc := 87) hx hb dX6_checksum_87 (by decide) ?_
            exact ih0 w25 x27 H locs ls Z (lv_sub hl [1, 2, 3, 0] rfl) hf
          have hL54 : ∀ (n1 : Nat) (w28 : Int64) (x29 : Int32) (H : Heap) (locs : List Loc) (ls : Array Slot), zw D (zTY cA) s A (zU [[(a_B, .inr (6, [.int B_height, .int B_room, .int B_account, .ref c_B, .ref l_B]))], [(c_B, .inl (cA 0, 5, .inl B_costs))], [(l_B, .inl (cA 4, B_n, .inr (.inr (.inr (.inr (fun i => some (g_B i)))))))], (zLs g_B B_n B_v), [((h3 0), .inl (cA 0, B_n, .inl a1))]]) H locs → lv_has ls 9 [(0, .ref a_B), (1, .ref (h3 0)), (2, .long w28), (4, .int x23), (5, .int x29)] → fX6_checksum_L54 j84_26 x23 B_height B_n B_v a1 n1 w28 x29 = some u → W p l e ({ frames := 5, cells := 78, slots := 1059, locals := 126 } : Room) s m args below meth c H locs 15 240 Q9 (F0 m 54 ls []) := by
            intro n1
            induction n1 with
            | zero => intro w28 x29 H locs ls Z hl hf; exact o_no hf
            | succ n1 ih1 =>
              intro w28 x29 H locs ls Z hl hf
              refine lv_iload (pc := 54) hx hb dX6_checksum_54 (lv_at hl 4 rfl) ?_
              refine lv_bipush (v := (9 : Int32)) (pc := 56) hx hb dX6_checksum_56 (by decide) ?_
              refine lv_icmp_ge (tgt := 84) (pc := 58) hx hb dX6_checksum_58 (by decide) (fun c30 => ?_) (fun c30 => ?_)
              · replace hf := o_pos c30 hf
                exact hj84_26 w28 H locs ls Z (lv_sub hl [0, 1, 2, 3] rfl) hf
              · replace hf := o_neg c30 hf
                refine lv_ldc2 (v := (31 : Int64)) (pc := 61) hx hb hown (hts _ (List.mem_of_getElem? (i := 1) rfl)) dX6_checksum_61 ?_
                refine lv_lload_n (pc := 64) hx hb dX6_checksum_64 rfl (lv_at hl 2 rfl) ?_
                refine lv_lmul (pc := 65) hx hb dX6_checksum_65 ?_
                refine lv_aload_n (pc := 66) hx hb dX6_checksum_66 rfl (lv_at hl 0 rfl) ?_
                refine lv_aload_n (pc := 67) hx hb dX6_checksum_67 rfl (lv_at hl 1 rfl) ?_
                refine lv_iload (pc := 68) hx hb dX6_checksum_68 (lv_at hl 3 rfl) ?_
                refine lv_iload (pc := 70) hx hb dX6_checksum_70 (lv_at hl 4 rfl) ?_
                obtain ⟨x31, h32, hf⟩ := o_bindE hf
                refine zg_callVi (pc := 72) (As := [.ref (h3 0), .int x23, .int x29]) (rest := [.long ((31 : Int64) * w28)]) (LF := []) (Lc := [[(a_B, .inr (6, [.int B_height, .int B_room, .int B_account, .ref c_B, .ref l_B]))], [(c_B, .inl (cA 0, 5, .inl B_costs))], [(l_B, .inl (cA 4, B_n, .inr (.inr (.inr (.inr (fun i => some (g_B i)))))))], (zLs g_B B_n B_v), [((h3 0), .inl (cA 0, B_n, .inl a1))]]) zJ_pass hJ ⟨hx, hb, hml, hown, hts⟩ (kX6_of l D cA a_B c_B l_B g_B (h3 0) x23 x29 B_height B_room B_account B_costs B_n B_v B_n a1 _ h32) (cwV 3 hts gX6_checksum_X6_of rfl rfl rfl (by decide +kernel) ⟨(Nat.le_of_ble_eq_true rfl), (Nat.le_of_ble_eq_true rfl)⟩) Z hA [0, 1, 2, 3, 4] rfl (by decide) (ci := 6) rfl 0 0 rfl rfl rfl rfl hl.1 rfl (Nat.le_of_ble_eq_true rfl) dX6_checksum_72 ⟨(by show 15 + 0 ≤ 78; omega), (by show 240 + 0 ≤ 1059; omega)⟩ (fun _ H locs Z => ?_)
                replace Z : zw D (zTY cA) s A (zU [[(a_B, .inr (6, [.int B_height, .int B_room, .int B_account, .ref c_B, .ref l_B]))], [(c_B, .inl (cA 0, 5, .inl B_costs))], [(l_B, .inl (cA 4, B_n, .inr (.inr (.inr (.inr (fun i => some (g_B i)))))))], (zLs g_B B_n B_v), [((h3 0), .inl (cA 0, B_n, .inl a1))]]) H locs := Z
                refine lv_i2l (pc := 75) hx hb dX6_checksum_75 rfl ?_
                refine lv_ladd (pc := 76) hx hb dX6_checksum_76 ?_
                refine lv_topl (fun w33 ew33 => ?_)
                replace hf := o_letE ew33 hf
                refine lv_lstore_n (lv' := [(2, .long w33), (0, .ref a_B), (1, .ref (h3 0)), (4, .int x23), (5, .int x29)]) (pc := 77) hx hb dX6_checksum_77 rfl hl (by decide) rfl (fun ls hl => ?_)
                obtain ⟨x34, ex34⟩ : ∃ y : Int32, y = (x29 + (1 : Int32)) := ⟨_, rfl⟩
                replace hf := o_letE ex34 hf
                refine lv_iinc (v := x34) (lv' := [(5, .int x34), (2, .long w33), (0, .ref a_B), (1, .ref (h3 0)), (4, .int x23)]) (pc := 78) hx hb dX6_checksum_78 hl (k := 4) rfl (by rw [ex34]; rfl) (by decide) rfl (fun ls hl => ?_)
                refine lv_goto (tgt := 54) (pc := 81) hx hb dX6_checksum_81 (by decide) ?_
                exact ih1 w33 x34 H locs ls Z (lv_sub hl [2, 3, 1, 4, 0] rfl) hf
          exact hL54 1024 w22 (0 : Int32) H locs ls Z (lv_sub hl [1, 2, 3, 4, 0] rfl) hf
    exact hL41 1024 w5 (0 : Int32) H locs ls Z (lv_sub hl [1, 2, 3, 0] rfl) hf
  have hL11 : ∀ (n0 : Nat) (w35 : Int64) (x36 : Int32) (kc0 ks0 : Nat) (H : Heap) (locs : List Loc) (ls : Array Slot), kc0 + n0 * 1 ≤ 15 → ks0 + n0 * 16 ≤ 240 → zw D (zTY cA) s A (zU [[(a_B, .inr (6, [.int B_height, .int B_room, .int B_account, .ref c_B, .ref l_B]))], [(c_B, .inl (cA 0, 5, .inl B_costs))], [(l_B, .inl (cA 4, B_n, .inr (.inr (.inr (.inr (fun i => some (g_B i)))))))], (zLs g_B B_n B_v), [((h3 0), .inl (cA 0, B_n, .inl a1))]]) H locs → lv_has ls 9 [(0, .ref a_B), (1, .ref (h3 0)), (2, .long w35), (4, .int x36)] → fX6_checksum_L11 j38_6 B_height B_room B_account B_n B_v n0 w35 x36 = some u → W p l e ({ frames := 5, cells := 78, slots := 1059, locals := 126 } : Room) s m args below meth c H locs kc0 ks0 Q9 (F0 m 11 ls []) := by
    intro n0
    induction n0 with
    | zero => intro w35 x36 kc0 ks0 H locs ls hkc0 hks0 Z hl hf; exact o_no hf
    | succ n0 ih0 =>
      intro w35 x36 kc0 ks0 H locs ls hkc0 hks0 Z hl hf
      refine lv_iload (pc := 11) hx hb dX6_checksum_11 (lv_at hl 3 rfl) ?_
      refine lv_bipush (v := (12 : Int32)) (pc := 13) hx hb dX6_checksum_13 (by decide) ?_
      refine lv_icmp_ge (tgt := 38) (pc := 15) hx hb dX6_checksum_15 (by decide) (fun c37 => ?_) (fun c37 => ?_)
      · replace hf := o_pos c37 hf
        refine W.widen (k := 15) (n := 240) (by show kc0 ≤ _; omega) (by show ks0 ≤ _; omega) ?_
        exact hj38_6 w35 H locs ls Z (lv_sub hl [0, 1, 2] rfl) hf
      · replace hf := o_neg c37 hf
        refine lv_ldc2 (v := (31 : Int64)) (pc := 18) hx hb hown (hts _ (List.mem_of_getElem? (i := 1) rfl)) dX6_checksum_18 ?_
        refine lv_lload_n (pc := 21) hx hb dX6_checksum_21 rfl (lv_at hl 2 rfl) ?_
        refine lv_lmul (pc := 22) hx hb dX6_checksum_22 ?_
        refine lv_aload_n (pc := 23) hx hb dX6_checksum_23 rfl (lv_at hl 0 rfl) ?_
        refine lv_iload (pc := 24) hx hb dX6_checksum_24 (lv_at hl 3 rfl) ?_
        obtain ⟨x38, h39, hf⟩ := o_bindE hf
        refine zg_callVi (pc := 26) (As := [.int x36]) (rest := [.long ((31 : Int64) * w35)]) (LF := [[((h3 0), .inl (cA 0, B_n, .inl a1))]]) (Lc := [[(a_B, .inr (6, [.int B_height, .int B_room, .int B_account, .ref c_B, .ref l_B]))], [(c_B, .inl (cA 0, 5, .inl B_costs))], [(l_B, .inl (cA 4, B_n, .inr (.inr (.inr (.inr (fun i => some (g_B i)))))))], (zLs g_B B_n B_v)]) zJ_pass hJ ⟨hx, hb, hml, hown, hts⟩ (kX6_told l D cA a_B c_B l_B g_B x36 B_height B_room B_account B_costs B_n B_v _ h39) (cwV 1 hts gX6_checksum_X6_told rfl rfl rfl (by decide +kernel) ⟨(Nat.le_of_ble_eq_true rfl), (Nat.le_of_ble_eq_true rfl)⟩) Z hA [0, 1, 2, 3, 4] rfl (by decide) (ci := 6) rfl 0 0 rfl rfl rfl rfl hl.1 rfl (Nat.le_of_ble_eq_true rfl) dX6_checksum_26 ⟨(by show kc0 + 1 ≤ 78; omega), (by show ks0 + 16 ≤ 1059; omega)⟩ (fun _ H locs Z => ?_)
        refine W.widen (k := (kc0 + 1)) (n := (ks0 + 16)) (by show kc0 + 1 ≤ _; omega) (by show ks0 + 16 ≤ _; omega) ?_
        replace Z : zw D (zTY cA) s A (zU [[((h3 0), .inl (cA 0, B_n, .inl a1))], [(a_B, .inr (6, [.int B_height, .int B_room, .int B_account, .ref c_B, .ref l_B]))], [(c_B, .inl (cA 0, 5, .inl B_costs))], [(l_B, .inl (cA 4, B_n, .inr (.inr (.inr (.inr (fun i => some (g_B i)))))))], (zLs g_B B_n B_v)]) H locs := Z
        refine lv_i2l (pc := 29) hx hb dX6_checksum_29 rfl ?_
        refine lv_ladd (pc := 30) hx hb dX6_checksum_30 ?_
        refine lv_topl (fun w40 ew40 => ?_)
        replace hf := o_letE ew40 hf
        refine lv_lstore_n (lv' := [(2, .long w40), (0, .ref a_B), (1, .ref (h3 0)), (4, .int x36)]) (pc := 31) hx hb dX6_checksum_31 rfl hl (by decide) rfl (fun ls hl => ?_)
        obtain ⟨x41, ex41⟩ : ∃ y : Int32, y = (x36 + (1 : Int32)) := ⟨_, rfl⟩
        replace hf := o_letE ex41 hf
        refine lv_iinc (v := x41) (lv' := [(4, .int x41), (2, .long w40), (0, .ref a_B), (1, .ref (h3 0))]) (pc := 32) hx hb dX6_checksum_32 hl (k := 3) rfl (by rw [ex41]; rfl) (by decide) rfl (fun ls hl => ?_)
        refine lv_goto (tgt := 11) (pc := 35) hx hb dX6_checksum_35 (by decide) ?_
        exact ih0 w40 x41 (kc0 + 1) (ks0 + 16) H locs ls (by omega) (by omega) (zu_sub Z [1, 2, 3, 4, 0] rfl (by decide)) (lv_sub hl [2, 3, 1, 0] rfl) hf
  exact hL11 14 w4 (0 : Int32) 1 16 H locs ls (by omega) (by omega) Z (lv_sub hl [3, 2, 1, 0] rfl) hf
