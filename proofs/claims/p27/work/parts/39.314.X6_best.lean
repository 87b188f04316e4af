def fX6_best_L8 (B_n : Nat) (B_v : Nat → ZL) (B_height : Int32) (B_room : Int32) (B_costs : Nat → Int32) (p2 : Int32) (p1 : Int32) : Nat → Int32 → Int32 → Int32 → Option (Int32)
  | 0, _, _, _ => none
  | n0 + 1, x1, x2, x3 => o_bind (fX6_different B_n B_v) (fun x4 => (if ((1 : Int32) <<< (x4 &&& 31)) ≤ x3 then some (x1) else o_let (o_bind (fX6_choice x3 B_height B_room B_costs B_n B_v) (fun a9 => o_let (a9 (0 : Int32).toNatClampNeg) (fun x12 => o_let (o_let (x3 + (1 : Int32)) (fun x15 => (fX6_best_L8 B_n B_v B_height B_room B_costs p2 p1 n0 x3 x12 x15))) (fun (j60_14 : Option (Int32)) => (if x1 < 0 then j60_14 else (if x12 < x2 then j60_14 else o_let (x3 + (1 : Int32)) (fun x17 => (fX6_best_L8 B_n B_v B_height B_room B_costs p2 p1 n0 x1 x2 x17)))))))) (fun (j36_8 : Option (Int32)) => (if p2 < 0 then j36_8 else (if ((x3 >>> (p1 &&& 31)) &&& (1 : Int32)) = p2 then j36_8 else o_let (x3 + (1 : Int32)) (fun x19 => (fX6_best_L8 B_n B_v B_height B_room B_costs p2 p1 n0 x1 x2 x19)))))))
def fX6_best (p1 : Int32) (p2 : Int32) (B_height : Int32) (B_room : Int32) (B_costs : Nat → Int32) (B_n : Nat) (B_v : Nat → ZL) : Option (Int32) := (fX6_best_L8 B_n B_v B_height B_room B_costs p2 p1 20 (-1 : Int32) (0 : Int32) (0 : Int32))
set_option maxHeartbeats 8000000 in
set_option maxRecDepth 100000 in
theorem kX6_best (l : Launch) (D : va_G) (cA : Nat → ClassId) (a_B : Nat) (c_B : Nat) (l_B : Nat) (g_B : Nat → Nat) (p1 : Int32) (p2 : Int32) (B_height : Int32) (B_room : Int32) (B_account : Int32) (B_costs : Nat → Int32) (B_n : Nat) (B_v : Nat → ZL) (u : Int32) (hf : fX6_best p1 p2 B_height B_room B_costs B_n B_v = some u) : zG zJ l yX6_best wsX6_best ({ frames := 4, cells := 60, slots := 780, locals := 100 } : Room) D (zTY cA) [.ref a_B, .int p1, .int p2] (zU [[(a_B, .inr (6, [.int B_height, .int B_room, .int B_account, .ref c_B, .ref l_B]))], [(c_B, .inl (cA 0, 5, .inl B_costs))], [(l_B, .inl (cA 4, B_n, .inr (.inr (.inr (.inr (fun i => some (g_B i)))))))], (zLs g_B B_n B_v)]) (fun v _ => v = some (.int u)) (fun h9 => zU [[(a_B, .inr (6, [.int B_height, .int B_room, .int B_account, .ref c_B, .ref l_B]))], [(c_B, .inl (cA 0, 5, .inl B_costs))], [(l_B, .inl (cA 4, B_n, .inr (.inr (.inr (.inr (fun i => some (g_B i)))))))], (zLs g_B B_n B_v)]) := by
  refine z_startG (cc := cX6_best) (maxL := 7) (ret := (some .int)) (by decide) rfl (Nat.le_of_ble_eq_true rfl) ?_
  intro p e s m args below meth c A hx hb hr hts hown hlocks hml hA hmn hJ Z ls hl
  replace hown : s.vm.findClass RX6 = some m.cls := hown
  replace hl : lv_has ls 7 [(0, .ref a_B), (1, .int p1), (2, .int p2)] := hl
  obtain ⟨Q9, hQ9⟩ : ∃ Q9 : State → Prop, Q9 = MQ below (zQG D (zTY cA) A (fun v _ => v = some (.int u)) (fun h9 => zU [[(a_B, .inr (6, [.int B_height, .int B_room, .int B_account, .ref c_B, .ref l_B]))], [(c_B, .inl (cA 0, 5, .inl B_costs))], [(l_B, .inl (cA 4, B_n, .inr (.inr (.inr (.inr (fun i => some (g_B i)))))))], (zLs g_B B_n B_v)])) args s 60 780 A := ⟨_, rfl⟩
  show W p l e ({ frames := 4, cells := 60, slots := 780, locals := 100 } : Room) s m args below meth c s.heap [] 0 0 (MQ below (zQG D (zTY cA) A (fun v _ => v = some (.int u)) (fun h9 => zU [[(a_B, .inr (6, [.int B_height, .int B_room, .int B_account, .ref c_B, .ref l_B]))], [(c_B, .inl (cA 0, 5, .inl B_costs))], [(l_B, .inl (cA 4, B_n, .inr (.inr (.inr (.inr (fun i => some (g_B i)))))))], (zLs g_B B_n B_v)])) args s 60 780 A) (F0 m 0 ls [])
  rw [← hQ9]
  obtain ⟨H, hH⟩ : ∃ H, H = s.heap := ⟨_, rfl⟩
  rw [← hH] at Z ⊢
  clear hH
  obtain ⟨locs, hlc⟩ : ∃ q : List Loc, q = [] := ⟨_, rfl⟩
  rw [← hlc] at Z ⊢
  clear hlc
  refine lv_iconst (v := (-1 : Int32)) (pc := 0) hx hb dX6_best_0 (by decide) ?_
  refine lv_istore_n (lv' := [(3, .int (-1 : Int32)), (0, .ref a_B), (1, .int p1), (2, .int p2)]) (pc := 1) hx hb dX6_best_1 rfl hl (by decide) rfl (fun ls hl => ?_)
  refine lv_iconst (v := (0 : Int32)) (pc := 2) hx hb dX6_best_2 (by decide) ?_
  refine lv_istore (lv' := [(4, .int (0 : Int32)), (3, .int (-1 : Int32)), (0, .ref a_B), (1, .int p1), (2, .int p2)]) (pc := 3) hx hb dX6_best_3 hl (by decide) rfl (fun ls hl => ?_)
  refine lv_iconst (v := (0 : Int32)) (pc := 5) hx hb dX6_best_5 (by decide) ?_
  refine lv_istore (lv' := [(5, .int (0 : Int32)), (4, .int (0 : Int32)), (3, .int (-1 : Int32)), (0, .ref a_B), (1, .int p1), (2, .int p2)]) (pc := 6) hx hb dX6_best_6 hl (by decide) rfl (fun ls hl => ?_)
  have hL8 : ∀ (n0 : Nat) (x1 : Int32) (x2 : Int32) (x3 : Int32) (kc0 ks0 : Nat) (H : Heap) (locs : List Loc) (ls : Array Slot), kc0 + n0 * 3 ≤ 60 → ks0 + n0 * 39 ≤ 780 → zw D (zTY cA) s A (zU [[(a_B, .inr (6, [.int B_height, .int B_room, .int B_account, .ref c_B, .ref l_B]))], [(c_B, .inl (cA 0, 5, .inl B_costs))], [(l_B, .inl (cA 4, B_n, .inr (.inr (.inr (.inr (fun i => some (g_B i)))))))], (zLs g_B B_n B_v)]) H locs → lv_has ls 7 [(0, .ref a_B), (1, .int p1), (2, .int p2), (3, .int x1), (4, .int x2), (5, .int x3)] → fX6_best_L8 B_n B_v B_height B_room B_costs p2 p1 n0 x1 x2 x3 = some u → W p l e ({ frames := 4, cells := 60, slots := 780, locals := 100 } : Room) s m args below meth c H locs kc0 ks0 Q9 (F0 m 8 ls []) := by
    intro n0
    induction n0 with
    | zero => intro x1 x2 x3 kc0 ks0 H locs ls hkc0 hks0 Z hl hf; exact o_no hf
    | succ n0 ih0 =>
      intro x1 x2 x3 kc0 ks0 H locs ls hkc0 hks0 Z hl hf
      refine lv_iload (pc := 8) hx hb dX6_best_8 (lv_at hl 5 rfl) ?_
      refine lv_iconst (v := (1 : Int32)) (pc := 10) hx hb dX6_best_10 (by decide) ?_
      refine lv_aload_n (pc := 11) hx hb dX6_best_11 rfl (lv_at hl 0 rfl) ?_
      obtain ⟨x4, h5, hf⟩ := o_bindE hf
      refine zg_callVi (pc := 12) (As := []) (rest := [.int (1 : Int32), .int x3]) (LF := []) (Lc := [[(a_B, .inr (6, [.int B_height, .int B_room, .int B_account, .ref c_B, .ref l_B]))], [(c_B, .inl (cA 0, 5, .inl B_costs))], [(l_B, .inl (cA 4, B_n, .inr (.inr (.inr (.inr (fun i => some (g_B i)))))))], (zLs g_B B_n B_v)]) zJ_pass hJ ⟨hx, hb, hml, hown, hts⟩ (kX6_different l D cA a_B c_B l_B g_B B_height B_room B_account B_costs B_n B_v _ h5) (cwV 0 hts gX6_best_X6_different rfl rfl rfl (by decide +kernel) ⟨(Nat.le_of_ble_eq_true rfl), (Nat.le_of_ble_eq_true rfl)⟩) Z hA [0, 1, 2, 3] rfl (by decide) (ci := 6) rfl 0 0 rfl rfl rfl rfl hl.1 rfl (Nat.le_of_ble_eq_true rfl) dX6_best_12 ⟨(by show kc0 + 0 ≤ 60; omega), (by show ks0 + 0 ≤ 780; omega)⟩ (fun _ H locs Z => ?_)
      replace Z : zw D (zTY cA) s A (zU [[(a_B, .inr (6, [.int B_height, .int B_room, .int B_account, .ref c_B, .ref l_B]))], [(c_B, .inl (cA 0, 5, .inl B_costs))], [(l_B, .inl (cA 4, B_n, .inr (.inr (.inr (.inr (fun i => some (g_B i)))))))], (zLs g_B B_n B_v)]) H locs := Z
      refine lv_ishl (pc := 15) hx hb dX6_best_15 ?_
      refine lv_icmp_ge (tgt := 73) (pc := 16) hx hb dX6_best_16 (by decide) (fun c6 => ?_) (fun c6 => ?_)
      · replace hf := o_pos c6 hf
        refine lv_iload_n (pc := 73) hx hb dX6_best_73 rfl (lv_at hl 3 rfl) ?_
        have hu9 := Option.some.inj hf
        subst hu9
        rw [hQ9]
        exact zg_iret (pc := 74) (L' := [[(a_B, .inr (6, [.int B_height, .int B_room, .int B_account, .ref c_B, .ref l_B]))], [(c_B, .inl (cA 0, 5, .inl B_costs))], [(l_B, .inl (cA 4, B_n, .inr (.inr (.inr (.inr (fun i => some (g_B i)))))))], (zLs g_B B_n B_v)]) (fun _ => 0) (by show kc0 ≤ 60; omega) (by show ks0 ≤ 780; omega) hx hb hr hlocks Z [0, 1, 2, 3] rfl (by decide) rfl rfl dX6_best_74
      · replace hf := o_neg c6 hf
        refine lv_iload_n (pc := 19) hx hb dX6_best_19 rfl (lv_at hl 2 rfl) ?_
        obtain ⟨j36_8, ej36_8, hf⟩ := o_jnE hf
        have hj36_8 : ∀ (H : Heap) (locs : List Loc) (ls : Array Slot), zw D (zTY cA) s A (zU [[(a_B, .inr (6, [.int B_height, .int B_room, .int B_account, .ref c_B, .ref l_B]))], [(c_B, .inl (cA 0, 5, .inl B_costs))], [(l_B, .inl (cA 4, B_n, .inr (.inr (.inr (.inr (fun i => some (g_B i)))))))], (zLs g_B B_n B_v)]) H locs → lv_has ls 7 [(0, .ref a_B), (1, .int p1), (2, .int p2), (3, .int x1), (4, .int x2), (5, .int x3)] → j36_8 = some u → W p l e ({ frames := 4, cells := 60, slots := 780, locals := 100 } : Room) s m args below meth c H locs kc0 ks0 Q9 (F0 m 36 ls []) := by
          intro H locs ls Z hl hf
          rw [ej36_8] at hf
          refine lv_aload_n (pc := 36) hx hb dX6_best_36 rfl (lv_at hl 0 rfl) ?_
          refine lv_iload (pc := 37) hx hb dX6_best_37 (lv_at hl 5 rfl) ?_
          obtain ⟨a9, h10, hf⟩ := o_bindE hf
          refine zg_callVr (pc := 39) (As := [.int x3]) (rest := []) (LF := []) (Lc := [[(a_B, .inr (6, [.int B_height, .int B_room, .int B_account, .ref c_B, .ref l_B]))], [(c_B, .inl (cA 0, 5, .inl B_costs))], [(l_B, .inl (cA 4, B_n, .inr (.inr (.inr (.inr (fun i => some (g_B i)))))))], (zLs g_B B_n B_v)]) zJ_pass hJ ⟨hx, hb, hml, hown, hts⟩ (kX6_choice l D cA a_B c_B l_B g_B x3 B_height B_room B_account B_costs B_n B_v _ h10) (cwV 1 hts gX6_best_X6_choice rfl rfl rfl (by decide +kernel) ⟨(Nat.le_of_ble_eq_true rfl), (Nat.le_of_ble_eq_true rfl)⟩) Z hA [0, 1, 2, 3] rfl (by decide) (ci := 6) rfl 0 0 rfl rfl rfl rfl hl.1 rfl (Nat.le_of_ble_eq_true rfl) dX6_best_39 ⟨(by show kc0 + 3 ≤ 60; omega), (by show ks0 + 39 ≤ 780; omega)⟩ (fun h11 H locs Z => ?_)
          refine W.widen (k := (kc0 + 3)) (n := (ks0 + 39)) (by show kc0 + 3 ≤ _; omega) (by show ks0 + 39 ≤ _; omega) ?_
          replace Z : zw D (zTY cA) s A (zU [[(a_B, .inr (6, [.int B_height, .int B_room, .int B_account, .ref c_B, .ref l_B]))], [(c_B, .inl (cA 0, 5, .inl B_costs))], [(l_B, .inl (cA 4, B_n, .inr (.inr (.inr (.inr (fun i => some (g_B i)))))))], (zLs g_B B_n B_v), [((h11 0), .inl (cA 0, 7, .inl a9))]]) H locs := Z
          refine lv_iconst (v := (0 : Int32)) (pc := 42) hx hb dX6_best_42 (by decide) ?_
          refine zu_iald (pc := 43) hx hb Z 4 0 rfl rfl (show ¬ ((0 : Int32) < 0 ∨ 7 ≤ (0 : Int32).toNatClampNeg) by decide) dX6_best_43 ?_
          refine lv_topi (fun x12 ex12 => ?_)
          replace hf := o_letE ex12 hf
          refine lv_istore (lv' := [(6, .int x12), (0, .ref a_B), (1, .int p1), (2, .int p2), (3, .int x1), (4, .int x2), (5, .int x3)]) (pc := 44) hx hb dX6_best_44 hl (by decide) rfl (fun ls hl => ?_)
          refine lv_iload_n (pc := 46) hx hb dX6_best_46 rfl (lv_at hl 4 rfl) ?_
          obtain ⟨j60_14, ej60_14, hf⟩ := o_jnE hf
          have hj60_14 : ∀ (H : Heap) (locs : List Loc) (ls : Array Slot), zw D (zTY cA) s A (zU [[(a_B, .inr (6, [.int B_height, .int B_room, .int B_account, .ref c_B, .ref l_B]))], [(c_B, .inl (cA 0, 5, .inl B_costs))], [(l_B, .inl (cA 4, B_n, .inr (.inr (.inr (.inr (fun i => some (g_B i)))))))], (zLs g_B B_n B_v)]) H locs → lv_has ls 7 [(0, .ref a_B), (1, .int p1), (2, .int p2), (5, .int x3), (6, .int x12)] → j60_14 = some u → W p l e ({ frames := 4, cells := 60, slots := 780, locals := 100 } : Room) s m args below meth c H locs (kc0 + 3) (ks0 + 39) Q9 (F0 m 60 ls []) := by
            intro H locs ls Z hl hf
            rw [ej60_14] at hf
            refine lv_iload (pc := 60) hx hb dX6_best_60 (lv_at hl 3 rfl) ?_
            refine lv_istore_n (lv' := [(3, .int x3), (0, .ref a_B), (1, .int p1), (2, .int p2), (5, .int x3), (6, .int x12)]) (pc := 62) hx hb dX6_best_62 rfl hl (by decide) rfl (fun ls hl => ?_)
            refine lv_iload (pc := 63) hx hb dX6_best_63 (lv_at hl 5 rfl) ?_
            refine lv_istore (lv' := [(4, .int x12), (3, .int x3), (0, .ref a_B), (1, .int p1), (2, .int p2), (5, .int x3), (6, .int x12)]) (pc := 65) hx hb dX6_best_65 hl (by decide) rfl (fun ls hl => ?_)
            obtain ⟨x15, ex15⟩ : ∃ y : Int32, y = (x3 + (1 : Int32)) := ⟨_, rfl⟩
            replace hf := o_letE ex15 hf
            refine lv_iinc (v := x15) (lv' := [(5, .int x15), (4, .int x12), (3, .int x3), (0, .ref a_B), (1, .int p1), (2, .int p2), (6, .int x12)]) (pc := 67) hx hb dX6_best_67 hl (k := 5) rfl (by rw [ex15]; rfl) (by decide) rfl (fun ls hl => ?_)
            refine lv_goto (tgt := 8) (pc := 70) hx hb dX6_best_70 (by decide) ?_
            exact ih0 x3 x12 x15 (kc0 + 3) (ks0 + 39) H locs ls (by omega) (by omega) Z (lv_sub hl [3, 4, 5, 2, 1, 0] rfl) hf
          refine lv_if_lt (tgt := 60) (pc := 47) hx hb dX6_best_47 (by decide) (fun c13 => ?_) (fun c13 => ?_)
          · replace hf := o_pos c13 hf
            exact hj60_14 H locs ls (zu_sub Z [0, 1, 2, 3] rfl (by decide)) (lv_sub hl [1, 2, 3, 6, 0] rfl) hf
          · replace hf := o_neg c13 hf
            refine lv_iload (pc := 50) hx hb dX6_best_50 (lv_at hl 0 rfl) ?_
            refine lv_iload (pc := 52) hx hb dX6_best_52 (lv_at hl 5 rfl) ?_
            refine lv_icmp_lt (tgt := 60) (pc := 54) hx hb dX6_best_54 (by decide) (fun c16 => ?_) (fun c16 => ?_)
            · replace hf := o_pos c16 hf
              exact hj60_14 H locs ls (zu_sub Z [0, 1, 2, 3] rfl (by decide)) (lv_sub hl [1, 2, 3, 6, 0] rfl) hf
            · replace hf := o_neg c16 hf
              refine lv_goto (tgt := 67) (pc := 57) hx hb dX6_best_57 (by decide) ?_
              obtain ⟨x17, ex17⟩ : ∃ y : Int32, y = (x3 + (1 : Int32)) := ⟨_, rfl⟩
              replace hf := o_letE ex17 hf
              refine lv_iinc (v := x17) (lv' := [(5, .int x17), (6, .int x12), (0, .ref a_B), (1, .int p1), (2, .int p2), (3, .int x1), (4, .int x2)]) (pc := 67) hx hb dX6_best_67 hl (k := 6) rfl (by rw [ex17]; rfl) (by decide) rfl (fun ls hl => ?_)
              refine lv_goto (tgt := 8) (pc := 70) hx hb dX6_best_70 (by decide) ?_
              exact ih0 x1 x2 x17 (kc0 + 3) (ks0 + 39) H locs ls (by omega) (by omega) (zu_sub Z [0, 1, 2, 3] rfl (by decide)) (lv_sub hl [2, 3, 4, 5, 6, 0] rfl) hf
        refine lv_if_lt (tgt := 36) (pc := 20) hx hb dX6_best_20 (by decide) (fun c7 => ?_) (fun c7 => ?_)
        · replace hf := o_pos c7 hf
          exact hj36_8 H locs ls Z (lv_sub hl [0, 1, 2, 3, 4, 5] rfl) hf
        · replace hf := o_neg c7 hf
          refine lv_iload (pc := 23) hx hb dX6_best_23 (lv_at hl 5 rfl) ?_
          refine lv_iload_n (pc := 25) hx hb dX6_best_25 rfl (lv_at hl 1 rfl) ?_
          refine lv_ishr (pc := 26) hx hb dX6_best_26 ?_
          refine lv_iconst (v := (1 : Int32)) (pc := 27) hx hb dX6_best_27 (by decide) ?_
          refine lv_iand (pc := 28) hx hb dX6_best_28 ?_
          refine lv_iload_n (pc := 29) hx hb dX6_best_29 rfl (lv_at hl 2 rfl) ?_
          refine lv_icmp_eq (tgt := 36) (pc := 30) hx hb dX6_best_30 (by decide) (fun c18 => ?_) (fun c18 => ?_)
          · replace hf := o_pos c18 hf
            exact hj36_8 H locs ls Z (lv_sub hl [0, 1, 2, 3, 4, 5] rfl) hf
          · replace hf := o_neg c18 hf
            refine lv_goto (tgt := 67) (pc := 33) hx hb dX6_best_33 (by decide) ?_
            obtain ⟨x19, ex19⟩ : ∃ y : Int32, y = (x3 + (1 : Int32)) := ⟨_, rfl⟩
            replace hf := o_letE ex19 hf
            refine lv_iinc (v := x19) (lv' := [(5, .int x19), (0, .ref a_B), (1, .int p1), (2, .int p2), (3, .int x1), (4, .int x2)]) (pc := 67) hx hb dX6_best_67 hl (k := 5) rfl (by rw [ex19]; rfl) (by decide) rfl (fun ls hl => ?_)
            refine lv_goto (tgt := 8) (pc := 70) hx hb dX6_best_70 (by decide) ?_
            exact ih0 x1 x2 x19 kc0 ks0 H locs ls (by omega) (by omega) Z (lv_sub hl [1, 2, 3, 4, 5, 0] rfl) hf
  exact hL8 20 (-1 : Int32) (0 : Int32) (0 : Int32) 0 0 H locs ls (by omega) (by omega) Z (lv_sub hl [3, 4, 5, 2, 1, 0] rfl) hf
