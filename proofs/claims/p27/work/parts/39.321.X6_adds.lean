theorem iw_X6_adds_X6 : ∀ w ∈ u_ws RX6 TX6 5, w ∈ wsX6_adds := z_inr [3, 4, 5, 6, 7] rfl
def fX6_adds (p1 : Int32) (B_n : Nat) (B_v : Nat → ZL) (w_ : ZL) : Option (Nat × (Nat → ZL)) := o_as ((¬ p1 < 0) ∧ p1.toNatClampNeg ≤ B_n ∧ B_n ≤ 15) (some (B_n + 1, zins B_v p1.toNatClampNeg w_))
set_option maxHeartbeats 8000000 in
set_option maxRecDepth 100000 in
theorem kX6_addsK (l : Launch) (D : va_G) (cA : Nat → ClassId) (a_B : Nat) (c_B : Nat) (l_B : Nat) (g_B : Nat → Nat) (a_M : Nat) (ka : Nat) (B_height : Int32) (B_room : Int32) (B_account : Int32) (B_costs : Nat → Int32) (B_n : Nat) (B_v : Nat → ZL) (w_ : ZL) (hka : ka ≤ B_n) (hn15 : B_n ≤ 15) : zG zJ l yX6_adds wsX6_adds ({ frames := 1, cells := 1, slots := 16, locals := 20 } : Room) D (zTY cA) [.ref a_B, .int (Int32.ofNat ka), .ref a_M] (zU [[(a_B, .inr (6, [.int B_height, .int B_room, .int B_account, .ref c_B, .ref l_B]))], [(c_B, .inl (cA 0, 5, .inl B_costs))], [(l_B, .inl (cA 4, B_n, .inr (.inr (.inr (.inr (fun i => some (g_B i)))))))], (zLs g_B B_n B_v), [zLot a_M w_]]) (fun v _ => v = none) (fun h9 => zU [[(a_B, .inr (6, [.int B_height, .int B_room, .int B_account, .ref c_B, .ref (h9 0)]))], [(c_B, .inl (cA 0, 5, .inl B_costs))], [((h9 0), .inl (cA 4, (B_n + 1), .inr (.inr (.inr (.inr (fun i => some (zins g_B ka a_M i)))))))], (zLs (zins g_B ka a_M) (B_n + 1) (zins B_v ka w_))]) := by
  refine z_startG (cc := cX6_adds) (maxL := 5) (ret := none) (by decide) rfl (Nat.le_of_ble_eq_true rfl) ?_
  intro p e s m args below meth c A hx hb hr hts hown hlocks hml hA hmn hJ Z ls hl
  replace hown : s.vm.findClass RX6 = some m.cls := hown
  replace hl : lv_has ls 5 [(0, .ref a_B), (1, .int (Int32.ofNat ka)), (2, .ref a_M)] := hl
  obtain ⟨Q9, hQ9⟩ : ∃ Q9 : State → Prop, Q9 = MQ below (zQG D (zTY cA) A (fun v _ => v = none) (fun h9 => zU [[(a_B, .inr (6, [.int B_height, .int B_room, .int B_account, .ref c_B, .ref (h9 0)]))], [(c_B, .inl (cA 0, 5, .inl B_costs))], [((h9 0), .inl (cA 4, (B_n + 1), .inr (.inr (.inr (.inr (fun i => some (zins g_B ka a_M i)))))))], (zLs (zins g_B ka a_M) (B_n + 1) (zins B_v ka w_))])) args s 1 16 A := ⟨_, rfl⟩
  show W p l e ({ frames := 1, cells := 1, slots := 16, locals := 20 } : Room) s m args below meth c s.heap [] 0 0 (MQ below (zQG D (zTY cA) A (fun v _ => v = none) (fun h9 => zU [[(a_B, .inr (6, [.int B_height, .int B_room, .int B_account, .ref c_B, .ref (h9 0)]))], [(c_B, .inl (cA 0, 5, .inl B_costs))], [((h9 0), .inl (cA 4, (B_n + 1), .inr (.inr (.inr (.inr (fun i => some (zins g_B ka a_M i)))))))], (zLs (zins g_B ka a_M) (B_n + 1) (zins B_v ka w_))])) args s 1 16 A) (F0 m 0 ls [])
  rw [← hQ9]
  obtain ⟨H, hH⟩ : ∃ H, H = s.heap := ⟨_, rfl⟩
  rw [← hH] at Z ⊢
  clear hH
  obtain ⟨locs, hlc⟩ : ∃ q : List Loc, q = [] := ⟨_, rfl⟩
  rw [← hlc] at Z ⊢
  clear hlc
  refine lv_aload_n (pc := 0) hx hb dX6_adds_0 rfl (lv_at hl 0 rfl) ?_
  refine zu_get (ref := "LotSheetLaw$Bill") (ci := 6) (C := RX6) (T := TX6) (N := 5) (pc := 1) hx hb hts iw_X6_adds_X6 hown Z 0 rfl rfl 4 (by decide) (List.mem_of_getElem? (i := 1) rfl) rfl rfl dX6_adds_1 ?_
  refine zu_alen (v := (Int32.ofNat B_n)) (pc := 4) hx hb Z 2 4 rfl rfl rfl dX6_adds_4 ?_
  refine lv_iconst (v := (1 : Int32)) (pc := 5) hx hb dX6_adds_5 (by decide) ?_
  refine lv_iadd (pc := 6) hx hb dX6_adds_6 ?_
  rw [z_sT]
  refine zu_newq (N' := ((B_n + 1))) 4 (pc := 7) hx hb hts hown (List.mem_of_getElem? (i := 2) rfl) hJ.2.2.1.1 rfl Z hA (z_ofN (Nat.le_trans (show B_n + 1 ≤ 16 by omega) (by decide))).1 (z_ofN (Nat.le_trans (show B_n + 1 ≤ 16 by omega) (by decide))).2 (by have := (show B_n + 1 ≤ 16 by omega); omega) (by show 0 + 1 ≤ 1; omega) (by have := (show B_n + 1 ≤ 16 by omega); show 0 + ((B_n + 1)) ≤ 16; omega) dX6_adds_7 (fun q1 H Z => ?_)
  refine W.widen (k := 1) (n := 16) (by show 0 + 1 ≤ _; omega) (by have := (show B_n + 1 ≤ 16 by omega); show 0 + ((B_n + 1)) ≤ _; omega) ?_
  replace Z : zw D (zTY cA) s A (zU [[(a_B, .inr (6, [.int B_height, .int B_room, .int B_account, .ref c_B, .ref l_B]))], [(c_B, .inl (cA 0, 5, .inl B_costs))], [(l_B, .inl (cA 4, B_n, .inr (.inr (.inr (.inr (fun i => some (g_B i)))))))], (zLs g_B B_n B_v), [zLot a_M w_], [(q1, .inl (cA 4, ((B_n + 1)), .inr (.inr (.inr (.inr (fun _ => none))))))]]) H locs := Z
  refine lv_astore_n (lv' := [(3, .ref q1), (0, .ref a_B), (1, .int (Int32.ofNat ka)), (2, .ref a_M)]) (pc := 10) hx hb dX6_adds_10 rfl hl (by decide) rfl (fun ls hl => ?_)
  refine lv_iconst (v := (0 : Int32)) (pc := 11) hx hb dX6_adds_11 (by decide) ?_
  refine lv_istore (lv' := [(4, .int (0 : Int32)), (3, .ref q1), (0, .ref a_B), (1, .int (Int32.ofNat ka)), (2, .ref a_M)]) (pc := 12) hx hb dX6_adds_12 hl (by decide) rfl (fun ls hl => ?_)
  have key : ∀ (mm k : Nat) (f : Nat → Option Nat) (H : Heap) (locs : List Loc) (ls : Array Slot), B_n + 1 < k + mm → k ≤ B_n + 1 → (∀ i, i < k → f i = some (zins g_B ka a_M i)) → zw D (zTY cA) s A (zU [[(a_B, .inr (6, [.int B_height, .int B_room, .int B_account, .ref c_B, .ref l_B]))], [(c_B, .inl (cA 0, 5, .inl B_costs))], [(l_B, .inl (cA 4, B_n, .inr (.inr (.inr (.inr (fun i => some (g_B i)))))))], (zLs g_B B_n B_v), [zLot a_M w_], [(q1, .inl (cA 4, (B_n + 1), .inr (.inr (.inr (.inr f)))))]]) H locs → lv_has ls 5 [(0, .ref a_B), (1, .int (Int32.ofNat ka)), (2, .ref a_M), (3, .ref q1), (4, .int (Int32.ofNat k))] → W p l e ({ frames := 1, cells := 1, slots := 16, locals := 20 } : Room) s m args below meth c H locs 1 16 Q9 (F0 m 14 ls []) := by
    intro mm
    induction mm with
    | zero => intro k f H locs ls h1 h2; omega
    | succ mm ih =>
      intro k f H locs ls h1 h2 hfk Z hl
      refine lv_iload (pc := 14) hx hb dX6_adds_14 (lv_at hl 4 rfl) ?_
      refine lv_aload_n (pc := 16) hx hb dX6_adds_16 rfl (lv_at hl 3 rfl) ?_
      refine zu_alen (v := (Int32.ofNat (B_n + 1))) (pc := 17) hx hb Z 5 4 rfl rfl rfl dX6_adds_17 ?_
      refine lv_icmp_ge (tgt := 66) (pc := 18) hx hb dX6_adds_18 (by decide) (fun c9 => ?_) (fun c9 => ?_)
      · have e9 : k = B_n + 1 := by have := (z_leN (by omega) (by omega)).mp c9; omega
        subst e9
        refine lv_aload_n (pc := 66) hx hb dX6_adds_66 rfl (lv_at hl 0 rfl) ?_
        refine lv_aload_n (pc := 67) hx hb dX6_adds_67 rfl (lv_at hl 3 rfl) ?_
        refine zu_put (ref := "LotSheetLaw$Bill") (ci := 6) (C := RX6) (T := TX6) (N := 5) (L' := [[(a_B, .inr (6, [.int B_height, .int B_room, .int B_account, .ref c_B, .ref q1]))], [(c_B, .inl (cA 0, 5, .inl B_costs))], [(l_B, .inl (cA 4, B_n, .inr (.inr (.inr (.inr (fun i => some (g_B i)))))))], (zLs g_B B_n B_v), [zLot a_M w_], [(q1, .inl (cA 4, (B_n + 1), .inr (.inr (.inr (.inr f)))))]]) (pc := 68) hx hb hts iw_X6_adds_X6 tyX6 tyX6_ok nmX6 hown Z 0 rfl rfl 4 (by decide) (List.mem_of_getElem? (i := 1) rfl) rfl rfl rfl rfl (Nat.le_of_ble_eq_true rfl) dX6_adds_68 rfl (fun H locs Z => ?_)
        replace Z := zu_qext (f' := fun i => some (zins g_B ka a_M i)) Z 5 rfl hfk rfl
        replace Z : zw D (zTY cA) s A (zU ([[(a_B, .inr (6, [.int B_height, .int B_room, .int B_account, .ref c_B, .ref q1]))], [(c_B, .inl (cA 0, 5, .inl B_costs))], [(q1, .inl (cA 4, (B_n + 1), .inr (.inr (.inr (.inr (fun i => some (zins g_B ka a_M i)))))))]] ++ [(zLs g_B B_n B_v), [zLot a_M w_]])) H locs := zu_sub Z [0, 1, 5, 3, 4] rfl (by decide)
        replace Z := zu_ins Z hka
        replace Z : zw D (zTY cA) s A (zU [[(a_B, .inr (6, [.int B_height, .int B_room, .int B_account, .ref c_B, .ref q1]))], [(c_B, .inl (cA 0, 5, .inl B_costs))], [(q1, .inl (cA 4, (B_n + 1), .inr (.inr (.inr (.inr (fun i => some (zins g_B ka a_M i)))))))], (zLs (zins g_B ka a_M) (B_n + 1) (zins B_v ka w_))]) H locs := Z
        rw [hQ9]
        exact zg_vret (pc := 71) (L' := [[(a_B, .inr (6, [.int B_height, .int B_room, .int B_account, .ref c_B, .ref q1]))], [(c_B, .inl (cA 0, 5, .inl B_costs))], [(q1, .inl (cA 4, (B_n + 1), .inr (.inr (.inr (.inr (fun i => some (zins g_B ka a_M i)))))))], (zLs (zins g_B ka a_M) (B_n + 1) (zins B_v ka w_))]) (zhl [q1] (fun _ => 0)) (by show 1 ≤ 1; omega) (by show 16 ≤ 16; omega) hx hb hr hlocks Z [0, 1, 2, 3] rfl (by decide) rfl rfl dX6_adds_71
      · have hk : k < B_n + 1 := by have := mt (z_leN (by omega) (by omega)).mpr c9; omega
        have ek := (z_ofN (show k ≤ 64 by omega)).2
        have hki := z_inK (b := B_n + 1) (show k ≤ 64 by omega) hk
        refine lv_aload_n (pc := 21) hx hb dX6_adds_21 rfl (lv_at hl 3 rfl) ?_
        refine lv_iload (pc := 22) hx hb dX6_adds_22 (lv_at hl 4 rfl) ?_
        refine lv_iload (pc := 24) hx hb dX6_adds_24 (lv_at hl 4 rfl) ?_
        refine lv_iload_n (pc := 26) hx hb dX6_adds_26 rfl (lv_at hl 1 rfl) ?_
        refine lv_icmp_ge (tgt := 40) (pc := 27) hx hb dX6_adds_27 (by decide) (fun c8 => ?_) (fun c8 => ?_)
        · have hge : ka ≤ k := (z_leN (by omega) (by omega)).mp c8
          refine lv_iload (pc := 40) hx hb dX6_adds_40 (lv_at hl 4 rfl) ?_
          refine lv_iload_n (pc := 42) hx hb dX6_adds_42 rfl (lv_at hl 1 rfl) ?_
          refine lv_icmp_ne (tgt := 50) (pc := 43) hx hb dX6_adds_43 (by decide) (fun c7 => ?_) (fun c7 => ?_)
          · have hne : k ≠ ka := fun e => c7 ((z_eqN (by omega) (by omega)).mpr e)
            have ek1 : (Int32.ofNat k - (1 : Int32)) = Int32.ofNat (k - 1) := by rw [show k = (k - 1) + 1 from by omega, ← z_sT]; simp
            refine lv_aload_n (pc := 50) hx hb dX6_adds_50 rfl (lv_at hl 0 rfl) ?_
            refine zu_get (ref := "LotSheetLaw$Bill") (ci := 6) (C := RX6) (T := TX6) (N := 5) (pc := 51) hx hb hts iw_X6_adds_X6 hown Z 0 rfl rfl 4 (by decide) (List.mem_of_getElem? (i := 1) rfl) rfl rfl dX6_adds_51 ?_
            refine lv_iload (pc := 54) hx hb dX6_adds_54 (lv_at hl 4 rfl) ?_
            refine lv_iconst (v := (1 : Int32)) (pc := 56) hx hb dX6_adds_56 (by decide) ?_
            refine lv_isub (pc := 57) hx hb dX6_adds_57 ?_
            rw [ek1]
            have ek2 := (z_ofN (show k - 1 ≤ 64 by omega)).2
            refine zu_aald (b := g_B (k - 1)) (pc := 58) hx hb Z 2 4 rfl rfl rfl (z_inK (by omega) (by omega)) (by rw [ek2]; rfl) dX6_adds_58 ?_
            refine zu_astq (L' := [[(a_B, .inr (6, [.int B_height, .int B_room, .int B_account, .ref c_B, .ref l_B]))], [(c_B, .inl (cA 0, 5, .inl B_costs))], [(l_B, .inl (cA 4, B_n, .inr (.inr (.inr (.inr (fun i => some (g_B i)))))))], (zLs g_B B_n B_v), [zLot a_M w_], [(q1, .inl (cA 4, (B_n + 1), .inr (.inr (.inr (.inr (va_up f (Int32.ofNat k).toNatClampNeg (some (g_B (k - 1)))))))))]]) (pc := 59) hx hb Z 5 4 3 (k - 1) 7 rfl rfl rfl (zLs_at (by omega)) rfl hki dX6_adds_59 rfl (fun H locs Z => ?_)
            rw [ek] at Z
            replace Z : zw D (zTY cA) s A (zU [[(a_B, .inr (6, [.int B_height, .int B_room, .int B_account, .ref c_B, .ref l_B]))], [(c_B, .inl (cA 0, 5, .inl B_costs))], [(l_B, .inl (cA 4, B_n, .inr (.inr (.inr (.inr (fun i => some (g_B i)))))))], (zLs g_B B_n B_v), [zLot a_M w_], [(q1, .inl (cA 4, (B_n + 1), .inr (.inr (.inr (.inr (va_up f k (some (g_B (k - 1)))))))))]]) H locs := Z
            refine lv_iinc (v := Int32.ofNat (k + 1)) (lv' := [(4, .int (Int32.ofNat (k + 1))), (0, .ref a_B), (1, .int (Int32.ofNat ka)), (2, .ref a_M), (3, .ref q1)]) (pc := 60) hx hb dX6_adds_60 hl (k := 4) rfl (by rw [← z_sT]; rfl) (by decide) rfl (fun ls hl => ?_)
            refine lv_goto (tgt := 14) (pc := 63) hx hb dX6_adds_63 (by decide) ?_
            refine ih (k + 1) (va_up f k (some (g_B (k - 1)))) H locs ls (by omega) (by omega) (fun i hi => ?_) Z (lv_sub hl [1, 2, 3, 4, 0] rfl)
            unfold va_up
            by_cases e : i = k
            · subst e
              rw [if_pos rfl]
              unfold zins
              rw [if_neg (by omega), if_neg hne]
            · rw [if_neg e]; exact hfk i (by omega)
          · have hq : k = ka := (z_eqN (by omega) (by omega)).mp c7
            refine lv_aload_n (pc := 46) hx hb dX6_adds_46 rfl (lv_at hl 2 rfl) ?_
            refine lv_goto (tgt := 59) (pc := 47) hx hb dX6_adds_47 (by decide) ?_
            refine zu_astq (L' := [[(a_B, .inr (6, [.int B_height, .int B_room, .int B_account, .ref c_B, .ref l_B]))], [(c_B, .inl (cA 0, 5, .inl B_costs))], [(l_B, .inl (cA 4, B_n, .inr (.inr (.inr (.inr (fun i => some (g_B i)))))))], (zLs g_B B_n B_v), [zLot a_M w_], [(q1, .inl (cA 4, (B_n + 1), .inr (.inr (.inr (.inr (va_up f (Int32.ofNat k).toNatClampNeg (some a_M)))))))]]) (pc := 59) hx hb Z 5 4 4 0 7 rfl rfl rfl rfl rfl hki dX6_adds_59 rfl (fun H locs Z => ?_)
            rw [ek] at Z
            replace Z : zw D (zTY cA) s A (zU [[(a_B, .inr (6, [.int B_height, .int B_room, .int B_account, .ref c_B, .ref l_B]))], [(c_B, .inl (cA 0, 5, .inl B_costs))], [(l_B, .inl (cA 4, B_n, .inr (.inr (.inr (.inr (fun i => some (g_B i)))))))], (zLs g_B B_n B_v), [zLot a_M w_], [(q1, .inl (cA 4, (B_n + 1), .inr (.inr (.inr (.inr (va_up f k (some a_M)))))))]]) H locs := Z
            refine lv_iinc (v := Int32.ofNat (k + 1)) (lv' := [(4, .int (Int32.ofNat (k + 1))), (0, .ref a_B), (1, .int (Int32.ofNat ka)), (2, .ref a_M), (3, .ref q1)]) (pc := 60) hx hb dX6_adds_60 hl (k := 4) rfl (by rw [← z_sT]; rfl) (by decide) rfl (fun ls hl => ?_)
            refine lv_goto (tgt := 14) (pc := 63) hx hb dX6_adds_63 (by decide) ?_
            refine ih (k + 1) (va_up f k (some a_M)) H locs ls (by omega) (by omega) (fun i hi => ?_) Z (lv_sub hl [1, 2, 3, 4, 0] rfl)
            unfold va_up
            by_cases e : i = k
            · subst e
              rw [if_pos rfl]
              unfold zins
              rw [if_neg (by omega), if_pos hq]
            · rw [if_neg e]; exact hfk i (by omega)
        · have hlt : k < ka := by have := mt (z_leN (by omega) (by omega)).mpr c8; omega
          refine lv_aload_n (pc := 30) hx hb dX6_adds_30 rfl (lv_at hl 0 rfl) ?_
          refine zu_get (ref := "LotSheetLaw$Bill") (ci := 6) (C := RX6) (T := TX6) (N := 5) (pc := 31) hx hb hts iw_X6_adds_X6 hown Z 0 rfl rfl 4 (by decide) (List.mem_of_getElem? (i := 1) rfl) rfl rfl dX6_adds_31 ?_
          refine lv_iload (pc := 34) hx hb dX6_adds_34 (lv_at hl 4 rfl) ?_
          refine zu_aald (b := g_B k) (pc := 36) hx hb Z 2 4 rfl rfl rfl (z_inK (by omega) (by omega)) (by rw [ek]; rfl) dX6_adds_36 ?_
          refine lv_goto (tgt := 59) (pc := 37) hx hb dX6_adds_37 (by decide) ?_
          refine zu_astq (L' := [[(a_B, .inr (6, [.int B_height, .int B_room, .int B_account, .ref c_B, .ref l_B]))], [(c_B, .inl (cA 0, 5, .inl B_costs))], [(l_B, .inl (cA 4, B_n, .inr (.inr (.inr (.inr (fun i => some (g_B i)))))))], (zLs g_B B_n B_v), [zLot a_M w_], [(q1, .inl (cA 4, (B_n + 1), .inr (.inr (.inr (.inr (va_up f (Int32.ofNat k).toNatClampNeg (some (g_B k))))))))]]) (pc := 59) hx hb Z 5 4 3 k 7 rfl rfl rfl (zLs_at (by omega)) rfl hki dX6_adds_59 rfl (fun H locs Z => ?_)
          rw [ek] at Z
          replace Z : zw D (zTY cA) s A (zU [[(a_B, .inr (6, [.int B_height, .int B_room, .int B_account, .ref c_B, .ref l_B]))], [(c_B, .inl (cA 0, 5, .inl B_costs))], [(l_B, .inl (cA 4, B_n, .inr (.inr (.inr (.inr (fun i => some (g_B i)))))))], (zLs g_B B_n B_v), [zLot a_M w_], [(q1, .inl (cA 4, (B_n + 1), .inr (.inr (.inr (.inr (va_up f k (some (g_B k))))))))]]) H locs := Z
          refine lv_iinc (v := Int32.ofNat (k + 1)) (lv' := [(4, .int (Int32.ofNat (k + 1))), (0, .ref a_B), (1, .int (Int32.ofNat ka)), (2, .ref a_M), (3, .ref q1)]) (pc := 60) hx hb dX6_adds_60 hl (k := 4) rfl (by rw [← z_sT]; rfl) (by decide) rfl (fun ls hl => ?_)
          refine lv_goto (tgt := 14) (pc := 63) hx hb dX6_adds_63 (by decide) ?_
          refine ih (k + 1) (va_up f k (some (g_B k))) H locs ls (by omega) (by omega) (fun i hi => ?_) Z (lv_sub hl [1, 2, 3, 4, 0] rfl)
          unfold va_up
          by_cases e : i = k
          · subst e
            rw [if_pos rfl]
            unfold zins
            rw [if_pos hlt]
          · rw [if_neg e]; exact hfk i (by omega)
  exact key (B_n + 2) 0 (fun _ => none) H locs ls (by omega) (Nat.zero_le _) (fun i hi => absurd hi (Nat.not_lt_zero i)) (zu_sub Z [0, 1, 2, 3, 4, 5] rfl (by decide)) (lv_sub hl [2, 3, 4, 1, 0] rfl)
theorem kX6_adds (l : Launch) (D : va_G) (cA : Nat → ClassId) (a_B : Nat) (c_B : Nat) (l_B : Nat) (g_B : Nat → Nat) (a_M : Nat) (p1 : Int32) (B_height : Int32) (B_room : Int32) (B_account : Int32) (B_costs : Nat → Int32) (B_n : Nat) (B_v : Nat → ZL) (w_ : ZL) (u : Nat × (Nat → ZL)) (hf : fX6_adds p1 B_n B_v w_ = some u) : zG zJ l yX6_adds wsX6_adds ({ frames := 1, cells := 1, slots := 16, locals := 20 } : Room) D (zTY cA) [.ref a_B, .int p1, .ref a_M] (zU [[(a_B, .inr (6, [.int B_height, .int B_room, .int B_account, .ref c_B, .ref l_B]))], [(c_B, .inl (cA 0, 5, .inl B_costs))], [(l_B, .inl (cA 4, B_n, .inr (.inr (.inr (.inr (fun i => some (g_B i)))))))], (zLs g_B B_n B_v), [zLot a_M w_]]) (fun v _ => v = none) (fun h9 => zU [[(a_B, .inr (6, [.int B_height, .int B_room, .int B_account, .ref c_B, .ref (h9 0)]))], [(c_B, .inl (cA 0, 5, .inl B_costs))], [((h9 0), .inl (cA 4, u.1, .inr (.inr (.inr (.inr (fun i => some (zins g_B p1.toNatClampNeg a_M i)))))))], (zLs (zins g_B p1.toNatClampNeg a_M) u.1 u.2)]) := by
  obtain ⟨⟨h1, h2, h3⟩, hf⟩ := o_asE hf
  cases hf
  have key := kX6_addsK l D cA a_B c_B l_B g_B a_M p1.toNatClampNeg B_height B_room B_account B_costs B_n B_v w_ h2 h3
  rw [← zcl_ofN h1] at key
  exact key
theorem zadds_lt {p1 : Int32} {n n2 : Nat} {v v2 : Nat → ZL} {w : ZL} (h : fX6_adds p1 n v w = some (n2, v2)) : p1.toNatClampNeg < n2 := by
  obtain ⟨⟨h1, h2, h3⟩, hf⟩ := o_asE h
  cases hf
  omega
theorem zins_at {α : Type} {f : Nat → α} {k : Nat} {x : α} : zins f k x k = x := by
  unfold zins
  rw [if_neg (Nat.lt_irrefl k), if_pos rfl]
