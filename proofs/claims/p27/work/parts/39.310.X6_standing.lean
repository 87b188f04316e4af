def fX6_standing_L2 (B_n : Nat) (m_p1 : Nat) (p1_f : Nat → Int32) (p2 : Int32) (B_v : Nat → ZL) (j41_2 : Int32 → Option (Int32)) : Nat → Int32 → Option (Int32)
  | 0, _ => none
  | n0 + 1, x4 => (if (Int32.ofNat B_n) ≤ x4 then some ((-1 : Int32)) else o_rd m_p1 x4 ((if (p1_f x4.toNatClampNeg) < 0 then o_let (x4 + (1 : Int32)) (fun x8 => (fX6_standing_L2 B_n m_p1 p1_f p2 B_v j41_2 n0 x8)) else o_rd m_p1 x4 ((if p2 < (p1_f x4.toNatClampNeg) then o_let (x4 + (1 : Int32)) (fun x11 => (fX6_standing_L2 B_n m_p1 p1_f p2 B_v j41_2 n0 x11)) else o_rd m_p1 x4 (o_rd B_n x4 ((if ((p1_f x4.toNatClampNeg) + ((B_v x4.toNatClampNeg).1)) ≤ p2 then o_let (x4 + (1 : Int32)) (fun x15 => (fX6_standing_L2 B_n m_p1 p1_f p2 B_v j41_2 n0 x15)) else (j41_2 x4)))))))))
def fX6_standing (p2 : Int32) (B_n : Nat) (B_v : Nat → ZL) (m_p1 : Nat) (p1_f : Nat → Int32) : Option (Int32) := o_let (fun (x1 : Int32) => o_rd m_p1 x1 (some (((((10 : Int32) * x1) + p2) - (p1_f x1.toNatClampNeg))))) (fun (j41_2 : Int32 → Option (Int32)) => (fX6_standing_L2 B_n m_p1 p1_f p2 B_v j41_2 1024 (0 : Int32)))
theorem iw_X6_standing_X6 : ∀ w ∈ u_ws RX6 TX6 5, w ∈ wsX6_standing := z_inr [3, 4, 5, 6, 7] rfl
theorem iw_X6_standing_X7 : ∀ w ∈ u_ws RX7 TX7 6, w ∈ wsX6_standing := z_inr [8, 9, 10, 11, 12, 13] rfl
set_option maxHeartbeats 8000000 in
set_option maxRecDepth 100000 in
theorem kX6_standing (l : Launch) (D : va_G) (cA : Nat → ClassId) (a_B : Nat) (c_B : Nat) (l_B : Nat) (g_B : Nat → Nat) (a_p1 : Nat) (p2 : Int32) (B_height : Int32) (B_room : Int32) (B_account : Int32) (B_costs : Nat → Int32) (B_n : Nat) (B_v : Nat → ZL) (m_p1 : Nat) (p1_f : Nat → Int32) (u : Int32) (hf : fX6_standing p2 B_n B_v m_p1 p1_f = some u) : zG zJ l yX6_standing wsX6_standing ({ frames := 0, cells := 0, slots := 0, locals := 0 } : Room) D (zTY cA) [.ref a_B, .ref a_p1, .int p2] (zU [[(a_B, .inr (6, [.int B_height, .int B_room, .int B_account, .ref c_B, .ref l_B]))], [(c_B, .inl (cA 0, 5, .inl B_costs))], [(l_B, .inl (cA 4, B_n, .inr (.inr (.inr (.inr (fun i => some (g_B i)))))))], (zLs g_B B_n B_v), [(a_p1, .inl (cA 0, m_p1, .inl p1_f))]]) (fun v _ => v = some (.int u)) (fun h9 => zU [[(a_B, .inr (6, [.int B_height, .int B_room, .int B_account, .ref c_B, .ref l_B]))], [(c_B, .inl (cA 0, 5, .inl B_costs))], [(l_B, .inl (cA 4, B_n, .inr (.inr (.inr (.inr (fun i => some (g_B i)))))))], (zLs g_B B_n B_v), [(a_p1, .inl (cA 0, m_p1, .inl p1_f))]]) := by
  refine z_startG (cc := cX6_standing) (maxL := 4) (ret := (some .int)) (by decide) rfl (Nat.le_of_ble_eq_true rfl) ?_
  intro p e s m args below meth c A hx hb hr hts hown hlocks hml hA hmn hJ Z ls hl
  replace hown : s.vm.findClass RX6 = some m.cls := hown
  replace hl : lv_has ls 4 [(0, .ref a_B), (1, .ref a_p1), (2, .int p2)] := hl
  obtain ⟨Q9, hQ9⟩ : ∃ Q9 : State → Prop, Q9 = MQ below (zQG D (zTY cA) A (fun v _ => v = some (.int u)) (fun h9 => zU [[(a_B, .inr (6, [.int B_height, .int B_room, .int B_account, .ref c_B, .ref l_B]))], [(c_B, .inl (cA 0, 5, .inl B_costs))], [(l_B, .inl (cA 4, B_n, .inr (.inr (.inr (.inr (fun i => some (g_B i)))))))], (zLs g_B B_n B_v), [(a_p1, .inl (cA 0, m_p1, .inl p1_f))]])) args s 0 0 A := ⟨_, rfl⟩
  show W p l e ({ frames := 0, cells := 0, slots := 0, locals := 0 } : Room) s m args below meth c s.heap [] 0 0 (MQ below (zQG D (zTY cA) A (fun v _ => v = some (.int u)) (fun h9 => zU [[(a_B, .inr (6, [.int B_height, .int B_room, .int B_account, .ref c_B, .ref l_B]))], [(c_B, .inl (cA 0, 5, .inl B_costs))], [(l_B, .inl (cA 4, B_n, .inr (.inr (.inr (.inr (fun i => some (g_B i)))))))], (zLs g_B B_n B_v), [(a_p1, .inl (cA 0, m_p1, .inl p1_f))]])) args s 0 0 A) (F0 m 0 ls [])
  rw [← hQ9]
  obtain ⟨H, hH⟩ : ∃ H, H = s.heap := ⟨_, rfl⟩
  rw [← hH] at Z ⊢
  clear hH
  obtain ⟨locs, hlc⟩ : ∃ q : List Loc, q = [] := ⟨_, rfl⟩
  rw [← hlc] at Z ⊢
  clear hlc
  refine lv_iconst (v := (0 : Int32)) (pc := 0) hx hb dX6_standing_0 (by decide) ?_
  refine lv_istore_n (lv' := [(3, .int (0 : Int32)), (0, .ref a_B), (1, .ref a_p1), (2, .int p2)]) (pc := 1) hx hb dX6_standing_1 rfl hl (by decide) rfl (fun ls hl => ?_)
  obtain ⟨j41_2, ej41_2, hf⟩ := o_jnE hf
  have hj41_2 : ∀ (x1 : Int32) (H : Heap) (locs : List Loc) (ls : Array Slot), zw D (zTY cA) s A (zU [[(a_B, .inr (6, [.int B_height, .int B_room, .int B_account, .ref c_B, .ref l_B]))], [(c_B, .inl (cA 0, 5, .inl B_costs))], [(l_B, .inl (cA 4, B_n, .inr (.inr (.inr (.inr (fun i => some (g_B i)))))))], (zLs g_B B_n B_v), [(a_p1, .inl (cA 0, m_p1, .inl p1_f))]]) H locs → lv_has ls 4 [(1, .ref a_p1), (2, .int p2), (3, .int x1)] → j41_2 x1 = some u → W p l e ({ frames := 0, cells := 0, slots := 0, locals := 0 } : Room) s m args below meth c H locs 0 0 Q9 (F0 m 41 ls []) := by
    intro x1 H locs ls Z hl hf
    rw [ej41_2] at hf
    refine lv_bipush (v := (10 : Int32)) (pc := 41) hx hb dX6_standing_41 (by decide) ?_
    refine lv_iload_n (pc := 43) hx hb dX6_standing_43 rfl (lv_at hl 2 rfl) ?_
    refine lv_imul (pc := 44) hx hb dX6_standing_44 ?_
    refine lv_iload_n (pc := 45) hx hb dX6_standing_45 rfl (lv_at hl 1 rfl) ?_
    refine lv_iadd (pc := 46) hx hb dX6_standing_46 ?_
    refine lv_aload_n (pc := 47) hx hb dX6_standing_47 rfl (lv_at hl 0 rfl) ?_
    refine lv_iload_n (pc := 48) hx hb dX6_standing_48 rfl (lv_at hl 2 rfl) ?_
    obtain ⟨i3, hf⟩ := o_rdE hf
    refine zu_iald (pc := 49) hx hb Z 4 0 rfl rfl i3 dX6_standing_49 ?_
    refine lv_isub (pc := 50) hx hb dX6_standing_50 ?_
    cases hf
    rw [hQ9]
    exact zg_iret (pc := 51) (L' := [[(a_B, .inr (6, [.int B_height, .int B_room, .int B_account, .ref c_B, .ref l_B]))], [(c_B, .inl (cA 0, 5, .inl B_costs))], [(l_B, .inl (cA 4, B_n, .inr (.inr (.inr (.inr (fun i => some (g_B i)))))))], (zLs g_B B_n B_v), [(a_p1, .inl (cA 0, m_p1, .inl p1_f))]]) (fun _ => 0) (by show 0 ≤ 0; omega) (by show 0 ≤ 0; omega) hx hb hr hlocks Z [0, 1, 2, 3, 4] rfl (by decide) rfl rfl dX6_standing_51
  have hL2 : ∀ (n0 : Nat) (x4 : Int32) (H : Heap) (locs : List Loc) (ls : Array Slot), zw D (zTY cA) s A (zU [[(a_B, .inr (6, [.int B_height, .int B_room, .int B_account, .ref c_B, .ref l_B]))], [(c_B, .inl (cA 0, 5, .inl B_costs))], [(l_B, .inl (cA 4, B_n, .inr (.inr (.inr (.inr (fun i => some (g_B i)))))))], (zLs g_B B_n B_v), [(a_p1, .inl (cA 0, m_p1, .inl p1_f))]]) H locs → lv_has ls 4 [(0, .ref a_B), (1, .ref a_p1), (2, .int p2), (3, .int x4)] → fX6_standing_L2 B_n m_p1 p1_f p2 B_v j41_2 n0 x4 = some u → W p l e ({ frames := 0, cells := 0, slots := 0, locals := 0 } : Room) s m args below meth c H locs 0 0 Q9 (F0 m 2 ls []) := by
    intro n0
    induction n0 with
    | zero => intro x4 H locs ls Z hl hf; exact o_no hf
    | succ n0 ih0 =>
      intro x4 H locs ls Z hl hf
      refine lv_iload_n (pc := 2) hx hb dX6_standing_2 rfl (lv_at hl 3 rfl) ?_
      refine lv_aload_n (pc := 3) hx hb dX6_standing_3 rfl (lv_at hl 0 rfl) ?_
      refine zu_get (ref := "LotSheetLaw$Bill") (ci := 6) (C := RX6) (T := TX6) (N := 5) (pc := 4) hx hb hts iw_X6_standing_X6 hown Z 0 rfl rfl 4 (by decide) (List.mem_of_getElem? (i := 1) rfl) rfl rfl dX6_standing_4 ?_
      refine zu_alen (v := (Int32.ofNat B_n)) (pc := 7) hx hb Z 2 4 rfl rfl rfl dX6_standing_7 ?_
      refine lv_icmp_ge (tgt := 58) (pc := 8) hx hb dX6_standing_8 (by decide) (fun c5 => ?_) (fun c5 => ?_)
      · replace hf := o_pos c5 hf
        refine lv_iconst (v := (-1 : Int32)) (pc := 58) hx hb dX6_standing_58 (by decide) ?_
        cases hf
        rw [hQ9]
        exact zg_iret (pc := 59) (L' := [[(a_B, .inr (6, [.int B_height, .int B_room, .int B_account, .ref c_B, .ref l_B]))], [(c_B, .inl (cA 0, 5, .inl B_costs))], [(l_B, .inl (cA 4, B_n, .inr (.inr (.inr (.inr (fun i => some (g_B i)))))))], (zLs g_B B_n B_v), [(a_p1, .inl (cA 0, m_p1, .inl p1_f))]]) (fun _ => 0) (by show 0 ≤ 0; omega) (by show 0 ≤ 0; omega) hx hb hr hlocks Z [0, 1, 2, 3, 4] rfl (by decide) rfl rfl dX6_standing_59
      · replace hf := o_neg c5 hf
        refine lv_aload_n (pc := 11) hx hb dX6_standing_11 rfl (lv_at hl 1 rfl) ?_
        refine lv_iload_n (pc := 12) hx hb dX6_standing_12 rfl (lv_at hl 3 rfl) ?_
        obtain ⟨i6, hf⟩ := o_rdE hf
        refine zu_iald (pc := 13) hx hb Z 4 0 rfl rfl i6 dX6_standing_13 ?_
        refine lv_if_lt (tgt := 52) (pc := 14) hx hb dX6_standing_14 (by decide) (fun c7 => ?_) (fun c7 => ?_)
        · replace hf := o_pos c7 hf
          obtain ⟨x8, ex8⟩ : ∃ y : Int32, y = (x4 + (1 : Int32)) := ⟨_, rfl⟩
          replace hf := o_letE ex8 hf
          refine lv_iinc (v := x8) (lv' := [(3, .int x8), (0, .ref a_B), (1, .ref a_p1), (2, .int p2)]) (pc := 52) hx hb dX6_standing_52 hl (k := 3) rfl (by rw [ex8]; rfl) (by decide) rfl (fun ls hl => ?_)
          refine lv_goto (tgt := 2) (pc := 55) hx hb dX6_standing_55 (by decide) ?_
          exact ih0 x8 H locs ls Z (lv_sub hl [1, 2, 3, 0] rfl) hf
        · replace hf := o_neg c7 hf
          refine lv_iload_n (pc := 17) hx hb dX6_standing_17 rfl (lv_at hl 2 rfl) ?_
          refine lv_aload_n (pc := 18) hx hb dX6_standing_18 rfl (lv_at hl 1 rfl) ?_
          refine lv_iload_n (pc := 19) hx hb dX6_standing_19 rfl (lv_at hl 3 rfl) ?_
          obtain ⟨i9, hf⟩ := o_rdE hf
          refine zu_iald (pc := 20) hx hb Z 4 0 rfl rfl i9 dX6_standing_20 ?_
          refine lv_icmp_lt (tgt := 52) (pc := 21) hx hb dX6_standing_21 (by decide) (fun c10 => ?_) (fun c10 => ?_)
          · replace hf := o_pos c10 hf
            obtain ⟨x11, ex11⟩ : ∃ y : Int32, y = (x4 + (1 : Int32)) := ⟨_, rfl⟩
            replace hf := o_letE ex11 hf
            refine lv_iinc (v := x11) (lv' := [(3, .int x11), (0, .ref a_B), (1, .ref a_p1), (2, .int p2)]) (pc := 52) hx hb dX6_standing_52 hl (k := 3) rfl (by rw [ex11]; rfl) (by decide) rfl (fun ls hl => ?_)
            refine lv_goto (tgt := 2) (pc := 55) hx hb dX6_standing_55 (by decide) ?_
            exact ih0 x11 H locs ls Z (lv_sub hl [1, 2, 3, 0] rfl) hf
          · replace hf := o_neg c10 hf
            refine lv_iload_n (pc := 24) hx hb dX6_standing_24 rfl (lv_at hl 2 rfl) ?_
            refine lv_aload_n (pc := 25) hx hb dX6_standing_25 rfl (lv_at hl 1 rfl) ?_
            refine lv_iload_n (pc := 26) hx hb dX6_standing_26 rfl (lv_at hl 3 rfl) ?_
            obtain ⟨i12, hf⟩ := o_rdE hf
            refine zu_iald (pc := 27) hx hb Z 4 0 rfl rfl i12 dX6_standing_27 ?_
            refine lv_aload_n (pc := 28) hx hb dX6_standing_28 rfl (lv_at hl 0 rfl) ?_
            refine zu_get (ref := "LotSheetLaw$Bill") (ci := 6) (C := RX6) (T := TX6) (N := 5) (pc := 29) hx hb hts iw_X6_standing_X6 hown Z 0 rfl rfl 4 (by decide) (List.mem_of_getElem? (i := 1) rfl) rfl rfl dX6_standing_29 ?_
            refine lv_iload_n (pc := 32) hx hb dX6_standing_32 rfl (lv_at hl 3 rfl) ?_
            obtain ⟨i13, hf⟩ := o_rdE hf
            refine zu_aald (b := g_B x4.toNatClampNeg) (pc := 33) hx hb Z 2 4 rfl rfl rfl i13 rfl dX6_standing_33 ?_
            refine zu_getL (ref := "LotSheetLaw$Lot") (pc := 34) hx hb hts iw_X6_standing_X7 hown Z 3 rfl (Nat.not_le.mp fun q => i13 (Or.inr q)) rfl 0 (by decide) (List.mem_of_getElem? (i := 2) rfl) rfl rfl dX6_standing_34 ?_
            refine lv_iadd (pc := 37) hx hb dX6_standing_37 ?_
            refine lv_icmp_ge (tgt := 52) (pc := 38) hx hb dX6_standing_38 (by decide) (fun c14 => ?_) (fun c14 => ?_)
            · replace hf := o_pos c14 hf
              obtain ⟨x15, ex15⟩ : ∃ y : Int32, y = (x4 + (1 : Int32)) := ⟨_, rfl⟩
              replace hf := o_letE ex15 hf
              refine lv_iinc (v := x15) (lv' := [(3, .int x15), (0, .ref a_B), (1, .ref a_p1), (2, .int p2)]) (pc := 52) hx hb dX6_standing_52 hl (k := 3) rfl (by rw [ex15]; rfl) (by decide) rfl (fun ls hl => ?_)
              refine lv_goto (tgt := 2) (pc := 55) hx hb dX6_standing_55 (by decide) ?_
              exact ih0 x15 H locs ls Z (lv_sub hl [1, 2, 3, 0] rfl) hf
            · replace hf := o_neg c14 hf
              exact hj41_2 x4 H locs ls Z (lv_sub hl [1, 2, 3] rfl) hf
  exact hL2 1024 (0 : Int32) H locs ls Z (lv_sub hl [1, 2, 3, 0] rfl) hf
