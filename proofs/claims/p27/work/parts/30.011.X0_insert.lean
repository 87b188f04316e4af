def W_X0_insert (cA : Nat → ClassId) (h : Nat → Nat) (b_height : Int32) (b_count : Int32) (b_room : Int32) (b_account : Int32) (b_lines : Nat → Int32) (b_estimates : Nat → Int32) (b_sellers : Nat → Int32) (b_printed : Nat → Int32) (b_wanted : Nat → Int32) (b_slipped : Nat → Int32) : va_W := [(h 0, .inr (0, [.int b_height, .int b_count, .int b_room, .int b_account, .ref (h 1), .ref (h 2), .ref (h 3), .ref (h 4), .ref (h 5), .ref (h 6), .ref (h 7)])), (h 2, .inl (cA 0, 24, .inl b_lines)), (h 3, .inl (cA 0, 24, .inl b_estimates)), (h 4, .inl (cA 0, 24, .inl b_sellers)), (h 5, .inl (cA 1, 24, .inl b_printed)), (h 6, .inl (cA 1, 24, .inl b_wanted)), (h 7, .inl (cA 1, 24, .inl b_slipped))]
def fX0_insert_L28 (p1 : Int32) (j48_10 : (Nat → Int32) → (Nat → Int32) → (Nat → Int32) → (Nat → Int32) → (Nat → Int32) → (Nat → Int32) → Option (Int32 × (Nat → Int32) × (Nat → Int32) × (Nat → Int32) × (Nat → Int32) × (Nat → Int32) × (Nat → Int32))) : Nat → Int32 → (Nat → Int32) → (Nat → Int32) → (Nat → Int32) → (Nat → Int32) → (Nat → Int32) → (Nat → Int32) → Option (Int32 × (Nat → Int32) × (Nat → Int32) × (Nat → Int32) × (Nat → Int32) × (Nat → Int32) × (Nat → Int32))
  | 0, _, _, _, _, _, _, _ => none
  | n0 + 1, x24, a25, a26, a27, a28, a29, a30 => (if x24 ≤ p1 then (j48_10 a25 a26 a27 a28 a29 a30) else o_bind (fX0_moveOneFurther (x24 - (1 : Int32)) a25 a26 a27 a28 a29 a30) (fun (a32, a33, a34, a35, a36, a37) => o_let (x24 + (-1 : Int32)) (fun x39 => (fX0_insert_L28 p1 j48_10 n0 x39 a32 a33 a34 a35 a36 a37))))
def fX0_insert (p1 : Int32) (p2 : Int32) (p3 : Int32) (p4 : Int32) (b_count : Int32) (b_lines : Nat → Int32) (b_estimates : Nat → Int32) (b_sellers : Nat → Int32) (b_printed : Nat → Int32) (b_wanted : Nat → Int32) (b_slipped : Nat → Int32) : Option (Int32 × (Nat → Int32) × (Nat → Int32) × (Nat → Int32) × (Nat → Int32) × (Nat → Int32) × (Nat → Int32)) := (if (24 : Int32) ≤ b_count then some (b_count, b_lines, b_estimates, b_sellers, b_printed, b_wanted, b_slipped) else (if p1 < 0 then some (b_count, b_lines, b_estimates, b_sellers, b_printed, b_wanted, b_slipped) else (if p1 ≤ b_count then o_let (fun (a4 : Nat → Int32) (a5 : Nat → Int32) (a6 : Nat → Int32) (a7 : Nat → Int32) (a8 : Nat → Int32) (a9 : Nat → Int32) => o_rd 24 p1 (o_let (upd a4 p1.toNatClampNeg p2) (fun a12 => o_rd 24 p1 (o_let (upd a5 p1.toNatClampNeg p3) (fun a14 => o_rd 24 p1 (o_let (upd a6 p1.toNatClampNeg p4) (fun a16 => o_rd 24 p1 (o_let (upd a7 p1.toNatClampNeg (vp_nar .boolean (0 : Int32))) (fun a18 => o_rd 24 p1 (o_let (upd a8 p1.toNatClampNeg (vp_nar .boolean (0 : Int32))) (fun a20 => o_rd 24 p1 (o_let (upd a9 p1.toNatClampNeg (vp_nar .boolean (0 : Int32))) (fun a22 => o_let (b_count + (1 : Int32)) (fun x23 => some (x23, a12, a14, a16, a18, a20, a22))))))))))))))) (fun (j48_10 : (Nat → Int32) → (Nat → Int32) → (Nat → Int32) → (Nat → Int32) → (Nat → Int32) → (Nat → Int32) → Option (Int32 × (Nat → Int32) × (Nat → Int32) × (Nat → Int32) × (Nat → Int32) × (Nat → Int32) × (Nat → Int32))) => (fX0_insert_L28 p1 j48_10 1024 b_count b_lines b_estimates b_sellers b_printed b_wanted b_slipped)) else some (b_count, b_lines, b_estimates, b_sellers, b_printed, b_wanted, b_slipped))))
theorem iw_X0_insert_X0 : ∀ w ∈ u_ws RX0 TX0 11, w ∈ wsX0_insert := z_inr [13, 14, 15, 16, 17, 18, 19, 20, 21, 22, 23] rfl
set_option maxHeartbeats 4000000 in
set_option maxRecDepth 100000 in
theorem kX0_insert (l : Launch) (D : va_G) (cA : Nat → ClassId) (h : Nat → Nat) (p1 : Int32) (p2 : Int32) (p3 : Int32) (p4 : Int32) (b_height : Int32) (b_count : Int32) (b_room : Int32) (b_account : Int32) (b_lines : Nat → Int32) (b_estimates : Nat → Int32) (b_sellers : Nat → Int32) (b_printed : Nat → Int32) (b_wanted : Nat → Int32) (b_slipped : Nat → Int32) (u : Int32 × (Nat → Int32) × (Nat → Int32) × (Nat → Int32) × (Nat → Int32) × (Nat → Int32) × (Nat → Int32)) (hf : fX0_insert p1 p2 p3 p4 b_count b_lines b_estimates b_sellers b_printed b_wanted b_slipped = some u) : zMv l yX0_insert wsX0_insert ({ frames := 1, cells := 0, slots := 0, locals := 21 } : Room) D (zTY cA) [.ref (h 0), .int p1, .int p2, .int p3, .int p4] (W_X0_insert cA h b_height b_count b_room b_account b_lines b_estimates b_sellers b_printed b_wanted b_slipped) (W_X0_insert cA h b_height (u.1) b_room b_account (u.2.1) (u.2.2.1) (u.2.2.2.1) (u.2.2.2.2.1) (u.2.2.2.2.2.1) (u.2.2.2.2.2.2)) := by
  refine z_startv (cc := cX0_insert) (maxL := 6) (ret := none) (by decide) rfl (Nat.le_of_ble_eq_true rfl) ?_
  intro p e s m args below meth c A hx hb hr hts hown hlocks hml hA Z ls hl
  replace hown : s.vm.findClass RX0 = some m.cls := hown
  replace hl : lv_has ls 6 [(0, .ref (h 0)), (1, .int p1), (2, .int p2), (3, .int p3), (4, .int p4)] := hl
  obtain ⟨H, hH⟩ : ∃ H, H = s.heap := ⟨_, rfl⟩
  rw [← hH] at Z ⊢
  clear hH
  obtain ⟨locs, hlc⟩ : ∃ q : List Loc, q = [] := ⟨_, rfl⟩
  rw [← hlc] at Z ⊢
  clear hlc
  refine lv_aload_n (pc := 0) hx hb dX0_insert_0 rfl (lv_at hl 0 rfl) ?_
  refine z_get (pc := 1) (ref := "LotSheet$Bill") (ci := 0) (C := RX0) (T := TX0) (N := 11) hx hb hts iw_X0_insert_X0 hown Z 0 rfl rfl 1 (by decide) (List.mem_of_getElem? (i := 1) rfl) rfl rfl dX0_insert_1 ?_
  refine lv_bipush (pc := 4) (v := (24 : Int32)) hx hb dX0_insert_4 (by decide) ?_
  refine lv_icmp_ge (pc := 6) (tgt := 21) hx hb dX0_insert_6 (by decide) (fun c1 => ?_) (fun c1 => ?_)
  · replace hf := o_pos c1 hf
    cases hf
    exact z_vret (pc := 21) hx hb hr hlocks Z rfl dX0_insert_21
  · replace hf := o_neg c1 hf
    refine lv_iload_n (pc := 9) hx hb dX0_insert_9 rfl (lv_at hl 1 rfl) ?_
    refine lv_if_lt (pc := 10) (tgt := 21) hx hb dX0_insert_10 (by decide) (fun c2 => ?_) (fun c2 => ?_)
    · replace hf := o_pos c2 hf
      cases hf
      exact z_vret (pc := 21) hx hb hr hlocks Z rfl dX0_insert_21
    · replace hf := o_neg c2 hf
      refine lv_iload_n (pc := 13) hx hb dX0_insert_13 rfl (lv_at hl 1 rfl) ?_
      refine lv_aload_n (pc := 14) hx hb dX0_insert_14 rfl (lv_at hl 0 rfl) ?_
      refine z_get (pc := 15) (ref := "LotSheet$Bill") (ci := 0) (C := RX0) (T := TX0) (N := 11) hx hb hts iw_X0_insert_X0 hown Z 0 rfl rfl 1 (by decide) (List.mem_of_getElem? (i := 1) rfl) rfl rfl dX0_insert_15 ?_
      refine lv_icmp_le (pc := 18) (tgt := 22) hx hb dX0_insert_18 (by decide) (fun c3 => ?_) (fun c3 => ?_)
      · replace hf := o_pos c3 hf
        refine lv_aload_n (pc := 22) hx hb dX0_insert_22 rfl (lv_at hl 0 rfl) ?_
        refine z_get (pc := 23) (ref := "LotSheet$Bill") (ci := 0) (C := RX0) (T := TX0) (N := 11) hx hb hts iw_X0_insert_X0 hown Z 0 rfl rfl 1 (by decide) (List.mem_of_getElem? (i := 1) rfl) rfl rfl dX0_insert_23 ?_
        refine lv_istore (pc := 26) (lv' := [(5, .int b_count), (0, .ref (h 0)), (1, .int p1), (2, .int p2), (3, .int p3), (4, .int p4)]) hx hb dX0_insert_26 hl (by decide) rfl (fun ls hl => ?_)
        obtain ⟨j48_10, ej48_10, hf⟩ := o_jnE hf
        have hj48_10 : ∀ (a4 : Nat → Int32) (a5 : Nat → Int32) (a6 : Nat → Int32) (a7 : Nat → Int32) (a8 : Nat → Int32) (a9 : Nat → Int32) (H : Heap) (locs : List Loc) (ls : Array Slot), zw D (zTY cA) s A (W_X0_insert cA h b_height b_count b_room b_account a4 a5 a6 a7 a8 a9) H locs → lv_has ls 6 [(0, .ref (h 0)), (1, .int p1), (2, .int p2), (3, .int p3), (4, .int p4)] → j48_10 a4 a5 a6 a7 a8 a9 = some u → W p l e ({ frames := 1, cells := 0, slots := 0, locals := 21 } : Room) s m args below meth c H locs 0 0 (MQ below (zQv D (zTY cA) A (W_X0_insert cA h b_height (u.1) b_room b_account (u.2.1) (u.2.2.1) (u.2.2.2.1) (u.2.2.2.2.1) (u.2.2.2.2.2.1) (u.2.2.2.2.2.2))) args s 0 0 A) (F0 m 48 ls []) := by
          intro a4 a5 a6 a7 a8 a9 H locs ls Z hl hf
          rw [ej48_10] at hf
          refine lv_aload_n (pc := 48) hx hb dX0_insert_48 rfl (lv_at hl 0 rfl) ?_
          refine z_get (pc := 49) (ref := "LotSheet$Bill") (ci := 0) (C := RX0) (T := TX0) (N := 11) hx hb hts iw_X0_insert_X0 hown Z 0 rfl rfl 5 (by decide) (List.mem_of_getElem? (i := 2) rfl) rfl rfl dX0_insert_49 ?_
          refine lv_iload_n (pc := 52) hx hb dX0_insert_52 rfl (lv_at hl 1 rfl) ?_
          refine lv_iload_n (pc := 53) hx hb dX0_insert_53 rfl (lv_at hl 2 rfl) ?_
          obtain ⟨i11, hf⟩ := o_rdE hf
          refine z_iast (pc := 54) hx hb Z 1 0 rfl rfl i11 dX0_insert_54 (fun g => (W_X0_insert cA h b_height b_count b_room b_account g a5 a6 a7 a8 a9)) (fun _ => rfl) (fun a12 H locs ea12 Z => ?_)
          replace hf := o_letE ea12 hf
          refine lv_aload_n (pc := 55) hx hb dX0_insert_55 rfl (lv_at hl 0 rfl) ?_
          refine z_get (pc := 56) (ref := "LotSheet$Bill") (ci := 0) (C := RX0) (T := TX0) (N := 11) hx hb hts iw_X0_insert_X0 hown Z 0 rfl rfl 6 (by decide) (List.mem_of_getElem? (i := 3) rfl) rfl rfl dX0_insert_56 ?_
          refine lv_iload_n (pc := 59) hx hb dX0_insert_59 rfl (lv_at hl 1 rfl) ?_
          refine lv_iload_n (pc := 60) hx hb dX0_insert_60 rfl (lv_at hl 3 rfl) ?_
          obtain ⟨i13, hf⟩ := o_rdE hf
          refine z_iast (pc := 61) hx hb Z 2 0 rfl rfl i13 dX0_insert_61 (fun g => (W_X0_insert cA h b_height b_count b_room b_account a12 g a6 a7 a8 a9)) (fun _ => rfl) (fun a14 H locs ea14 Z => ?_)
          replace hf := o_letE ea14 hf
          refine lv_aload_n (pc := 62) hx hb dX0_insert_62 rfl (lv_at hl 0 rfl) ?_
          refine z_get (pc := 63) (ref := "LotSheet$Bill") (ci := 0) (C := RX0) (T := TX0) (N := 11) hx hb hts iw_X0_insert_X0 hown Z 0 rfl rfl 7 (by decide) (List.mem_of_getElem? (i := 4) rfl) rfl rfl dX0_insert_63 ?_
          refine lv_iload_n (pc := 66) hx hb dX0_insert_66 rfl (lv_at hl 1 rfl) ?_
          refine lv_iload (pc := 67) hx hb dX0_insert_67 (lv_at hl 4 rfl) ?_
          obtain ⟨i15, hf⟩ := o_rdE hf
          refine z_iast (pc := 69) hx hb Z 3 0 rfl rfl i15 dX0_insert_69 (fun g => (W_X0_insert cA h b_height b_count b_room b_account a12 a14 g a7 a8 a9)) (fun _ => rfl) (fun a16 H locs ea16 Z => ?_)
          replace hf := o_letE ea16 hf
          refine lv_aload_n (pc := 70) hx hb dX0_insert_70 rfl (lv_at hl 0 rfl) ?_
          refine z_get (pc := 71) (ref := "LotSheet$Bill") (ci := 0) (C := RX0) (T := TX0) (N := 11) hx hb hts iw_X0_insert_X0 hown Z 0 rfl rfl 8 (by decide) (List.mem_of_getElem? (i := 5) rfl) rfl rfl dX0_insert_71 ?_
          refine lv_iload_n (pc := 74) hx hb dX0_insert_74 rfl (lv_at hl 1 rfl) ?_
          refine lv_iconst (pc := 75) (v := (0 : Int32)) hx hb dX0_insert_75 (by decide) ?_
          obtain ⟨i17, hf⟩ := o_rdE hf
          refine z_zast (pc := 76) hx hb Z 4 1 rfl rfl i17 dX0_insert_76 (fun g => (W_X0_insert cA h b_height b_count b_room b_account a12 a14 a16 g a8 a9)) (fun _ => rfl) (fun a18 H locs ea18 Z => ?_)
          replace hf := o_letE ea18 hf
          refine lv_aload_n (pc := 77) hx hb dX0_insert_77 rfl (lv_at hl 0 rfl) ?_
          refine z_get (pc := 78) (ref := "LotSheet$Bill") (ci := 0) (C := RX0) (T := TX0) (N := 11) hx hb hts iw_X0_insert_X0 hown Z 0 rfl rfl 9 (by decide) (List.mem_of_getElem? (i := 6) rfl) rfl rfl dX0_insert_78 ?_
          refine lv_iload_n (pc := 81) hx hb dX0_insert_81 rfl (lv_at hl 1 rfl) ?_
          refine lv_iconst (pc := 82) (v := (0 : Int32)) hx hb dX0_insert_82 (by decide) ?_
          obtain ⟨i19, hf⟩ := o_rdE hf
          refine z_zast (pc := 83) hx hb Z 5 1 rfl rfl i19 dX0_insert_83 (fun g => (W_X0_insert cA h b_height b_count b_room b_account a12 a14 a16 a18 g a9)) (fun _ => rfl) (fun a20 H locs ea20 Z => ?_)
          replace hf := o_letE ea20 hf
          refine lv_aload_n (pc := 84) hx hb dX0_insert_84 rfl (lv_at hl 0 rfl) ?_
          refine z_get (pc := 85) (ref := "LotSheet$Bill") (ci := 0) (C := RX0) (T := TX0) (N := 11) hx hb hts iw_X0_insert_X0 hown Z 0 rfl rfl 10 (by decide) (List.mem_of_getElem? (i := 7) rfl) rfl rfl dX0_insert_85 ?_
          refine lv_iload_n (pc := 88) hx hb dX0_insert_88 rfl (lv_at hl 1 rfl) ?_
          refine lv_iconst (pc := 89) (v := (0 : Int32)) hx hb dX0_insert_89 (by decide) ?_
          obtain ⟨i21, hf⟩ := o_rdE hf
          refine z_zast (pc := 90) hx hb Z 6 1 rfl rfl i21 dX0_insert_90 (fun g => (W_X0_insert cA h b_height b_count b_room b_account a12 a14 a16 a18 a20 g)) (fun _ => rfl) (fun a22 H locs ea22 Z => ?_)
          replace hf := o_letE ea22 hf
          refine lv_aload_n (pc := 91) hx hb dX0_insert_91 rfl (lv_at hl 0 rfl) ?_
          refine lv_dup (pc := 92) hx hb dX0_insert_92 rfl ?_
          refine z_get (pc := 93) (ref := "LotSheet$Bill") (ci := 0) (C := RX0) (T := TX0) (N := 11) hx hb hts iw_X0_insert_X0 hown Z 0 rfl rfl 1 (by decide) (List.mem_of_getElem? (i := 1) rfl) rfl rfl dX0_insert_93 ?_
          refine lv_iconst (pc := 96) (v := (1 : Int32)) hx hb dX0_insert_96 (by decide) ?_
          refine lv_iadd (pc := 97) hx hb dX0_insert_97 ?_
          refine lv_topi (fun x23 ex23 => ?_)
          replace hf := o_letE ex23 hf
          refine z_put (pc := 98) (ref := "LotSheet$Bill") (ci := 0) (C := RX0) (T := TX0) (N := 11) (W1 := (W_X0_insert cA h b_height x23 b_room b_account a12 a14 a16 a18 a20 a22)) hx hb hts iw_X0_insert_X0 tyX0 tyX0_ok nmX0 hown Z 0 rfl rfl 1 (by decide) (List.mem_of_getElem? (i := 1) rfl) rfl rfl rfl rfl (Nat.le_of_ble_eq_true rfl) dX0_insert_98 rfl (fun H locs Z => ?_)
          cases hf
          exact z_vret (pc := 101) hx hb hr hlocks Z rfl dX0_insert_101
        have hL28 : ∀ (n0 : Nat) (x24 : Int32) (a25 : Nat → Int32) (a26 : Nat → Int32) (a27 : Nat → Int32) (a28 : Nat → Int32) (a29 : Nat → Int32) (a30 : Nat → Int32) (H : Heap) (locs : List Loc) (ls : Array Slot), zw D (zTY cA) s A (W_X0_insert cA h b_height b_count b_room b_account a25 a26 a27 a28 a29 a30) H locs → lv_has ls 6 [(0, .ref (h 0)), (1, .int p1), (2, .int p2), (3, .int p3), (4, .int p4), (5, .int x24)] → fX0_insert_L28 p1 j48_10 n0 x24 a25 a26 a27 a28 a29 a30 = some u → W p l e ({ frames := 1, cells := 0, slots := 0, locals := 21 } : Room) s m args below meth c H locs 0 0 (MQ below (zQv D (zTY cA) A (W_X0_insert cA h b_height (u.1) b_room b_account (u.2.1) (u.2.2.1) (u.2.2.2.1) (u.2.2.2.2.1) (u.2.2.2.2.2.1) (u.2.2.2.2.2.2))) args s 0 0 A) (F0 m 28 ls []) := by
          intro n0
          induction n0 with
          | zero => intro x24 a25 a26 a27 a28 a29 a30 H locs ls Z hl hf; exact o_no hf
          | succ n0 ih0 =>
            intro x24 a25 a26 a27 a28 a29 a30 H locs ls Z hl hf
            refine lv_iload (pc := 28) hx hb dX0_insert_28 (lv_at hl 5 rfl) ?_
            refine lv_iload_n (pc := 30) hx hb dX0_insert_30 rfl (lv_at hl 1 rfl) ?_
            refine lv_icmp_le (pc := 31) (tgt := 48) hx hb dX0_insert_31 (by decide) (fun c31 => ?_) (fun c31 => ?_)
            · replace hf := o_pos c31 hf
              exact hj48_10 a25 a26 a27 a28 a29 a30 H locs ls Z (lv_sub hl [0, 1, 2, 3, 4] rfl) hf
            · replace hf := o_neg c31 hf
              refine lv_aload_n (pc := 34) hx hb dX0_insert_34 rfl (lv_at hl 0 rfl) ?_
              refine lv_iload (pc := 35) hx hb dX0_insert_35 (lv_at hl 5 rfl) ?_
              refine lv_iconst (pc := 37) (v := (1 : Int32)) hx hb dX0_insert_37 (by decide) ?_
              refine lv_isub (pc := 38) hx hb dX0_insert_38 ?_
              obtain ⟨⟨a32, a33, a34, a35, a36, a37⟩, q38, hf⟩ := o_bindE hf
              refine z_callVv (pc := 39) (As := [.int (x24 - (1 : Int32))]) (rest := []) (Wc := (W_X0_moveOneFurther cA (fun k => h ([0, 1, 2, 3, 4, 5, 6, 7].getD k 0)) b_height b_count b_room b_account a25 a26 a27 a28 a29 a30)) (W1 := (W_X0_moveOneFurther cA (fun k => h ([0, 1, 2, 3, 4, 5, 6, 7].getD k 0)) b_height b_count b_room b_account a32 a33 a34 a35 a36 a37)) (W2 := (W_X0_insert cA h b_height b_count b_room b_account a32 a33 a34 a35 a36 a37)) ⟨hx, hb, hml, hown, hts⟩ (kX0_moveOneFurther l D cA (fun k => h ([0, 1, 2, 3, 4, 5, 6, 7].getD k 0)) (x24 - (1 : Int32)) b_height b_count b_room b_account a25 a26 a27 a28 a29 a30 _ q38) (cwV 1 hts gX0_insert_X0_moveOneFurther rfl rfl rfl (by decide +kernel) ⟨Nat.le_of_ble_eq_true rfl, Nat.le_of_ble_eq_true rfl⟩) Z hA [0, 1, 2, 3, 4, 5, 6] rfl (by decide) rfl (ci := 0) rfl rfl rfl rfl hl.1 rfl (Nat.le_of_ble_eq_true rfl) dX0_insert_39 ⟨Nat.zero_le _, Nat.zero_le _⟩ [some 0, some 1, some 2, some 3, some 4, some 5, some 6] rfl ⟨rfl, rfl, rfl, rfl, rfl, rfl, rfl, rfl⟩ (fun H locs Z => ?_)
              obtain ⟨x39, ex39⟩ : ∃ y : Int32, y = (x24 + (-1 : Int32)) := ⟨_, rfl⟩
              replace hf := o_letE ex39 hf
              refine lv_iinc (pc := 42) (v := x39) (lv' := [(5, .int x39), (0, .ref (h 0)), (1, .int p1), (2, .int p2), (3, .int p3), (4, .int p4)]) hx hb dX0_insert_42 hl (k := 5) rfl (by rw [ex39]; rfl) (by decide) rfl (fun ls hl => ?_)
              refine lv_goto (pc := 45) (tgt := 28) hx hb dX0_insert_45 (by decide) ?_
              exact ih0 x39 a32 a33 a34 a35 a36 a37 H locs ls Z (lv_sub hl [1, 2, 3, 4, 5, 0] rfl) hf
        exact hL28 1024 b_count b_lines b_estimates b_sellers b_printed b_wanted b_slipped H locs ls Z (lv_sub hl [1, 2, 3, 4, 5, 0] rfl) hf
      · replace hf := o_neg c3 hf
        cases hf
        exact z_vret (pc := 21) hx hb hr hlocks Z rfl dX0_insert_21
