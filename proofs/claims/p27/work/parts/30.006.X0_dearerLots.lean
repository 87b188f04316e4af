def W_X0_dearerLots (cA : Nat → ClassId) (h : Nat → Nat) (b_height : Int32) (b_count : Int32) (b_room : Int32) (b_account : Int32) (b_estimates : Nat → Int32) (b_wanted : Nat → Int32) : va_W := [(h 0, .inr (0, [.int b_height, .int b_count, .int b_room, .int b_account, .ref (h 1), .ref (h 2), .ref (h 3), .ref (h 4), .ref (h 5), .ref (h 6), .ref (h 7)])), (h 3, .inl (cA 0, 24, .inl b_estimates)), (h 6, .inl (cA 1, 24, .inl b_wanted))]
def fX0_dearerLots_L4 (b_count : Int32) (p1 : Int32) (b_wanted : Nat → Int32) (b_estimates : Nat → Int32) : Nat → Int32 → Int32 → Option (Int32)
  | 0, _, _ => none
  | n0 + 1, x1, x2 => (if b_count ≤ x2 then some (x1) else o_rd 24 x2 (o_rd 24 p1 (o_let (fun (x7 : Int32) => o_rd 24 x2 ((if (b_wanted x2.toNatClampNeg) = 0 then o_let (x2 + (1 : Int32)) (fun x11 => (fX0_dearerLots_L4 b_count p1 b_wanted b_estimates n0 x1 x11)) else (if x7 = 0 then o_let (x2 + (1 : Int32)) (fun x13 => (fX0_dearerLots_L4 b_count p1 b_wanted b_estimates n0 x1 x13)) else o_let (x1 + (1 : Int32)) (fun x14 => o_let (x2 + (1 : Int32)) (fun x15 => (fX0_dearerLots_L4 b_count p1 b_wanted b_estimates n0 x14 x15))))))) (fun (j52_8 : Int32 → Option (Int32)) => (if (b_estimates p1.toNatClampNeg) < (b_estimates x2.toNatClampNeg) then (j52_8 (1 : Int32)) else o_rd 24 x2 (o_rd 24 p1 ((if (b_estimates x2.toNatClampNeg) = (b_estimates p1.toNatClampNeg) then (if p1 ≤ x2 then (j52_8 (0 : Int32)) else (j52_8 (1 : Int32))) else (j52_8 (0 : Int32))))))))))
def fX0_dearerLots (p1 : Int32) (b_count : Int32) (b_estimates : Nat → Int32) (b_wanted : Nat → Int32) : Option (Int32) := (fX0_dearerLots_L4 b_count p1 b_wanted b_estimates 1024 (0 : Int32) (0 : Int32))
theorem iw_X0_dearerLots_X0 : ∀ w ∈ u_ws RX0 TX0 11, w ∈ wsX0_dearerLots := z_inr [4, 5, 6, 7, 8, 9, 10, 11, 12, 13, 14] rfl
set_option maxHeartbeats 4000000 in
set_option maxRecDepth 100000 in
theorem kX0_dearerLots (l : Launch) (D : va_G) (cA : Nat → ClassId) (h : Nat → Nat) (p1 : Int32) (b_height : Int32) (b_count : Int32) (b_room : Int32) (b_account : Int32) (b_estimates : Nat → Int32) (b_wanted : Nat → Int32) (u : Int32) (hf : fX0_dearerLots p1 b_count b_estimates b_wanted = some u) : zMi l yX0_dearerLots wsX0_dearerLots ({ frames := 0, cells := 0, slots := 0, locals := 0 } : Room) D (zTY cA) [.ref (h 0), .int p1] (W_X0_dearerLots cA h b_height b_count b_room b_account b_estimates b_wanted) (W_X0_dearerLots cA h b_height b_count b_room b_account b_estimates b_wanted) u := by
  refine z_starti (cc := cX0_dearerLots) (maxL := 5) (ret := (some .int)) (by decide) rfl (Nat.le_of_ble_eq_true rfl) ?_
  intro p e s m args below meth c A hx hb hr hts hown hlocks hml hA Z ls hl
  replace hown : s.vm.findClass RX0 = some m.cls := hown
  replace hl : lv_has ls 5 [(0, .ref (h 0)), (1, .int p1)] := hl
  obtain ⟨H, hH⟩ : ∃ H, H = s.heap := ⟨_, rfl⟩
  rw [← hH] at Z ⊢
  clear hH
  obtain ⟨locs, hlc⟩ : ∃ q : List Loc, q = [] := ⟨_, rfl⟩
  rw [← hlc] at Z ⊢
  clear hlc
  refine lv_iconst (pc := 0) (v := (0 : Int32)) hx hb dX0_dearerLots_0 (by decide) ?_
  refine lv_istore_n (pc := 1) (lv' := [(2, .int (0 : Int32)), (0, .ref (h 0)), (1, .int p1)]) hx hb dX0_dearerLots_1 rfl hl (by decide) rfl (fun ls hl => ?_)
  refine lv_iconst (pc := 2) (v := (0 : Int32)) hx hb dX0_dearerLots_2 (by decide) ?_
  refine lv_istore_n (pc := 3) (lv' := [(3, .int (0 : Int32)), (2, .int (0 : Int32)), (0, .ref (h 0)), (1, .int p1)]) hx hb dX0_dearerLots_3 rfl hl (by decide) rfl (fun ls hl => ?_)
  have hL4 : ∀ (n0 : Nat) (x1 : Int32) (x2 : Int32) (H : Heap) (locs : List Loc) (ls : Array Slot), zw D (zTY cA) s A (W_X0_dearerLots cA h b_height b_count b_room b_account b_estimates b_wanted) H locs → lv_has ls 5 [(0, .ref (h 0)), (1, .int p1), (2, .int x1), (3, .int x2)] → fX0_dearerLots_L4 b_count p1 b_wanted b_estimates n0 x1 x2 = some u → W p l e ({ frames := 0, cells := 0, slots := 0, locals := 0 } : Room) s m args below meth c H locs 0 0 (MQ below (zQi D (zTY cA) A (W_X0_dearerLots cA h b_height b_count b_room b_account b_estimates b_wanted) u) args s 0 0 A) (F0 m 4 ls []) := by
    intro n0
    induction n0 with
    | zero => intro x1 x2 H locs ls Z hl hf; exact o_no hf
    | succ n0 ih0 =>
      intro x1 x2 H locs ls Z hl hf
      refine lv_iload_n (pc := 4) hx hb dX0_dearerLots_4 rfl (lv_at hl 3 rfl) ?_
      refine lv_aload_n (pc := 5) hx hb dX0_dearerLots_5 rfl (lv_at hl 0 rfl) ?_
      refine z_get (pc := 6) (ref := "LotSheet$Bill") (ci := 0) (C := RX0) (T := TX0) (N := 11) hx hb hts iw_X0_dearerLots_X0 hown Z 0 rfl rfl 1 (by decide) (List.mem_of_getElem? (i := 1) rfl) rfl rfl dX0_dearerLots_6 ?_
      refine lv_icmp_ge (pc := 9) (tgt := 77) hx hb dX0_dearerLots_9 (by decide) (fun c3 => ?_) (fun c3 => ?_)
      · replace hf := o_pos c3 hf
        refine lv_iload_n (pc := 77) hx hb dX0_dearerLots_77 rfl (lv_at hl 2 rfl) ?_
        cases hf
        exact z_iret (pc := 78) hx hb hr hlocks Z rfl rfl dX0_dearerLots_78
      · replace hf := o_neg c3 hf
        refine lv_aload_n (pc := 12) hx hb dX0_dearerLots_12 rfl (lv_at hl 0 rfl) ?_
        refine z_get (pc := 13) (ref := "LotSheet$Bill") (ci := 0) (C := RX0) (T := TX0) (N := 11) hx hb hts iw_X0_dearerLots_X0 hown Z 0 rfl rfl 6 (by decide) (List.mem_of_getElem? (i := 2) rfl) rfl rfl dX0_dearerLots_13 ?_
        refine lv_iload_n (pc := 16) hx hb dX0_dearerLots_16 rfl (lv_at hl 3 rfl) ?_
        obtain ⟨i4, hf⟩ := o_rdE hf
        refine z_iald (pc := 17) hx hb Z 1 0 rfl rfl i4 dX0_dearerLots_17 ?_
        refine lv_aload_n (pc := 18) hx hb dX0_dearerLots_18 rfl (lv_at hl 0 rfl) ?_
        refine z_get (pc := 19) (ref := "LotSheet$Bill") (ci := 0) (C := RX0) (T := TX0) (N := 11) hx hb hts iw_X0_dearerLots_X0 hown Z 0 rfl rfl 6 (by decide) (List.mem_of_getElem? (i := 2) rfl) rfl rfl dX0_dearerLots_19 ?_
        refine lv_iload_n (pc := 22) hx hb dX0_dearerLots_22 rfl (lv_at hl 1 rfl) ?_
        obtain ⟨i5, hf⟩ := o_rdE hf
        refine z_iald (pc := 23) hx hb Z 1 0 rfl rfl i5 dX0_dearerLots_23 ?_
        obtain ⟨j52_8, ej52_8, hf⟩ := o_jnE hf
        have hj52_8 : ∀ (x7 : Int32) (H : Heap) (locs : List Loc) (ls : Array Slot), zw D (zTY cA) s A (W_X0_dearerLots cA h b_height b_count b_room b_account b_estimates b_wanted) H locs → lv_has ls 5 [(0, .ref (h 0)), (1, .int p1), (2, .int x1), (3, .int x2)] → j52_8 x7 = some u → W p l e ({ frames := 0, cells := 0, slots := 0, locals := 0 } : Room) s m args below meth c H locs 0 0 (MQ below (zQi D (zTY cA) A (W_X0_dearerLots cA h b_height b_count b_room b_account b_estimates b_wanted) u) args s 0 0 A) (F0 m 52 ls [.int x7]) := by
          intro x7 H locs ls Z hl hf
          rw [ej52_8] at hf
          refine lv_istore (pc := 52) (lv' := [(4, .int x7), (0, .ref (h 0)), (1, .int p1), (2, .int x1), (3, .int x2)]) hx hb dX0_dearerLots_52 hl (by decide) rfl (fun ls hl => ?_)
          refine lv_aload_n (pc := 54) hx hb dX0_dearerLots_54 rfl (lv_at hl 1 rfl) ?_
          refine z_get (pc := 55) (ref := "LotSheet$Bill") (ci := 0) (C := RX0) (T := TX0) (N := 11) hx hb hts iw_X0_dearerLots_X0 hown Z 0 rfl rfl 9 (by decide) (List.mem_of_getElem? (i := 3) rfl) rfl rfl dX0_dearerLots_55 ?_
          refine lv_iload_n (pc := 58) hx hb dX0_dearerLots_58 rfl (lv_at hl 4 rfl) ?_
          obtain ⟨i9, hf⟩ := o_rdE hf
          refine z_zald (pc := 59) hx hb Z 2 1 rfl rfl i9 dX0_dearerLots_59 ?_
          refine lv_if_eq (pc := 60) (tgt := 71) hx hb dX0_dearerLots_60 (by decide) (fun c10 => ?_) (fun c10 => ?_)
          · replace hf := o_pos c10 hf
            obtain ⟨x11, ex11⟩ : ∃ y : Int32, y = (x2 + (1 : Int32)) := ⟨_, rfl⟩
            replace hf := o_letE ex11 hf
            refine lv_iinc (pc := 71) (v := x11) (lv' := [(3, .int x11), (4, .int x7), (0, .ref (h 0)), (1, .int p1), (2, .int x1)]) hx hb dX0_dearerLots_71 hl (k := 4) rfl (by rw [ex11]; rfl) (by decide) rfl (fun ls hl => ?_)
            refine lv_goto (pc := 74) (tgt := 4) hx hb dX0_dearerLots_74 (by decide) ?_
            exact ih0 x1 x11 H locs ls Z (lv_sub hl [2, 3, 4, 0] rfl) hf
          · replace hf := o_neg c10 hf
            refine lv_iload (pc := 63) hx hb dX0_dearerLots_63 (lv_at hl 0 rfl) ?_
            refine lv_if_eq (pc := 65) (tgt := 71) hx hb dX0_dearerLots_65 (by decide) (fun c12 => ?_) (fun c12 => ?_)
            · replace hf := o_pos c12 hf
              obtain ⟨x13, ex13⟩ : ∃ y : Int32, y = (x2 + (1 : Int32)) := ⟨_, rfl⟩
              replace hf := o_letE ex13 hf
              refine lv_iinc (pc := 71) (v := x13) (lv' := [(3, .int x13), (4, .int x7), (0, .ref (h 0)), (1, .int p1), (2, .int x1)]) hx hb dX0_dearerLots_71 hl (k := 4) rfl (by rw [ex13]; rfl) (by decide) rfl (fun ls hl => ?_)
              refine lv_goto (pc := 74) (tgt := 4) hx hb dX0_dearerLots_74 (by decide) ?_
              exact ih0 x1 x13 H locs ls Z (lv_sub hl [2, 3, 4, 0] rfl) hf
            · replace hf := o_neg c12 hf
              obtain ⟨x14, ex14⟩ : ∃ y : Int32, y = (x1 + (1 : Int32)) := ⟨_, rfl⟩
              replace hf := o_letE ex14 hf
              refine lv_iinc (pc := 68) (v := x14) (lv' := [(2, .int x14), (4, .int x7), (0, .ref (h 0)), (1, .int p1), (3, .int x2)]) hx hb dX0_dearerLots_68 hl (k := 3) rfl (by rw [ex14]; rfl) (by decide) rfl (fun ls hl => ?_)
              obtain ⟨x15, ex15⟩ : ∃ y : Int32, y = (x2 + (1 : Int32)) := ⟨_, rfl⟩
              replace hf := o_letE ex15 hf
              refine lv_iinc (pc := 71) (v := x15) (lv' := [(3, .int x15), (2, .int x14), (4, .int x7), (0, .ref (h 0)), (1, .int p1)]) hx hb dX0_dearerLots_71 hl (k := 4) rfl (by rw [ex15]; rfl) (by decide) rfl (fun ls hl => ?_)
              refine lv_goto (pc := 74) (tgt := 4) hx hb dX0_dearerLots_74 (by decide) ?_
              exact ih0 x14 x15 H locs ls Z (lv_sub hl [3, 4, 1, 0] rfl) hf
        refine lv_icmp_gt (pc := 24) (tgt := 47) hx hb dX0_dearerLots_24 (by decide) (fun c6 => ?_) (fun c6 => ?_)
        · replace hf := o_pos c6 hf
          refine lv_iconst (pc := 47) (v := (1 : Int32)) hx hb dX0_dearerLots_47 (by decide) ?_
          refine lv_goto (pc := 48) (tgt := 52) hx hb dX0_dearerLots_48 (by decide) ?_
          exact hj52_8 (1 : Int32) H locs ls Z (lv_sub hl [0, 1, 2, 3] rfl) hf
        · replace hf := o_neg c6 hf
          refine lv_aload_n (pc := 27) hx hb dX0_dearerLots_27 rfl (lv_at hl 0 rfl) ?_
          refine z_get (pc := 28) (ref := "LotSheet$Bill") (ci := 0) (C := RX0) (T := TX0) (N := 11) hx hb hts iw_X0_dearerLots_X0 hown Z 0 rfl rfl 6 (by decide) (List.mem_of_getElem? (i := 2) rfl) rfl rfl dX0_dearerLots_28 ?_
          refine lv_iload_n (pc := 31) hx hb dX0_dearerLots_31 rfl (lv_at hl 3 rfl) ?_
          obtain ⟨i16, hf⟩ := o_rdE hf
          refine z_iald (pc := 32) hx hb Z 1 0 rfl rfl i16 dX0_dearerLots_32 ?_
          refine lv_aload_n (pc := 33) hx hb dX0_dearerLots_33 rfl (lv_at hl 0 rfl) ?_
          refine z_get (pc := 34) (ref := "LotSheet$Bill") (ci := 0) (C := RX0) (T := TX0) (N := 11) hx hb hts iw_X0_dearerLots_X0 hown Z 0 rfl rfl 6 (by decide) (List.mem_of_getElem? (i := 2) rfl) rfl rfl dX0_dearerLots_34 ?_
          refine lv_iload_n (pc := 37) hx hb dX0_dearerLots_37 rfl (lv_at hl 1 rfl) ?_
          obtain ⟨i17, hf⟩ := o_rdE hf
          refine z_iald (pc := 38) hx hb Z 1 0 rfl rfl i17 dX0_dearerLots_38 ?_
          refine lv_icmp_ne (pc := 39) (tgt := 51) hx hb dX0_dearerLots_39 (by decide) (fun c18 => ?_) (fun c18 => ?_)
          · replace hf := o_neg c18 hf
            refine lv_iconst (pc := 51) (v := (0 : Int32)) hx hb dX0_dearerLots_51 (by decide) ?_
            exact hj52_8 (0 : Int32) H locs ls Z (lv_sub hl [0, 1, 2, 3] rfl) hf
          · replace hf := o_pos c18 hf
            refine lv_iload_n (pc := 42) hx hb dX0_dearerLots_42 rfl (lv_at hl 3 rfl) ?_
            refine lv_iload_n (pc := 43) hx hb dX0_dearerLots_43 rfl (lv_at hl 1 rfl) ?_
            refine lv_icmp_ge (pc := 44) (tgt := 51) hx hb dX0_dearerLots_44 (by decide) (fun c19 => ?_) (fun c19 => ?_)
            · replace hf := o_pos c19 hf
              refine lv_iconst (pc := 51) (v := (0 : Int32)) hx hb dX0_dearerLots_51 (by decide) ?_
              exact hj52_8 (0 : Int32) H locs ls Z (lv_sub hl [0, 1, 2, 3] rfl) hf
            · replace hf := o_neg c19 hf
              refine lv_iconst (pc := 47) (v := (1 : Int32)) hx hb dX0_dearerLots_47 (by decide) ?_
              refine lv_goto (pc := 48) (tgt := 52) hx hb dX0_dearerLots_48 (by decide) ?_
              exact hj52_8 (1 : Int32) H locs ls Z (lv_sub hl [0, 1, 2, 3] rfl) hf
  exact hL4 1024 (0 : Int32) (0 : Int32) H locs ls Z (lv_sub hl [2, 3, 1, 0] rfl) hf
