def W_X1_countChanged (cA : Nat → ClassId) (h : Nat → Nat) (c_figures : Nat → Int32) (c_count : Int32) (c_changedOn : Nat → Int32) (c_priced : Int32) : va_W := [(h 0, .inr (1, [.ref (h 1), .ref (h 2), .int c_count, .ref (h 3), .ref (h 10), .ref (h 11), .ref (h 12), .int c_priced])), (h 2, .inl (cA 0, 7, .inl c_figures)), (h 11, .inl (cA 0, 24, .inl c_changedOn))]
def fX1_countChanged_L13 (p1 : Int32) (j73_4 : Int32 → Int32 → Int32 → Option ((Nat → Int32))) (c_changedOn : Nat → Int32) : Nat → Int32 → Int32 → Int32 → Int32 → Int32 → Option ((Nat → Int32))
  | 0, _, _, _, _, _ => none
  | n0 + 1, x8, x9, x10, x11, x12 => (if p1 ≤ x12 then (j73_4 x8 x9 x10) else (if (24 : Int32) ≤ x12 then (j73_4 x8 x9 x10) else o_rd 24 x12 ((if (c_changedOn x12.toNatClampNeg) ≤ 0 then o_let (x12 + (1 : Int32)) (fun x17 => (fX1_countChanged_L13 p1 j73_4 c_changedOn n0 x8 x9 x10 x11 x17)) else o_rd 24 x12 (o_let (x8 + (c_changedOn x12.toNatClampNeg)) (fun x19 => o_let (x9 + (1 : Int32)) (fun x20 => (if (x12 / (4 : Int32)) = x11 then o_let (x12 + (1 : Int32)) (fun x22 => (fX1_countChanged_L13 p1 j73_4 c_changedOn n0 x19 x20 x10 x11 x22)) else o_let (x12 / (4 : Int32)) (fun x23 => o_let (x10 + (1 : Int32)) (fun x24 => o_let (x12 + (1 : Int32)) (fun x25 => (fX1_countChanged_L13 p1 j73_4 c_changedOn n0 x19 x20 x24 x23 x25))))))))))))
def fX1_countChanged (p1 : Int32) (c_figures : Nat → Int32) (c_changedOn : Nat → Int32) : Option ((Nat → Int32)) := o_let (fun (x1 : Int32) (x2 : Int32) (x3 : Int32) => o_let (upd c_figures (1 : Int32).toNatClampNeg x1) (fun a5 => o_let (upd a5 (2 : Int32).toNatClampNeg x2) (fun a6 => o_let (upd a6 (3 : Int32).toNatClampNeg x3) (fun a7 => some (a7))))) (fun (j73_4 : Int32 → Int32 → Int32 → Option ((Nat → Int32))) => (fX1_countChanged_L13 p1 j73_4 c_changedOn 1024 (0 : Int32) (0 : Int32) (0 : Int32) (-1 : Int32) (0 : Int32)))
theorem iw_X1_countChanged_X1 : ∀ w ∈ u_ws RX1 TX1 8, w ∈ wsX1_countChanged := z_inr [3, 4, 5, 6, 7, 8, 9, 10] rfl
set_option maxHeartbeats 4000000 in
set_option maxRecDepth 100000 in
theorem kX1_countChanged (l : Launch) (D : va_G) (cA : Nat → ClassId) (h : Nat → Nat) (p1 : Int32) (c_figures : Nat → Int32) (c_count : Int32) (c_changedOn : Nat → Int32) (c_priced : Int32) (u : (Nat → Int32)) (hf : fX1_countChanged p1 c_figures c_changedOn = some u) : zMv l yX1_countChanged wsX1_countChanged ({ frames := 0, cells := 0, slots := 0, locals := 0 } : Room) D (zTY cA) [.ref (h 0), .int p1] (W_X1_countChanged cA h c_figures c_count c_changedOn c_priced) (W_X1_countChanged cA h u c_count c_changedOn c_priced) := by
  refine z_startv (cc := cX1_countChanged) (maxL := 7) (ret := none) (by decide) rfl (Nat.le_of_ble_eq_true rfl) ?_
  intro p e s m args below meth c A hx hb hr hts hown hlocks hml hA Z ls hl
  replace hown : s.vm.findClass RX1 = some m.cls := hown
  replace hl : lv_has ls 7 [(0, .ref (h 0)), (1, .int p1)] := hl
  obtain ⟨H, hH⟩ : ∃ H, H = s.heap := ⟨_, rfl⟩
  rw [← hH] at Z ⊢
  clear hH
  obtain ⟨locs, hlc⟩ : ∃ q : List Loc, q = [] := ⟨_, rfl⟩
  rw [← hlc] at Z ⊢
  clear hlc
  refine lv_iconst (pc := 0) (v := (0 : Int32)) hx hb dX1_countChanged_0 (by decide) ?_
  refine lv_istore_n (pc := 1) (lv' := [(2, .int (0 : Int32)), (0, .ref (h 0)), (1, .int p1)]) hx hb dX1_countChanged_1 rfl hl (by decide) rfl (fun ls hl => ?_)
  refine lv_iconst (pc := 2) (v := (0 : Int32)) hx hb dX1_countChanged_2 (by decide) ?_
  refine lv_istore_n (pc := 3) (lv' := [(3, .int (0 : Int32)), (2, .int (0 : Int32)), (0, .ref (h 0)), (1, .int p1)]) hx hb dX1_countChanged_3 rfl hl (by decide) rfl (fun ls hl => ?_)
  refine lv_iconst (pc := 4) (v := (0 : Int32)) hx hb dX1_countChanged_4 (by decide) ?_
  refine lv_istore (pc := 5) (lv' := [(4, .int (0 : Int32)), (3, .int (0 : Int32)), (2, .int (0 : Int32)), (0, .ref (h 0)), (1, .int p1)]) hx hb dX1_countChanged_5 hl (by decide) rfl (fun ls hl => ?_)
  refine lv_iconst (pc := 7) (v := (-1 : Int32)) hx hb dX1_countChanged_7 (by decide) ?_
  refine lv_istore (pc := 8) (lv' := [(5, .int (-1 : Int32)), (4, .int (0 : Int32)), (3, .int (0 : Int32)), (2, .int (0 : Int32)), (0, .ref (h 0)), (1, .int p1)]) hx hb dX1_countChanged_8 hl (by decide) rfl (fun ls hl => ?_)
  refine lv_iconst (pc := 10) (v := (0 : Int32)) hx hb dX1_countChanged_10 (by decide) ?_
  refine lv_istore (pc := 11) (lv' := [(6, .int (0 : Int32)), (5, .int (-1 : Int32)), (4, .int (0 : Int32)), (3, .int (0 : Int32)), (2, .int (0 : Int32)), (0, .ref (h 0)), (1, .int p1)]) hx hb dX1_countChanged_11 hl (by decide) rfl (fun ls hl => ?_)
  obtain ⟨j73_4, ej73_4, hf⟩ := o_jnE hf
  have hj73_4 : ∀ (x1 : Int32) (x2 : Int32) (x3 : Int32) (H : Heap) (locs : List Loc) (ls : Array Slot), zw D (zTY cA) s A (W_X1_countChanged cA h c_figures c_count c_changedOn c_priced) H locs → lv_has ls 7 [(0, .ref (h 0)), (2, .int x1), (3, .int x2), (4, .int x3)] → j73_4 x1 x2 x3 = some u → W p l e ({ frames := 0, cells := 0, slots := 0, locals := 0 } : Room) s m args below meth c H locs 0 0 (MQ below (zQv D (zTY cA) A (W_X1_countChanged cA h u c_count c_changedOn c_priced)) args s 0 0 A) (F0 m 73 ls []) := by
    intro x1 x2 x3 H locs ls Z hl hf
    rw [ej73_4] at hf
    refine lv_aload_n (pc := 73) hx hb dX1_countChanged_73 rfl (lv_at hl 0 rfl) ?_
    refine z_get (pc := 74) (ref := "LotSheet$Choices") (ci := 1) (C := RX1) (T := TX1) (N := 8) hx hb hts iw_X1_countChanged_X1 hown Z 0 rfl rfl 1 (by decide) (List.mem_of_getElem? (i := 2) rfl) rfl rfl dX1_countChanged_74 ?_
    refine lv_iconst (pc := 77) (v := (1 : Int32)) hx hb dX1_countChanged_77 (by decide) ?_
    refine lv_iload_n (pc := 78) hx hb dX1_countChanged_78 rfl (lv_at hl 1 rfl) ?_
    refine z_iast (pc := 79) hx hb Z 1 0 rfl rfl (show ¬ ((1 : Int32) < 0 ∨ 7 ≤ (1 : Int32).toNatClampNeg) by decide) dX1_countChanged_79 (fun g => (W_X1_countChanged cA h g c_count c_changedOn c_priced)) (fun _ => rfl) (fun a5 H locs ea5 Z => ?_)
    replace hf := o_letE ea5 hf
    refine lv_aload_n (pc := 80) hx hb dX1_countChanged_80 rfl (lv_at hl 0 rfl) ?_
    refine z_get (pc := 81) (ref := "LotSheet$Choices") (ci := 1) (C := RX1) (T := TX1) (N := 8) hx hb hts iw_X1_countChanged_X1 hown Z 0 rfl rfl 1 (by decide) (List.mem_of_getElem? (i := 2) rfl) rfl rfl dX1_countChanged_81 ?_
    refine lv_iconst (pc := 84) (v := (2 : Int32)) hx hb dX1_countChanged_84 (by decide) ?_
    refine lv_iload_n (pc := 85) hx hb dX1_countChanged_85 rfl (lv_at hl 2 rfl) ?_
    refine z_iast (pc := 86) hx hb Z 1 0 rfl rfl (show ¬ ((2 : Int32) < 0 ∨ 7 ≤ (2 : Int32).toNatClampNeg) by decide) dX1_countChanged_86 (fun g => (W_X1_countChanged cA h g c_count c_changedOn c_priced)) (fun _ => rfl) (fun a6 H locs ea6 Z => ?_)
    replace hf := o_letE ea6 hf
    refine lv_aload_n (pc := 87) hx hb dX1_countChanged_87 rfl (lv_at hl 0 rfl) ?_
    refine z_get (pc := 88) (ref := "LotSheet$Choices") (ci := 1) (C := RX1) (T := TX1) (N := 8) hx hb hts iw_X1_countChanged_X1 hown Z 0 rfl rfl 1 (by decide) (List.mem_of_getElem? (i := 2) rfl) rfl rfl dX1_countChanged_88 ?_
    refine lv_iconst (pc := 91) (v := (3 : Int32)) hx hb dX1_countChanged_91 (by decide) ?_
    refine lv_iload (pc := 92) hx hb dX1_countChanged_92 (lv_at hl 3 rfl) ?_
    refine z_iast (pc := 94) hx hb Z 1 0 rfl rfl (show ¬ ((3 : Int32) < 0 ∨ 7 ≤ (3 : Int32).toNatClampNeg) by decide) dX1_countChanged_94 (fun g => (W_X1_countChanged cA h g c_count c_changedOn c_priced)) (fun _ => rfl) (fun a7 H locs ea7 Z => ?_)
    replace hf := o_letE ea7 hf
    cases hf
    exact z_vret (pc := 95) hx hb hr hlocks Z rfl dX1_countChanged_95
  have hL13 : ∀ (n0 : Nat) (x8 : Int32) (x9 : Int32) (x10 : Int32) (x11 : Int32) (x12 : Int32) (H : Heap) (locs : List Loc) (ls : Array Slot), zw D (zTY cA) s A (W_X1_countChanged cA h c_figures c_count c_changedOn c_priced) H locs → lv_has ls 7 [(0, .ref (h 0)), (1, .int p1), (2, .int x8), (3, .int x9), (4, .int x10), (5, .int x11), (6, .int x12)] → fX1_countChanged_L13 p1 j73_4 c_changedOn n0 x8 x9 x10 x11 x12 = some u → W p l e ({ frames := 0, cells := 0, slots := 0, locals := 0 } : Room) s m args below meth c H locs 0 0 (MQ below (zQv D (zTY cA) A (W_X1_countChanged cA h u c_count c_changedOn c_priced)) args s 0 0 A) (F0 m 13 ls []) := by
    intro n0
    induction n0 with
    | zero => intro x8 x9 x10 x11 x12 H locs ls Z hl hf; exact o_no hf
    | succ n0 ih0 =>
      intro x8 x9 x10 x11 x12 H locs ls Z hl hf
      refine lv_iload (pc := 13) hx hb dX1_countChanged_13 (lv_at hl 6 rfl) ?_
      refine lv_iload_n (pc := 15) hx hb dX1_countChanged_15 rfl (lv_at hl 1 rfl) ?_
      refine lv_icmp_ge (pc := 16) (tgt := 73) hx hb dX1_countChanged_16 (by decide) (fun c13 => ?_) (fun c13 => ?_)
      · replace hf := o_pos c13 hf
        exact hj73_4 x8 x9 x10 H locs ls Z (lv_sub hl [0, 2, 3, 4] rfl) hf
      · replace hf := o_neg c13 hf
        refine lv_iload (pc := 19) hx hb dX1_countChanged_19 (lv_at hl 6 rfl) ?_
        refine lv_bipush (pc := 21) (v := (24 : Int32)) hx hb dX1_countChanged_21 (by decide) ?_
        refine lv_icmp_ge (pc := 23) (tgt := 73) hx hb dX1_countChanged_23 (by decide) (fun c14 => ?_) (fun c14 => ?_)
        · replace hf := o_pos c14 hf
          exact hj73_4 x8 x9 x10 H locs ls Z (lv_sub hl [0, 2, 3, 4] rfl) hf
        · replace hf := o_neg c14 hf
          refine lv_aload_n (pc := 26) hx hb dX1_countChanged_26 rfl (lv_at hl 0 rfl) ?_
          refine z_get (pc := 27) (ref := "LotSheet$Choices") (ci := 1) (C := RX1) (T := TX1) (N := 8) hx hb hts iw_X1_countChanged_X1 hown Z 0 rfl rfl 5 (by decide) (List.mem_of_getElem? (i := 1) rfl) rfl rfl dX1_countChanged_27 ?_
          refine lv_iload (pc := 30) hx hb dX1_countChanged_30 (lv_at hl 6 rfl) ?_
          obtain ⟨i15, hf⟩ := o_rdE hf
          refine z_iald (pc := 32) hx hb Z 2 0 rfl rfl i15 dX1_countChanged_32 ?_
          refine lv_if_le (pc := 33) (tgt := 67) hx hb dX1_countChanged_33 (by decide) (fun c16 => ?_) (fun c16 => ?_)
          · replace hf := o_pos c16 hf
            obtain ⟨x17, ex17⟩ : ∃ y : Int32, y = (x12 + (1 : Int32)) := ⟨_, rfl⟩
            replace hf := o_letE ex17 hf
            refine lv_iinc (pc := 67) (v := x17) (lv' := [(6, .int x17), (0, .ref (h 0)), (1, .int p1), (2, .int x8), (3, .int x9), (4, .int x10), (5, .int x11)]) hx hb dX1_countChanged_67 hl (k := 6) rfl (by rw [ex17]; rfl) (by decide) rfl (fun ls hl => ?_)
            refine lv_goto (pc := 70) (tgt := 13) hx hb dX1_countChanged_70 (by decide) ?_
            exact ih0 x8 x9 x10 x11 x17 H locs ls Z (lv_sub hl [1, 2, 3, 4, 5, 6, 0] rfl) hf
          · replace hf := o_neg c16 hf
            refine lv_iload_n (pc := 36) hx hb dX1_countChanged_36 rfl (lv_at hl 2 rfl) ?_
            refine lv_aload_n (pc := 37) hx hb dX1_countChanged_37 rfl (lv_at hl 0 rfl) ?_
            refine z_get (pc := 38) (ref := "LotSheet$Choices") (ci := 1) (C := RX1) (T := TX1) (N := 8) hx hb hts iw_X1_countChanged_X1 hown Z 0 rfl rfl 5 (by decide) (List.mem_of_getElem? (i := 1) rfl) rfl rfl dX1_countChanged_38 ?_
            refine lv_iload (pc := 41) hx hb dX1_countChanged_41 (lv_at hl 6 rfl) ?_
            obtain ⟨i18, hf⟩ := o_rdE hf
            refine z_iald (pc := 43) hx hb Z 2 0 rfl rfl i18 dX1_countChanged_43 ?_
            refine lv_iadd (pc := 44) hx hb dX1_countChanged_44 ?_
            refine lv_topi (fun x19 ex19 => ?_)
            replace hf := o_letE ex19 hf
            refine lv_istore_n (pc := 45) (lv' := [(2, .int x19), (0, .ref (h 0)), (1, .int p1), (3, .int x9), (4, .int x10), (5, .int x11), (6, .int x12)]) hx hb dX1_countChanged_45 rfl hl (by decide) rfl (fun ls hl => ?_)
            obtain ⟨x20, ex20⟩ : ∃ y : Int32, y = (x9 + (1 : Int32)) := ⟨_, rfl⟩
            replace hf := o_letE ex20 hf
            refine lv_iinc (pc := 46) (v := x20) (lv' := [(3, .int x20), (2, .int x19), (0, .ref (h 0)), (1, .int p1), (4, .int x10), (5, .int x11), (6, .int x12)]) hx hb dX1_countChanged_46 hl (k := 3) rfl (by rw [ex20]; rfl) (by decide) rfl (fun ls hl => ?_)
            refine lv_iload (pc := 49) hx hb dX1_countChanged_49 (lv_at hl 6 rfl) ?_
            refine lv_iconst (pc := 51) (v := (4 : Int32)) hx hb dX1_countChanged_51 (by decide) ?_
            refine lv_idiv (pc := 52) hx hb dX1_countChanged_52 (by decide) ?_
            refine lv_iload (pc := 53) hx hb dX1_countChanged_53 (lv_at hl 5 rfl) ?_
            refine lv_icmp_eq (pc := 55) (tgt := 67) hx hb dX1_countChanged_55 (by decide) (fun c21 => ?_) (fun c21 => ?_)
            · replace hf := o_pos c21 hf
              obtain ⟨x22, ex22⟩ : ∃ y : Int32, y = (x12 + (1 : Int32)) := ⟨_, rfl⟩
              replace hf := o_letE ex22 hf
              refine lv_iinc (pc := 67) (v := x22) (lv' := [(6, .int x22), (3, .int x20), (2, .int x19), (0, .ref (h 0)), (1, .int p1), (4, .int x10), (5, .int x11)]) hx hb dX1_countChanged_67 hl (k := 6) rfl (by rw [ex22]; rfl) (by decide) rfl (fun ls hl => ?_)
              refine lv_goto (pc := 70) (tgt := 13) hx hb dX1_countChanged_70 (by decide) ?_
              exact ih0 x19 x20 x10 x11 x22 H locs ls Z (lv_sub hl [3, 4, 2, 1, 5, 6, 0] rfl) hf
            · replace hf := o_neg c21 hf
              refine lv_iload (pc := 58) hx hb dX1_countChanged_58 (lv_at hl 6 rfl) ?_
              refine lv_iconst (pc := 60) (v := (4 : Int32)) hx hb dX1_countChanged_60 (by decide) ?_
              refine lv_idiv (pc := 61) hx hb dX1_countChanged_61 (by decide) ?_
              refine lv_topi (fun x23 ex23 => ?_)
              replace hf := o_letE ex23 hf
              refine lv_istore (pc := 62) (lv' := [(5, .int x23), (3, .int x20), (2, .int x19), (0, .ref (h 0)), (1, .int p1), (4, .int x10), (6, .int x12)]) hx hb dX1_countChanged_62 hl (by decide) rfl (fun ls hl => ?_)
              obtain ⟨x24, ex24⟩ : ∃ y : Int32, y = (x10 + (1 : Int32)) := ⟨_, rfl⟩
              replace hf := o_letE ex24 hf
              refine lv_iinc (pc := 64) (v := x24) (lv' := [(4, .int x24), (5, .int x23), (3, .int x20), (2, .int x19), (0, .ref (h 0)), (1, .int p1), (6, .int x12)]) hx hb dX1_countChanged_64 hl (k := 5) rfl (by rw [ex24]; rfl) (by decide) rfl (fun ls hl => ?_)
              obtain ⟨x25, ex25⟩ : ∃ y : Int32, y = (x12 + (1 : Int32)) := ⟨_, rfl⟩
              replace hf := o_letE ex25 hf
              refine lv_iinc (pc := 67) (v := x25) (lv' := [(6, .int x25), (4, .int x24), (5, .int x23), (3, .int x20), (2, .int x19), (0, .ref (h 0)), (1, .int p1)]) hx hb dX1_countChanged_67 hl (k := 6) rfl (by rw [ex25]; rfl) (by decide) rfl (fun ls hl => ?_)
              refine lv_goto (pc := 70) (tgt := 13) hx hb dX1_countChanged_70 (by decide) ?_
              exact ih0 x19 x20 x24 x23 x25 H locs ls Z (lv_sub hl [5, 6, 4, 3, 1, 2, 0] rfl) hf
  exact hL13 1024 (0 : Int32) (0 : Int32) (0 : Int32) (-1 : Int32) (0 : Int32) H locs ls Z (lv_sub hl [5, 6, 4, 3, 2, 1, 0] rfl) hf
