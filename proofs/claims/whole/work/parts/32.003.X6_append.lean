def W_X6_append (cA : Nat → ClassId) (h : Nat → Nat) (m_thrown : Int32) (m_buffer : Nat → Int32) (m_bufferLength : Int32) (m_textLength : Int32) (m_position : Int32) (m_error : Int32) (m_errorAt : Int32) (m_errorOffset : Int32) (m_undoDepth : Int32) (m_numberStart : Int32) (m_seen : Int32) (m_pages : Int32) : va_W := [(h 0, .inr (6, [.int m_thrown, .ref (h 1), .int m_bufferLength, .int m_textLength, .int m_position, .int m_error, .int m_errorAt, .int m_errorOffset, .ref (h 2), .ref (h 3), .ref (h 4), .int m_undoDepth, .int m_numberStart, .int m_seen, .ref (h 13), .ref (h 14), .ref (h 15), .ref (h 16), .int m_pages, .ref (h 17), .ref (h 18), .ref (h 19)])), (h 1, .inl (cA 0, 500, .inl m_buffer))]
def fX6_append_L23 (p5 : Int32) (p4 : Int32) (p3 : Int32) (p2 : Int32) (p1 : Int32) : Nat → Int32 → (Nat → Int32) → Int32 → Option (Int32 × Int32 × (Nat → Int32) × Int32)
  | 0, _, _, _ => none
  | n0 + 1, x2, a3, x4 => (if (20 : Int32) ≤ x2 then some (x4, (0 : Int32), a3, x4) else o_let (fun (x7 : Int32) => o_rd 500 x4 (o_let (upd a3 x4.toNatClampNeg ((x7 >>> (((24 : Int32) - ((8 : Int32) * (x2 - x2 / (4 : Int32) * (4 : Int32)))) &&& 31)) &&& (255 : Int32))) (fun a10 => o_let (x4 + (1 : Int32)) (fun x11 => o_let (x2 + (1 : Int32)) (fun x12 => (fX6_append_L23 p5 p4 p3 p2 p1 n0 x12 a10 x11)))))) (fun (j76_8 : Int32 → Option (Int32 × Int32 × (Nat → Int32) × Int32)) => (if (4 : Int32) ≤ x2 then (if (8 : Int32) ≤ x2 then (if (12 : Int32) ≤ x2 then (if (16 : Int32) ≤ x2 then (j76_8 p5) else (j76_8 p4)) else (j76_8 p3)) else (j76_8 p2)) else (j76_8 p1))))
def fX6_append (p1 : Int32) (p2 : Int32) (p3 : Int32) (p4 : Int32) (p5 : Int32) (m_thrown : Int32) (m_buffer : Nat → Int32) (m_bufferLength : Int32) : Option (Int32 × Int32 × (Nat → Int32) × Int32) := (if (m_bufferLength + (20 : Int32)) ≤ (500 : Int32) then (fX6_append_L23 p5 p4 p3 p2 p1 1024 (0 : Int32) m_buffer m_bufferLength) else some ((-1 : Int32), (0 : Int32), m_buffer, m_bufferLength))
theorem iw_X6_append_X6 : ∀ w ∈ u_ws RX6 TX6 22, w ∈ wsX6_append := z_inr [4, 5, 6, 7, 8, 9, 10, 11, 12, 13, 14, 15, 16, 17, 18, 19, 20, 21, 22, 23, 24, 25] rfl
set_option maxHeartbeats 4000000 in
set_option maxRecDepth 100000 in
theorem kX6_append (l : Launch) (D : va_G) (cA : Nat → ClassId) (h : Nat → Nat) (p1 : Int32) (p2 : Int32) (p3 : Int32) (p4 : Int32) (p5 : Int32) (m_thrown : Int32) (m_buffer : Nat → Int32) (m_bufferLength : Int32) (m_textLength : Int32) (m_position : Int32) (m_error : Int32) (m_errorAt : Int32) (m_errorOffset : Int32) (m_undoDepth : Int32) (m_numberStart : Int32) (m_seen : Int32) (m_pages : Int32) (u : Int32 × Int32 × (Nat → Int32) × Int32) (hf : fX6_append p1 p2 p3 p4 p5 m_thrown m_buffer m_bufferLength = some u) : zMi l yX6_append wsX6_append ({ frames := 0, cells := 0, slots := 0, locals := 0 } : Room) D (zTY cA) [.ref (h 0), .int p1, .int p2, .int p3, .int p4, .int p5] (W_X6_append cA h m_thrown m_buffer m_bufferLength m_textLength m_position m_error m_errorAt m_errorOffset m_undoDepth m_numberStart m_seen m_pages) (W_X6_append cA h (u.2.1) (u.2.2.1) (u.2.2.2) m_textLength m_position m_error m_errorAt m_errorOffset m_undoDepth m_numberStart m_seen m_pages) u.1 := by
  refine z_starti (cc := cX6_append) (maxL := 8) (ret := (some .int)) (by decide) rfl (Nat.le_of_ble_eq_true rfl) ?_
  intro p e s m args below meth c A hx hb hr hts hown hlocks hml hA Z ls hl
  replace hown : s.vm.findClass RX6 = some m.cls := hown
  replace hl : lv_has ls 8 [(0, .ref (h 0)), (1, .int p1), (2, .int p2), (3, .int p3), (4, .int p4), (5, .int p5)] := hl
  obtain ⟨H, hH⟩ : ∃ H, H = s.heap := ⟨_, rfl⟩
  rw [← hH] at Z ⊢
  clear hH
  obtain ⟨locs, hlc⟩ : ∃ q : List Loc, q = [] := ⟨_, rfl⟩
  rw [← hlc] at Z ⊢
  clear hlc
  refine lv_aload_n (pc := 0) hx hb dX6_append_0 rfl (lv_at hl 0 rfl) ?_
  refine lv_iconst (pc := 1) (v := (0 : Int32)) hx hb dX6_append_1 (by decide) ?_
  refine z_put (pc := 2) (ref := "LotSheetModel") (ci := 6) (C := RX6) (T := TX6) (N := 22) (W1 := (W_X6_append cA h (0 : Int32) m_buffer m_bufferLength m_textLength m_position m_error m_errorAt m_errorOffset m_undoDepth m_numberStart m_seen m_pages)) hx hb hts iw_X6_append_X6 tyX6 tyX6_ok nmX6 hown Z 0 rfl rfl 0 (by decide) (List.mem_of_getElem? (i := 1) rfl) rfl rfl rfl rfl (Nat.le_of_ble_eq_true rfl) dX6_append_2 rfl (fun H locs Z => ?_)
  refine lv_aload_n (pc := 5) hx hb dX6_append_5 rfl (lv_at hl 0 rfl) ?_
  refine z_get (pc := 6) (ref := "LotSheetModel") (ci := 6) (C := RX6) (T := TX6) (N := 22) hx hb hts iw_X6_append_X6 hown Z 0 rfl rfl 2 (by decide) (List.mem_of_getElem? (i := 2) rfl) rfl rfl dX6_append_6 ?_
  refine lv_bipush (pc := 9) (v := (20 : Int32)) hx hb dX6_append_9 (by decide) ?_
  refine lv_iadd (pc := 11) hx hb dX6_append_11 ?_
  refine lv_sipush (pc := 12) (v := (500 : Int32)) hx hb dX6_append_12 (by decide) ?_
  refine lv_icmp_le (pc := 15) (tgt := 20) hx hb dX6_append_15 (by decide) (fun c1 => ?_) (fun c1 => ?_)
  · replace hf := o_pos c1 hf
    refine lv_iconst (pc := 20) (v := (0 : Int32)) hx hb dX6_append_20 (by decide) ?_
    refine lv_istore (pc := 21) (lv' := [(6, .int (0 : Int32)), (0, .ref (h 0)), (1, .int p1), (2, .int p2), (3, .int p3), (4, .int p4), (5, .int p5)]) hx hb dX6_append_21 hl (by decide) rfl (fun ls hl => ?_)
    have hL23 : ∀ (n0 : Nat) (x2 : Int32) (a3 : Nat → Int32) (x4 : Int32) (H : Heap) (locs : List Loc) (ls : Array Slot), zw D (zTY cA) s A (W_X6_append cA h (0 : Int32) a3 x4 m_textLength m_position m_error m_errorAt m_errorOffset m_undoDepth m_numberStart m_seen m_pages) H locs → lv_has ls 8 [(0, .ref (h 0)), (1, .int p1), (2, .int p2), (3, .int p3), (4, .int p4), (5, .int p5), (6, .int x2)] → fX6_append_L23 p5 p4 p3 p2 p1 n0 x2 a3 x4 = some u → W p l e ({ frames := 0, cells := 0, slots := 0, locals := 0 } : Room) s m args below meth c H locs 0 0 (MQ below (zQi D (zTY cA) A (W_X6_append cA h (u.2.1) (u.2.2.1) (u.2.2.2) m_textLength m_position m_error m_errorAt m_errorOffset m_undoDepth m_numberStart m_seen m_pages) u.1) args s 0 0 A) (F0 m 23 ls []) := by
      intro n0
      induction n0 with
      | zero => intro x2 a3 x4 H locs ls Z hl hf; exact o_no hf
      | succ n0 ih0 =>
        intro x2 a3 x4 H locs ls Z hl hf
        refine lv_iload (pc := 23) hx hb dX6_append_23 (lv_at hl 6 rfl) ?_
        refine lv_bipush (pc := 25) (v := (20 : Int32)) hx hb dX6_append_25 (by decide) ?_
        refine lv_icmp_ge (pc := 27) (tgt := 120) hx hb dX6_append_27 (by decide) (fun c5 => ?_) (fun c5 => ?_)
        · replace hf := o_pos c5 hf
          refine lv_aload_n (pc := 120) hx hb dX6_append_120 rfl (lv_at hl 0 rfl) ?_
          refine z_get (pc := 121) (ref := "LotSheetModel") (ci := 6) (C := RX6) (T := TX6) (N := 22) hx hb hts iw_X6_append_X6 hown Z 0 rfl rfl 2 (by decide) (List.mem_of_getElem? (i := 2) rfl) rfl rfl dX6_append_121 ?_
          cases hf
          exact z_iret (pc := 124) hx hb hr hlocks Z rfl rfl dX6_append_124
        · replace hf := o_neg c5 hf
          refine lv_iload (pc := 30) hx hb dX6_append_30 (lv_at hl 6 rfl) ?_
          refine lv_iconst (pc := 32) (v := (4 : Int32)) hx hb dX6_append_32 (by decide) ?_
          obtain ⟨j76_8, ej76_8, hf⟩ := o_jnE hf
          have hj76_8 : ∀ (x7 : Int32) (H : Heap) (locs : List Loc) (ls : Array Slot), zw D (zTY cA) s A (W_X6_append cA h (0 : Int32) a3 x4 m_textLength m_position m_error m_errorAt m_errorOffset m_undoDepth m_numberStart m_seen m_pages) H locs → lv_has ls 8 [(0, .ref (h 0)), (1, .int p1), (2, .int p2), (3, .int p3), (4, .int p4), (5, .int p5), (6, .int x2)] → j76_8 x7 = some u → W p l e ({ frames := 0, cells := 0, slots := 0, locals := 0 } : Room) s m args below meth c H locs 0 0 (MQ below (zQi D (zTY cA) A (W_X6_append cA h (u.2.1) (u.2.2.1) (u.2.2.2) m_textLength m_position m_error m_errorAt m_errorOffset m_undoDepth m_numberStart m_seen m_pages) u.1) args s 0 0 A) (F0 m 76 ls [.int x7]) := by
            intro x7 H locs ls Z hl hf
            rw [ej76_8] at hf
            refine lv_istore (pc := 76) (lv' := [(7, .int x7), (0, .ref (h 0)), (1, .int p1), (2, .int p2), (3, .int p3), (4, .int p4), (5, .int p5), (6, .int x2)]) hx hb dX6_append_76 hl (by decide) rfl (fun ls hl => ?_)
            refine lv_aload_n (pc := 78) hx hb dX6_append_78 rfl (lv_at hl 1 rfl) ?_
            refine z_get (pc := 79) (ref := "LotSheetModel") (ci := 6) (C := RX6) (T := TX6) (N := 22) hx hb hts iw_X6_append_X6 hown Z 0 rfl rfl 1 (by decide) (List.mem_of_getElem? (i := 3) rfl) rfl rfl dX6_append_79 ?_
            refine lv_aload_n (pc := 82) hx hb dX6_append_82 rfl (lv_at hl 1 rfl) ?_
            refine z_get (pc := 83) (ref := "LotSheetModel") (ci := 6) (C := RX6) (T := TX6) (N := 22) hx hb hts iw_X6_append_X6 hown Z 0 rfl rfl 2 (by decide) (List.mem_of_getElem? (i := 2) rfl) rfl rfl dX6_append_83 ?_
            refine lv_iload (pc := 86) hx hb dX6_append_86 (lv_at hl 0 rfl) ?_
            refine lv_bipush (pc := 88) (v := (24 : Int32)) hx hb dX6_append_88 (by decide) ?_
            refine lv_bipush (pc := 90) (v := (8 : Int32)) hx hb dX6_append_90 (by decide) ?_
            refine lv_iload (pc := 92) hx hb dX6_append_92 (lv_at hl 7 rfl) ?_
            refine lv_iconst (pc := 94) (v := (4 : Int32)) hx hb dX6_append_94 (by decide) ?_
            refine lv_irem (pc := 95) hx hb dX6_append_95 (by decide) ?_
            refine lv_imul (pc := 96) hx hb dX6_append_96 ?_
            refine lv_isub (pc := 97) hx hb dX6_append_97 ?_
            refine lv_ishr (pc := 98) hx hb dX6_append_98 ?_
            refine lv_sipush (pc := 99) (v := (255 : Int32)) hx hb dX6_append_99 (by decide) ?_
            refine lv_iand (pc := 102) hx hb dX6_append_102 ?_
            obtain ⟨i9, hf⟩ := o_rdE hf
            refine z_iast (pc := 103) hx hb Z 1 0 rfl rfl i9 dX6_append_103 (fun g => (W_X6_append cA h (0 : Int32) g x4 m_textLength m_position m_error m_errorAt m_errorOffset m_undoDepth m_numberStart m_seen m_pages)) (fun _ => rfl) (fun a10 H locs ea10 Z => ?_)
            replace hf := o_letE ea10 hf
            refine lv_aload_n (pc := 104) hx hb dX6_append_104 rfl (lv_at hl 1 rfl) ?_
            refine lv_dup (pc := 105) hx hb dX6_append_105 rfl ?_
            refine z_get (pc := 106) (ref := "LotSheetModel") (ci := 6) (C := RX6) (T := TX6) (N := 22) hx hb hts iw_X6_append_X6 hown Z 0 rfl rfl 2 (by decide) (List.mem_of_getElem? (i := 2) rfl) rfl rfl dX6_append_106 ?_
            refine lv_iconst (pc := 109) (v := (1 : Int32)) hx hb dX6_append_109 (by decide) ?_
            refine lv_iadd (pc := 110) hx hb dX6_append_110 ?_
            refine lv_topi (fun x11 ex11 => ?_)
            replace hf := o_letE ex11 hf
            refine z_put (pc := 111) (ref := "LotSheetModel") (ci := 6) (C := RX6) (T := TX6) (N := 22) (W1 := (W_X6_append cA h (0 : Int32) a10 x11 m_textLength m_position m_error m_errorAt m_errorOffset m_undoDepth m_numberStart m_seen m_pages)) hx hb hts iw_X6_append_X6 tyX6 tyX6_ok nmX6 hown Z 0 rfl rfl 2 (by decide) (List.mem_of_getElem? (i := 2) rfl) rfl rfl rfl rfl (Nat.le_of_ble_eq_true rfl) dX6_append_111 rfl (fun H locs Z => ?_)
            obtain ⟨x12, ex12⟩ : ∃ y : Int32, y = (x2 + (1 : Int32)) := ⟨_, rfl⟩
            replace hf := o_letE ex12 hf
            refine lv_iinc (pc := 114) (v := x12) (lv' := [(6, .int x12), (7, .int x7), (0, .ref (h 0)), (1, .int p1), (2, .int p2), (3, .int p3), (4, .int p4), (5, .int p5)]) hx hb dX6_append_114 hl (k := 7) rfl (by rw [ex12]; rfl) (by decide) rfl (fun ls hl => ?_)
            refine lv_goto (pc := 117) (tgt := 23) hx hb dX6_append_117 (by decide) ?_
            exact ih0 x12 a10 x11 H locs ls Z (lv_sub hl [2, 3, 4, 5, 6, 7, 0] rfl) hf
          refine lv_icmp_ge (pc := 33) (tgt := 40) hx hb dX6_append_33 (by decide) (fun c6 => ?_) (fun c6 => ?_)
          · replace hf := o_pos c6 hf
            refine lv_iload (pc := 40) hx hb dX6_append_40 (lv_at hl 6 rfl) ?_
            refine lv_bipush (pc := 42) (v := (8 : Int32)) hx hb dX6_append_42 (by decide) ?_
            refine lv_icmp_ge (pc := 44) (tgt := 51) hx hb dX6_append_44 (by decide) (fun c13 => ?_) (fun c13 => ?_)
            · replace hf := o_pos c13 hf
              refine lv_iload (pc := 51) hx hb dX6_append_51 (lv_at hl 6 rfl) ?_
              refine lv_bipush (pc := 53) (v := (12 : Int32)) hx hb dX6_append_53 (by decide) ?_
              refine lv_icmp_ge (pc := 55) (tgt := 62) hx hb dX6_append_55 (by decide) (fun c14 => ?_) (fun c14 => ?_)
              · replace hf := o_pos c14 hf
                refine lv_iload (pc := 62) hx hb dX6_append_62 (lv_at hl 6 rfl) ?_
                refine lv_bipush (pc := 64) (v := (16 : Int32)) hx hb dX6_append_64 (by decide) ?_
                refine lv_icmp_ge (pc := 66) (tgt := 74) hx hb dX6_append_66 (by decide) (fun c15 => ?_) (fun c15 => ?_)
                · replace hf := o_pos c15 hf
                  refine lv_iload (pc := 74) hx hb dX6_append_74 (lv_at hl 5 rfl) ?_
                  exact hj76_8 p5 H locs ls Z (lv_sub hl [0, 1, 2, 3, 4, 5, 6] rfl) hf
                · replace hf := o_neg c15 hf
                  refine lv_iload (pc := 69) hx hb dX6_append_69 (lv_at hl 4 rfl) ?_
                  refine lv_goto (pc := 71) (tgt := 76) hx hb dX6_append_71 (by decide) ?_
                  exact hj76_8 p4 H locs ls Z (lv_sub hl [0, 1, 2, 3, 4, 5, 6] rfl) hf
              · replace hf := o_neg c14 hf
                refine lv_iload_n (pc := 58) hx hb dX6_append_58 rfl (lv_at hl 3 rfl) ?_
                refine lv_goto (pc := 59) (tgt := 76) hx hb dX6_append_59 (by decide) ?_
                exact hj76_8 p3 H locs ls Z (lv_sub hl [0, 1, 2, 3, 4, 5, 6] rfl) hf
            · replace hf := o_neg c13 hf
              refine lv_iload_n (pc := 47) hx hb dX6_append_47 rfl (lv_at hl 2 rfl) ?_
              refine lv_goto (pc := 48) (tgt := 76) hx hb dX6_append_48 (by decide) ?_
              exact hj76_8 p2 H locs ls Z (lv_sub hl [0, 1, 2, 3, 4, 5, 6] rfl) hf
          · replace hf := o_neg c6 hf
            refine lv_iload_n (pc := 36) hx hb dX6_append_36 rfl (lv_at hl 1 rfl) ?_
            refine lv_goto (pc := 37) (tgt := 76) hx hb dX6_append_37 (by decide) ?_
            exact hj76_8 p1 H locs ls Z (lv_sub hl [0, 1, 2, 3, 4, 5, 6] rfl) hf
    exact hL23 1024 (0 : Int32) m_buffer m_bufferLength H locs ls Z (lv_sub hl [1, 2, 3, 4, 5, 6, 0] rfl) hf
  · replace hf := o_neg c1 hf
    refine lv_iconst (pc := 18) (v := (-1 : Int32)) hx hb dX6_append_18 (by decide) ?_
    cases hf
    exact z_iret (pc := 19) hx hb hr hlocks Z rfl rfl dX6_append_19
