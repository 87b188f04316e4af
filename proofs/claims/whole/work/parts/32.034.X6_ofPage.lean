def W_X6_ofPage (cA : Nat → ClassId) (h : Nat → Nat) (m_thrown : Int32) (m_bufferLength : Int32) (m_textLength : Int32) (m_position : Int32) (m_error : Int32) (m_errorAt : Int32) (m_errorOffset : Int32) (m_data : Nat → Int32) (m_undoDepth : Int32) (m_numberStart : Int32) (m_seen : Int32) (m_pageOf : Nat → Int32) (m_pages : Int32) : va_W := [(h 0, .inr (6, [.int m_thrown, .ref (h 1), .int m_bufferLength, .int m_textLength, .int m_position, .int m_error, .int m_errorAt, .int m_errorOffset, .ref (h 2), .ref (h 3), .ref (h 4), .int m_undoDepth, .int m_numberStart, .int m_seen, .ref (h 13), .ref (h 14), .ref (h 15), .ref (h 16), .int m_pages, .ref (h 17), .ref (h 18), .ref (h 19)])), (h 2, .inl (cA 0, 153, .inl m_data)), (h 14, .inl (cA 0, 24, .inl m_pageOf))]
def fX6_ofPage_L19 (m_data : Nat → Int32) (j100_6 : Int32 → Int32 → Int32 → Int32 → Option (Int32)) (m_pageOf : Nat → Int32) (p1 : Int32) : Nat → Int32 → Int32 → Int32 → Int32 → Int32 → Option (Int32)
  | 0, _, _, _, _, _ => none
  | n0 + 1, x10, x11, x12, x13, x14 => (if (m_data (1 : Int32).toNatClampNeg) ≤ x14 then (j100_6 x10 x11 x12 x13) else o_rd 24 x14 ((if (m_pageOf x14.toNatClampNeg) = p1 then o_let (fun (x19 : Int32) => o_let (x10 + (1 : Int32)) (fun x21 => o_bind (fX6_of x14 (0 : Int32) m_data) (fun x22 => o_let (x12 - x22) (fun x24 => o_bind (fX6_of x14 (4 : Int32) m_data) (fun x25 => o_bind (fX6_of x14 (1 : Int32) m_data) (fun x27 => o_let (x13 + (x25 * x27)) (fun x29 => o_let (x14 + (1 : Int32)) (fun x30 => (fX6_ofPage_L19 m_data j100_6 m_pageOf p1 n0 x21 x19 x24 x29 x30))))))))) (fun (j57_20 : Int32 → Option (Int32)) => (if x11 = (-1 : Int32) then (j57_20 x14) else (j57_20 x11))) else o_let (x14 + (1 : Int32)) (fun x31 => (fX6_ofPage_L19 m_data j100_6 m_pageOf p1 n0 x10 x11 x12 x13 x31)))))
def fX6_ofPage (p1 : Int32) (p2 : Int32) (m_data : Nat → Int32) (m_pageOf : Nat → Int32) : Option (Int32) := o_let (m_data (0 : Int32).toNatClampNeg) (fun x1 => o_let (fun (x2 : Int32) (x3 : Int32) (x4 : Int32) (x5 : Int32) => (if p2 = 0 then some (x2) else (if p2 = (1 : Int32) then some (x3) else (if p2 = (2 : Int32) then some (x4) else some (x5))))) (fun (j100_6 : Int32 → Int32 → Int32 → Int32 → Option (Int32)) => (fX6_ofPage_L19 m_data j100_6 m_pageOf p1 1024 (0 : Int32) (-1 : Int32) x1 (0 : Int32) (0 : Int32))))
theorem iw_X6_ofPage_X6 : ∀ w ∈ u_ws RX6 TX6 22, w ∈ wsX6_ofPage := z_inr [11, 12, 13, 14, 15, 16, 17, 18, 19, 20, 21, 22, 23, 24, 25, 26, 27, 28, 29, 30, 31, 32] rfl
set_option maxHeartbeats 4000000 in
set_option maxRecDepth 100000 in
theorem kX6_ofPage (l : Launch) (D : va_G) (cA : Nat → ClassId) (h : Nat → Nat) (p1 : Int32) (p2 : Int32) (m_thrown : Int32) (m_bufferLength : Int32) (m_textLength : Int32) (m_position : Int32) (m_error : Int32) (m_errorAt : Int32) (m_errorOffset : Int32) (m_data : Nat → Int32) (m_undoDepth : Int32) (m_numberStart : Int32) (m_seen : Int32) (m_pageOf : Nat → Int32) (m_pages : Int32) (u : Int32) (hf : fX6_ofPage p1 p2 m_data m_pageOf = some u) : zMi l yX6_ofPage wsX6_ofPage ({ frames := 2, cells := 0, slots := 0, locals := 42 } : Room) D (zTY cA) [.ref (h 0), .int p1, .int p2] (W_X6_ofPage cA h m_thrown m_bufferLength m_textLength m_position m_error m_errorAt m_errorOffset m_data m_undoDepth m_numberStart m_seen m_pageOf m_pages) (W_X6_ofPage cA h m_thrown m_bufferLength m_textLength m_position m_error m_errorAt m_errorOffset m_data m_undoDepth m_numberStart m_seen m_pageOf m_pages) u := by
  refine z_starti (cc := cX6_ofPage) (maxL := 8) (ret := (some .int)) (by decide) rfl (Nat.le_of_ble_eq_true rfl) ?_
  intro p e s m args below meth c A hx hb hr hts hown hlocks hml hA Z ls hl
  replace hown : s.vm.findClass RX6 = some m.cls := hown
  replace hl : lv_has ls 8 [(0, .ref (h 0)), (1, .int p1), (2, .int p2)] := hl
  obtain ⟨H, hH⟩ : ∃ H, H = s.heap := ⟨_, rfl⟩
  rw [← hH] at Z ⊢
  clear hH
  obtain ⟨locs, hlc⟩ : ∃ q : List Loc, q = [] := ⟨_, rfl⟩
  rw [← hlc] at Z ⊢
  clear hlc
  refine lv_iconst (pc := 0) (v := (0 : Int32)) hx hb dX6_ofPage_0 (by decide) ?_
  refine lv_istore_n (pc := 1) (lv' := [(3, .int (0 : Int32)), (0, .ref (h 0)), (1, .int p1), (2, .int p2)]) hx hb dX6_ofPage_1 rfl hl (by decide) rfl (fun ls hl => ?_)
  refine lv_iconst (pc := 2) (v := (-1 : Int32)) hx hb dX6_ofPage_2 (by decide) ?_
  refine lv_istore (pc := 3) (lv' := [(4, .int (-1 : Int32)), (3, .int (0 : Int32)), (0, .ref (h 0)), (1, .int p1), (2, .int p2)]) hx hb dX6_ofPage_3 hl (by decide) rfl (fun ls hl => ?_)
  refine lv_aload_n (pc := 5) hx hb dX6_ofPage_5 rfl (lv_at hl 2 rfl) ?_
  refine z_get (pc := 6) (ref := "LotSheetModel") (ci := 6) (C := RX6) (T := TX6) (N := 22) hx hb hts iw_X6_ofPage_X6 hown Z 0 rfl rfl 8 (by decide) (List.mem_of_getElem? (i := 1) rfl) rfl rfl dX6_ofPage_6 ?_
  refine lv_iconst (pc := 9) (v := (0 : Int32)) hx hb dX6_ofPage_9 (by decide) ?_
  refine z_iald (pc := 10) hx hb Z 1 0 rfl rfl (show ¬ ((0 : Int32) < 0 ∨ 153 ≤ (0 : Int32).toNatClampNeg) by decide) dX6_ofPage_10 ?_
  refine lv_topi (fun x1 ex1 => ?_)
  replace hf := o_letE ex1 hf
  refine lv_istore (pc := 11) (lv' := [(5, .int x1), (4, .int (-1 : Int32)), (3, .int (0 : Int32)), (0, .ref (h 0)), (1, .int p1), (2, .int p2)]) hx hb dX6_ofPage_11 hl (by decide) rfl (fun ls hl => ?_)
  refine lv_iconst (pc := 13) (v := (0 : Int32)) hx hb dX6_ofPage_13 (by decide) ?_
  refine lv_istore (pc := 14) (lv' := [(6, .int (0 : Int32)), (5, .int x1), (4, .int (-1 : Int32)), (3, .int (0 : Int32)), (0, .ref (h 0)), (1, .int p1), (2, .int p2)]) hx hb dX6_ofPage_14 hl (by decide) rfl (fun ls hl => ?_)
  refine lv_iconst (pc := 16) (v := (0 : Int32)) hx hb dX6_ofPage_16 (by decide) ?_
  refine lv_istore (pc := 17) (lv' := [(7, .int (0 : Int32)), (6, .int (0 : Int32)), (5, .int x1), (4, .int (-1 : Int32)), (3, .int (0 : Int32)), (0, .ref (h 0)), (1, .int p1), (2, .int p2)]) hx hb dX6_ofPage_17 hl (by decide) rfl (fun ls hl => ?_)
  obtain ⟨j100_6, ej100_6, hf⟩ := o_jnE hf
  have hj100_6 : ∀ (x2 : Int32) (x3 : Int32) (x4 : Int32) (x5 : Int32) (H : Heap) (locs : List Loc) (ls : Array Slot), zw D (zTY cA) s A (W_X6_ofPage cA h m_thrown m_bufferLength m_textLength m_position m_error m_errorAt m_errorOffset m_data m_undoDepth m_numberStart m_seen m_pageOf m_pages) H locs → lv_has ls 8 [(2, .int p2), (3, .int x2), (4, .int x3), (5, .int x4), (6, .int x5)] → j100_6 x2 x3 x4 x5 = some u → W p l e ({ frames := 2, cells := 0, slots := 0, locals := 42 } : Room) s m args below meth c H locs 0 0 (MQ below (zQi D (zTY cA) A (W_X6_ofPage cA h m_thrown m_bufferLength m_textLength m_position m_error m_errorAt m_errorOffset m_data m_undoDepth m_numberStart m_seen m_pageOf m_pages) u) args s 0 0 A) (F0 m 100 ls []) := by
    intro x2 x3 x4 x5 H locs ls Z hl hf
    rw [ej100_6] at hf
    refine lv_iload_n (pc := 100) hx hb dX6_ofPage_100 rfl (lv_at hl 0 rfl) ?_
    refine lv_if_ne (pc := 101) (tgt := 108) hx hb dX6_ofPage_101 (by decide) (fun c7 => ?_) (fun c7 => ?_)
    · replace hf := o_neg c7 hf
      refine lv_iload_n (pc := 108) hx hb dX6_ofPage_108 rfl (lv_at hl 0 rfl) ?_
      refine lv_iconst (pc := 109) (v := (1 : Int32)) hx hb dX6_ofPage_109 (by decide) ?_
      refine lv_icmp_ne (pc := 110) (tgt := 118) hx hb dX6_ofPage_110 (by decide) (fun c8 => ?_) (fun c8 => ?_)
      · replace hf := o_neg c8 hf
        refine lv_iload_n (pc := 118) hx hb dX6_ofPage_118 rfl (lv_at hl 0 rfl) ?_
        refine lv_iconst (pc := 119) (v := (2 : Int32)) hx hb dX6_ofPage_119 (by decide) ?_
        refine lv_icmp_ne (pc := 120) (tgt := 128) hx hb dX6_ofPage_120 (by decide) (fun c9 => ?_) (fun c9 => ?_)
        · replace hf := o_neg c9 hf
          refine lv_iload (pc := 128) hx hb dX6_ofPage_128 (lv_at hl 4 rfl) ?_
          cases hf
          exact z_iret (pc := 130) hx hb hr hlocks Z rfl rfl dX6_ofPage_130
        · replace hf := o_pos c9 hf
          refine lv_iload (pc := 123) hx hb dX6_ofPage_123 (lv_at hl 3 rfl) ?_
          refine lv_goto (pc := 125) (tgt := 130) hx hb dX6_ofPage_125 (by decide) ?_
          cases hf
          exact z_iret (pc := 130) hx hb hr hlocks Z rfl rfl dX6_ofPage_130
      · replace hf := o_pos c8 hf
        refine lv_iload (pc := 113) hx hb dX6_ofPage_113 (lv_at hl 2 rfl) ?_
        refine lv_goto (pc := 115) (tgt := 130) hx hb dX6_ofPage_115 (by decide) ?_
        cases hf
        exact z_iret (pc := 130) hx hb hr hlocks Z rfl rfl dX6_ofPage_130
    · replace hf := o_pos c7 hf
      refine lv_iload_n (pc := 104) hx hb dX6_ofPage_104 rfl (lv_at hl 1 rfl) ?_
      refine lv_goto (pc := 105) (tgt := 130) hx hb dX6_ofPage_105 (by decide) ?_
      cases hf
      exact z_iret (pc := 130) hx hb hr hlocks Z rfl rfl dX6_ofPage_130
  have hL19 : ∀ (n0 : Nat) (x10 : Int32) (x11 : Int32) (x12 : Int32) (x13 : Int32) (x14 : Int32) (H : Heap) (locs : List Loc) (ls : Array Slot), zw D (zTY cA) s A (W_X6_ofPage cA h m_thrown m_bufferLength m_textLength m_position m_error m_errorAt m_errorOffset m_data m_undoDepth m_numberStart m_seen m_pageOf m_pages) H locs → lv_has ls 8 [(0, .ref (h 0)), (1, .int p1), (2, .int p2), (3, .int x10), (4, .int x11), (5, .int x12), (6, .int x13), (7, .int x14)] → fX6_ofPage_L19 m_data j100_6 m_pageOf p1 n0 x10 x11 x12 x13 x14 = some u → W p l e ({ frames := 2, cells := 0, slots := 0, locals := 42 } : Room) s m args below meth c H locs 0 0 (MQ below (zQi D (zTY cA) A (W_X6_ofPage cA h m_thrown m_bufferLength m_textLength m_position m_error m_errorAt m_errorOffset m_data m_undoDepth m_numberStart m_seen m_pageOf m_pages) u) args s 0 0 A) (F0 m 19 ls []) := by
    intro n0
    induction n0 with
    | zero => intro x10 x11 x12 x13 x14 H locs ls Z hl hf; exact o_no hf
    | succ n0 ih0 =>
      intro x10 x11 x12 x13 x14 H locs ls Z hl hf
      refine lv_iload (pc := 19) hx hb dX6_ofPage_19 (lv_at hl 7 rfl) ?_
      refine lv_aload_n (pc := 21) hx hb dX6_ofPage_21 rfl (lv_at hl 0 rfl) ?_
      refine z_get (pc := 22) (ref := "LotSheetModel") (ci := 6) (C := RX6) (T := TX6) (N := 22) hx hb hts iw_X6_ofPage_X6 hown Z 0 rfl rfl 8 (by decide) (List.mem_of_getElem? (i := 1) rfl) rfl rfl dX6_ofPage_22 ?_
      refine lv_iconst (pc := 25) (v := (1 : Int32)) hx hb dX6_ofPage_25 (by decide) ?_
      refine z_iald (pc := 26) hx hb Z 1 0 rfl rfl (show ¬ ((1 : Int32) < 0 ∨ 153 ≤ (1 : Int32).toNatClampNeg) by decide) dX6_ofPage_26 ?_
      refine lv_icmp_ge (pc := 27) (tgt := 100) hx hb dX6_ofPage_27 (by decide) (fun c15 => ?_) (fun c15 => ?_)
      · replace hf := o_pos c15 hf
        exact hj100_6 x10 x11 x12 x13 H locs ls Z (lv_sub hl [2, 3, 4, 5, 6] rfl) hf
      · replace hf := o_neg c15 hf
        refine lv_aload_n (pc := 30) hx hb dX6_ofPage_30 rfl (lv_at hl 0 rfl) ?_
        refine z_get (pc := 31) (ref := "LotSheetModel") (ci := 6) (C := RX6) (T := TX6) (N := 22) hx hb hts iw_X6_ofPage_X6 hown Z 0 rfl rfl 15 (by decide) (List.mem_of_getElem? (i := 2) rfl) rfl rfl dX6_ofPage_31 ?_
        refine lv_iload (pc := 34) hx hb dX6_ofPage_34 (lv_at hl 7 rfl) ?_
        obtain ⟨i16, hf⟩ := o_rdE hf
        refine z_iald (pc := 36) hx hb Z 2 0 rfl rfl i16 dX6_ofPage_36 ?_
        refine lv_iload_n (pc := 37) hx hb dX6_ofPage_37 rfl (lv_at hl 1 rfl) ?_
        refine lv_icmp_eq (pc := 38) (tgt := 44) hx hb dX6_ofPage_38 (by decide) (fun c17 => ?_) (fun c17 => ?_)
        · replace hf := o_pos c17 hf
          refine lv_iload (pc := 44) hx hb dX6_ofPage_44 (lv_at hl 4 rfl) ?_
          refine lv_iconst (pc := 46) (v := (-1 : Int32)) hx hb dX6_ofPage_46 (by decide) ?_
          obtain ⟨j57_20, ej57_20, hf⟩ := o_jnE hf
          have hj57_20 : ∀ (x19 : Int32) (H : Heap) (locs : List Loc) (ls : Array Slot), zw D (zTY cA) s A (W_X6_ofPage cA h m_thrown m_bufferLength m_textLength m_position m_error m_errorAt m_errorOffset m_data m_undoDepth m_numberStart m_seen m_pageOf m_pages) H locs → lv_has ls 8 [(0, .ref (h 0)), (1, .int p1), (2, .int p2), (3, .int x10), (5, .int x12), (6, .int x13), (7, .int x14)] → j57_20 x19 = some u → W p l e ({ frames := 2, cells := 0, slots := 0, locals := 42 } : Room) s m args below meth c H locs 0 0 (MQ below (zQi D (zTY cA) A (W_X6_ofPage cA h m_thrown m_bufferLength m_textLength m_position m_error m_errorAt m_errorOffset m_data m_undoDepth m_numberStart m_seen m_pageOf m_pages) u) args s 0 0 A) (F0 m 57 ls [.int x19]) := by
            intro x19 H locs ls Z hl hf
            rw [ej57_20] at hf
            refine lv_istore (pc := 57) (lv' := [(4, .int x19), (0, .ref (h 0)), (1, .int p1), (2, .int p2), (3, .int x10), (5, .int x12), (6, .int x13), (7, .int x14)]) hx hb dX6_ofPage_57 hl (by decide) rfl (fun ls hl => ?_)
            obtain ⟨x21, ex21⟩ : ∃ y : Int32, y = (x10 + (1 : Int32)) := ⟨_, rfl⟩
            replace hf := o_letE ex21 hf
            refine lv_iinc (pc := 59) (v := x21) (lv' := [(3, .int x21), (4, .int x19), (0, .ref (h 0)), (1, .int p1), (2, .int p2), (5, .int x12), (6, .int x13), (7, .int x14)]) hx hb dX6_ofPage_59 hl (k := 4) rfl (by rw [ex21]; rfl) (by decide) rfl (fun ls hl => ?_)
            refine lv_iload (pc := 62) hx hb dX6_ofPage_62 (lv_at hl 5 rfl) ?_
            refine lv_aload_n (pc := 64) hx hb dX6_ofPage_64 rfl (lv_at hl 2 rfl) ?_
            refine lv_iload (pc := 65) hx hb dX6_ofPage_65 (lv_at hl 7 rfl) ?_
            refine lv_iconst (pc := 67) (v := (0 : Int32)) hx hb dX6_ofPage_67 (by decide) ?_
            obtain ⟨x22, q23, hf⟩ := o_bindE hf
            refine z_callVi (pc := 68) (As := [.int x14, .int (0 : Int32)]) (rest := [.int x12]) (Wc := (W_X6_of cA (fun k => h ([0, 1, 2, 3, 4, 5, 6, 7, 8, 9, 10, 11, 12, 13, 14, 15, 16, 17, 18, 19].getD k 0)) m_thrown m_bufferLength m_textLength m_position m_error m_errorAt m_errorOffset m_data m_undoDepth m_numberStart m_seen m_pages)) (W1 := (W_X6_of cA (fun k => h ([0, 1, 2, 3, 4, 5, 6, 7, 8, 9, 10, 11, 12, 13, 14, 15, 16, 17, 18, 19].getD k 0)) m_thrown m_bufferLength m_textLength m_position m_error m_errorAt m_errorOffset m_data m_undoDepth m_numberStart m_seen m_pages)) (W2 := (W_X6_ofPage cA h m_thrown m_bufferLength m_textLength m_position m_error m_errorAt m_errorOffset m_data m_undoDepth m_numberStart m_seen m_pageOf m_pages)) ⟨hx, hb, hml, hown, hts⟩ (kX6_of l D cA (fun k => h ([0, 1, 2, 3, 4, 5, 6, 7, 8, 9, 10, 11, 12, 13, 14, 15, 16, 17, 18, 19].getD k 0)) x14 (0 : Int32) m_thrown m_bufferLength m_textLength m_position m_error m_errorAt m_errorOffset m_data m_undoDepth m_numberStart m_seen m_pages _ q23) (cwV 2 hts gX6_ofPage_X6_of rfl rfl rfl (by decide +kernel) ⟨Nat.le_of_ble_eq_true rfl, Nat.le_of_ble_eq_true rfl⟩) Z hA [0, 1] rfl (by decide) rfl (ci := 6) rfl rfl rfl rfl hl.1 rfl (Nat.le_of_ble_eq_true rfl) dX6_ofPage_68 ⟨Nat.zero_le _, Nat.zero_le _⟩ [some 0, some 1, none] rfl ⟨rfl, rfl, rfl, rfl⟩ (fun H locs Z => ?_)
            refine lv_isub (pc := 71) hx hb dX6_ofPage_71 ?_
            refine lv_topi (fun x24 ex24 => ?_)
            replace hf := o_letE ex24 hf
            refine lv_istore (pc := 72) (lv' := [(5, .int x24), (3, .int x21), (4, .int x19), (0, .ref (h 0)), (1, .int p1), (2, .int p2), (6, .int x13), (7, .int x14)]) hx hb dX6_ofPage_72 hl (by decide) rfl (fun ls hl => ?_)
            refine lv_iload (pc := 74) hx hb dX6_ofPage_74 (lv_at hl 6 rfl) ?_
            refine lv_aload_n (pc := 76) hx hb dX6_ofPage_76 rfl (lv_at hl 3 rfl) ?_
            refine lv_iload (pc := 77) hx hb dX6_ofPage_77 (lv_at hl 7 rfl) ?_
            refine lv_iconst (pc := 79) (v := (4 : Int32)) hx hb dX6_ofPage_79 (by decide) ?_
            obtain ⟨x25, q26, hf⟩ := o_bindE hf
            refine z_callVi (pc := 80) (As := [.int x14, .int (4 : Int32)]) (rest := [.int x13]) (Wc := (W_X6_of cA (fun k => h ([0, 1, 2, 3, 4, 5, 6, 7, 8, 9, 10, 11, 12, 13, 14, 15, 16, 17, 18, 19].getD k 0)) m_thrown m_bufferLength m_textLength m_position m_error m_errorAt m_errorOffset m_data m_undoDepth m_numberStart m_seen m_pages)) (W1 := (W_X6_of cA (fun k => h ([0, 1, 2, 3, 4, 5, 6, 7, 8, 9, 10, 11, 12, 13, 14, 15, 16, 17, 18, 19].getD k 0)) m_thrown m_bufferLength m_textLength m_position m_error m_errorAt m_errorOffset m_data m_undoDepth m_numberStart m_seen m_pages)) (W2 := (W_X6_ofPage cA h m_thrown m_bufferLength m_textLength m_position m_error m_errorAt m_errorOffset m_data m_undoDepth m_numberStart m_seen m_pageOf m_pages)) ⟨hx, hb, hml, hown, hts⟩ (kX6_of l D cA (fun k => h ([0, 1, 2, 3, 4, 5, 6, 7, 8, 9, 10, 11, 12, 13, 14, 15, 16, 17, 18, 19].getD k 0)) x14 (4 : Int32) m_thrown m_bufferLength m_textLength m_position m_error m_errorAt m_errorOffset m_data m_undoDepth m_numberStart m_seen m_pages _ q26) (cwV 2 hts gX6_ofPage_X6_of rfl rfl rfl (by decide +kernel) ⟨Nat.le_of_ble_eq_true rfl, Nat.le_of_ble_eq_true rfl⟩) Z hA [0, 1] rfl (by decide) rfl (ci := 6) rfl rfl rfl rfl hl.1 rfl (Nat.le_of_ble_eq_true rfl) dX6_ofPage_80 ⟨Nat.zero_le _, Nat.zero_le _⟩ [some 0, some 1, none] rfl ⟨rfl, rfl, rfl, rfl⟩ (fun H locs Z => ?_)
            refine lv_aload_n (pc := 83) hx hb dX6_ofPage_83 rfl (lv_at hl 3 rfl) ?_
            refine lv_iload (pc := 84) hx hb dX6_ofPage_84 (lv_at hl 7 rfl) ?_
            refine lv_iconst (pc := 86) (v := (1 : Int32)) hx hb dX6_ofPage_86 (by decide) ?_
            obtain ⟨x27, q28, hf⟩ := o_bindE hf
            refine z_callVi (pc := 87) (As := [.int x14, .int (1 : Int32)]) (rest := [.int x25, .int x13]) (Wc := (W_X6_of cA (fun k => h ([0, 1, 2, 3, 4, 5, 6, 7, 8, 9, 10, 11, 12, 13, 14, 15, 16, 17, 18, 19].getD k 0)) m_thrown m_bufferLength m_textLength m_position m_error m_errorAt m_errorOffset m_data m_undoDepth m_numberStart m_seen m_pages)) (W1 := (W_X6_of cA (fun k => h ([0, 1, 2, 3, 4, 5, 6, 7, 8, 9, 10, 11, 12, 13, 14, 15, 16, 17, 18, 19].getD k 0)) m_thrown m_bufferLength m_textLength m_position m_error m_errorAt m_errorOffset m_data m_undoDepth m_numberStart m_seen m_pages)) (W2 := (W_X6_ofPage cA h m_thrown m_bufferLength m_textLength m_position m_error m_errorAt m_errorOffset m_data m_undoDepth m_numberStart m_seen m_pageOf m_pages)) ⟨hx, hb, hml, hown, hts⟩ (kX6_of l D cA (fun k => h ([0, 1, 2, 3, 4, 5, 6, 7, 8, 9, 10, 11, 12, 13, 14, 15, 16, 17, 18, 19].getD k 0)) x14 (1 : Int32) m_thrown m_bufferLength m_textLength m_position m_error m_errorAt m_errorOffset m_data m_undoDepth m_numberStart m_seen m_pages _ q28) (cwV 2 hts gX6_ofPage_X6_of rfl rfl rfl (by decide +kernel) ⟨Nat.le_of_ble_eq_true rfl, Nat.le_of_ble_eq_true rfl⟩) Z hA [0, 1] rfl (by decide) rfl (ci := 6) rfl rfl rfl rfl hl.1 rfl (Nat.le_of_ble_eq_true rfl) dX6_ofPage_87 ⟨Nat.zero_le _, Nat.zero_le _⟩ [some 0, some 1, none] rfl ⟨rfl, rfl, rfl, rfl⟩ (fun H locs Z => ?_)
            refine lv_imul (pc := 90) hx hb dX6_ofPage_90 ?_
            refine lv_iadd (pc := 91) hx hb dX6_ofPage_91 ?_
            refine lv_topi (fun x29 ex29 => ?_)
            replace hf := o_letE ex29 hf
            refine lv_istore (pc := 92) (lv' := [(6, .int x29), (5, .int x24), (3, .int x21), (4, .int x19), (0, .ref (h 0)), (1, .int p1), (2, .int p2), (7, .int x14)]) hx hb dX6_ofPage_92 hl (by decide) rfl (fun ls hl => ?_)
            obtain ⟨x30, ex30⟩ : ∃ y : Int32, y = (x14 + (1 : Int32)) := ⟨_, rfl⟩
            replace hf := o_letE ex30 hf
            refine lv_iinc (pc := 94) (v := x30) (lv' := [(7, .int x30), (6, .int x29), (5, .int x24), (3, .int x21), (4, .int x19), (0, .ref (h 0)), (1, .int p1), (2, .int p2)]) hx hb dX6_ofPage_94 hl (k := 7) rfl (by rw [ex30]; rfl) (by decide) rfl (fun ls hl => ?_)
            refine lv_goto (pc := 97) (tgt := 19) hx hb dX6_ofPage_97 (by decide) ?_
            exact ih0 x21 x19 x24 x29 x30 H locs ls Z (lv_sub hl [5, 6, 7, 3, 4, 2, 1, 0] rfl) hf
          refine lv_icmp_ne (pc := 47) (tgt := 55) hx hb dX6_ofPage_47 (by decide) (fun c18 => ?_) (fun c18 => ?_)
          · replace hf := o_neg c18 hf
            refine lv_iload (pc := 55) hx hb dX6_ofPage_55 (lv_at hl 4 rfl) ?_
            exact hj57_20 x11 H locs ls Z (lv_sub hl [0, 1, 2, 3, 5, 6, 7] rfl) hf
          · replace hf := o_pos c18 hf
            refine lv_iload (pc := 50) hx hb dX6_ofPage_50 (lv_at hl 7 rfl) ?_
            refine lv_goto (pc := 52) (tgt := 57) hx hb dX6_ofPage_52 (by decide) ?_
            exact hj57_20 x14 H locs ls Z (lv_sub hl [0, 1, 2, 3, 5, 6, 7] rfl) hf
        · replace hf := o_neg c17 hf
          refine lv_goto (pc := 41) (tgt := 94) hx hb dX6_ofPage_41 (by decide) ?_
          obtain ⟨x31, ex31⟩ : ∃ y : Int32, y = (x14 + (1 : Int32)) := ⟨_, rfl⟩
          replace hf := o_letE ex31 hf
          refine lv_iinc (pc := 94) (v := x31) (lv' := [(7, .int x31), (0, .ref (h 0)), (1, .int p1), (2, .int p2), (3, .int x10), (4, .int x11), (5, .int x12), (6, .int x13)]) hx hb dX6_ofPage_94 hl (k := 7) rfl (by rw [ex31]; rfl) (by decide) rfl (fun ls hl => ?_)
          refine lv_goto (pc := 97) (tgt := 19) hx hb dX6_ofPage_97 (by decide) ?_
          exact ih0 x10 x11 x12 x13 x31 H locs ls Z (lv_sub hl [1, 2, 3, 4, 5, 6, 7, 0] rfl) hf
  exact hL19 1024 (0 : Int32) (-1 : Int32) x1 (0 : Int32) (0 : Int32) H locs ls Z (lv_sub hl [5, 6, 7, 4, 3, 2, 1, 0] rfl) hf
