def W_X6_seller (cA : Nat → ClassId) (h : Nat → Nat) (m_thrown : Int32) (m_bufferLength : Int32) (m_textLength : Int32) (m_position : Int32) (m_error : Int32) (m_errorAt : Int32) (m_errorOffset : Int32) (m_data : Nat → Int32) (m_undoDepth : Int32) (m_numberStart : Int32) (m_seen : Int32) (m_pages : Int32) : va_W := [(h 0, .inr (6, [.int m_thrown, .ref (h 1), .int m_bufferLength, .int m_textLength, .int m_position, .int m_error, .int m_errorAt, .int m_errorOffset, .ref (h 2), .ref (h 3), .ref (h 4), .int m_undoDepth, .int m_numberStart, .int m_seen, .ref (h 13), .ref (h 14), .ref (h 15), .ref (h 16), .int m_pages, .ref (h 17), .ref (h 18), .ref (h 19)])), (h 2, .inl (cA 0, 153, .inl m_data))]
def fX6_seller_L44 (m_data : Nat → Int32) (x7 : Int32) (p1 : Int32) (p2 : Int32) : Nat → Int32 → Int32 → Option (Int32 × Int32)
  | 0, _, _ => none
  | n0 + 1, x10, x11 => (if (m_data (1 : Int32).toNatClampNeg) ≤ x11 then some (x10, x7) else o_bind (fX6_of x11 (2 : Int32) m_data) (fun x13 => (if x13 = p1 then (if p2 = 0 then o_bind (fX6_of x11 (4 : Int32) m_data) (fun x30 => o_let (x10 + x30) (fun x32 => o_let (x11 + (1 : Int32)) (fun x33 => (fX6_seller_L44 m_data x7 p1 p2 n0 x32 x33)))) else (if p2 = (1 : Int32) then o_bind (fX6_of x11 (4 : Int32) m_data) (fun x24 => o_bind (fX6_of x11 (1 : Int32) m_data) (fun x26 => o_let (x10 + (x24 * x26)) (fun x28 => o_let (x11 + (1 : Int32)) (fun x29 => (fX6_seller_L44 m_data x7 p1 p2 n0 x28 x29))))) else o_bind (fX6_of x11 (3 : Int32) m_data) (fun x18 => o_bind (fX6_of x11 (0 : Int32) m_data) (fun x20 => o_let (x10 + (x18 * x20)) (fun x22 => o_let (x11 + (1 : Int32)) (fun x23 => (fX6_seller_L44 m_data x7 p1 p2 n0 x22 x23))))))) else o_let (x11 + (1 : Int32)) (fun x34 => (fX6_seller_L44 m_data x7 p1 p2 n0 x10 x34)))))
def fX6_seller (p1 : Int32) (p2 : Int32) (m_thrown : Int32) (m_data : Nat → Int32) : Option (Int32 × Int32) := o_bind (fX6_in p1 (0 : Int32) (9 : Int32)) (fun x1 => o_let (fun (x4 : Int32) => o_bind (fX6_fails x4 (1 : Int32) (0 : Int32)) (fun (x6, x7) => (if x6 = 0 then (fX6_seller_L44 m_data x7 p1 p2 1024 (0 : Int32) (0 : Int32)) else some ((0 : Int32), x7)))) (fun (j30_5 : Int32 → Option (Int32 × Int32)) => (if x1 = 0 then (j30_5 (1 : Int32)) else o_bind (fX6_in p2 (0 : Int32) (2 : Int32)) (fun x35 => (if x35 = 0 then (j30_5 (1 : Int32)) else (j30_5 (0 : Int32)))))))
theorem iw_X6_seller_X6 : ∀ w ∈ u_ws RX6 TX6 22, w ∈ wsX6_seller := z_inr [18, 19, 20, 21, 22, 23, 24, 25, 26, 27, 28, 29, 30, 31, 32, 33, 34, 35, 36, 37, 38, 39] rfl
set_option maxHeartbeats 4000000 in
set_option maxRecDepth 100000 in
theorem kX6_seller (l : Launch) (D : va_G) (cA : Nat → ClassId) (h : Nat → Nat) (p1 : Int32) (p2 : Int32) (m_thrown : Int32) (m_bufferLength : Int32) (m_textLength : Int32) (m_position : Int32) (m_error : Int32) (m_errorAt : Int32) (m_errorOffset : Int32) (m_data : Nat → Int32) (m_undoDepth : Int32) (m_numberStart : Int32) (m_seen : Int32) (m_pages : Int32) (u : Int32 × Int32) (hf : fX6_seller p1 p2 m_thrown m_data = some u) : zMi l yX6_seller wsX6_seller ({ frames := 2, cells := 0, slots := 0, locals := 42 } : Room) D (zTY cA) [.ref (h 0), .int p1, .int p2] (W_X6_seller cA h m_thrown m_bufferLength m_textLength m_position m_error m_errorAt m_errorOffset m_data m_undoDepth m_numberStart m_seen m_pages) (W_X6_seller cA h (u.2) m_bufferLength m_textLength m_position m_error m_errorAt m_errorOffset m_data m_undoDepth m_numberStart m_seen m_pages) u.1 := by
  refine z_starti (cc := cX6_seller) (maxL := 5) (ret := (some .int)) (by decide) rfl (Nat.le_of_ble_eq_true rfl) ?_
  intro p e s m args below meth c A hx hb hr hts hown hlocks hml hA Z ls hl
  replace hown : s.vm.findClass RX6 = some m.cls := hown
  replace hl : lv_has ls 5 [(0, .ref (h 0)), (1, .int p1), (2, .int p2)] := hl
  obtain ⟨H, hH⟩ : ∃ H, H = s.heap := ⟨_, rfl⟩
  rw [← hH] at Z ⊢
  clear hH
  obtain ⟨locs, hlc⟩ : ∃ q : List Loc, q = [] := ⟨_, rfl⟩
  rw [← hlc] at Z ⊢
  clear hlc
  refine lv_aload_n (pc := 0) hx hb dX6_seller_0 rfl (lv_at hl 0 rfl) ?_
  refine lv_iconst (pc := 1) (v := (0 : Int32)) hx hb dX6_seller_1 (by decide) ?_
  refine z_put (pc := 2) (ref := "LotSheetModel") (ci := 6) (C := RX6) (T := TX6) (N := 22) (W1 := (W_X6_seller cA h (0 : Int32) m_bufferLength m_textLength m_position m_error m_errorAt m_errorOffset m_data m_undoDepth m_numberStart m_seen m_pages)) hx hb hts iw_X6_seller_X6 tyX6 tyX6_ok nmX6 hown Z 0 rfl rfl 0 (by decide) (List.mem_of_getElem? (i := 1) rfl) rfl rfl rfl rfl (Nat.le_of_ble_eq_true rfl) dX6_seller_2 rfl (fun H locs Z => ?_)
  refine lv_aload_n (pc := 5) hx hb dX6_seller_5 rfl (lv_at hl 0 rfl) ?_
  refine lv_iload_n (pc := 6) hx hb dX6_seller_6 rfl (lv_at hl 1 rfl) ?_
  refine lv_iconst (pc := 7) (v := (0 : Int32)) hx hb dX6_seller_7 (by decide) ?_
  refine lv_bipush (pc := 8) (v := (9 : Int32)) hx hb dX6_seller_8 (by decide) ?_
  obtain ⟨x1, q2, hf⟩ := o_bindE hf
  refine z_callSi (pc := 10) (As := [.int p1, .int (0 : Int32), .int (9 : Int32)]) (rest := [.ref (h 0)]) (Wc := (W_X6_in cA (fun k => h ([0].getD k 0)))) (W1 := (W_X6_in cA (fun k => h ([0].getD k 0)))) (W2 := (W_X6_seller cA h (0 : Int32) m_bufferLength m_textLength m_position m_error m_errorAt m_errorOffset m_data m_undoDepth m_numberStart m_seen m_pages)) ⟨hx, hb, hml, hown, hts⟩ (kX6_in l D cA (fun k => h ([0].getD k 0)) p1 (0 : Int32) (9 : Int32) _ q2) (va_cwS 3 hts gX6_seller_X6_in rfl rfl rfl (by decide +kernel) ⟨Nat.le_of_ble_eq_true rfl, Nat.le_of_ble_eq_true rfl⟩) Z hA [] rfl (by decide) rfl rfl hl.1 rfl (Nat.le_of_ble_eq_true rfl) dX6_seller_10 ⟨Nat.zero_le _, Nat.zero_le _⟩ [none, none] rfl ⟨rfl, rfl, rfl⟩ (fun H locs Z => ?_)
  obtain ⟨j30_5, ej30_5, hf⟩ := o_jnE hf
  have hj30_5 : ∀ (x4 : Int32) (H : Heap) (locs : List Loc) (ls : Array Slot), zw D (zTY cA) s A (W_X6_seller cA h (0 : Int32) m_bufferLength m_textLength m_position m_error m_errorAt m_errorOffset m_data m_undoDepth m_numberStart m_seen m_pages) H locs → lv_has ls 5 [(0, .ref (h 0)), (1, .int p1), (2, .int p2)] → j30_5 x4 = some u → W p l e ({ frames := 2, cells := 0, slots := 0, locals := 42 } : Room) s m args below meth c H locs 0 0 (MQ below (zQi D (zTY cA) A (W_X6_seller cA h (u.2) m_bufferLength m_textLength m_position m_error m_errorAt m_errorOffset m_data m_undoDepth m_numberStart m_seen m_pages) u.1) args s 0 0 A) (F0 m 30 ls [.int x4, .ref (h 0)]) := by
    intro x4 H locs ls Z hl hf
    rw [ej30_5] at hf
    refine lv_iconst (pc := 30) (v := (1 : Int32)) hx hb dX6_seller_30 (by decide) ?_
    obtain ⟨⟨x6, x7⟩, q8, hf⟩ := o_bindE hf
    refine z_callVi (pc := 31) (As := [.int x4, .int (1 : Int32)]) (rest := []) (Wc := (W_X6_fails cA (fun k => h ([0, 1, 2, 3, 4, 5, 6, 7, 8, 9, 10, 11, 12, 13, 14, 15, 16, 17, 18, 19].getD k 0)) (0 : Int32) m_bufferLength m_textLength m_position m_error m_errorAt m_errorOffset m_undoDepth m_numberStart m_seen m_pages)) (W1 := (W_X6_fails cA (fun k => h ([0, 1, 2, 3, 4, 5, 6, 7, 8, 9, 10, 11, 12, 13, 14, 15, 16, 17, 18, 19].getD k 0)) x7 m_bufferLength m_textLength m_position m_error m_errorAt m_errorOffset m_undoDepth m_numberStart m_seen m_pages)) (W2 := (W_X6_seller cA h x7 m_bufferLength m_textLength m_position m_error m_errorAt m_errorOffset m_data m_undoDepth m_numberStart m_seen m_pages)) ⟨hx, hb, hml, hown, hts⟩ (kX6_fails l D cA (fun k => h ([0, 1, 2, 3, 4, 5, 6, 7, 8, 9, 10, 11, 12, 13, 14, 15, 16, 17, 18, 19].getD k 0)) x4 (1 : Int32) (0 : Int32) m_bufferLength m_textLength m_position m_error m_errorAt m_errorOffset m_undoDepth m_numberStart m_seen m_pages _ q8) (cwV 2 hts gX6_seller_X6_fails rfl rfl rfl (by decide +kernel) ⟨Nat.le_of_ble_eq_true rfl, Nat.le_of_ble_eq_true rfl⟩) Z hA [0] rfl (by decide) rfl (ci := 6) rfl rfl rfl rfl hl.1 rfl (Nat.le_of_ble_eq_true rfl) dX6_seller_31 ⟨Nat.zero_le _, Nat.zero_le _⟩ [some 0, none] rfl ⟨rfl, rfl, rfl⟩ (fun H locs Z => ?_)
    refine lv_if_eq (pc := 34) (tgt := 39) hx hb dX6_seller_34 (by decide) (fun c9 => ?_) (fun c9 => ?_)
    · replace hf := o_pos c9 hf
      refine lv_iconst (pc := 39) (v := (0 : Int32)) hx hb dX6_seller_39 (by decide) ?_
      refine lv_istore_n (pc := 40) (lv' := [(3, .int (0 : Int32)), (0, .ref (h 0)), (1, .int p1), (2, .int p2)]) hx hb dX6_seller_40 rfl hl (by decide) rfl (fun ls hl => ?_)
      refine lv_iconst (pc := 41) (v := (0 : Int32)) hx hb dX6_seller_41 (by decide) ?_
      refine lv_istore (pc := 42) (lv' := [(4, .int (0 : Int32)), (3, .int (0 : Int32)), (0, .ref (h 0)), (1, .int p1), (2, .int p2)]) hx hb dX6_seller_42 hl (by decide) rfl (fun ls hl => ?_)
      have hL44 : ∀ (n0 : Nat) (x10 : Int32) (x11 : Int32) (H : Heap) (locs : List Loc) (ls : Array Slot), zw D (zTY cA) s A (W_X6_seller cA h x7 m_bufferLength m_textLength m_position m_error m_errorAt m_errorOffset m_data m_undoDepth m_numberStart m_seen m_pages) H locs → lv_has ls 5 [(0, .ref (h 0)), (1, .int p1), (2, .int p2), (3, .int x10), (4, .int x11)] → fX6_seller_L44 m_data x7 p1 p2 n0 x10 x11 = some u → W p l e ({ frames := 2, cells := 0, slots := 0, locals := 42 } : Room) s m args below meth c H locs 0 0 (MQ below (zQi D (zTY cA) A (W_X6_seller cA h (u.2) m_bufferLength m_textLength m_position m_error m_errorAt m_errorOffset m_data m_undoDepth m_numberStart m_seen m_pages) u.1) args s 0 0 A) (F0 m 44 ls []) := by
        intro n0
        induction n0 with
        | zero => intro x10 x11 H locs ls Z hl hf; exact o_no hf
        | succ n0 ih0 =>
          intro x10 x11 H locs ls Z hl hf
          refine lv_iload (pc := 44) hx hb dX6_seller_44 (lv_at hl 4 rfl) ?_
          refine lv_aload_n (pc := 46) hx hb dX6_seller_46 rfl (lv_at hl 0 rfl) ?_
          refine z_get (pc := 47) (ref := "LotSheetModel") (ci := 6) (C := RX6) (T := TX6) (N := 22) hx hb hts iw_X6_seller_X6 hown Z 0 rfl rfl 8 (by decide) (List.mem_of_getElem? (i := 2) rfl) rfl rfl dX6_seller_47 ?_
          refine lv_iconst (pc := 50) (v := (1 : Int32)) hx hb dX6_seller_50 (by decide) ?_
          refine z_iald (pc := 51) hx hb Z 1 0 rfl rfl (show ¬ ((1 : Int32) < 0 ∨ 153 ≤ (1 : Int32).toNatClampNeg) by decide) dX6_seller_51 ?_
          refine lv_icmp_ge (pc := 52) (tgt := 130) hx hb dX6_seller_52 (by decide) (fun c12 => ?_) (fun c12 => ?_)
          · replace hf := o_pos c12 hf
            refine lv_iload_n (pc := 130) hx hb dX6_seller_130 rfl (lv_at hl 3 rfl) ?_
            cases hf
            exact z_iret (pc := 131) hx hb hr hlocks Z rfl rfl dX6_seller_131
          · replace hf := o_neg c12 hf
            refine lv_aload_n (pc := 55) hx hb dX6_seller_55 rfl (lv_at hl 0 rfl) ?_
            refine lv_iload (pc := 56) hx hb dX6_seller_56 (lv_at hl 4 rfl) ?_
            refine lv_iconst (pc := 58) (v := (2 : Int32)) hx hb dX6_seller_58 (by decide) ?_
            obtain ⟨x13, q14, hf⟩ := o_bindE hf
            refine z_callVi (pc := 59) (As := [.int x11, .int (2 : Int32)]) (rest := []) (Wc := (W_X6_of cA (fun k => h ([0, 1, 2, 3, 4, 5, 6, 7, 8, 9, 10, 11, 12, 13, 14, 15, 16, 17, 18, 19].getD k 0)) x7 m_bufferLength m_textLength m_position m_error m_errorAt m_errorOffset m_data m_undoDepth m_numberStart m_seen m_pages)) (W1 := (W_X6_of cA (fun k => h ([0, 1, 2, 3, 4, 5, 6, 7, 8, 9, 10, 11, 12, 13, 14, 15, 16, 17, 18, 19].getD k 0)) x7 m_bufferLength m_textLength m_position m_error m_errorAt m_errorOffset m_data m_undoDepth m_numberStart m_seen m_pages)) (W2 := (W_X6_seller cA h x7 m_bufferLength m_textLength m_position m_error m_errorAt m_errorOffset m_data m_undoDepth m_numberStart m_seen m_pages)) ⟨hx, hb, hml, hown, hts⟩ (kX6_of l D cA (fun k => h ([0, 1, 2, 3, 4, 5, 6, 7, 8, 9, 10, 11, 12, 13, 14, 15, 16, 17, 18, 19].getD k 0)) x11 (2 : Int32) x7 m_bufferLength m_textLength m_position m_error m_errorAt m_errorOffset m_data m_undoDepth m_numberStart m_seen m_pages _ q14) (cwV 2 hts gX6_seller_X6_of rfl rfl rfl (by decide +kernel) ⟨Nat.le_of_ble_eq_true rfl, Nat.le_of_ble_eq_true rfl⟩) Z hA [0, 1] rfl (by decide) rfl (ci := 6) rfl rfl rfl rfl hl.1 rfl (Nat.le_of_ble_eq_true rfl) dX6_seller_59 ⟨Nat.zero_le _, Nat.zero_le _⟩ [some 0, some 1] rfl ⟨rfl, rfl, rfl⟩ (fun H locs Z => ?_)
            refine lv_iload_n (pc := 62) hx hb dX6_seller_62 rfl (lv_at hl 1 rfl) ?_
            refine lv_icmp_eq (pc := 63) (tgt := 69) hx hb dX6_seller_63 (by decide) (fun c15 => ?_) (fun c15 => ?_)
            · replace hf := o_pos c15 hf
              refine lv_iload_n (pc := 69) hx hb dX6_seller_69 rfl (lv_at hl 3 rfl) ?_
              refine lv_iload_n (pc := 70) hx hb dX6_seller_70 rfl (lv_at hl 2 rfl) ?_
              refine lv_if_ne (pc := 71) (tgt := 84) hx hb dX6_seller_71 (by decide) (fun c16 => ?_) (fun c16 => ?_)
              · replace hf := o_neg c16 hf
                refine lv_iload_n (pc := 84) hx hb dX6_seller_84 rfl (lv_at hl 2 rfl) ?_
                refine lv_iconst (pc := 85) (v := (1 : Int32)) hx hb dX6_seller_85 (by decide) ?_
                refine lv_icmp_ne (pc := 86) (tgt := 107) hx hb dX6_seller_86 (by decide) (fun c17 => ?_) (fun c17 => ?_)
                · replace hf := o_neg c17 hf
                  refine lv_aload_n (pc := 107) hx hb dX6_seller_107 rfl (lv_at hl 0 rfl) ?_
                  refine lv_iload (pc := 108) hx hb dX6_seller_108 (lv_at hl 4 rfl) ?_
                  refine lv_iconst (pc := 110) (v := (3 : Int32)) hx hb dX6_seller_110 (by decide) ?_
                  obtain ⟨x18, q19, hf⟩ := o_bindE hf
                  refine z_callVi (pc := 111) (As := [.int x11, .int (3 : Int32)]) (rest := [.int x10]) (Wc := (W_X6_of cA (fun k => h ([0, 1, 2, 3, 4, 5, 6, 7, 8, 9, 10, 11, 12, 13, 14, 15, 16, 17, 18, 19].getD k 0)) x7 m_bufferLength m_textLength m_position m_error m_errorAt m_errorOffset m_data m_undoDepth m_numberStart m_seen m_pages)) (W1 := (W_X6_of cA (fun k => h ([0, 1, 2, 3, 4, 5, 6, 7, 8, 9, 10, 11, 12, 13, 14, 15, 16, 17, 18, 19].getD k 0)) x7 m_bufferLength m_textLength m_position m_error m_errorAt m_errorOffset m_data m_undoDepth m_numberStart m_seen m_pages)) (W2 := (W_X6_seller cA h x7 m_bufferLength m_textLength m_position m_error m_errorAt m_errorOffset m_data m_undoDepth m_numberStart m_seen m_pages)) ⟨hx, hb, hml, hown, hts⟩ (kX6_of l D cA (fun k => h ([0, 1, 2, 3, 4, 5, 6, 7, 8, 9, 10, 11, 12, 13, 14, 15, 16, 17, 18, 19].getD k 0)) x11 (3 : Int32) x7 m_bufferLength m_textLength m_position m_error m_errorAt m_errorOffset m_data m_undoDepth m_numberStart m_seen m_pages _ q19) (cwV 2 hts gX6_seller_X6_of rfl rfl rfl (by decide +kernel) ⟨Nat.le_of_ble_eq_true rfl, Nat.le_of_ble_eq_true rfl⟩) Z hA [0, 1] rfl (by decide) rfl (ci := 6) rfl rfl rfl rfl hl.1 rfl (Nat.le_of_ble_eq_true rfl) dX6_seller_111 ⟨Nat.zero_le _, Nat.zero_le _⟩ [some 0, some 1] rfl ⟨rfl, rfl, rfl⟩ (fun H locs Z => ?_)
                  refine lv_aload_n (pc := 114) hx hb dX6_seller_114 rfl (lv_at hl 0 rfl) ?_
                  refine lv_iload (pc := 115) hx hb dX6_seller_115 (lv_at hl 4 rfl) ?_
                  refine lv_iconst (pc := 117) (v := (0 : Int32)) hx hb dX6_seller_117 (by decide) ?_
                  obtain ⟨x20, q21, hf⟩ := o_bindE hf
                  refine z_callVi (pc := 118) (As := [.int x11, .int (0 : Int32)]) (rest := [.int x18, .int x10]) (Wc := (W_X6_of cA (fun k => h ([0, 1, 2, 3, 4, 5, 6, 7, 8, 9, 10, 11, 12, 13, 14, 15, 16, 17, 18, 19].getD k 0)) x7 m_bufferLength m_textLength m_position m_error m_errorAt m_errorOffset m_data m_undoDepth m_numberStart m_seen m_pages)) (W1 := (W_X6_of cA (fun k => h ([0, 1, 2, 3, 4, 5, 6, 7, 8, 9, 10, 11, 12, 13, 14, 15, 16, 17, 18, 19].getD k 0)) x7 m_bufferLength m_textLength m_position m_error m_errorAt m_errorOffset m_data m_undoDepth m_numberStart m_seen m_pages)) (W2 := (W_X6_seller cA h x7 m_bufferLength m_textLength m_position m_error m_errorAt m_errorOffset m_data m_undoDepth m_numberStart m_seen m_pages)) ⟨hx, hb, hml, hown, hts⟩ (kX6_of l D cA (fun k => h ([0, 1, 2, 3, 4, 5, 6, 7, 8, 9, 10, 11, 12, 13, 14, 15, 16, 17, 18, 19].getD k 0)) x11 (0 : Int32) x7 m_bufferLength m_textLength m_position m_error m_errorAt m_errorOffset m_data m_undoDepth m_numberStart m_seen m_pages _ q21) (cwV 2 hts gX6_seller_X6_of rfl rfl rfl (by decide +kernel) ⟨Nat.le_of_ble_eq_true rfl, Nat.le_of_ble_eq_true rfl⟩) Z hA [0, 1] rfl (by decide) rfl (ci := 6) rfl rfl rfl rfl hl.1 rfl (Nat.le_of_ble_eq_true rfl) dX6_seller_118 ⟨Nat.zero_le _, Nat.zero_le _⟩ [some 0, some 1] rfl ⟨rfl, rfl, rfl⟩ (fun H locs Z => ?_)
                  refine lv_imul (pc := 121) hx hb dX6_seller_121 ?_
                  refine lv_iadd (pc := 122) hx hb dX6_seller_122 ?_
                  refine lv_topi (fun x22 ex22 => ?_)
                  replace hf := o_letE ex22 hf
                  refine lv_istore_n (pc := 123) (lv' := [(3, .int x22), (0, .ref (h 0)), (1, .int p1), (2, .int p2), (4, .int x11)]) hx hb dX6_seller_123 rfl hl (by decide) rfl (fun ls hl => ?_)
                  obtain ⟨x23, ex23⟩ : ∃ y : Int32, y = (x11 + (1 : Int32)) := ⟨_, rfl⟩
                  replace hf := o_letE ex23 hf
                  refine lv_iinc (pc := 124) (v := x23) (lv' := [(4, .int x23), (3, .int x22), (0, .ref (h 0)), (1, .int p1), (2, .int p2)]) hx hb dX6_seller_124 hl (k := 4) rfl (by rw [ex23]; rfl) (by decide) rfl (fun ls hl => ?_)
                  refine lv_goto (pc := 127) (tgt := 44) hx hb dX6_seller_127 (by decide) ?_
                  exact ih0 x22 x23 H locs ls Z (lv_sub hl [2, 3, 4, 1, 0] rfl) hf
                · replace hf := o_pos c17 hf
                  refine lv_aload_n (pc := 89) hx hb dX6_seller_89 rfl (lv_at hl 0 rfl) ?_
                  refine lv_iload (pc := 90) hx hb dX6_seller_90 (lv_at hl 4 rfl) ?_
                  refine lv_iconst (pc := 92) (v := (4 : Int32)) hx hb dX6_seller_92 (by decide) ?_
                  obtain ⟨x24, q25, hf⟩ := o_bindE hf
                  refine z_callVi (pc := 93) (As := [.int x11, .int (4 : Int32)]) (rest := [.int x10]) (Wc := (W_X6_of cA (fun k => h ([0, 1, 2, 3, 4, 5, 6, 7, 8, 9, 10, 11, 12, 13, 14, 15, 16, 17, 18, 19].getD k 0)) x7 m_bufferLength m_textLength m_position m_error m_errorAt m_errorOffset m_data m_undoDepth m_numberStart m_seen m_pages)) (W1 := (W_X6_of cA (fun k => h ([0, 1, 2, 3, 4, 5, 6, 7, 8, 9, 10, 11, 12, 13, 14, 15, 16, 17, 18, 19].getD k 0)) x7 m_bufferLength m_textLength m_position m_error m_errorAt m_errorOffset m_data m_undoDepth m_numberStart m_seen m_pages)) (W2 := (W_X6_seller cA h x7 m_bufferLength m_textLength m_position m_error m_errorAt m_errorOffset m_data m_undoDepth m_numberStart m_seen m_pages)) ⟨hx, hb, hml, hown, hts⟩ (kX6_of l D cA (fun k => h ([0, 1, 2, 3, 4, 5, 6, 7, 8, 9, 10, 11, 12, 13, 14, 15, 16, 17, 18, 19].getD k 0)) x11 (4 : Int32) x7 m_bufferLength m_textLength m_position m_error m_errorAt m_errorOffset m_data m_undoDepth m_numberStart m_seen m_pages _ q25) (cwV 2 hts gX6_seller_X6_of rfl rfl rfl (by decide +kernel) ⟨Nat.le_of_ble_eq_true rfl, Nat.le_of_ble_eq_true rfl⟩) Z hA [0, 1] rfl (by decide) rfl (ci := 6) rfl rfl rfl rfl hl.1 rfl (Nat.le_of_ble_eq_true rfl) dX6_seller_93 ⟨Nat.zero_le _, Nat.zero_le _⟩ [some 0, some 1] rfl ⟨rfl, rfl, rfl⟩ (fun H locs Z => ?_)
                  refine lv_aload_n (pc := 96) hx hb dX6_seller_96 rfl (lv_at hl 0 rfl) ?_
                  refine lv_iload (pc := 97) hx hb dX6_seller_97 (lv_at hl 4 rfl) ?_
                  refine lv_iconst (pc := 99) (v := (1 : Int32)) hx hb dX6_seller_99 (by decide) ?_
                  obtain ⟨x26, q27, hf⟩ := o_bindE hf
                  refine z_callVi (pc := 100) (As := [.int x11, .int (1 : Int32)]) (rest := [.int x24, .int x10]) (Wc := (W_X6_of cA (fun k => h ([0, 1, 2, 3, 4, 5, 6, 7, 8, 9, 10, 11, 12, 13, 14, 15, 16, 17, 18, 19].getD k 0)) x7 m_bufferLength m_textLength m_position m_error m_errorAt m_errorOffset m_data m_undoDepth m_numberStart m_seen m_pages)) (W1 := (W_X6_of cA (fun k => h ([0, 1, 2, 3, 4, 5, 6, 7, 8, 9, 10, 11, 12, 13, 14, 15, 16, 17, 18, 19].getD k 0)) x7 m_bufferLength m_textLength m_position m_error m_errorAt m_errorOffset m_data m_undoDepth m_numberStart m_seen m_pages)) (W2 := (W_X6_seller cA h x7 m_bufferLength m_textLength m_position m_error m_errorAt m_errorOffset m_data m_undoDepth m_numberStart m_seen m_pages)) ⟨hx, hb, hml, hown, hts⟩ (kX6_of l D cA (fun k => h ([0, 1, 2, 3, 4, 5, 6, 7, 8, 9, 10, 11, 12, 13, 14, 15, 16, 17, 18, 19].getD k 0)) x11 (1 : Int32) x7 m_bufferLength m_textLength m_position m_error m_errorAt m_errorOffset m_data m_undoDepth m_numberStart m_seen m_pages _ q27) (cwV 2 hts gX6_seller_X6_of rfl rfl rfl (by decide +kernel) ⟨Nat.le_of_ble_eq_true rfl, Nat.le_of_ble_eq_true rfl⟩) Z hA [0, 1] rfl (by decide) rfl (ci := 6) rfl rfl rfl rfl hl.1 rfl (Nat.le_of_ble_eq_true rfl) dX6_seller_100 ⟨Nat.zero_le _, Nat.zero_le _⟩ [some 0, some 1] rfl ⟨rfl, rfl, rfl⟩ (fun H locs Z => ?_)
                  refine lv_imul (pc := 103) hx hb dX6_seller_103 ?_
                  refine lv_goto (pc := 104) (tgt := 122) hx hb dX6_seller_104 (by decide) ?_
                  refine lv_iadd (pc := 122) hx hb dX6_seller_122 ?_
                  refine lv_topi (fun x28 ex28 => ?_)
                  replace hf := o_letE ex28 hf
                  refine lv_istore_n (pc := 123) (lv' := [(3, .int x28), (0, .ref (h 0)), (1, .int p1), (2, .int p2), (4, .int x11)]) hx hb dX6_seller_123 rfl hl (by decide) rfl (fun ls hl => ?_)
                  obtain ⟨x29, ex29⟩ : ∃ y : Int32, y = (x11 + (1 : Int32)) := ⟨_, rfl⟩
                  replace hf := o_letE ex29 hf
                  refine lv_iinc (pc := 124) (v := x29) (lv' := [(4, .int x29), (3, .int x28), (0, .ref (h 0)), (1, .int p1), (2, .int p2)]) hx hb dX6_seller_124 hl (k := 4) rfl (by rw [ex29]; rfl) (by decide) rfl (fun ls hl => ?_)
                  refine lv_goto (pc := 127) (tgt := 44) hx hb dX6_seller_127 (by decide) ?_
                  exact ih0 x28 x29 H locs ls Z (lv_sub hl [2, 3, 4, 1, 0] rfl) hf
              · replace hf := o_pos c16 hf
                refine lv_aload_n (pc := 74) hx hb dX6_seller_74 rfl (lv_at hl 0 rfl) ?_
                refine lv_iload (pc := 75) hx hb dX6_seller_75 (lv_at hl 4 rfl) ?_
                refine lv_iconst (pc := 77) (v := (4 : Int32)) hx hb dX6_seller_77 (by decide) ?_
                obtain ⟨x30, q31, hf⟩ := o_bindE hf
                refine z_callVi (pc := 78) (As := [.int x11, .int (4 : Int32)]) (rest := [.int x10]) (Wc := (W_X6_of cA (fun k => h ([0, 1, 2, 3, 4, 5, 6, 7, 8, 9, 10, 11, 12, 13, 14, 15, 16, 17, 18, 19].getD k 0)) x7 m_bufferLength m_textLength m_position m_error m_errorAt m_errorOffset m_data m_undoDepth m_numberStart m_seen m_pages)) (W1 := (W_X6_of cA (fun k => h ([0, 1, 2, 3, 4, 5, 6, 7, 8, 9, 10, 11, 12, 13, 14, 15, 16, 17, 18, 19].getD k 0)) x7 m_bufferLength m_textLength m_position m_error m_errorAt m_errorOffset m_data m_undoDepth m_numberStart m_seen m_pages)) (W2 := (W_X6_seller cA h x7 m_bufferLength m_textLength m_position m_error m_errorAt m_errorOffset m_data m_undoDepth m_numberStart m_seen m_pages)) ⟨hx, hb, hml, hown, hts⟩ (kX6_of l D cA (fun k => h ([0, 1, 2, 3, 4, 5, 6, 7, 8, 9, 10, 11, 12, 13, 14, 15, 16, 17, 18, 19].getD k 0)) x11 (4 : Int32) x7 m_bufferLength m_textLength m_position m_error m_errorAt m_errorOffset m_data m_undoDepth m_numberStart m_seen m_pages _ q31) (cwV 2 hts gX6_seller_X6_of rfl rfl rfl (by decide +kernel) ⟨Nat.le_of_ble_eq_true rfl, Nat.le_of_ble_eq_true rfl⟩) Z hA [0, 1] rfl (by decide) rfl (ci := 6) rfl rfl rfl rfl hl.1 rfl (Nat.le_of_ble_eq_true rfl) dX6_seller_78 ⟨Nat.zero_le _, Nat.zero_le _⟩ [some 0, some 1] rfl ⟨rfl, rfl, rfl⟩ (fun H locs Z => ?_)
                refine lv_goto (pc := 81) (tgt := 122) hx hb dX6_seller_81 (by decide) ?_
                refine lv_iadd (pc := 122) hx hb dX6_seller_122 ?_
                refine lv_topi (fun x32 ex32 => ?_)
                replace hf := o_letE ex32 hf
                refine lv_istore_n (pc := 123) (lv' := [(3, .int x32), (0, .ref (h 0)), (1, .int p1), (2, .int p2), (4, .int x11)]) hx hb dX6_seller_123 rfl hl (by decide) rfl (fun ls hl => ?_)
                obtain ⟨x33, ex33⟩ : ∃ y : Int32, y = (x11 + (1 : Int32)) := ⟨_, rfl⟩
                replace hf := o_letE ex33 hf
                refine lv_iinc (pc := 124) (v := x33) (lv' := [(4, .int x33), (3, .int x32), (0, .ref (h 0)), (1, .int p1), (2, .int p2)]) hx hb dX6_seller_124 hl (k := 4) rfl (by rw [ex33]; rfl) (by decide) rfl (fun ls hl => ?_)
                refine lv_goto (pc := 127) (tgt := 44) hx hb dX6_seller_127 (by decide) ?_
                exact ih0 x32 x33 H locs ls Z (lv_sub hl [2, 3, 4, 1, 0] rfl) hf
            · replace hf := o_neg c15 hf
              refine lv_goto (pc := 66) (tgt := 124) hx hb dX6_seller_66 (by decide) ?_
              obtain ⟨x34, ex34⟩ : ∃ y : Int32, y = (x11 + (1 : Int32)) := ⟨_, rfl⟩
              replace hf := o_letE ex34 hf
              refine lv_iinc (pc := 124) (v := x34) (lv' := [(4, .int x34), (0, .ref (h 0)), (1, .int p1), (2, .int p2), (3, .int x10)]) hx hb dX6_seller_124 hl (k := 4) rfl (by rw [ex34]; rfl) (by decide) rfl (fun ls hl => ?_)
              refine lv_goto (pc := 127) (tgt := 44) hx hb dX6_seller_127 (by decide) ?_
              exact ih0 x10 x34 H locs ls Z (lv_sub hl [1, 2, 3, 4, 0] rfl) hf
      exact hL44 1024 (0 : Int32) (0 : Int32) H locs ls Z (lv_sub hl [2, 3, 4, 1, 0] rfl) hf
    · replace hf := o_neg c9 hf
      refine lv_iconst (pc := 37) (v := (0 : Int32)) hx hb dX6_seller_37 (by decide) ?_
      cases hf
      exact z_iret (pc := 38) hx hb hr hlocks Z rfl rfl dX6_seller_38
  refine lv_if_eq (pc := 13) (tgt := 25) hx hb dX6_seller_13 (by decide) (fun c3 => ?_) (fun c3 => ?_)
  · replace hf := o_pos c3 hf
    refine lv_iconst (pc := 25) (v := (1 : Int32)) hx hb dX6_seller_25 (by decide) ?_
    refine lv_goto (pc := 26) (tgt := 30) hx hb dX6_seller_26 (by decide) ?_
    exact hj30_5 (1 : Int32) H locs ls Z (lv_sub hl [0, 1, 2] rfl) hf
  · replace hf := o_neg c3 hf
    refine lv_iload_n (pc := 16) hx hb dX6_seller_16 rfl (lv_at hl 2 rfl) ?_
    refine lv_iconst (pc := 17) (v := (0 : Int32)) hx hb dX6_seller_17 (by decide) ?_
    refine lv_iconst (pc := 18) (v := (2 : Int32)) hx hb dX6_seller_18 (by decide) ?_
    obtain ⟨x35, q36, hf⟩ := o_bindE hf
    refine z_callSi (pc := 19) (As := [.int p2, .int (0 : Int32), .int (2 : Int32)]) (rest := [.ref (h 0)]) (Wc := (W_X6_in cA (fun k => h ([0].getD k 0)))) (W1 := (W_X6_in cA (fun k => h ([0].getD k 0)))) (W2 := (W_X6_seller cA h (0 : Int32) m_bufferLength m_textLength m_position m_error m_errorAt m_errorOffset m_data m_undoDepth m_numberStart m_seen m_pages)) ⟨hx, hb, hml, hown, hts⟩ (kX6_in l D cA (fun k => h ([0].getD k 0)) p2 (0 : Int32) (2 : Int32) _ q36) (va_cwS 3 hts gX6_seller_X6_in rfl rfl rfl (by decide +kernel) ⟨Nat.le_of_ble_eq_true rfl, Nat.le_of_ble_eq_true rfl⟩) Z hA [] rfl (by decide) rfl rfl hl.1 rfl (Nat.le_of_ble_eq_true rfl) dX6_seller_19 ⟨Nat.zero_le _, Nat.zero_le _⟩ [none, none] rfl ⟨rfl, rfl, rfl⟩ (fun H locs Z => ?_)
    refine lv_if_ne (pc := 22) (tgt := 29) hx hb dX6_seller_22 (by decide) (fun c37 => ?_) (fun c37 => ?_)
    · replace hf := o_neg c37 hf
      refine lv_iconst (pc := 29) (v := (0 : Int32)) hx hb dX6_seller_29 (by decide) ?_
      exact hj30_5 (0 : Int32) H locs ls Z (lv_sub hl [0, 1, 2] rfl) hf
    · replace hf := o_pos c37 hf
      refine lv_iconst (pc := 25) (v := (1 : Int32)) hx hb dX6_seller_25 (by decide) ?_
      refine lv_goto (pc := 26) (tgt := 30) hx hb dX6_seller_26 (by decide) ?_
      exact hj30_5 (1 : Int32) H locs ls Z (lv_sub hl [0, 1, 2] rfl) hf
