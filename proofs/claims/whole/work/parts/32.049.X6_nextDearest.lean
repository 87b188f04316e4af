def W_X6_nextDearest (cA : Nat → ClassId) (h : Nat → Nat) (m_thrown : Int32) (m_bufferLength : Int32) (m_textLength : Int32) (m_position : Int32) (m_error : Int32) (m_errorAt : Int32) (m_errorOffset : Int32) (m_data : Nat → Int32) (m_undoDepth : Int32) (m_numberStart : Int32) (m_seen : Int32) (m_pages : Int32) : va_W := [(h 0, .inr (6, [.int m_thrown, .ref (h 1), .int m_bufferLength, .int m_textLength, .int m_position, .int m_error, .int m_errorAt, .int m_errorOffset, .ref (h 2), .ref (h 3), .ref (h 4), .int m_undoDepth, .int m_numberStart, .int m_seen, .ref (h 13), .ref (h 14), .ref (h 15), .ref (h 16), .int m_pages, .ref (h 17), .ref (h 18), .ref (h 19)])), (h 2, .inl (cA 0, 153, .inl m_data))]
def fX6_nextDearest_L4 (m_data : Nat → Int32) (p1 : Int32) : Nat → Int32 → Int32 → Option (Int32)
  | 0, _, _ => none
  | n0 + 1, x1, x2 => (if (m_data (1 : Int32).toNatClampNeg) ≤ x2 then some (x1) else o_bind (fX6_of x2 (4 : Int32) m_data) (fun x4 => (if x4 = 0 then o_let (x2 + (1 : Int32)) (fun x32 => (fX6_nextDearest_L4 m_data p1 n0 x1 x32)) else o_let (fun (x8 : Int32) => (if x8 = 0 then o_let (x2 + (1 : Int32)) (fun x11 => (fX6_nextDearest_L4 m_data p1 n0 x1 x11)) else (if x1 = (-1 : Int32) then o_let (x2 + (1 : Int32)) (fun x13 => (fX6_nextDearest_L4 m_data p1 n0 x2 x13)) else o_bind (fX6_of x2 (1 : Int32) m_data) (fun x14 => o_bind (fX6_of x1 (1 : Int32) m_data) (fun x16 => (if x14 ≤ x16 then o_let (x2 + (1 : Int32)) (fun x19 => (fX6_nextDearest_L4 m_data p1 n0 x1 x19)) else o_let (x2 + (1 : Int32)) (fun x20 => (fX6_nextDearest_L4 m_data p1 n0 x2 x20)))))))) (fun (j71_9 : Int32 → Option (Int32)) => (if p1 = (-1 : Int32) then (j71_9 (1 : Int32)) else o_bind (fX6_of x2 (1 : Int32) m_data) (fun x21 => o_bind (fX6_of p1 (1 : Int32) m_data) (fun x23 => (if x21 < x23 then (j71_9 (1 : Int32)) else o_bind (fX6_of x2 (1 : Int32) m_data) (fun x26 => o_bind (fX6_of p1 (1 : Int32) m_data) (fun x28 => (if x26 = x28 then (if x2 ≤ p1 then (j71_9 (0 : Int32)) else (j71_9 (1 : Int32))) else (j71_9 (0 : Int32)))))))))))))
def fX6_nextDearest (p1 : Int32) (m_data : Nat → Int32) : Option (Int32) := (fX6_nextDearest_L4 m_data p1 1024 (-1 : Int32) (0 : Int32))
theorem iw_X6_nextDearest_X6 : ∀ w ∈ u_ws RX6 TX6 22, w ∈ wsX6_nextDearest := z_inr [10, 11, 12, 13, 14, 15, 16, 17, 18, 19, 20, 21, 22, 23, 24, 25, 26, 27, 28, 29, 30, 31] rfl
set_option maxHeartbeats 4000000 in
set_option maxRecDepth 100000 in
theorem kX6_nextDearest (l : Launch) (D : va_G) (cA : Nat → ClassId) (h : Nat → Nat) (p1 : Int32) (m_thrown : Int32) (m_bufferLength : Int32) (m_textLength : Int32) (m_position : Int32) (m_error : Int32) (m_errorAt : Int32) (m_errorOffset : Int32) (m_data : Nat → Int32) (m_undoDepth : Int32) (m_numberStart : Int32) (m_seen : Int32) (m_pages : Int32) (u : Int32) (hf : fX6_nextDearest p1 m_data = some u) : zMi l yX6_nextDearest wsX6_nextDearest ({ frames := 2, cells := 0, slots := 0, locals := 42 } : Room) D (zTY cA) [.ref (h 0), .int p1] (W_X6_nextDearest cA h m_thrown m_bufferLength m_textLength m_position m_error m_errorAt m_errorOffset m_data m_undoDepth m_numberStart m_seen m_pages) (W_X6_nextDearest cA h m_thrown m_bufferLength m_textLength m_position m_error m_errorAt m_errorOffset m_data m_undoDepth m_numberStart m_seen m_pages) u := by
  refine z_starti (cc := cX6_nextDearest) (maxL := 5) (ret := (some .int)) (by decide) rfl (Nat.le_of_ble_eq_true rfl) ?_
  intro p e s m args below meth c A hx hb hr hts hown hlocks hml hA Z ls hl
  replace hown : s.vm.findClass RX6 = some m.cls := hown
  replace hl : lv_has ls 5 [(0, .ref (h 0)), (1, .int p1)] := hl
  obtain ⟨H, hH⟩ : ∃ H, H = s.heap := ⟨_, rfl⟩
  rw [← hH] at Z ⊢
  clear hH
  obtain ⟨locs, hlc⟩ : ∃ q : List Loc, q = [] := ⟨_, rfl⟩
  rw [← hlc] at Z ⊢
  clear hlc
  refine lv_iconst (pc := 0) (v := (-1 : Int32)) hx hb dX6_nextDearest_0 (by decide) ?_
  refine lv_istore_n (pc := 1) (lv' := [(2, .int (-1 : Int32)), (0, .ref (h 0)), (1, .int p1)]) hx hb dX6_nextDearest_1 rfl hl (by decide) rfl (fun ls hl => ?_)
  refine lv_iconst (pc := 2) (v := (0 : Int32)) hx hb dX6_nextDearest_2 (by decide) ?_
  refine lv_istore_n (pc := 3) (lv' := [(3, .int (0 : Int32)), (2, .int (-1 : Int32)), (0, .ref (h 0)), (1, .int p1)]) hx hb dX6_nextDearest_3 rfl hl (by decide) rfl (fun ls hl => ?_)
  have hL4 : ∀ (n0 : Nat) (x1 : Int32) (x2 : Int32) (H : Heap) (locs : List Loc) (ls : Array Slot), zw D (zTY cA) s A (W_X6_nextDearest cA h m_thrown m_bufferLength m_textLength m_position m_error m_errorAt m_errorOffset m_data m_undoDepth m_numberStart m_seen m_pages) H locs → lv_has ls 5 [(0, .ref (h 0)), (1, .int p1), (2, .int x1), (3, .int x2)] → fX6_nextDearest_L4 m_data p1 n0 x1 x2 = some u → W p l e ({ frames := 2, cells := 0, slots := 0, locals := 42 } : Room) s m args below meth c H locs 0 0 (MQ below (zQi D (zTY cA) A (W_X6_nextDearest cA h m_thrown m_bufferLength m_textLength m_position m_error m_errorAt m_errorOffset m_data m_undoDepth m_numberStart m_seen m_pages) u) args s 0 0 A) (F0 m 4 ls []) := by
    intro n0
    induction n0 with
    | zero => intro x1 x2 H locs ls Z hl hf; exact o_no hf
    | succ n0 ih0 =>
      intro x1 x2 H locs ls Z hl hf
      refine lv_iload_n (pc := 4) hx hb dX6_nextDearest_4 rfl (lv_at hl 3 rfl) ?_
      refine lv_aload_n (pc := 5) hx hb dX6_nextDearest_5 rfl (lv_at hl 0 rfl) ?_
      refine z_get (pc := 6) (ref := "LotSheetModel") (ci := 6) (C := RX6) (T := TX6) (N := 22) hx hb hts iw_X6_nextDearest_X6 hown Z 0 rfl rfl 8 (by decide) (List.mem_of_getElem? (i := 1) rfl) rfl rfl dX6_nextDearest_6 ?_
      refine lv_iconst (pc := 9) (v := (1 : Int32)) hx hb dX6_nextDearest_9 (by decide) ?_
      refine z_iald (pc := 10) hx hb Z 1 0 rfl rfl (show ¬ ((1 : Int32) < 0 ∨ 153 ≤ (1 : Int32).toNatClampNeg) by decide) dX6_nextDearest_10 ?_
      refine lv_icmp_ge (pc := 11) (tgt := 106) hx hb dX6_nextDearest_11 (by decide) (fun c3 => ?_) (fun c3 => ?_)
      · replace hf := o_pos c3 hf
        refine lv_iload_n (pc := 106) hx hb dX6_nextDearest_106 rfl (lv_at hl 2 rfl) ?_
        cases hf
        exact z_iret (pc := 107) hx hb hr hlocks Z rfl rfl dX6_nextDearest_107
      · replace hf := o_neg c3 hf
        refine lv_aload_n (pc := 14) hx hb dX6_nextDearest_14 rfl (lv_at hl 0 rfl) ?_
        refine lv_iload_n (pc := 15) hx hb dX6_nextDearest_15 rfl (lv_at hl 3 rfl) ?_
        refine lv_iconst (pc := 16) (v := (4 : Int32)) hx hb dX6_nextDearest_16 (by decide) ?_
        obtain ⟨x4, q5, hf⟩ := o_bindE hf
        refine z_callVi (pc := 17) (As := [.int x2, .int (4 : Int32)]) (rest := []) (Wc := (W_X6_of cA (fun k => h ([0, 1, 2, 3, 4, 5, 6, 7, 8, 9, 10, 11, 12, 13, 14, 15, 16, 17, 18, 19].getD k 0)) m_thrown m_bufferLength m_textLength m_position m_error m_errorAt m_errorOffset m_data m_undoDepth m_numberStart m_seen m_pages)) (W1 := (W_X6_of cA (fun k => h ([0, 1, 2, 3, 4, 5, 6, 7, 8, 9, 10, 11, 12, 13, 14, 15, 16, 17, 18, 19].getD k 0)) m_thrown m_bufferLength m_textLength m_position m_error m_errorAt m_errorOffset m_data m_undoDepth m_numberStart m_seen m_pages)) (W2 := (W_X6_nextDearest cA h m_thrown m_bufferLength m_textLength m_position m_error m_errorAt m_errorOffset m_data m_undoDepth m_numberStart m_seen m_pages)) ⟨hx, hb, hml, hown, hts⟩ (kX6_of l D cA (fun k => h ([0, 1, 2, 3, 4, 5, 6, 7, 8, 9, 10, 11, 12, 13, 14, 15, 16, 17, 18, 19].getD k 0)) x2 (4 : Int32) m_thrown m_bufferLength m_textLength m_position m_error m_errorAt m_errorOffset m_data m_undoDepth m_numberStart m_seen m_pages _ q5) (cwV 2 hts gX6_nextDearest_X6_of rfl rfl rfl (by decide +kernel) ⟨Nat.le_of_ble_eq_true rfl, Nat.le_of_ble_eq_true rfl⟩) Z hA [0, 1] rfl (by decide) rfl (ci := 6) rfl rfl rfl rfl hl.1 rfl (Nat.le_of_ble_eq_true rfl) dX6_nextDearest_17 ⟨Nat.zero_le _, Nat.zero_le _⟩ [some 0, some 1] rfl ⟨rfl, rfl, rfl⟩ (fun H locs Z => ?_)
        refine lv_if_ne (pc := 20) (tgt := 26) hx hb dX6_nextDearest_20 (by decide) (fun c6 => ?_) (fun c6 => ?_)
        · replace hf := o_neg c6 hf
          refine lv_iload_n (pc := 26) hx hb dX6_nextDearest_26 rfl (lv_at hl 1 rfl) ?_
          refine lv_iconst (pc := 27) (v := (-1 : Int32)) hx hb dX6_nextDearest_27 (by decide) ?_
          obtain ⟨j71_9, ej71_9, hf⟩ := o_jnE hf
          have hj71_9 : ∀ (x8 : Int32) (H : Heap) (locs : List Loc) (ls : Array Slot), zw D (zTY cA) s A (W_X6_nextDearest cA h m_thrown m_bufferLength m_textLength m_position m_error m_errorAt m_errorOffset m_data m_undoDepth m_numberStart m_seen m_pages) H locs → lv_has ls 5 [(0, .ref (h 0)), (1, .int p1), (2, .int x1), (3, .int x2)] → j71_9 x8 = some u → W p l e ({ frames := 2, cells := 0, slots := 0, locals := 42 } : Room) s m args below meth c H locs 0 0 (MQ below (zQi D (zTY cA) A (W_X6_nextDearest cA h m_thrown m_bufferLength m_textLength m_position m_error m_errorAt m_errorOffset m_data m_undoDepth m_numberStart m_seen m_pages) u) args s 0 0 A) (F0 m 71 ls [.int x8]) := by
            intro x8 H locs ls Z hl hf
            rw [ej71_9] at hf
            refine lv_istore (pc := 71) (lv' := [(4, .int x8), (0, .ref (h 0)), (1, .int p1), (2, .int x1), (3, .int x2)]) hx hb dX6_nextDearest_71 hl (by decide) rfl (fun ls hl => ?_)
            refine lv_iload (pc := 73) hx hb dX6_nextDearest_73 (lv_at hl 0 rfl) ?_
            refine lv_if_eq (pc := 75) (tgt := 100) hx hb dX6_nextDearest_75 (by decide) (fun c10 => ?_) (fun c10 => ?_)
            · replace hf := o_pos c10 hf
              obtain ⟨x11, ex11⟩ : ∃ y : Int32, y = (x2 + (1 : Int32)) := ⟨_, rfl⟩
              replace hf := o_letE ex11 hf
              refine lv_iinc (pc := 100) (v := x11) (lv' := [(3, .int x11), (4, .int x8), (0, .ref (h 0)), (1, .int p1), (2, .int x1)]) hx hb dX6_nextDearest_100 hl (k := 4) rfl (by rw [ex11]; rfl) (by decide) rfl (fun ls hl => ?_)
              refine lv_goto (pc := 103) (tgt := 4) hx hb dX6_nextDearest_103 (by decide) ?_
              exact ih0 x1 x11 H locs ls Z (lv_sub hl [2, 3, 4, 0] rfl) hf
            · replace hf := o_neg c10 hf
              refine lv_iload_n (pc := 78) hx hb dX6_nextDearest_78 rfl (lv_at hl 3 rfl) ?_
              refine lv_iconst (pc := 79) (v := (-1 : Int32)) hx hb dX6_nextDearest_79 (by decide) ?_
              refine lv_icmp_eq (pc := 80) (tgt := 98) hx hb dX6_nextDearest_80 (by decide) (fun c12 => ?_) (fun c12 => ?_)
              · replace hf := o_pos c12 hf
                refine lv_iload_n (pc := 98) hx hb dX6_nextDearest_98 rfl (lv_at hl 4 rfl) ?_
                refine lv_istore_n (pc := 99) (lv' := [(2, .int x2), (4, .int x8), (0, .ref (h 0)), (1, .int p1), (3, .int x2)]) hx hb dX6_nextDearest_99 rfl hl (by decide) rfl (fun ls hl => ?_)
                obtain ⟨x13, ex13⟩ : ∃ y : Int32, y = (x2 + (1 : Int32)) := ⟨_, rfl⟩
                replace hf := o_letE ex13 hf
                refine lv_iinc (pc := 100) (v := x13) (lv' := [(3, .int x13), (2, .int x2), (4, .int x8), (0, .ref (h 0)), (1, .int p1)]) hx hb dX6_nextDearest_100 hl (k := 4) rfl (by rw [ex13]; rfl) (by decide) rfl (fun ls hl => ?_)
                refine lv_goto (pc := 103) (tgt := 4) hx hb dX6_nextDearest_103 (by decide) ?_
                exact ih0 x2 x13 H locs ls Z (lv_sub hl [3, 4, 1, 0] rfl) hf
              · replace hf := o_neg c12 hf
                refine lv_aload_n (pc := 83) hx hb dX6_nextDearest_83 rfl (lv_at hl 1 rfl) ?_
                refine lv_iload_n (pc := 84) hx hb dX6_nextDearest_84 rfl (lv_at hl 4 rfl) ?_
                refine lv_iconst (pc := 85) (v := (1 : Int32)) hx hb dX6_nextDearest_85 (by decide) ?_
                obtain ⟨x14, q15, hf⟩ := o_bindE hf
                refine z_callVi (pc := 86) (As := [.int x2, .int (1 : Int32)]) (rest := []) (Wc := (W_X6_of cA (fun k => h ([0, 1, 2, 3, 4, 5, 6, 7, 8, 9, 10, 11, 12, 13, 14, 15, 16, 17, 18, 19].getD k 0)) m_thrown m_bufferLength m_textLength m_position m_error m_errorAt m_errorOffset m_data m_undoDepth m_numberStart m_seen m_pages)) (W1 := (W_X6_of cA (fun k => h ([0, 1, 2, 3, 4, 5, 6, 7, 8, 9, 10, 11, 12, 13, 14, 15, 16, 17, 18, 19].getD k 0)) m_thrown m_bufferLength m_textLength m_position m_error m_errorAt m_errorOffset m_data m_undoDepth m_numberStart m_seen m_pages)) (W2 := (W_X6_nextDearest cA h m_thrown m_bufferLength m_textLength m_position m_error m_errorAt m_errorOffset m_data m_undoDepth m_numberStart m_seen m_pages)) ⟨hx, hb, hml, hown, hts⟩ (kX6_of l D cA (fun k => h ([0, 1, 2, 3, 4, 5, 6, 7, 8, 9, 10, 11, 12, 13, 14, 15, 16, 17, 18, 19].getD k 0)) x2 (1 : Int32) m_thrown m_bufferLength m_textLength m_position m_error m_errorAt m_errorOffset m_data m_undoDepth m_numberStart m_seen m_pages _ q15) (cwV 2 hts gX6_nextDearest_X6_of rfl rfl rfl (by decide +kernel) ⟨Nat.le_of_ble_eq_true rfl, Nat.le_of_ble_eq_true rfl⟩) Z hA [0, 1] rfl (by decide) rfl (ci := 6) rfl rfl rfl rfl hl.1 rfl (Nat.le_of_ble_eq_true rfl) dX6_nextDearest_86 ⟨Nat.zero_le _, Nat.zero_le _⟩ [some 0, some 1] rfl ⟨rfl, rfl, rfl⟩ (fun H locs Z => ?_)
                refine lv_aload_n (pc := 89) hx hb dX6_nextDearest_89 rfl (lv_at hl 1 rfl) ?_
                refine lv_iload_n (pc := 90) hx hb dX6_nextDearest_90 rfl (lv_at hl 3 rfl) ?_
                refine lv_iconst (pc := 91) (v := (1 : Int32)) hx hb dX6_nextDearest_91 (by decide) ?_
                obtain ⟨x16, q17, hf⟩ := o_bindE hf
                refine z_callVi (pc := 92) (As := [.int x1, .int (1 : Int32)]) (rest := [.int x14]) (Wc := (W_X6_of cA (fun k => h ([0, 1, 2, 3, 4, 5, 6, 7, 8, 9, 10, 11, 12, 13, 14, 15, 16, 17, 18, 19].getD k 0)) m_thrown m_bufferLength m_textLength m_position m_error m_errorAt m_errorOffset m_data m_undoDepth m_numberStart m_seen m_pages)) (W1 := (W_X6_of cA (fun k => h ([0, 1, 2, 3, 4, 5, 6, 7, 8, 9, 10, 11, 12, 13, 14, 15, 16, 17, 18, 19].getD k 0)) m_thrown m_bufferLength m_textLength m_position m_error m_errorAt m_errorOffset m_data m_undoDepth m_numberStart m_seen m_pages)) (W2 := (W_X6_nextDearest cA h m_thrown m_bufferLength m_textLength m_position m_error m_errorAt m_errorOffset m_data m_undoDepth m_numberStart m_seen m_pages)) ⟨hx, hb, hml, hown, hts⟩ (kX6_of l D cA (fun k => h ([0, 1, 2, 3, 4, 5, 6, 7, 8, 9, 10, 11, 12, 13, 14, 15, 16, 17, 18, 19].getD k 0)) x1 (1 : Int32) m_thrown m_bufferLength m_textLength m_position m_error m_errorAt m_errorOffset m_data m_undoDepth m_numberStart m_seen m_pages _ q17) (cwV 2 hts gX6_nextDearest_X6_of rfl rfl rfl (by decide +kernel) ⟨Nat.le_of_ble_eq_true rfl, Nat.le_of_ble_eq_true rfl⟩) Z hA [0, 1] rfl (by decide) rfl (ci := 6) rfl rfl rfl rfl hl.1 rfl (Nat.le_of_ble_eq_true rfl) dX6_nextDearest_92 ⟨Nat.zero_le _, Nat.zero_le _⟩ [some 0, some 1] rfl ⟨rfl, rfl, rfl⟩ (fun H locs Z => ?_)
                refine lv_icmp_le (pc := 95) (tgt := 100) hx hb dX6_nextDearest_95 (by decide) (fun c18 => ?_) (fun c18 => ?_)
                · replace hf := o_pos c18 hf
                  obtain ⟨x19, ex19⟩ : ∃ y : Int32, y = (x2 + (1 : Int32)) := ⟨_, rfl⟩
                  replace hf := o_letE ex19 hf
                  refine lv_iinc (pc := 100) (v := x19) (lv' := [(3, .int x19), (4, .int x8), (0, .ref (h 0)), (1, .int p1), (2, .int x1)]) hx hb dX6_nextDearest_100 hl (k := 4) rfl (by rw [ex19]; rfl) (by decide) rfl (fun ls hl => ?_)
                  refine lv_goto (pc := 103) (tgt := 4) hx hb dX6_nextDearest_103 (by decide) ?_
                  exact ih0 x1 x19 H locs ls Z (lv_sub hl [2, 3, 4, 0] rfl) hf
                · replace hf := o_neg c18 hf
                  refine lv_iload_n (pc := 98) hx hb dX6_nextDearest_98 rfl (lv_at hl 4 rfl) ?_
                  refine lv_istore_n (pc := 99) (lv' := [(2, .int x2), (4, .int x8), (0, .ref (h 0)), (1, .int p1), (3, .int x2)]) hx hb dX6_nextDearest_99 rfl hl (by decide) rfl (fun ls hl => ?_)
                  obtain ⟨x20, ex20⟩ : ∃ y : Int32, y = (x2 + (1 : Int32)) := ⟨_, rfl⟩
                  replace hf := o_letE ex20 hf
                  refine lv_iinc (pc := 100) (v := x20) (lv' := [(3, .int x20), (2, .int x2), (4, .int x8), (0, .ref (h 0)), (1, .int p1)]) hx hb dX6_nextDearest_100 hl (k := 4) rfl (by rw [ex20]; rfl) (by decide) rfl (fun ls hl => ?_)
                  refine lv_goto (pc := 103) (tgt := 4) hx hb dX6_nextDearest_103 (by decide) ?_
                  exact ih0 x2 x20 H locs ls Z (lv_sub hl [3, 4, 1, 0] rfl) hf
          refine lv_icmp_eq (pc := 28) (tgt := 66) hx hb dX6_nextDearest_28 (by decide) (fun c7 => ?_) (fun c7 => ?_)
          · replace hf := o_pos c7 hf
            refine lv_iconst (pc := 66) (v := (1 : Int32)) hx hb dX6_nextDearest_66 (by decide) ?_
            refine lv_goto (pc := 67) (tgt := 71) hx hb dX6_nextDearest_67 (by decide) ?_
            exact hj71_9 (1 : Int32) H locs ls Z (lv_sub hl [0, 1, 2, 3] rfl) hf
          · replace hf := o_neg c7 hf
            refine lv_aload_n (pc := 31) hx hb dX6_nextDearest_31 rfl (lv_at hl 0 rfl) ?_
            refine lv_iload_n (pc := 32) hx hb dX6_nextDearest_32 rfl (lv_at hl 3 rfl) ?_
            refine lv_iconst (pc := 33) (v := (1 : Int32)) hx hb dX6_nextDearest_33 (by decide) ?_
            obtain ⟨x21, q22, hf⟩ := o_bindE hf
            refine z_callVi (pc := 34) (As := [.int x2, .int (1 : Int32)]) (rest := []) (Wc := (W_X6_of cA (fun k => h ([0, 1, 2, 3, 4, 5, 6, 7, 8, 9, 10, 11, 12, 13, 14, 15, 16, 17, 18, 19].getD k 0)) m_thrown m_bufferLength m_textLength m_position m_error m_errorAt m_errorOffset m_data m_undoDepth m_numberStart m_seen m_pages)) (W1 := (W_X6_of cA (fun k => h ([0, 1, 2, 3, 4, 5, 6, 7, 8, 9, 10, 11, 12, 13, 14, 15, 16, 17, 18, 19].getD k 0)) m_thrown m_bufferLength m_textLength m_position m_error m_errorAt m_errorOffset m_data m_undoDepth m_numberStart m_seen m_pages)) (W2 := (W_X6_nextDearest cA h m_thrown m_bufferLength m_textLength m_position m_error m_errorAt m_errorOffset m_data m_undoDepth m_numberStart m_seen m_pages)) ⟨hx, hb, hml, hown, hts⟩ (kX6_of l D cA (fun k => h ([0, 1, 2, 3, 4, 5, 6, 7, 8, 9, 10, 11, 12, 13, 14, 15, 16, 17, 18, 19].getD k 0)) x2 (1 : Int32) m_thrown m_bufferLength m_textLength m_position m_error m_errorAt m_errorOffset m_data m_undoDepth m_numberStart m_seen m_pages _ q22) (cwV 2 hts gX6_nextDearest_X6_of rfl rfl rfl (by decide +kernel) ⟨Nat.le_of_ble_eq_true rfl, Nat.le_of_ble_eq_true rfl⟩) Z hA [0, 1] rfl (by decide) rfl (ci := 6) rfl rfl rfl rfl hl.1 rfl (Nat.le_of_ble_eq_true rfl) dX6_nextDearest_34 ⟨Nat.zero_le _, Nat.zero_le _⟩ [some 0, some 1] rfl ⟨rfl, rfl, rfl⟩ (fun H locs Z => ?_)
            refine lv_aload_n (pc := 37) hx hb dX6_nextDearest_37 rfl (lv_at hl 0 rfl) ?_
            refine lv_iload_n (pc := 38) hx hb dX6_nextDearest_38 rfl (lv_at hl 1 rfl) ?_
            refine lv_iconst (pc := 39) (v := (1 : Int32)) hx hb dX6_nextDearest_39 (by decide) ?_
            obtain ⟨x23, q24, hf⟩ := o_bindE hf
            refine z_callVi (pc := 40) (As := [.int p1, .int (1 : Int32)]) (rest := [.int x21]) (Wc := (W_X6_of cA (fun k => h ([0, 1, 2, 3, 4, 5, 6, 7, 8, 9, 10, 11, 12, 13, 14, 15, 16, 17, 18, 19].getD k 0)) m_thrown m_bufferLength m_textLength m_position m_error m_errorAt m_errorOffset m_data m_undoDepth m_numberStart m_seen m_pages)) (W1 := (W_X6_of cA (fun k => h ([0, 1, 2, 3, 4, 5, 6, 7, 8, 9, 10, 11, 12, 13, 14, 15, 16, 17, 18, 19].getD k 0)) m_thrown m_bufferLength m_textLength m_position m_error m_errorAt m_errorOffset m_data m_undoDepth m_numberStart m_seen m_pages)) (W2 := (W_X6_nextDearest cA h m_thrown m_bufferLength m_textLength m_position m_error m_errorAt m_errorOffset m_data m_undoDepth m_numberStart m_seen m_pages)) ⟨hx, hb, hml, hown, hts⟩ (kX6_of l D cA (fun k => h ([0, 1, 2, 3, 4, 5, 6, 7, 8, 9, 10, 11, 12, 13, 14, 15, 16, 17, 18, 19].getD k 0)) p1 (1 : Int32) m_thrown m_bufferLength m_textLength m_position m_error m_errorAt m_errorOffset m_data m_undoDepth m_numberStart m_seen m_pages _ q24) (cwV 2 hts gX6_nextDearest_X6_of rfl rfl rfl (by decide +kernel) ⟨Nat.le_of_ble_eq_true rfl, Nat.le_of_ble_eq_true rfl⟩) Z hA [0, 1] rfl (by decide) rfl (ci := 6) rfl rfl rfl rfl hl.1 rfl (Nat.le_of_ble_eq_true rfl) dX6_nextDearest_40 ⟨Nat.zero_le _, Nat.zero_le _⟩ [some 0, some 1] rfl ⟨rfl, rfl, rfl⟩ (fun H locs Z => ?_)
            refine lv_icmp_lt (pc := 43) (tgt := 66) hx hb dX6_nextDearest_43 (by decide) (fun c25 => ?_) (fun c25 => ?_)
            · replace hf := o_pos c25 hf
              refine lv_iconst (pc := 66) (v := (1 : Int32)) hx hb dX6_nextDearest_66 (by decide) ?_
              refine lv_goto (pc := 67) (tgt := 71) hx hb dX6_nextDearest_67 (by decide) ?_
              exact hj71_9 (1 : Int32) H locs ls Z (lv_sub hl [0, 1, 2, 3] rfl) hf
            · replace hf := o_neg c25 hf
              refine lv_aload_n (pc := 46) hx hb dX6_nextDearest_46 rfl (lv_at hl 0 rfl) ?_
              refine lv_iload_n (pc := 47) hx hb dX6_nextDearest_47 rfl (lv_at hl 3 rfl) ?_
              refine lv_iconst (pc := 48) (v := (1 : Int32)) hx hb dX6_nextDearest_48 (by decide) ?_
              obtain ⟨x26, q27, hf⟩ := o_bindE hf
              refine z_callVi (pc := 49) (As := [.int x2, .int (1 : Int32)]) (rest := []) (Wc := (W_X6_of cA (fun k => h ([0, 1, 2, 3, 4, 5, 6, 7, 8, 9, 10, 11, 12, 13, 14, 15, 16, 17, 18, 19].getD k 0)) m_thrown m_bufferLength m_textLength m_position m_error m_errorAt m_errorOffset m_data m_undoDepth m_numberStart m_seen m_pages)) (W1 := (W_X6_of cA (fun k => h ([0, 1, 2, 3, 4, 5, 6, 7, 8, 9, 10, 11, 12, 13, 14, 15, 16, 17, 18, 19].getD k 0)) m_thrown m_bufferLength m_textLength m_position m_error m_errorAt m_errorOffset m_data m_undoDepth m_numberStart m_seen m_pages)) (W2 := (W_X6_nextDearest cA h m_thrown m_bufferLength m_textLength m_position m_error m_errorAt m_errorOffset m_data m_undoDepth m_numberStart m_seen m_pages)) ⟨hx, hb, hml, hown, hts⟩ (kX6_of l D cA (fun k => h ([0, 1, 2, 3, 4, 5, 6, 7, 8, 9, 10, 11, 12, 13, 14, 15, 16, 17, 18, 19].getD k 0)) x2 (1 : Int32) m_thrown m_bufferLength m_textLength m_position m_error m_errorAt m_errorOffset m_data m_undoDepth m_numberStart m_seen m_pages _ q27) (cwV 2 hts gX6_nextDearest_X6_of rfl rfl rfl (by decide +kernel) ⟨Nat.le_of_ble_eq_true rfl, Nat.le_of_ble_eq_true rfl⟩) Z hA [0, 1] rfl (by decide) rfl (ci := 6) rfl rfl rfl rfl hl.1 rfl (Nat.le_of_ble_eq_true rfl) dX6_nextDearest_49 ⟨Nat.zero_le _, Nat.zero_le _⟩ [some 0, some 1] rfl ⟨rfl, rfl, rfl⟩ (fun H locs Z => ?_)
              refine lv_aload_n (pc := 52) hx hb dX6_nextDearest_52 rfl (lv_at hl 0 rfl) ?_
              refine lv_iload_n (pc := 53) hx hb dX6_nextDearest_53 rfl (lv_at hl 1 rfl) ?_
              refine lv_iconst (pc := 54) (v := (1 : Int32)) hx hb dX6_nextDearest_54 (by decide) ?_
              obtain ⟨x28, q29, hf⟩ := o_bindE hf
              refine z_callVi (pc := 55) (As := [.int p1, .int (1 : Int32)]) (rest := [.int x26]) (Wc := (W_X6_of cA (fun k => h ([0, 1, 2, 3, 4, 5, 6, 7, 8, 9, 10, 11, 12, 13, 14, 15, 16, 17, 18, 19].getD k 0)) m_thrown m_bufferLength m_textLength m_position m_error m_errorAt m_errorOffset m_data m_undoDepth m_numberStart m_seen m_pages)) (W1 := (W_X6_of cA (fun k => h ([0, 1, 2, 3, 4, 5, 6, 7, 8, 9, 10, 11, 12, 13, 14, 15, 16, 17, 18, 19].getD k 0)) m_thrown m_bufferLength m_textLength m_position m_error m_errorAt m_errorOffset m_data m_undoDepth m_numberStart m_seen m_pages)) (W2 := (W_X6_nextDearest cA h m_thrown m_bufferLength m_textLength m_position m_error m_errorAt m_errorOffset m_data m_undoDepth m_numberStart m_seen m_pages)) ⟨hx, hb, hml, hown, hts⟩ (kX6_of l D cA (fun k => h ([0, 1, 2, 3, 4, 5, 6, 7, 8, 9, 10, 11, 12, 13, 14, 15, 16, 17, 18, 19].getD k 0)) p1 (1 : Int32) m_thrown m_bufferLength m_textLength m_position m_error m_errorAt m_errorOffset m_data m_undoDepth m_numberStart m_seen m_pages _ q29) (cwV 2 hts gX6_nextDearest_X6_of rfl rfl rfl (by decide +kernel) ⟨Nat.le_of_ble_eq_true rfl, Nat.le_of_ble_eq_true rfl⟩) Z hA [0, 1] rfl (by decide) rfl (ci := 6) rfl rfl rfl rfl hl.1 rfl (Nat.le_of_ble_eq_true rfl) dX6_nextDearest_55 ⟨Nat.zero_le _, Nat.zero_le _⟩ [some 0, some 1] rfl ⟨rfl, rfl, rfl⟩ (fun H locs Z => ?_)
              refine lv_icmp_ne (pc := 58) (tgt := 70) hx hb dX6_nextDearest_58 (by decide) (fun c30 => ?_) (fun c30 => ?_)
              · replace hf := o_neg c30 hf
                refine lv_iconst (pc := 70) (v := (0 : Int32)) hx hb dX6_nextDearest_70 (by decide) ?_
                exact hj71_9 (0 : Int32) H locs ls Z (lv_sub hl [0, 1, 2, 3] rfl) hf
              · replace hf := o_pos c30 hf
                refine lv_iload_n (pc := 61) hx hb dX6_nextDearest_61 rfl (lv_at hl 3 rfl) ?_
                refine lv_iload_n (pc := 62) hx hb dX6_nextDearest_62 rfl (lv_at hl 1 rfl) ?_
                refine lv_icmp_le (pc := 63) (tgt := 70) hx hb dX6_nextDearest_63 (by decide) (fun c31 => ?_) (fun c31 => ?_)
                · replace hf := o_pos c31 hf
                  refine lv_iconst (pc := 70) (v := (0 : Int32)) hx hb dX6_nextDearest_70 (by decide) ?_
                  exact hj71_9 (0 : Int32) H locs ls Z (lv_sub hl [0, 1, 2, 3] rfl) hf
                · replace hf := o_neg c31 hf
                  refine lv_iconst (pc := 66) (v := (1 : Int32)) hx hb dX6_nextDearest_66 (by decide) ?_
                  refine lv_goto (pc := 67) (tgt := 71) hx hb dX6_nextDearest_67 (by decide) ?_
                  exact hj71_9 (1 : Int32) H locs ls Z (lv_sub hl [0, 1, 2, 3] rfl) hf
        · replace hf := o_pos c6 hf
          refine lv_goto (pc := 23) (tgt := 100) hx hb dX6_nextDearest_23 (by decide) ?_
          obtain ⟨x32, ex32⟩ : ∃ y : Int32, y = (x2 + (1 : Int32)) := ⟨_, rfl⟩
          replace hf := o_letE ex32 hf
          refine lv_iinc (pc := 100) (v := x32) (lv' := [(3, .int x32), (0, .ref (h 0)), (1, .int p1), (2, .int x1)]) hx hb dX6_nextDearest_100 hl (k := 3) rfl (by rw [ex32]; rfl) (by decide) rfl (fun ls hl => ?_)
          refine lv_goto (pc := 103) (tgt := 4) hx hb dX6_nextDearest_103 (by decide) ?_
          exact ih0 x1 x32 H locs ls Z (lv_sub hl [1, 2, 3, 0] rfl) hf
  exact hL4 1024 (-1 : Int32) (0 : Int32) H locs ls Z (lv_sub hl [2, 3, 1, 0] rfl) hf
