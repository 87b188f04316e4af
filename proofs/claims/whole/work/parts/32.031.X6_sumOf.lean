def W_X6_sumOf (cA : Nat → ClassId) (h : Nat → Nat) (m_thrown : Int32) (m_bufferLength : Int32) (m_textLength : Int32) (m_position : Int32) (m_error : Int32) (m_errorAt : Int32) (m_errorOffset : Int32) (m_data : Nat → Int32) (m_undoDepth : Int32) (m_numberStart : Int32) (m_seen : Int32) (m_pages : Int32) : va_W := [(h 0, .inr (6, [.int m_thrown, .ref (h 1), .int m_bufferLength, .int m_textLength, .int m_position, .int m_error, .int m_errorAt, .int m_errorOffset, .ref (h 2), .ref (h 3), .ref (h 4), .int m_undoDepth, .int m_numberStart, .int m_seen, .ref (h 13), .ref (h 14), .ref (h 15), .ref (h 16), .int m_pages, .ref (h 17), .ref (h 18), .ref (h 19)])), (h 2, .inl (cA 0, 153, .inl m_data))]
def fX6_sumOf_L4 (m_data : Nat → Int32) (p1 : Int32) : Nat → Int32 → Int32 → Option (Int32)
  | 0, _, _ => none
  | n0 + 1, x1, x2 => (if (m_data (1 : Int32).toNatClampNeg) ≤ x2 then some (x1) else o_bind (fX6_of x2 p1 m_data) (fun x4 => o_let (x1 + x4) (fun x6 => o_let (x2 + (1 : Int32)) (fun x7 => (fX6_sumOf_L4 m_data p1 n0 x6 x7)))))
def fX6_sumOf (p1 : Int32) (m_data : Nat → Int32) : Option (Int32) := (fX6_sumOf_L4 m_data p1 1024 (0 : Int32) (0 : Int32))
theorem iw_X6_sumOf_X6 : ∀ w ∈ u_ws RX6 TX6 22, w ∈ wsX6_sumOf := z_inr [10, 11, 12, 13, 14, 15, 16, 17, 18, 19, 20, 21, 22, 23, 24, 25, 26, 27, 28, 29, 30, 31] rfl
set_option maxHeartbeats 4000000 in
set_option maxRecDepth 100000 in
theorem kX6_sumOf (l : Launch) (D : va_G) (cA : Nat → ClassId) (h : Nat → Nat) (p1 : Int32) (m_thrown : Int32) (m_bufferLength : Int32) (m_textLength : Int32) (m_position : Int32) (m_error : Int32) (m_errorAt : Int32) (m_errorOffset : Int32) (m_data : Nat → Int32) (m_undoDepth : Int32) (m_numberStart : Int32) (m_seen : Int32) (m_pages : Int32) (u : Int32) (hf : fX6_sumOf p1 m_data = some u) : zMi l yX6_sumOf wsX6_sumOf ({ frames := 2, cells := 0, slots := 0, locals := 42 } : Room) D (zTY cA) [.ref (h 0), .int p1] (W_X6_sumOf cA h m_thrown m_bufferLength m_textLength m_position m_error m_errorAt m_errorOffset m_data m_undoDepth m_numberStart m_seen m_pages) (W_X6_sumOf cA h m_thrown m_bufferLength m_textLength m_position m_error m_errorAt m_errorOffset m_data m_undoDepth m_numberStart m_seen m_pages) u := by
  refine z_starti (cc := cX6_sumOf) (maxL := 4) (ret := (some .int)) (by decide) rfl (Nat.le_of_ble_eq_true rfl) ?_
  intro p e s m args below meth c A hx hb hr hts hown hlocks hml hA Z ls hl
  replace hown : s.vm.findClass RX6 = some m.cls := hown
  replace hl : lv_has ls 4 [(0, .ref (h 0)), (1, .int p1)] := hl
  obtain ⟨H, hH⟩ : ∃ H, H = s.heap := ⟨_, rfl⟩
  rw [← hH] at Z ⊢
  clear hH
  obtain ⟨locs, hlc⟩ : ∃ q : List Loc, q = [] := ⟨_, rfl⟩
  rw [← hlc] at Z ⊢
  clear hlc
  refine lv_iconst (pc := 0) (v := (0 : Int32)) hx hb dX6_sumOf_0 (by decide) ?_
  refine lv_istore_n (pc := 1) (lv' := [(2, .int (0 : Int32)), (0, .ref (h 0)), (1, .int p1)]) hx hb dX6_sumOf_1 rfl hl (by decide) rfl (fun ls hl => ?_)
  refine lv_iconst (pc := 2) (v := (0 : Int32)) hx hb dX6_sumOf_2 (by decide) ?_
  refine lv_istore_n (pc := 3) (lv' := [(3, .int (0 : Int32)), (2, .int (0 : Int32)), (0, .ref (h 0)), (1, .int p1)]) hx hb dX6_sumOf_3 rfl hl (by decide) rfl (fun ls hl => ?_)
  have hL4 : ∀ (n0 : Nat) (x1 : Int32) (x2 : Int32) (H : Heap) (locs : List Loc) (ls : Array Slot), zw D (zTY cA) s A (W_X6_sumOf cA h m_thrown m_bufferLength m_textLength m_position m_error m_errorAt m_errorOffset m_data m_undoDepth m_numberStart m_seen m_pages) H locs → lv_has ls 4 [(0, .ref (h 0)), (1, .int p1), (2, .int x1), (3, .int x2)] → fX6_sumOf_L4 m_data p1 n0 x1 x2 = some u → W p l e ({ frames := 2, cells := 0, slots := 0, locals := 42 } : Room) s m args below meth c H locs 0 0 (MQ below (zQi D (zTY cA) A (W_X6_sumOf cA h m_thrown m_bufferLength m_textLength m_position m_error m_errorAt m_errorOffset m_data m_undoDepth m_numberStart m_seen m_pages) u) args s 0 0 A) (F0 m 4 ls []) := by
    intro n0
    induction n0 with
    | zero => intro x1 x2 H locs ls Z hl hf; exact o_no hf
    | succ n0 ih0 =>
      intro x1 x2 H locs ls Z hl hf
      refine lv_iload_n (pc := 4) hx hb dX6_sumOf_4 rfl (lv_at hl 3 rfl) ?_
      refine lv_aload_n (pc := 5) hx hb dX6_sumOf_5 rfl (lv_at hl 0 rfl) ?_
      refine z_get (pc := 6) (ref := "LotSheetModel") (ci := 6) (C := RX6) (T := TX6) (N := 22) hx hb hts iw_X6_sumOf_X6 hown Z 0 rfl rfl 8 (by decide) (List.mem_of_getElem? (i := 1) rfl) rfl rfl dX6_sumOf_6 ?_
      refine lv_iconst (pc := 9) (v := (1 : Int32)) hx hb dX6_sumOf_9 (by decide) ?_
      refine z_iald (pc := 10) hx hb Z 1 0 rfl rfl (show ¬ ((1 : Int32) < 0 ∨ 153 ≤ (1 : Int32).toNatClampNeg) by decide) dX6_sumOf_10 ?_
      refine lv_icmp_ge (pc := 11) (tgt := 29) hx hb dX6_sumOf_11 (by decide) (fun c3 => ?_) (fun c3 => ?_)
      · replace hf := o_pos c3 hf
        refine lv_iload_n (pc := 29) hx hb dX6_sumOf_29 rfl (lv_at hl 2 rfl) ?_
        cases hf
        exact z_iret (pc := 30) hx hb hr hlocks Z rfl rfl dX6_sumOf_30
      · replace hf := o_neg c3 hf
        refine lv_iload_n (pc := 14) hx hb dX6_sumOf_14 rfl (lv_at hl 2 rfl) ?_
        refine lv_aload_n (pc := 15) hx hb dX6_sumOf_15 rfl (lv_at hl 0 rfl) ?_
        refine lv_iload_n (pc := 16) hx hb dX6_sumOf_16 rfl (lv_at hl 3 rfl) ?_
        refine lv_iload_n (pc := 17) hx hb dX6_sumOf_17 rfl (lv_at hl 1 rfl) ?_
        obtain ⟨x4, q5, hf⟩ := o_bindE hf
        refine z_callVi (pc := 18) (As := [.int x2, .int p1]) (rest := [.int x1]) (Wc := (W_X6_of cA (fun k => h ([0, 1, 2, 3, 4, 5, 6, 7, 8, 9, 10, 11, 12, 13, 14, 15, 16, 17, 18, 19].getD k 0)) m_thrown m_bufferLength m_textLength m_position m_error m_errorAt m_errorOffset m_data m_undoDepth m_numberStart m_seen m_pages)) (W1 := (W_X6_of cA (fun k => h ([0, 1, 2, 3, 4, 5, 6, 7, 8, 9, 10, 11, 12, 13, 14, 15, 16, 17, 18, 19].getD k 0)) m_thrown m_bufferLength m_textLength m_position m_error m_errorAt m_errorOffset m_data m_undoDepth m_numberStart m_seen m_pages)) (W2 := (W_X6_sumOf cA h m_thrown m_bufferLength m_textLength m_position m_error m_errorAt m_errorOffset m_data m_undoDepth m_numberStart m_seen m_pages)) ⟨hx, hb, hml, hown, hts⟩ (kX6_of l D cA (fun k => h ([0, 1, 2, 3, 4, 5, 6, 7, 8, 9, 10, 11, 12, 13, 14, 15, 16, 17, 18, 19].getD k 0)) x2 p1 m_thrown m_bufferLength m_textLength m_position m_error m_errorAt m_errorOffset m_data m_undoDepth m_numberStart m_seen m_pages _ q5) (cwV 2 hts gX6_sumOf_X6_of rfl rfl rfl (by decide +kernel) ⟨Nat.le_of_ble_eq_true rfl, Nat.le_of_ble_eq_true rfl⟩) Z hA [0, 1] rfl (by decide) rfl (ci := 6) rfl rfl rfl rfl hl.1 rfl (Nat.le_of_ble_eq_true rfl) dX6_sumOf_18 ⟨Nat.zero_le _, Nat.zero_le _⟩ [some 0, some 1] rfl ⟨rfl, rfl, rfl⟩ (fun H locs Z => ?_)
        refine lv_iadd (pc := 21) hx hb dX6_sumOf_21 ?_
        refine lv_topi (fun x6 ex6 => ?_)
        replace hf := o_letE ex6 hf
        refine lv_istore_n (pc := 22) (lv' := [(2, .int x6), (0, .ref (h 0)), (1, .int p1), (3, .int x2)]) hx hb dX6_sumOf_22 rfl hl (by decide) rfl (fun ls hl => ?_)
        obtain ⟨x7, ex7⟩ : ∃ y : Int32, y = (x2 + (1 : Int32)) := ⟨_, rfl⟩
        replace hf := o_letE ex7 hf
        refine lv_iinc (pc := 23) (v := x7) (lv' := [(3, .int x7), (2, .int x6), (0, .ref (h 0)), (1, .int p1)]) hx hb dX6_sumOf_23 hl (k := 3) rfl (by rw [ex7]; rfl) (by decide) rfl (fun ls hl => ?_)
        refine lv_goto (pc := 26) (tgt := 4) hx hb dX6_sumOf_26 (by decide) ?_
        exact ih0 x6 x7 H locs ls Z (lv_sub hl [2, 3, 1, 0] rfl) hf
  exact hL4 1024 (0 : Int32) (0 : Int32) H locs ls Z (lv_sub hl [2, 3, 1, 0] rfl) hf
