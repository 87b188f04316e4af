def W_X6_add (cA : Nat → ClassId) (h : Nat → Nat) (m_thrown : Int32) (m_bufferLength : Int32) (m_textLength : Int32) (m_position : Int32) (m_error : Int32) (m_errorAt : Int32) (m_errorOffset : Int32) (m_data : Nat → Int32) (m_history : Nat → Nat → Int32) (m_undoDepth : Int32) (m_numberStart : Int32) (m_seen : Int32) (m_pages : Int32) : va_W := [(h 0, .inr (6, [.int m_thrown, .ref (h 1), .int m_bufferLength, .int m_textLength, .int m_position, .int m_error, .int m_errorAt, .int m_errorOffset, .ref (h 2), .ref (h 3), .ref (h 4), .int m_undoDepth, .int m_numberStart, .int m_seen, .ref (h 13), .ref (h 14), .ref (h 15), .ref (h 16), .int m_pages, .ref (h 17), .ref (h 18), .ref (h 19)])), (h 2, .inl (cA 0, 153, .inl m_data)), (h 4, .inl (cA 4, 8, .inr (.inr (.inr (.inr (zq8 (h 5) (h 6) (h 7) (h 8) (h 9) (h 10) (h 11) (h 12))))))), (h 5, .inl (cA 0, 153, .inl ((m_history 0)))), (h 6, .inl (cA 0, 153, .inl ((m_history 1)))), (h 7, .inl (cA 0, 153, .inl ((m_history 2)))), (h 8, .inl (cA 0, 153, .inl ((m_history 3)))), (h 9, .inl (cA 0, 153, .inl ((m_history 4)))), (h 10, .inl (cA 0, 153, .inl ((m_history 5)))), (h 11, .inl (cA 0, 153, .inl ((m_history 6)))), (h 12, .inl (cA 0, 153, .inl ((m_history 7))))]
def fX6_add_L140 (p1 : Int32) (j172_27 : (Nat → Int32) → Option (Int32 × Int32 × (Nat → Int32) × (Nat → Nat → Int32) × Int32)) : Nat → Int32 → (Nat → Int32) → Option (Int32 × Int32 × (Nat → Int32) × (Nat → Nat → Int32) × Int32)
  | 0, _, _ => none
  | n0 + 1, x41, a42 => o_bind (fX6_lotAt p1) (fun x43 => (if x41 < x43 then (j172_27 a42) else o_rd 153 x41 (o_rd 153 (x41 + (6 : Int32)) (o_let (upd a42 (x41 + (6 : Int32)).toNatClampNeg (a42 x41.toNatClampNeg)) (fun a48 => o_let (x41 + (-1 : Int32)) (fun x49 => (fX6_add_L140 p1 j172_27 n0 x49 a48)))))))
def fX6_add (p1 : Int32) (p2 : Int32) (p3 : Int32) (p4 : Int32) (m_thrown : Int32) (m_data : Nat → Int32) (m_history : Nat → Nat → Int32) (m_undoDepth : Int32) : Option (Int32 × Int32 × (Nat → Int32) × (Nat → Nat → Int32) × Int32) := o_bind (fX6_in p1 (0 : Int32) (m_data (1 : Int32).toNatClampNeg)) (fun x1 => o_let (fun (x4 : Int32) => o_let (fun (x7 : Int32) => o_bind (fX6_fails x7 (1 : Int32) (0 : Int32)) (fun (x9, x10) => (if x9 = 0 then o_let (fun (x14 : Int32) => o_bind (fX6_fails x14 (2 : Int32) x10) (fun (x16, x17) => (if x16 = 0 then o_bind (fX6_remember m_data m_history m_undoDepth) (fun (a20, x21) => o_bind (fX6_lotAt (m_data (1 : Int32).toNatClampNeg)) (fun x23 => o_let (x23 - (1 : Int32)) (fun x25 => o_let (fun (a26 : Nat → Int32) => o_let (upd a26 (1 : Int32).toNatClampNeg ((a26 (1 : Int32).toNatClampNeg) + (1 : Int32))) (fun a28 => o_bind (fX6_set p1 (0 : Int32) p2 a28) (fun a29 => o_bind (fX6_set p1 (1 : Int32) p3 a29) (fun a31 => o_bind (fX6_set p1 (2 : Int32) p4 a31) (fun a33 => o_bind (fX6_set p1 (3 : Int32) (0 : Int32) a33) (fun a35 => o_bind (fX6_set p1 (4 : Int32) (1 : Int32) a35) (fun a37 => o_bind (fX6_set p1 (5 : Int32) (0 : Int32) a37) (fun a39 => some ((a39 (1 : Int32).toNatClampNeg), x17, a39, a20, x21))))))))) (fun (j172_27 : (Nat → Int32) → Option (Int32 × Int32 × (Nat → Int32) × (Nat → Nat → Int32) × Int32)) => (fX6_add_L140 p1 j172_27 1024 x25 m_data))))) else some ((0 : Int32), x17, m_data, m_history, m_undoDepth)))) (fun (j114_15 : Int32 → Option (Int32 × Int32 × (Nat → Int32) × (Nat → Nat → Int32) × Int32)) => (if (m_data (1 : Int32).toNatClampNeg) = (24 : Int32) then (j114_15 (1 : Int32)) else o_bind (fX6_different m_data) (fun x50 => (if x50 = (8 : Int32) then (j114_15 (1 : Int32)) else (j114_15 (0 : Int32)))))) else some ((0 : Int32), x10, m_data, m_history, m_undoDepth)))) (fun (j78_8 : Int32 → Option (Int32 × Int32 × (Nat → Int32) × (Nat → Nat → Int32) × Int32)) => (if x4 = 0 then (j78_8 (1 : Int32)) else (j78_8 (0 : Int32))))) (fun (j65_5 : Int32 → Option (Int32 × Int32 × (Nat → Int32) × (Nat → Nat → Int32) × Int32)) => (if x1 = 0 then (j65_5 (0 : Int32)) else o_bind (fX6_min (9 : Int32) (m_data (0 : Int32).toNatClampNeg)) (fun x53 => o_bind (fX6_in p2 (1 : Int32) x53) (fun x55 => (if x55 = 0 then (j65_5 (0 : Int32)) else o_bind (fX6_in p3 (0 : Int32) (9999 : Int32)) (fun x58 => (if x58 = 0 then (j65_5 (0 : Int32)) else o_bind (fX6_in p4 (0 : Int32) (9 : Int32)) (fun x61 => (if x61 = 0 then (j65_5 (0 : Int32)) else (j65_5 (1 : Int32))))))))))))
theorem iw_X6_add_X6 : ∀ w ∈ u_ws RX6 TX6 22, w ∈ wsX6_add := z_inr [36, 37, 38, 39, 40, 41, 42, 43, 44, 45, 46, 47, 48, 49, 50, 51, 52, 53, 54, 55, 56, 57] rfl
set_option maxHeartbeats 4000000 in
set_option maxRecDepth 100000 in
theorem kX6_add (l : Launch) (D : va_G) (cA : Nat → ClassId) (h : Nat → Nat) (p1 : Int32) (p2 : Int32) (p3 : Int32) (p4 : Int32) (m_thrown : Int32) (m_bufferLength : Int32) (m_textLength : Int32) (m_position : Int32) (m_error : Int32) (m_errorAt : Int32) (m_errorOffset : Int32) (m_data : Nat → Int32) (m_history : Nat → Nat → Int32) (m_undoDepth : Int32) (m_numberStart : Int32) (m_seen : Int32) (m_pages : Int32) (u : Int32 × Int32 × (Nat → Int32) × (Nat → Nat → Int32) × Int32) (hf : fX6_add p1 p2 p3 p4 m_thrown m_data m_history m_undoDepth = some u) : zMi l yX6_add wsX6_add ({ frames := 3, cells := 0, slots := 0, locals := 63 } : Room) D (zTY cA) [.ref (h 0), .int p1, .int p2, .int p3, .int p4] (W_X6_add cA h m_thrown m_bufferLength m_textLength m_position m_error m_errorAt m_errorOffset m_data m_history m_undoDepth m_numberStart m_seen m_pages) (W_X6_add cA h (u.2.1) m_bufferLength m_textLength m_position m_error m_errorAt m_errorOffset (u.2.2.1) (u.2.2.2.1) (u.2.2.2.2) m_numberStart m_seen m_pages) u.1 := by
  refine z_starti (cc := cX6_add) (maxL := 7) (ret := (some .int)) (by decide) rfl (Nat.le_of_ble_eq_true rfl) ?_
  intro p e s m args below meth c A hx hb hr hts hown hlocks hml hA Z ls hl
  replace hown : s.vm.findClass RX6 = some m.cls := hown
  replace hl : lv_has ls 7 [(0, .ref (h 0)), (1, .int p1), (2, .int p2), (3, .int p3), (4, .int p4)] := hl
  obtain ⟨H, hH⟩ : ∃ H, H = s.heap := ⟨_, rfl⟩
  rw [← hH] at Z ⊢
  clear hH
  obtain ⟨locs, hlc⟩ : ∃ q : List Loc, q = [] := ⟨_, rfl⟩
  rw [← hlc] at Z ⊢
  clear hlc
  refine lv_aload_n (pc := 0) hx hb dX6_add_0 rfl (lv_at hl 0 rfl) ?_
  refine lv_iconst (pc := 1) (v := (0 : Int32)) hx hb dX6_add_1 (by decide) ?_
  refine z_put (pc := 2) (ref := "LotSheetModel") (ci := 6) (C := RX6) (T := TX6) (N := 22) (W1 := (W_X6_add cA h (0 : Int32) m_bufferLength m_textLength m_position m_error m_errorAt m_errorOffset m_data m_history m_undoDepth m_numberStart m_seen m_pages)) hx hb hts iw_X6_add_X6 tyX6 tyX6_ok nmX6 hown Z 0 rfl rfl 0 (by decide) (List.mem_of_getElem? (i := 1) rfl) rfl rfl rfl rfl (Nat.le_of_ble_eq_true rfl) dX6_add_2 rfl (fun H locs Z => ?_)
  refine lv_iload_n (pc := 5) hx hb dX6_add_5 rfl (lv_at hl 1 rfl) ?_
  refine lv_iconst (pc := 6) (v := (0 : Int32)) hx hb dX6_add_6 (by decide) ?_
  refine lv_aload_n (pc := 7) hx hb dX6_add_7 rfl (lv_at hl 0 rfl) ?_
  refine z_get (pc := 8) (ref := "LotSheetModel") (ci := 6) (C := RX6) (T := TX6) (N := 22) hx hb hts iw_X6_add_X6 hown Z 0 rfl rfl 8 (by decide) (List.mem_of_getElem? (i := 2) rfl) rfl rfl dX6_add_8 ?_
  refine lv_iconst (pc := 11) (v := (1 : Int32)) hx hb dX6_add_11 (by decide) ?_
  refine z_iald (pc := 12) hx hb Z 1 0 rfl rfl (show ¬ ((1 : Int32) < 0 ∨ 153 ≤ (1 : Int32).toNatClampNeg) by decide) dX6_add_12 ?_
  obtain ⟨x1, q2, hf⟩ := o_bindE hf
  refine z_callSi (pc := 13) (As := [.int p1, .int (0 : Int32), .int (m_data (1 : Int32).toNatClampNeg)]) (rest := []) (Wc := (W_X6_in cA (fun k => h ([0].getD k 0)))) (W1 := (W_X6_in cA (fun k => h ([0].getD k 0)))) (W2 := (W_X6_add cA h (0 : Int32) m_bufferLength m_textLength m_position m_error m_errorAt m_errorOffset m_data m_history m_undoDepth m_numberStart m_seen m_pages)) ⟨hx, hb, hml, hown, hts⟩ (kX6_in l D cA (fun k => h ([0].getD k 0)) p1 (0 : Int32) (m_data (1 : Int32).toNatClampNeg) _ q2) (va_cwS 3 hts gX6_add_X6_in rfl rfl rfl (by decide +kernel) ⟨Nat.le_of_ble_eq_true rfl, Nat.le_of_ble_eq_true rfl⟩) Z hA [] rfl (by decide) rfl rfl hl.1 rfl (Nat.le_of_ble_eq_true rfl) dX6_add_13 ⟨Nat.zero_le _, Nat.zero_le _⟩ [none, none, none, none, none, none, none, none, none, none, none] rfl ⟨rfl, rfl, rfl, rfl, rfl, rfl, rfl, rfl, rfl, rfl, rfl, rfl⟩ (fun H locs Z => ?_)
  obtain ⟨j65_5, ej65_5, hf⟩ := o_jnE hf
  have hj65_5 : ∀ (x4 : Int32) (H : Heap) (locs : List Loc) (ls : Array Slot), zw D (zTY cA) s A (W_X6_add cA h (0 : Int32) m_bufferLength m_textLength m_position m_error m_errorAt m_errorOffset m_data m_history m_undoDepth m_numberStart m_seen m_pages) H locs → lv_has ls 7 [(0, .ref (h 0)), (1, .int p1), (2, .int p2), (3, .int p3), (4, .int p4)] → j65_5 x4 = some u → W p l e ({ frames := 3, cells := 0, slots := 0, locals := 63 } : Room) s m args below meth c H locs 0 0 (MQ below (zQi D (zTY cA) A (W_X6_add cA h (u.2.1) m_bufferLength m_textLength m_position m_error m_errorAt m_errorOffset (u.2.2.1) (u.2.2.2.1) (u.2.2.2.2) m_numberStart m_seen m_pages) u.1) args s 0 0 A) (F0 m 65 ls [.int x4]) := by
    intro x4 H locs ls Z hl hf
    rw [ej65_5] at hf
    refine lv_istore (pc := 65) (lv' := [(5, .int x4), (0, .ref (h 0)), (1, .int p1), (2, .int p2), (3, .int p3), (4, .int p4)]) hx hb dX6_add_65 hl (by decide) rfl (fun ls hl => ?_)
    refine lv_aload_n (pc := 67) hx hb dX6_add_67 rfl (lv_at hl 1 rfl) ?_
    refine lv_iload (pc := 68) hx hb dX6_add_68 (lv_at hl 0 rfl) ?_
    obtain ⟨j78_8, ej78_8, hf⟩ := o_jnE hf
    have hj78_8 : ∀ (x7 : Int32) (H : Heap) (locs : List Loc) (ls : Array Slot), zw D (zTY cA) s A (W_X6_add cA h (0 : Int32) m_bufferLength m_textLength m_position m_error m_errorAt m_errorOffset m_data m_history m_undoDepth m_numberStart m_seen m_pages) H locs → lv_has ls 7 [(0, .ref (h 0)), (1, .int p1), (2, .int p2), (3, .int p3), (4, .int p4)] → j78_8 x7 = some u → W p l e ({ frames := 3, cells := 0, slots := 0, locals := 63 } : Room) s m args below meth c H locs 0 0 (MQ below (zQi D (zTY cA) A (W_X6_add cA h (u.2.1) m_bufferLength m_textLength m_position m_error m_errorAt m_errorOffset (u.2.2.1) (u.2.2.2.1) (u.2.2.2.2) m_numberStart m_seen m_pages) u.1) args s 0 0 A) (F0 m 78 ls [.int x7, .ref (h 0)]) := by
      intro x7 H locs ls Z hl hf
      rw [ej78_8] at hf
      refine lv_iconst (pc := 78) (v := (1 : Int32)) hx hb dX6_add_78 (by decide) ?_
      obtain ⟨⟨x9, x10⟩, q11, hf⟩ := o_bindE hf
      refine z_callVi (pc := 79) (As := [.int x7, .int (1 : Int32)]) (rest := []) (Wc := (W_X6_fails cA (fun k => h ([0, 1, 2, 3, 4, 5, 6, 7, 8, 9, 10, 11, 12, 13, 14, 15, 16, 17, 18, 19].getD k 0)) (0 : Int32) m_bufferLength m_textLength m_position m_error m_errorAt m_errorOffset m_undoDepth m_numberStart m_seen m_pages)) (W1 := (W_X6_fails cA (fun k => h ([0, 1, 2, 3, 4, 5, 6, 7, 8, 9, 10, 11, 12, 13, 14, 15, 16, 17, 18, 19].getD k 0)) x10 m_bufferLength m_textLength m_position m_error m_errorAt m_errorOffset m_undoDepth m_numberStart m_seen m_pages)) (W2 := (W_X6_add cA h x10 m_bufferLength m_textLength m_position m_error m_errorAt m_errorOffset m_data m_history m_undoDepth m_numberStart m_seen m_pages)) ⟨hx, hb, hml, hown, hts⟩ (kX6_fails l D cA (fun k => h ([0, 1, 2, 3, 4, 5, 6, 7, 8, 9, 10, 11, 12, 13, 14, 15, 16, 17, 18, 19].getD k 0)) x7 (1 : Int32) (0 : Int32) m_bufferLength m_textLength m_position m_error m_errorAt m_errorOffset m_undoDepth m_numberStart m_seen m_pages _ q11) (cwV 2 hts gX6_add_X6_fails rfl rfl rfl (by decide +kernel) ⟨Nat.le_of_ble_eq_true rfl, Nat.le_of_ble_eq_true rfl⟩) Z hA [0] rfl (by decide) rfl (ci := 6) rfl rfl rfl rfl hl.1 rfl (Nat.le_of_ble_eq_true rfl) dX6_add_79 ⟨Nat.zero_le _, Nat.zero_le _⟩ [some 0, none, none, none, none, none, none, none, none, none, none] rfl ⟨rfl, rfl, rfl, rfl, rfl, rfl, rfl, rfl, rfl, rfl, rfl, rfl⟩ (fun H locs Z => ?_)
      refine lv_if_ne (pc := 82) (tgt := 121) hx hb dX6_add_82 (by decide) (fun c12 => ?_) (fun c12 => ?_)
      · replace hf := o_neg c12 hf
        refine lv_iconst (pc := 121) (v := (0 : Int32)) hx hb dX6_add_121 (by decide) ?_
        cases hf
        exact z_iret (pc := 122) hx hb hr hlocks Z rfl rfl dX6_add_122
      · replace hf := o_pos c12 hf
        refine lv_aload_n (pc := 85) hx hb dX6_add_85 rfl (lv_at hl 0 rfl) ?_
        refine lv_aload_n (pc := 86) hx hb dX6_add_86 rfl (lv_at hl 0 rfl) ?_
        refine z_get (pc := 87) (ref := "LotSheetModel") (ci := 6) (C := RX6) (T := TX6) (N := 22) hx hb hts iw_X6_add_X6 hown Z 0 rfl rfl 8 (by decide) (List.mem_of_getElem? (i := 2) rfl) rfl rfl dX6_add_87 ?_
        refine lv_iconst (pc := 90) (v := (1 : Int32)) hx hb dX6_add_90 (by decide) ?_
        refine z_iald (pc := 91) hx hb Z 1 0 rfl rfl (show ¬ ((1 : Int32) < 0 ∨ 153 ≤ (1 : Int32).toNatClampNeg) by decide) dX6_add_91 ?_
        refine lv_bipush (pc := 92) (v := (24 : Int32)) hx hb dX6_add_92 (by decide) ?_
        obtain ⟨j114_15, ej114_15, hf⟩ := o_jnE hf
        have hj114_15 : ∀ (x14 : Int32) (H : Heap) (locs : List Loc) (ls : Array Slot), zw D (zTY cA) s A (W_X6_add cA h x10 m_bufferLength m_textLength m_position m_error m_errorAt m_errorOffset m_data m_history m_undoDepth m_numberStart m_seen m_pages) H locs → lv_has ls 7 [(0, .ref (h 0)), (1, .int p1), (2, .int p2), (3, .int p3), (4, .int p4)] → j114_15 x14 = some u → W p l e ({ frames := 3, cells := 0, slots := 0, locals := 63 } : Room) s m args below meth c H locs 0 0 (MQ below (zQi D (zTY cA) A (W_X6_add cA h (u.2.1) m_bufferLength m_textLength m_position m_error m_errorAt m_errorOffset (u.2.2.1) (u.2.2.2.1) (u.2.2.2.2) m_numberStart m_seen m_pages) u.1) args s 0 0 A) (F0 m 114 ls [.int x14, .ref (h 0)]) := by
          intro x14 H locs ls Z hl hf
          rw [ej114_15] at hf
          refine lv_iconst (pc := 114) (v := (2 : Int32)) hx hb dX6_add_114 (by decide) ?_
          obtain ⟨⟨x16, x17⟩, q18, hf⟩ := o_bindE hf
          refine z_callVi (pc := 115) (As := [.int x14, .int (2 : Int32)]) (rest := []) (Wc := (W_X6_fails cA (fun k => h ([0, 1, 2, 3, 4, 5, 6, 7, 8, 9, 10, 11, 12, 13, 14, 15, 16, 17, 18, 19].getD k 0)) x10 m_bufferLength m_textLength m_position m_error m_errorAt m_errorOffset m_undoDepth m_numberStart m_seen m_pages)) (W1 := (W_X6_fails cA (fun k => h ([0, 1, 2, 3, 4, 5, 6, 7, 8, 9, 10, 11, 12, 13, 14, 15, 16, 17, 18, 19].getD k 0)) x17 m_bufferLength m_textLength m_position m_error m_errorAt m_errorOffset m_undoDepth m_numberStart m_seen m_pages)) (W2 := (W_X6_add cA h x17 m_bufferLength m_textLength m_position m_error m_errorAt m_errorOffset m_data m_history m_undoDepth m_numberStart m_seen m_pages)) ⟨hx, hb, hml, hown, hts⟩ (kX6_fails l D cA (fun k => h ([0, 1, 2, 3, 4, 5, 6, 7, 8, 9, 10, 11, 12, 13, 14, 15, 16, 17, 18, 19].getD k 0)) x14 (2 : Int32) x10 m_bufferLength m_textLength m_position m_error m_errorAt m_errorOffset m_undoDepth m_numberStart m_seen m_pages _ q18) (cwV 2 hts gX6_add_X6_fails rfl rfl rfl (by decide +kernel) ⟨Nat.le_of_ble_eq_true rfl, Nat.le_of_ble_eq_true rfl⟩) Z hA [0] rfl (by decide) rfl (ci := 6) rfl rfl rfl rfl hl.1 rfl (Nat.le_of_ble_eq_true rfl) dX6_add_115 ⟨Nat.zero_le _, Nat.zero_le _⟩ [some 0, none, none, none, none, none, none, none, none, none, none] rfl ⟨rfl, rfl, rfl, rfl, rfl, rfl, rfl, rfl, rfl, rfl, rfl, rfl⟩ (fun H locs Z => ?_)
          refine lv_if_eq (pc := 118) (tgt := 123) hx hb dX6_add_118 (by decide) (fun c19 => ?_) (fun c19 => ?_)
          · replace hf := o_pos c19 hf
            refine lv_aload_n (pc := 123) hx hb dX6_add_123 rfl (lv_at hl 0 rfl) ?_
            obtain ⟨⟨a20, x21⟩, q22, hf⟩ := o_bindE hf
            refine z_callVv (pc := 124) (As := []) (rest := []) (Wc := (W_X6_remember cA (fun k => h ([0, 1, 2, 3, 4, 5, 6, 7, 8, 9, 10, 11, 12, 13, 14, 15, 16, 17, 18, 19].getD k 0)) x17 m_bufferLength m_textLength m_position m_error m_errorAt m_errorOffset m_data m_history m_undoDepth m_numberStart m_seen m_pages)) (W1 := (W_X6_remember cA (fun k => h ([0, 1, 2, 3, 4, 5, 6, 7, 8, 9, 10, 11, 12, 13, 14, 15, 16, 17, 18, 19].getD k 0)) x17 m_bufferLength m_textLength m_position m_error m_errorAt m_errorOffset m_data a20 x21 m_numberStart m_seen m_pages)) (W2 := (W_X6_add cA h x17 m_bufferLength m_textLength m_position m_error m_errorAt m_errorOffset m_data a20 x21 m_numberStart m_seen m_pages)) ⟨hx, hb, hml, hown, hts⟩ (kX6_remember l D cA (fun k => h ([0, 1, 2, 3, 4, 5, 6, 7, 8, 9, 10, 11, 12, 13, 14, 15, 16, 17, 18, 19].getD k 0)) x17 m_bufferLength m_textLength m_position m_error m_errorAt m_errorOffset m_data m_history m_undoDepth m_numberStart m_seen m_pages _ q22) (cwV 0 hts gX6_add_X6_remember rfl rfl rfl (by decide +kernel) ⟨Nat.le_of_ble_eq_true rfl, Nat.le_of_ble_eq_true rfl⟩) Z hA [0, 1, 2, 3, 4, 5, 6, 7, 8, 9, 10] rfl (by decide) rfl (ci := 6) rfl rfl rfl rfl hl.1 rfl (Nat.le_of_ble_eq_true rfl) dX6_add_124 ⟨Nat.zero_le _, Nat.zero_le _⟩ [some 0, some 1, some 2, some 3, some 4, some 5, some 6, some 7, some 8, some 9, some 10] rfl ⟨rfl, rfl, rfl, rfl, rfl, rfl, rfl, rfl, rfl, rfl, rfl, rfl⟩ (fun H locs Z => ?_)
            refine lv_aload_n (pc := 127) hx hb dX6_add_127 rfl (lv_at hl 0 rfl) ?_
            refine z_get (pc := 128) (ref := "LotSheetModel") (ci := 6) (C := RX6) (T := TX6) (N := 22) hx hb hts iw_X6_add_X6 hown Z 0 rfl rfl 8 (by decide) (List.mem_of_getElem? (i := 2) rfl) rfl rfl dX6_add_128 ?_
            refine lv_iconst (pc := 131) (v := (1 : Int32)) hx hb dX6_add_131 (by decide) ?_
            refine z_iald (pc := 132) hx hb Z 1 0 rfl rfl (show ¬ ((1 : Int32) < 0 ∨ 153 ≤ (1 : Int32).toNatClampNeg) by decide) dX6_add_132 ?_
            obtain ⟨x23, q24, hf⟩ := o_bindE hf
            refine z_callSi (pc := 133) (As := [.int (m_data (1 : Int32).toNatClampNeg)]) (rest := []) (Wc := (W_X6_lotAt cA (fun k => h ([0].getD k 0)))) (W1 := (W_X6_lotAt cA (fun k => h ([0].getD k 0)))) (W2 := (W_X6_add cA h x17 m_bufferLength m_textLength m_position m_error m_errorAt m_errorOffset m_data a20 x21 m_numberStart m_seen m_pages)) ⟨hx, hb, hml, hown, hts⟩ (kX6_lotAt l D cA (fun k => h ([0].getD k 0)) (m_data (1 : Int32).toNatClampNeg) _ q24) (va_cwS 1 hts gX6_add_X6_lotAt rfl rfl rfl (by decide +kernel) ⟨Nat.le_of_ble_eq_true rfl, Nat.le_of_ble_eq_true rfl⟩) Z hA [] rfl (by decide) rfl rfl hl.1 rfl (Nat.le_of_ble_eq_true rfl) dX6_add_133 ⟨Nat.zero_le _, Nat.zero_le _⟩ [none, none, none, none, none, none, none, none, none, none, none] rfl ⟨rfl, rfl, rfl, rfl, rfl, rfl, rfl, rfl, rfl, rfl, rfl, rfl⟩ (fun H locs Z => ?_)
            refine lv_iconst (pc := 136) (v := (1 : Int32)) hx hb dX6_add_136 (by decide) ?_
            refine lv_isub (pc := 137) hx hb dX6_add_137 ?_
            refine lv_topi (fun x25 ex25 => ?_)
            replace hf := o_letE ex25 hf
            refine lv_istore (pc := 138) (lv' := [(6, .int x25), (0, .ref (h 0)), (1, .int p1), (2, .int p2), (3, .int p3), (4, .int p4)]) hx hb dX6_add_138 hl (by decide) rfl (fun ls hl => ?_)
            obtain ⟨j172_27, ej172_27, hf⟩ := o_jnE hf
            have hj172_27 : ∀ (a26 : Nat → Int32) (H : Heap) (locs : List Loc) (ls : Array Slot), zw D (zTY cA) s A (W_X6_add cA h x17 m_bufferLength m_textLength m_position m_error m_errorAt m_errorOffset a26 a20 x21 m_numberStart m_seen m_pages) H locs → lv_has ls 7 [(0, .ref (h 0)), (1, .int p1), (2, .int p2), (3, .int p3), (4, .int p4)] → j172_27 a26 = some u → W p l e ({ frames := 3, cells := 0, slots := 0, locals := 63 } : Room) s m args below meth c H locs 0 0 (MQ below (zQi D (zTY cA) A (W_X6_add cA h (u.2.1) m_bufferLength m_textLength m_position m_error m_errorAt m_errorOffset (u.2.2.1) (u.2.2.2.1) (u.2.2.2.2) m_numberStart m_seen m_pages) u.1) args s 0 0 A) (F0 m 172 ls []) := by
              intro a26 H locs ls Z hl hf
              rw [ej172_27] at hf
              refine lv_aload_n (pc := 172) hx hb dX6_add_172 rfl (lv_at hl 0 rfl) ?_
              refine z_get (pc := 173) (ref := "LotSheetModel") (ci := 6) (C := RX6) (T := TX6) (N := 22) hx hb hts iw_X6_add_X6 hown Z 0 rfl rfl 8 (by decide) (List.mem_of_getElem? (i := 2) rfl) rfl rfl dX6_add_173 ?_
              refine lv_iconst (pc := 176) (v := (1 : Int32)) hx hb dX6_add_176 (by decide) ?_
              refine lv_dup2_11 (pc := 177) hx hb dX6_add_177 rfl rfl ?_
              refine z_iald (pc := 178) hx hb Z 1 0 rfl rfl (show ¬ ((1 : Int32) < 0 ∨ 153 ≤ (1 : Int32).toNatClampNeg) by decide) dX6_add_178 ?_
              refine lv_iconst (pc := 179) (v := (1 : Int32)) hx hb dX6_add_179 (by decide) ?_
              refine lv_iadd (pc := 180) hx hb dX6_add_180 ?_
              refine z_iast (pc := 181) hx hb Z 1 0 rfl rfl (show ¬ ((1 : Int32) < 0 ∨ 153 ≤ (1 : Int32).toNatClampNeg) by decide) dX6_add_181 (fun g => (W_X6_add cA h x17 m_bufferLength m_textLength m_position m_error m_errorAt m_errorOffset g a20 x21 m_numberStart m_seen m_pages)) (fun _ => rfl) (fun a28 H locs ea28 Z => ?_)
              replace hf := o_letE ea28 hf
              refine lv_aload_n (pc := 182) hx hb dX6_add_182 rfl (lv_at hl 0 rfl) ?_
              refine lv_iload_n (pc := 183) hx hb dX6_add_183 rfl (lv_at hl 1 rfl) ?_
              refine lv_iconst (pc := 184) (v := (0 : Int32)) hx hb dX6_add_184 (by decide) ?_
              refine lv_iload_n (pc := 185) hx hb dX6_add_185 rfl (lv_at hl 2 rfl) ?_
              obtain ⟨a29, q30, hf⟩ := o_bindE hf
              refine z_callVv (pc := 186) (As := [.int p1, .int (0 : Int32), .int p2]) (rest := []) (Wc := (W_X6_set cA (fun k => h ([0, 1, 2, 3, 4, 5, 6, 7, 8, 9, 10, 11, 12, 13, 14, 15, 16, 17, 18, 19].getD k 0)) x17 m_bufferLength m_textLength m_position m_error m_errorAt m_errorOffset a28 x21 m_numberStart m_seen m_pages)) (W1 := (W_X6_set cA (fun k => h ([0, 1, 2, 3, 4, 5, 6, 7, 8, 9, 10, 11, 12, 13, 14, 15, 16, 17, 18, 19].getD k 0)) x17 m_bufferLength m_textLength m_position m_error m_errorAt m_errorOffset a29 x21 m_numberStart m_seen m_pages)) (W2 := (W_X6_add cA h x17 m_bufferLength m_textLength m_position m_error m_errorAt m_errorOffset a29 a20 x21 m_numberStart m_seen m_pages)) ⟨hx, hb, hml, hown, hts⟩ (kX6_set l D cA (fun k => h ([0, 1, 2, 3, 4, 5, 6, 7, 8, 9, 10, 11, 12, 13, 14, 15, 16, 17, 18, 19].getD k 0)) p1 (0 : Int32) p2 x17 m_bufferLength m_textLength m_position m_error m_errorAt m_errorOffset a28 x21 m_numberStart m_seen m_pages _ q30) (cwV 3 hts gX6_add_X6_set rfl rfl rfl (by decide +kernel) ⟨Nat.le_of_ble_eq_true rfl, Nat.le_of_ble_eq_true rfl⟩) Z hA [0, 1] rfl (by decide) rfl (ci := 6) rfl rfl rfl rfl hl.1 rfl (Nat.le_of_ble_eq_true rfl) dX6_add_186 ⟨Nat.zero_le _, Nat.zero_le _⟩ [some 0, some 1, none, none, none, none, none, none, none, none, none] rfl ⟨rfl, rfl, rfl, rfl, rfl, rfl, rfl, rfl, rfl, rfl, rfl, rfl⟩ (fun H locs Z => ?_)
              refine lv_aload_n (pc := 189) hx hb dX6_add_189 rfl (lv_at hl 0 rfl) ?_
              refine lv_iload_n (pc := 190) hx hb dX6_add_190 rfl (lv_at hl 1 rfl) ?_
              refine lv_iconst (pc := 191) (v := (1 : Int32)) hx hb dX6_add_191 (by decide) ?_
              refine lv_iload_n (pc := 192) hx hb dX6_add_192 rfl (lv_at hl 3 rfl) ?_
              obtain ⟨a31, q32, hf⟩ := o_bindE hf
              refine z_callVv (pc := 193) (As := [.int p1, .int (1 : Int32), .int p3]) (rest := []) (Wc := (W_X6_set cA (fun k => h ([0, 1, 2, 3, 4, 5, 6, 7, 8, 9, 10, 11, 12, 13, 14, 15, 16, 17, 18, 19].getD k 0)) x17 m_bufferLength m_textLength m_position m_error m_errorAt m_errorOffset a29 x21 m_numberStart m_seen m_pages)) (W1 := (W_X6_set cA (fun k => h ([0, 1, 2, 3, 4, 5, 6, 7, 8, 9, 10, 11, 12, 13, 14, 15, 16, 17, 18, 19].getD k 0)) x17 m_bufferLength m_textLength m_position m_error m_errorAt m_errorOffset a31 x21 m_numberStart m_seen m_pages)) (W2 := (W_X6_add cA h x17 m_bufferLength m_textLength m_position m_error m_errorAt m_errorOffset a31 a20 x21 m_numberStart m_seen m_pages)) ⟨hx, hb, hml, hown, hts⟩ (kX6_set l D cA (fun k => h ([0, 1, 2, 3, 4, 5, 6, 7, 8, 9, 10, 11, 12, 13, 14, 15, 16, 17, 18, 19].getD k 0)) p1 (1 : Int32) p3 x17 m_bufferLength m_textLength m_position m_error m_errorAt m_errorOffset a29 x21 m_numberStart m_seen m_pages _ q32) (cwV 3 hts gX6_add_X6_set rfl rfl rfl (by decide +kernel) ⟨Nat.le_of_ble_eq_true rfl, Nat.le_of_ble_eq_true rfl⟩) Z hA [0, 1] rfl (by decide) rfl (ci := 6) rfl rfl rfl rfl hl.1 rfl (Nat.le_of_ble_eq_true rfl) dX6_add_193 ⟨Nat.zero_le _, Nat.zero_le _⟩ [some 0, some 1, none, none, none, none, none, none, none, none, none] rfl ⟨rfl, rfl, rfl, rfl, rfl, rfl, rfl, rfl, rfl, rfl, rfl, rfl⟩ (fun H locs Z => ?_)
              refine lv_aload_n (pc := 196) hx hb dX6_add_196 rfl (lv_at hl 0 rfl) ?_
              refine lv_iload_n (pc := 197) hx hb dX6_add_197 rfl (lv_at hl 1 rfl) ?_
              refine lv_iconst (pc := 198) (v := (2 : Int32)) hx hb dX6_add_198 (by decide) ?_
              refine lv_iload (pc := 199) hx hb dX6_add_199 (lv_at hl 4 rfl) ?_
              obtain ⟨a33, q34, hf⟩ := o_bindE hf
              refine z_callVv (pc := 201) (As := [.int p1, .int (2 : Int32), .int p4]) (rest := []) (Wc := (W_X6_set cA (fun k => h ([0, 1, 2, 3, 4, 5, 6, 7, 8, 9, 10, 11, 12, 13, 14, 15, 16, 17, 18, 19].getD k 0)) x17 m_bufferLength m_textLength m_position m_error m_errorAt m_errorOffset a31 x21 m_numberStart m_seen m_pages)) (W1 := (W_X6_set cA (fun k => h ([0, 1, 2, 3, 4, 5, 6, 7, 8, 9, 10, 11, 12, 13, 14, 15, 16, 17, 18, 19].getD k 0)) x17 m_bufferLength m_textLength m_position m_error m_errorAt m_errorOffset a33 x21 m_numberStart m_seen m_pages)) (W2 := (W_X6_add cA h x17 m_bufferLength m_textLength m_position m_error m_errorAt m_errorOffset a33 a20 x21 m_numberStart m_seen m_pages)) ⟨hx, hb, hml, hown, hts⟩ (kX6_set l D cA (fun k => h ([0, 1, 2, 3, 4, 5, 6, 7, 8, 9, 10, 11, 12, 13, 14, 15, 16, 17, 18, 19].getD k 0)) p1 (2 : Int32) p4 x17 m_bufferLength m_textLength m_position m_error m_errorAt m_errorOffset a31 x21 m_numberStart m_seen m_pages _ q34) (cwV 3 hts gX6_add_X6_set rfl rfl rfl (by decide +kernel) ⟨Nat.le_of_ble_eq_true rfl, Nat.le_of_ble_eq_true rfl⟩) Z hA [0, 1] rfl (by decide) rfl (ci := 6) rfl rfl rfl rfl hl.1 rfl (Nat.le_of_ble_eq_true rfl) dX6_add_201 ⟨Nat.zero_le _, Nat.zero_le _⟩ [some 0, some 1, none, none, none, none, none, none, none, none, none] rfl ⟨rfl, rfl, rfl, rfl, rfl, rfl, rfl, rfl, rfl, rfl, rfl, rfl⟩ (fun H locs Z => ?_)
              refine lv_aload_n (pc := 204) hx hb dX6_add_204 rfl (lv_at hl 0 rfl) ?_
              refine lv_iload_n (pc := 205) hx hb dX6_add_205 rfl (lv_at hl 1 rfl) ?_
              refine lv_iconst (pc := 206) (v := (3 : Int32)) hx hb dX6_add_206 (by decide) ?_
              refine lv_iconst (pc := 207) (v := (0 : Int32)) hx hb dX6_add_207 (by decide) ?_
              obtain ⟨a35, q36, hf⟩ := o_bindE hf
              refine z_callVv (pc := 208) (As := [.int p1, .int (3 : Int32), .int (0 : Int32)]) (rest := []) (Wc := (W_X6_set cA (fun k => h ([0, 1, 2, 3, 4, 5, 6, 7, 8, 9, 10, 11, 12, 13, 14, 15, 16, 17, 18, 19].getD k 0)) x17 m_bufferLength m_textLength m_position m_error m_errorAt m_errorOffset a33 x21 m_numberStart m_seen m_pages)) (W1 := (W_X6_set cA (fun k => h ([0, 1, 2, 3, 4, 5, 6, 7, 8, 9, 10, 11, 12, 13, 14, 15, 16, 17, 18, 19].getD k 0)) x17 m_bufferLength m_textLength m_position m_error m_errorAt m_errorOffset a35 x21 m_numberStart m_seen m_pages)) (W2 := (W_X6_add cA h x17 m_bufferLength m_textLength m_position m_error m_errorAt m_errorOffset a35 a20 x21 m_numberStart m_seen m_pages)) ⟨hx, hb, hml, hown, hts⟩ (kX6_set l D cA (fun k => h ([0, 1, 2, 3, 4, 5, 6, 7, 8, 9, 10, 11, 12, 13, 14, 15, 16, 17, 18, 19].getD k 0)) p1 (3 : Int32) (0 : Int32) x17 m_bufferLength m_textLength m_position m_error m_errorAt m_errorOffset a33 x21 m_numberStart m_seen m_pages _ q36) (cwV 3 hts gX6_add_X6_set rfl rfl rfl (by decide +kernel) ⟨Nat.le_of_ble_eq_true rfl, Nat.le_of_ble_eq_true rfl⟩) Z hA [0, 1] rfl (by decide) rfl (ci := 6) rfl rfl rfl rfl hl.1 rfl (Nat.le_of_ble_eq_true rfl) dX6_add_208 ⟨Nat.zero_le _, Nat.zero_le _⟩ [some 0, some 1, none, none, none, none, none, none, none, none, none] rfl ⟨rfl, rfl, rfl, rfl, rfl, rfl, rfl, rfl, rfl, rfl, rfl, rfl⟩ (fun H locs Z => ?_)
              refine lv_aload_n (pc := 211) hx hb dX6_add_211 rfl (lv_at hl 0 rfl) ?_
              refine lv_iload_n (pc := 212) hx hb dX6_add_212 rfl (lv_at hl 1 rfl) ?_
              refine lv_iconst (pc := 213) (v := (4 : Int32)) hx hb dX6_add_213 (by decide) ?_
              refine lv_iconst (pc := 214) (v := (1 : Int32)) hx hb dX6_add_214 (by decide) ?_
              obtain ⟨a37, q38, hf⟩ := o_bindE hf
              refine z_callVv (pc := 215) (As := [.int p1, .int (4 : Int32), .int (1 : Int32)]) (rest := []) (Wc := (W_X6_set cA (fun k => h ([0, 1, 2, 3, 4, 5, 6, 7, 8, 9, 10, 11, 12, 13, 14, 15, 16, 17, 18, 19].getD k 0)) x17 m_bufferLength m_textLength m_position m_error m_errorAt m_errorOffset a35 x21 m_numberStart m_seen m_pages)) (W1 := (W_X6_set cA (fun k => h ([0, 1, 2, 3, 4, 5, 6, 7, 8, 9, 10, 11, 12, 13, 14, 15, 16, 17, 18, 19].getD k 0)) x17 m_bufferLength m_textLength m_position m_error m_errorAt m_errorOffset a37 x21 m_numberStart m_seen m_pages)) (W2 := (W_X6_add cA h x17 m_bufferLength m_textLength m_position m_error m_errorAt m_errorOffset a37 a20 x21 m_numberStart m_seen m_pages)) ⟨hx, hb, hml, hown, hts⟩ (kX6_set l D cA (fun k => h ([0, 1, 2, 3, 4, 5, 6, 7, 8, 9, 10, 11, 12, 13, 14, 15, 16, 17, 18, 19].getD k 0)) p1 (4 : Int32) (1 : Int32) x17 m_bufferLength m_textLength m_position m_error m_errorAt m_errorOffset a35 x21 m_numberStart m_seen m_pages _ q38) (cwV 3 hts gX6_add_X6_set rfl rfl rfl (by decide +kernel) ⟨Nat.le_of_ble_eq_true rfl, Nat.le_of_ble_eq_true rfl⟩) Z hA [0, 1] rfl (by decide) rfl (ci := 6) rfl rfl rfl rfl hl.1 rfl (Nat.le_of_ble_eq_true rfl) dX6_add_215 ⟨Nat.zero_le _, Nat.zero_le _⟩ [some 0, some 1, none, none, none, none, none, none, none, none, none] rfl ⟨rfl, rfl, rfl, rfl, rfl, rfl, rfl, rfl, rfl, rfl, rfl, rfl⟩ (fun H locs Z => ?_)
              refine lv_aload_n (pc := 218) hx hb dX6_add_218 rfl (lv_at hl 0 rfl) ?_
              refine lv_iload_n (pc := 219) hx hb dX6_add_219 rfl (lv_at hl 1 rfl) ?_
              refine lv_iconst (pc := 220) (v := (5 : Int32)) hx hb dX6_add_220 (by decide) ?_
              refine lv_iconst (pc := 221) (v := (0 : Int32)) hx hb dX6_add_221 (by decide) ?_
              obtain ⟨a39, q40, hf⟩ := o_bindE hf
              refine z_callVv (pc := 222) (As := [.int p1, .int (5 : Int32), .int (0 : Int32)]) (rest := []) (Wc := (W_X6_set cA (fun k => h ([0, 1, 2, 3, 4, 5, 6, 7, 8, 9, 10, 11, 12, 13, 14, 15, 16, 17, 18, 19].getD k 0)) x17 m_bufferLength m_textLength m_position m_error m_errorAt m_errorOffset a37 x21 m_numberStart m_seen m_pages)) (W1 := (W_X6_set cA (fun k => h ([0, 1, 2, 3, 4, 5, 6, 7, 8, 9, 10, 11, 12, 13, 14, 15, 16, 17, 18, 19].getD k 0)) x17 m_bufferLength m_textLength m_position m_error m_errorAt m_errorOffset a39 x21 m_numberStart m_seen m_pages)) (W2 := (W_X6_add cA h x17 m_bufferLength m_textLength m_position m_error m_errorAt m_errorOffset a39 a20 x21 m_numberStart m_seen m_pages)) ⟨hx, hb, hml, hown, hts⟩ (kX6_set l D cA (fun k => h ([0, 1, 2, 3, 4, 5, 6, 7, 8, 9, 10, 11, 12, 13, 14, 15, 16, 17, 18, 19].getD k 0)) p1 (5 : Int32) (0 : Int32) x17 m_bufferLength m_textLength m_position m_error m_errorAt m_errorOffset a37 x21 m_numberStart m_seen m_pages _ q40) (cwV 3 hts gX6_add_X6_set rfl rfl rfl (by decide +kernel) ⟨Nat.le_of_ble_eq_true rfl, Nat.le_of_ble_eq_true rfl⟩) Z hA [0, 1] rfl (by decide) rfl (ci := 6) rfl rfl rfl rfl hl.1 rfl (Nat.le_of_ble_eq_true rfl) dX6_add_222 ⟨Nat.zero_le _, Nat.zero_le _⟩ [some 0, some 1, none, none, none, none, none, none, none, none, none] rfl ⟨rfl, rfl, rfl, rfl, rfl, rfl, rfl, rfl, rfl, rfl, rfl, rfl⟩ (fun H locs Z => ?_)
              refine lv_aload_n (pc := 225) hx hb dX6_add_225 rfl (lv_at hl 0 rfl) ?_
              refine z_get (pc := 226) (ref := "LotSheetModel") (ci := 6) (C := RX6) (T := TX6) (N := 22) hx hb hts iw_X6_add_X6 hown Z 0 rfl rfl 8 (by decide) (List.mem_of_getElem? (i := 2) rfl) rfl rfl dX6_add_226 ?_
              refine lv_iconst (pc := 229) (v := (1 : Int32)) hx hb dX6_add_229 (by decide) ?_
              refine z_iald (pc := 230) hx hb Z 1 0 rfl rfl (show ¬ ((1 : Int32) < 0 ∨ 153 ≤ (1 : Int32).toNatClampNeg) by decide) dX6_add_230 ?_
              cases hf
              exact z_iret (pc := 231) hx hb hr hlocks Z rfl rfl dX6_add_231
            have hL140 : ∀ (n0 : Nat) (x41 : Int32) (a42 : Nat → Int32) (H : Heap) (locs : List Loc) (ls : Array Slot), zw D (zTY cA) s A (W_X6_add cA h x17 m_bufferLength m_textLength m_position m_error m_errorAt m_errorOffset a42 a20 x21 m_numberStart m_seen m_pages) H locs → lv_has ls 7 [(0, .ref (h 0)), (1, .int p1), (2, .int p2), (3, .int p3), (4, .int p4), (6, .int x41)] → fX6_add_L140 p1 j172_27 n0 x41 a42 = some u → W p l e ({ frames := 3, cells := 0, slots := 0, locals := 63 } : Room) s m args below meth c H locs 0 0 (MQ below (zQi D (zTY cA) A (W_X6_add cA h (u.2.1) m_bufferLength m_textLength m_position m_error m_errorAt m_errorOffset (u.2.2.1) (u.2.2.2.1) (u.2.2.2.2) m_numberStart m_seen m_pages) u.1) args s 0 0 A) (F0 m 140 ls []) := by
              intro n0
              induction n0 with
              | zero => intro x41 a42 H locs ls Z hl hf; exact o_no hf
              | succ n0 ih0 =>
                intro x41 a42 H locs ls Z hl hf
                refine lv_iload (pc := 140) hx hb dX6_add_140 (lv_at hl 5 rfl) ?_
                refine lv_iload_n (pc := 142) hx hb dX6_add_142 rfl (lv_at hl 1 rfl) ?_
                obtain ⟨x43, q44, hf⟩ := o_bindE hf
                refine z_callSi (pc := 143) (As := [.int p1]) (rest := [.int x41]) (Wc := (W_X6_lotAt cA (fun k => h ([0].getD k 0)))) (W1 := (W_X6_lotAt cA (fun k => h ([0].getD k 0)))) (W2 := (W_X6_add cA h x17 m_bufferLength m_textLength m_position m_error m_errorAt m_errorOffset a42 a20 x21 m_numberStart m_seen m_pages)) ⟨hx, hb, hml, hown, hts⟩ (kX6_lotAt l D cA (fun k => h ([0].getD k 0)) p1 _ q44) (va_cwS 1 hts gX6_add_X6_lotAt rfl rfl rfl (by decide +kernel) ⟨Nat.le_of_ble_eq_true rfl, Nat.le_of_ble_eq_true rfl⟩) Z hA [] rfl (by decide) rfl rfl hl.1 rfl (Nat.le_of_ble_eq_true rfl) dX6_add_143 ⟨Nat.zero_le _, Nat.zero_le _⟩ [none, none, none, none, none, none, none, none, none, none, none] rfl ⟨rfl, rfl, rfl, rfl, rfl, rfl, rfl, rfl, rfl, rfl, rfl, rfl⟩ (fun H locs Z => ?_)
                refine lv_icmp_lt (pc := 146) (tgt := 172) hx hb dX6_add_146 (by decide) (fun c45 => ?_) (fun c45 => ?_)
                · replace hf := o_pos c45 hf
                  exact hj172_27 a42 H locs ls Z (lv_sub hl [0, 1, 2, 3, 4] rfl) hf
                · replace hf := o_neg c45 hf
                  refine lv_aload_n (pc := 149) hx hb dX6_add_149 rfl (lv_at hl 0 rfl) ?_
                  refine z_get (pc := 150) (ref := "LotSheetModel") (ci := 6) (C := RX6) (T := TX6) (N := 22) hx hb hts iw_X6_add_X6 hown Z 0 rfl rfl 8 (by decide) (List.mem_of_getElem? (i := 2) rfl) rfl rfl dX6_add_150 ?_
                  refine lv_iload (pc := 153) hx hb dX6_add_153 (lv_at hl 5 rfl) ?_
                  refine lv_bipush (pc := 155) (v := (6 : Int32)) hx hb dX6_add_155 (by decide) ?_
                  refine lv_iadd (pc := 157) hx hb dX6_add_157 ?_
                  refine lv_aload_n (pc := 158) hx hb dX6_add_158 rfl (lv_at hl 0 rfl) ?_
                  refine z_get (pc := 159) (ref := "LotSheetModel") (ci := 6) (C := RX6) (T := TX6) (N := 22) hx hb hts iw_X6_add_X6 hown Z 0 rfl rfl 8 (by decide) (List.mem_of_getElem? (i := 2) rfl) rfl rfl dX6_add_159 ?_
                  refine lv_iload (pc := 162) hx hb dX6_add_162 (lv_at hl 5 rfl) ?_
                  obtain ⟨i46, hf⟩ := o_rdE hf
                  refine z_iald (pc := 164) hx hb Z 1 0 rfl rfl i46 dX6_add_164 ?_
                  obtain ⟨i47, hf⟩ := o_rdE hf
                  refine z_iast (pc := 165) hx hb Z 1 0 rfl rfl i47 dX6_add_165 (fun g => (W_X6_add cA h x17 m_bufferLength m_textLength m_position m_error m_errorAt m_errorOffset g a20 x21 m_numberStart m_seen m_pages)) (fun _ => rfl) (fun a48 H locs ea48 Z => ?_)
                  replace hf := o_letE ea48 hf
                  obtain ⟨x49, ex49⟩ : ∃ y : Int32, y = (x41 + (-1 : Int32)) := ⟨_, rfl⟩
                  replace hf := o_letE ex49 hf
                  refine lv_iinc (pc := 166) (v := x49) (lv' := [(6, .int x49), (0, .ref (h 0)), (1, .int p1), (2, .int p2), (3, .int p3), (4, .int p4)]) hx hb dX6_add_166 hl (k := 5) rfl (by rw [ex49]; rfl) (by decide) rfl (fun ls hl => ?_)
                  refine lv_goto (pc := 169) (tgt := 140) hx hb dX6_add_169 (by decide) ?_
                  exact ih0 x49 a48 H locs ls Z (lv_sub hl [1, 2, 3, 4, 5, 0] rfl) hf
            exact hL140 1024 x25 m_data H locs ls Z (lv_sub hl [1, 2, 3, 4, 5, 0] rfl) hf
          · replace hf := o_neg c19 hf
            refine lv_iconst (pc := 121) (v := (0 : Int32)) hx hb dX6_add_121 (by decide) ?_
            cases hf
            exact z_iret (pc := 122) hx hb hr hlocks Z rfl rfl dX6_add_122
        refine lv_icmp_eq (pc := 94) (tgt := 109) hx hb dX6_add_94 (by decide) (fun c13 => ?_) (fun c13 => ?_)
        · replace hf := o_pos c13 hf
          refine lv_iconst (pc := 109) (v := (1 : Int32)) hx hb dX6_add_109 (by decide) ?_
          refine lv_goto (pc := 110) (tgt := 114) hx hb dX6_add_110 (by decide) ?_
          exact hj114_15 (1 : Int32) H locs ls Z (lv_sub hl [0, 1, 2, 3, 4] rfl) hf
        · replace hf := o_neg c13 hf
          refine lv_aload_n (pc := 97) hx hb dX6_add_97 rfl (lv_at hl 0 rfl) ?_
          refine z_get (pc := 98) (ref := "LotSheetModel") (ci := 6) (C := RX6) (T := TX6) (N := 22) hx hb hts iw_X6_add_X6 hown Z 0 rfl rfl 8 (by decide) (List.mem_of_getElem? (i := 2) rfl) rfl rfl dX6_add_98 ?_
          obtain ⟨x50, q51, hf⟩ := o_bindE hf
          refine z_callSi (pc := 101) (As := [.ref (h 2)]) (rest := [.ref (h 0)]) (Wc := (W_X6_different cA (fun k => h ([2].getD k 0)) m_data)) (W1 := (W_X6_different cA (fun k => h ([2].getD k 0)) m_data)) (W2 := (W_X6_add cA h x10 m_bufferLength m_textLength m_position m_error m_errorAt m_errorOffset m_data m_history m_undoDepth m_numberStart m_seen m_pages)) ⟨hx, hb, hml, hown, hts⟩ (kX6_different l D cA (fun k => h ([2].getD k 0)) m_data _ q51) (va_cwS 1 hts gX6_add_X6_different rfl rfl rfl (by decide +kernel) ⟨Nat.le_of_ble_eq_true rfl, Nat.le_of_ble_eq_true rfl⟩) Z hA [1] rfl (by decide) rfl rfl hl.1 rfl (Nat.le_of_ble_eq_true rfl) dX6_add_101 ⟨Nat.zero_le _, Nat.zero_le _⟩ [none, some 0, none, none, none, none, none, none, none, none, none] rfl ⟨rfl, rfl, rfl, rfl, rfl, rfl, rfl, rfl, rfl, rfl, rfl, rfl⟩ (fun H locs Z => ?_)
          refine lv_bipush (pc := 104) (v := (8 : Int32)) hx hb dX6_add_104 (by decide) ?_
          refine lv_icmp_ne (pc := 106) (tgt := 113) hx hb dX6_add_106 (by decide) (fun c52 => ?_) (fun c52 => ?_)
          · replace hf := o_neg c52 hf
            refine lv_iconst (pc := 113) (v := (0 : Int32)) hx hb dX6_add_113 (by decide) ?_
            exact hj114_15 (0 : Int32) H locs ls Z (lv_sub hl [0, 1, 2, 3, 4] rfl) hf
          · replace hf := o_pos c52 hf
            refine lv_iconst (pc := 109) (v := (1 : Int32)) hx hb dX6_add_109 (by decide) ?_
            refine lv_goto (pc := 110) (tgt := 114) hx hb dX6_add_110 (by decide) ?_
            exact hj114_15 (1 : Int32) H locs ls Z (lv_sub hl [0, 1, 2, 3, 4] rfl) hf
    refine lv_if_ne (pc := 70) (tgt := 77) hx hb dX6_add_70 (by decide) (fun c6 => ?_) (fun c6 => ?_)
    · replace hf := o_neg c6 hf
      refine lv_iconst (pc := 77) (v := (0 : Int32)) hx hb dX6_add_77 (by decide) ?_
      exact hj78_8 (0 : Int32) H locs ls Z (lv_sub hl [1, 2, 3, 4, 5] rfl) hf
    · replace hf := o_pos c6 hf
      refine lv_iconst (pc := 73) (v := (1 : Int32)) hx hb dX6_add_73 (by decide) ?_
      refine lv_goto (pc := 74) (tgt := 78) hx hb dX6_add_74 (by decide) ?_
      exact hj78_8 (1 : Int32) H locs ls Z (lv_sub hl [1, 2, 3, 4, 5] rfl) hf
  refine lv_if_eq (pc := 16) (tgt := 64) hx hb dX6_add_16 (by decide) (fun c3 => ?_) (fun c3 => ?_)
  · replace hf := o_pos c3 hf
    refine lv_iconst (pc := 64) (v := (0 : Int32)) hx hb dX6_add_64 (by decide) ?_
    exact hj65_5 (0 : Int32) H locs ls Z (lv_sub hl [0, 1, 2, 3, 4] rfl) hf
  · replace hf := o_neg c3 hf
    refine lv_iload_n (pc := 19) hx hb dX6_add_19 rfl (lv_at hl 2 rfl) ?_
    refine lv_iconst (pc := 20) (v := (1 : Int32)) hx hb dX6_add_20 (by decide) ?_
    refine lv_bipush (pc := 21) (v := (9 : Int32)) hx hb dX6_add_21 (by decide) ?_
    refine lv_aload_n (pc := 23) hx hb dX6_add_23 rfl (lv_at hl 0 rfl) ?_
    refine z_get (pc := 24) (ref := "LotSheetModel") (ci := 6) (C := RX6) (T := TX6) (N := 22) hx hb hts iw_X6_add_X6 hown Z 0 rfl rfl 8 (by decide) (List.mem_of_getElem? (i := 2) rfl) rfl rfl dX6_add_24 ?_
    refine lv_iconst (pc := 27) (v := (0 : Int32)) hx hb dX6_add_27 (by decide) ?_
    refine z_iald (pc := 28) hx hb Z 1 0 rfl rfl (show ¬ ((0 : Int32) < 0 ∨ 153 ≤ (0 : Int32).toNatClampNeg) by decide) dX6_add_28 ?_
    obtain ⟨x53, q54, hf⟩ := o_bindE hf
    refine z_callSi (pc := 29) (As := [.int (9 : Int32), .int (m_data (0 : Int32).toNatClampNeg)]) (rest := [.int (1 : Int32), .int p2]) (Wc := (W_X6_min cA (fun k => h ([0].getD k 0)))) (W1 := (W_X6_min cA (fun k => h ([0].getD k 0)))) (W2 := (W_X6_add cA h (0 : Int32) m_bufferLength m_textLength m_position m_error m_errorAt m_errorOffset m_data m_history m_undoDepth m_numberStart m_seen m_pages)) ⟨hx, hb, hml, hown, hts⟩ (kX6_min l D cA (fun k => h ([0].getD k 0)) (9 : Int32) (m_data (0 : Int32).toNatClampNeg) _ q54) (va_cwS 2 hts gX6_add_X6_min rfl rfl rfl (by decide +kernel) ⟨Nat.le_of_ble_eq_true rfl, Nat.le_of_ble_eq_true rfl⟩) Z hA [] rfl (by decide) rfl rfl hl.1 rfl (Nat.le_of_ble_eq_true rfl) dX6_add_29 ⟨Nat.zero_le _, Nat.zero_le _⟩ [none, none, none, none, none, none, none, none, none, none, none] rfl ⟨rfl, rfl, rfl, rfl, rfl, rfl, rfl, rfl, rfl, rfl, rfl, rfl⟩ (fun H locs Z => ?_)
    obtain ⟨x55, q56, hf⟩ := o_bindE hf
    refine z_callSi (pc := 32) (As := [.int p2, .int (1 : Int32), .int x53]) (rest := []) (Wc := (W_X6_in cA (fun k => h ([0].getD k 0)))) (W1 := (W_X6_in cA (fun k => h ([0].getD k 0)))) (W2 := (W_X6_add cA h (0 : Int32) m_bufferLength m_textLength m_position m_error m_errorAt m_errorOffset m_data m_history m_undoDepth m_numberStart m_seen m_pages)) ⟨hx, hb, hml, hown, hts⟩ (kX6_in l D cA (fun k => h ([0].getD k 0)) p2 (1 : Int32) x53 _ q56) (va_cwS 3 hts gX6_add_X6_in rfl rfl rfl (by decide +kernel) ⟨Nat.le_of_ble_eq_true rfl, Nat.le_of_ble_eq_true rfl⟩) Z hA [] rfl (by decide) rfl rfl hl.1 rfl (Nat.le_of_ble_eq_true rfl) dX6_add_32 ⟨Nat.zero_le _, Nat.zero_le _⟩ [none, none, none, none, none, none, none, none, none, none, none] rfl ⟨rfl, rfl, rfl, rfl, rfl, rfl, rfl, rfl, rfl, rfl, rfl, rfl⟩ (fun H locs Z => ?_)
    refine lv_if_eq (pc := 35) (tgt := 64) hx hb dX6_add_35 (by decide) (fun c57 => ?_) (fun c57 => ?_)
    · replace hf := o_pos c57 hf
      refine lv_iconst (pc := 64) (v := (0 : Int32)) hx hb dX6_add_64 (by decide) ?_
      exact hj65_5 (0 : Int32) H locs ls Z (lv_sub hl [0, 1, 2, 3, 4] rfl) hf
    · replace hf := o_neg c57 hf
      refine lv_iload_n (pc := 38) hx hb dX6_add_38 rfl (lv_at hl 3 rfl) ?_
      refine lv_iconst (pc := 39) (v := (0 : Int32)) hx hb dX6_add_39 (by decide) ?_
      refine lv_sipush (pc := 40) (v := (9999 : Int32)) hx hb dX6_add_40 (by decide) ?_
      obtain ⟨x58, q59, hf⟩ := o_bindE hf
      refine z_callSi (pc := 43) (As := [.int p3, .int (0 : Int32), .int (9999 : Int32)]) (rest := []) (Wc := (W_X6_in cA (fun k => h ([0].getD k 0)))) (W1 := (W_X6_in cA (fun k => h ([0].getD k 0)))) (W2 := (W_X6_add cA h (0 : Int32) m_bufferLength m_textLength m_position m_error m_errorAt m_errorOffset m_data m_history m_undoDepth m_numberStart m_seen m_pages)) ⟨hx, hb, hml, hown, hts⟩ (kX6_in l D cA (fun k => h ([0].getD k 0)) p3 (0 : Int32) (9999 : Int32) _ q59) (va_cwS 3 hts gX6_add_X6_in rfl rfl rfl (by decide +kernel) ⟨Nat.le_of_ble_eq_true rfl, Nat.le_of_ble_eq_true rfl⟩) Z hA [] rfl (by decide) rfl rfl hl.1 rfl (Nat.le_of_ble_eq_true rfl) dX6_add_43 ⟨Nat.zero_le _, Nat.zero_le _⟩ [none, none, none, none, none, none, none, none, none, none, none] rfl ⟨rfl, rfl, rfl, rfl, rfl, rfl, rfl, rfl, rfl, rfl, rfl, rfl⟩ (fun H locs Z => ?_)
      refine lv_if_eq (pc := 46) (tgt := 64) hx hb dX6_add_46 (by decide) (fun c60 => ?_) (fun c60 => ?_)
      · replace hf := o_pos c60 hf
        refine lv_iconst (pc := 64) (v := (0 : Int32)) hx hb dX6_add_64 (by decide) ?_
        exact hj65_5 (0 : Int32) H locs ls Z (lv_sub hl [0, 1, 2, 3, 4] rfl) hf
      · replace hf := o_neg c60 hf
        refine lv_iload (pc := 49) hx hb dX6_add_49 (lv_at hl 4 rfl) ?_
        refine lv_iconst (pc := 51) (v := (0 : Int32)) hx hb dX6_add_51 (by decide) ?_
        refine lv_bipush (pc := 52) (v := (9 : Int32)) hx hb dX6_add_52 (by decide) ?_
        obtain ⟨x61, q62, hf⟩ := o_bindE hf
        refine z_callSi (pc := 54) (As := [.int p4, .int (0 : Int32), .int (9 : Int32)]) (rest := []) (Wc := (W_X6_in cA (fun k => h ([0].getD k 0)))) (W1 := (W_X6_in cA (fun k => h ([0].getD k 0)))) (W2 := (W_X6_add cA h (0 : Int32) m_bufferLength m_textLength m_position m_error m_errorAt m_errorOffset m_data m_history m_undoDepth m_numberStart m_seen m_pages)) ⟨hx, hb, hml, hown, hts⟩ (kX6_in l D cA (fun k => h ([0].getD k 0)) p4 (0 : Int32) (9 : Int32) _ q62) (va_cwS 3 hts gX6_add_X6_in rfl rfl rfl (by decide +kernel) ⟨Nat.le_of_ble_eq_true rfl, Nat.le_of_ble_eq_true rfl⟩) Z hA [] rfl (by decide) rfl rfl hl.1 rfl (Nat.le_of_ble_eq_true rfl) dX6_add_54 ⟨Nat.zero_le _, Nat.zero_le _⟩ [none, none, none, none, none, none, none, none, none, none, none] rfl ⟨rfl, rfl, rfl, rfl, rfl, rfl, rfl, rfl, rfl, rfl, rfl, rfl⟩ (fun H locs Z => ?_)
        refine lv_if_eq (pc := 57) (tgt := 64) hx hb dX6_add_57 (by decide) (fun c63 => ?_) (fun c63 => ?_)
        · replace hf := o_pos c63 hf
          refine lv_iconst (pc := 64) (v := (0 : Int32)) hx hb dX6_add_64 (by decide) ?_
          exact hj65_5 (0 : Int32) H locs ls Z (lv_sub hl [0, 1, 2, 3, 4] rfl) hf
        · replace hf := o_neg c63 hf
          refine lv_iconst (pc := 60) (v := (1 : Int32)) hx hb dX6_add_60 (by decide) ?_
          refine lv_goto (pc := 61) (tgt := 65) hx hb dX6_add_61 (by decide) ?_
          exact hj65_5 (1 : Int32) H locs ls Z (lv_sub hl [0, 1, 2, 3, 4] rfl) hf
