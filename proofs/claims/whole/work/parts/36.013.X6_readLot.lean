def W_X6_readLot (cA : Nat → ClassId) (h : Nat → Nat) (m_thrown : Int32) (m_buffer : Nat → Int32) (m_bufferLength : Int32) (m_textLength : Int32) (m_position : Int32) (m_error : Int32) (m_errorAt : Int32) (m_errorOffset : Int32) (m_draft : Nat → Int32) (m_undoDepth : Int32) (m_numberStart : Int32) (m_seen : Int32) (m_pages : Int32) : va_W := [(h 0, .inr (6, [.int m_thrown, .ref (h 1), .int m_bufferLength, .int m_textLength, .int m_position, .int m_error, .int m_errorAt, .int m_errorOffset, .ref (h 2), .ref (h 3), .ref (h 4), .int m_undoDepth, .int m_numberStart, .int m_seen, .ref (h 13), .ref (h 14), .ref (h 15), .ref (h 16), .int m_pages, .ref (h 17), .ref (h 18), .ref (h 19)])), (h 1, .inl (cA 0, 500, .inl m_buffer)), (h 3, .inl (cA 0, 153, .inl m_draft))]
def fX6_readLot (p1 : Int32) (m_buffer : Nat → Int32) (m_textLength : Int32) (m_position : Int32) (m_error : Int32) (m_errorAt : Int32) (m_draft : Nat → Int32) (m_numberStart : Int32) : Option (Int32 × Int32 × Int32 × (Nat → Int32) × Int32) := o_let (fun (x2 : Int32) (x3 : Int32) => o_bind (fX6_isGood x2) (fun x5 => (if x5 = 0 then some (m_position, x2, x3, m_draft, m_numberStart) else o_bind (fX6_lotAt (m_draft (1 : Int32).toNatClampNeg)) (fun x8 => o_bind (fX6_min (9 : Int32) (m_draft (0 : Int32).toNatClampNeg)) (fun x10 => o_bind (fX6_number (1 : Int32) x10 m_buffer m_textLength m_position x2 x3 m_numberStart) (fun (x12, x13, x14, x15, x16) => o_rd 153 (x8 + (0 : Int32)) (o_let (upd m_draft (x8 + (0 : Int32)).toNatClampNeg x12) (fun a19 => o_bind (fX6_number (0 : Int32) (9999 : Int32) m_buffer m_textLength x13 x14 x15 x16) (fun (x20, x21, x22, x23, x24) => o_rd 153 (x8 + (1 : Int32)) (o_let (upd a19 (x8 + (1 : Int32)).toNatClampNeg x20) (fun a27 => o_bind (fX6_number (0 : Int32) (9 : Int32) m_buffer m_textLength x21 x22 x23 x24) (fun (x28, x29, x30, x31, x32) => o_rd 153 (x8 + (2 : Int32)) (o_let (upd a27 (x8 + (2 : Int32)).toNatClampNeg x28) (fun a35 => o_bind (fX6_isGood x30) (fun x36 => (if x36 = 0 then some (x29, x30, x31, a35, x32) else o_bind (fX6_ahead m_buffer m_textLength x29) (fun (x39, x40) => o_rd 153 (x8 + (3 : Int32)) (o_let (upd a35 (x8 + (3 : Int32)).toNatClampNeg (1 : Int32)) (fun a43 => o_rd 153 (x8 + (4 : Int32)) (o_let (upd a43 (x8 + (4 : Int32)).toNatClampNeg (1 : Int32)) (fun a45 => o_bind (fX6_takeWord [111, 117, 116] m_buffer m_textLength x40 x30) (fun (x47, x48) => o_let (fun (x51 : Int32) (a52 : Nat → Int32) => o_let (upd a52 (1 : Int32).toNatClampNeg ((a52 (1 : Int32).toNatClampNeg) + (1 : Int32))) (fun a54 => o_bind (fX6_different a54) (fun x55 => (if x55 ≤ (8 : Int32) then some (x51, x30, x31, a54, x32) else o_bind (fX6_report (-4 : Int32) x40 x30 x31) (fun (x58, x59) => some (x51, x58, x59, a54, x32)))))) (fun (j166_53 : Int32 → (Nat → Int32) → Option (Int32 × Int32 × Int32 × (Nat → Int32) × Int32)) => (if x47 = 0 then o_bind (fX6_takeWord [105, 110] m_buffer m_textLength x48 x30) (fun (x62, x63) => (if x62 = 0 then (j166_53 x63 a45) else o_rd 153 (x8 + (3 : Int32)) (o_let (upd a45 (x8 + (3 : Int32)).toNatClampNeg (0 : Int32)) (fun a67 => (j166_53 x63 a67))))) else o_rd 153 (x8 + (4 : Int32)) (o_let (upd a45 (x8 + (4 : Int32)).toNatClampNeg (0 : Int32)) (fun a69 => (j166_53 x48 a69))))))))))))))))))))))))))) (fun (j18_4 : Int32 → Int32 → Option (Int32 × Int32 × Int32 × (Nat → Int32) × Int32)) => (if (m_draft (1 : Int32).toNatClampNeg) = (24 : Int32) then o_bind (fX6_report (-4 : Int32) p1 m_error m_errorAt) (fun (x70, x71) => (j18_4 x70 x71)) else (j18_4 m_error m_errorAt)))
theorem iw_X6_readLot_X6 : ∀ w ∈ u_ws RX6 TX6 22, w ∈ wsX6_readLot := z_inr [101, 102, 103, 104, 105, 106, 107, 108, 109, 110, 111, 112, 113, 114, 115, 116, 117, 118, 119, 120, 121, 122] rfl
set_option maxHeartbeats 4000000 in
set_option maxRecDepth 100000 in
theorem kX6_readLot (l : Launch) (D : va_G) (cA : Nat → ClassId) (h : Nat → Nat) (p1 : Int32) (m_thrown : Int32) (m_buffer : Nat → Int32) (m_bufferLength : Int32) (m_textLength : Int32) (m_position : Int32) (m_error : Int32) (m_errorAt : Int32) (m_errorOffset : Int32) (m_draft : Nat → Int32) (m_undoDepth : Int32) (m_numberStart : Int32) (m_seen : Int32) (m_pages : Int32) (u : Int32 × Int32 × Int32 × (Nat → Int32) × Int32) (hf : fX6_readLot p1 m_buffer m_textLength m_position m_error m_errorAt m_draft m_numberStart = some u) : zMvX zE l yX6_readLot wsX6_readLot ({ frames := 5, cells := 0, slots := 0, locals := 107 } : Room) D (zTY cA) [.ref (h 0), .int p1] (W_X6_readLot cA h m_thrown m_buffer m_bufferLength m_textLength m_position m_error m_errorAt m_errorOffset m_draft m_undoDepth m_numberStart m_seen m_pages) (W_X6_readLot cA h m_thrown m_buffer m_bufferLength m_textLength (u.1) (u.2.1) (u.2.2.1) m_errorOffset (u.2.2.2.1) m_undoDepth (u.2.2.2.2) m_seen m_pages) := by
  refine z_startvX (cc := cX6_readLot) (maxL := 4) (ret := none) (by decide) rfl (Nat.le_of_ble_eq_true rfl) ?_
  intro p e s m args below meth c A hx hb hr hts hown hlocks hml hA hE Z ls hl
  replace hown : s.vm.findClass RX6 = some m.cls := hown
  replace hl : lv_has ls 4 [(0, .ref (h 0)), (1, .int p1)] := hl
  obtain ⟨H, hH⟩ : ∃ H, H = s.heap := ⟨_, rfl⟩
  rw [← hH] at Z ⊢
  clear hH
  obtain ⟨locs, hlc⟩ : ∃ q : List Loc, q = [] := ⟨_, rfl⟩
  rw [← hlc] at Z ⊢
  clear hlc
  refine lv_aload_n (pc := 0) hx hb dX6_readLot_0 rfl (lv_at hl 0 rfl) ?_
  refine z_get (pc := 1) (ref := "LotSheetModel") (ci := 6) (C := RX6) (T := TX6) (N := 22) hx hb hts iw_X6_readLot_X6 hown Z 0 rfl rfl 9 (by decide) (List.mem_of_getElem? (i := 1) rfl) rfl rfl dX6_readLot_1 ?_
  refine lv_iconst (pc := 4) (v := (1 : Int32)) hx hb dX6_readLot_4 (by decide) ?_
  refine z_iald (pc := 5) hx hb Z 2 0 rfl rfl (show ¬ ((1 : Int32) < 0 ∨ 153 ≤ (1 : Int32).toNatClampNeg) by decide) dX6_readLot_5 ?_
  refine lv_bipush (pc := 6) (v := (24 : Int32)) hx hb dX6_readLot_6 (by decide) ?_
  obtain ⟨j18_4, ej18_4, hf⟩ := o_jnE hf
  have hj18_4 : ∀ (x2 : Int32) (x3 : Int32) (H : Heap) (locs : List Loc) (ls : Array Slot), zw D (zTY cA) s A (W_X6_readLot cA h m_thrown m_buffer m_bufferLength m_textLength m_position x2 x3 m_errorOffset m_draft m_undoDepth m_numberStart m_seen m_pages) H locs → lv_has ls 4 [(0, .ref (h 0))] → j18_4 x2 x3 = some u → W p l e ({ frames := 5, cells := 0, slots := 0, locals := 107 } : Room) s m args below meth c H locs 0 0 (MQ below (zQv D (zTY cA) A (W_X6_readLot cA h m_thrown m_buffer m_bufferLength m_textLength (u.1) (u.2.1) (u.2.2.1) m_errorOffset (u.2.2.2.1) m_undoDepth (u.2.2.2.2) m_seen m_pages)) args s 0 0 A) (F0 m 18 ls []) := by
    intro x2 x3 H locs ls Z hl hf
    rw [ej18_4] at hf
    refine lv_aload_n (pc := 18) hx hb dX6_readLot_18 rfl (lv_at hl 0 rfl) ?_
    obtain ⟨x5, q6, hf⟩ := o_bindE hf
    refine z_callVi (pc := 19) (As := []) (rest := []) (Wc := (W_X6_isGood cA (fun k => h ([0, 1, 2, 3, 4, 5, 6, 7, 8, 9, 10, 11, 12, 13, 14, 15, 16, 17, 18, 19].getD k 0)) m_thrown m_bufferLength m_textLength m_position x2 x3 m_errorOffset m_undoDepth m_numberStart m_seen m_pages)) (W1 := (W_X6_isGood cA (fun k => h ([0, 1, 2, 3, 4, 5, 6, 7, 8, 9, 10, 11, 12, 13, 14, 15, 16, 17, 18, 19].getD k 0)) m_thrown m_bufferLength m_textLength m_position x2 x3 m_errorOffset m_undoDepth m_numberStart m_seen m_pages)) (W2 := (W_X6_readLot cA h m_thrown m_buffer m_bufferLength m_textLength m_position x2 x3 m_errorOffset m_draft m_undoDepth m_numberStart m_seen m_pages)) ⟨hx, hb, hml, hown, hts⟩ (kX6_isGood l D cA (fun k => h ([0, 1, 2, 3, 4, 5, 6, 7, 8, 9, 10, 11, 12, 13, 14, 15, 16, 17, 18, 19].getD k 0)) m_thrown m_bufferLength m_textLength m_position x2 x3 m_errorOffset m_undoDepth m_numberStart m_seen m_pages _ q6) (cwV 0 hts gX6_readLot_X6_isGood rfl rfl rfl (by decide +kernel) ⟨Nat.le_of_ble_eq_true rfl, Nat.le_of_ble_eq_true rfl⟩) Z hA [0] rfl (by decide) rfl (ci := 6) rfl rfl rfl rfl hl.1 rfl (Nat.le_of_ble_eq_true rfl) dX6_readLot_19 ⟨Nat.zero_le _, Nat.zero_le _⟩ [some 0, none, none] rfl ⟨rfl, rfl, rfl, rfl⟩ (fun H locs Z => ?_)
    refine lv_if_ne (pc := 22) (tgt := 26) hx hb dX6_readLot_22 (by decide) (fun c7 => ?_) (fun c7 => ?_)
    · replace hf := o_neg c7 hf
      refine lv_aload_n (pc := 26) hx hb dX6_readLot_26 rfl (lv_at hl 0 rfl) ?_
      refine z_get (pc := 27) (ref := "LotSheetModel") (ci := 6) (C := RX6) (T := TX6) (N := 22) hx hb hts iw_X6_readLot_X6 hown Z 0 rfl rfl 9 (by decide) (List.mem_of_getElem? (i := 1) rfl) rfl rfl dX6_readLot_27 ?_
      refine lv_iconst (pc := 30) (v := (1 : Int32)) hx hb dX6_readLot_30 (by decide) ?_
      refine z_iald (pc := 31) hx hb Z 2 0 rfl rfl (show ¬ ((1 : Int32) < 0 ∨ 153 ≤ (1 : Int32).toNatClampNeg) by decide) dX6_readLot_31 ?_
      obtain ⟨x8, q9, hf⟩ := o_bindE hf
      refine z_callSi (pc := 32) (As := [.int (m_draft (1 : Int32).toNatClampNeg)]) (rest := []) (Wc := (W_X6_lotAt cA (fun k => h ([0].getD k 0)))) (W1 := (W_X6_lotAt cA (fun k => h ([0].getD k 0)))) (W2 := (W_X6_readLot cA h m_thrown m_buffer m_bufferLength m_textLength m_position x2 x3 m_errorOffset m_draft m_undoDepth m_numberStart m_seen m_pages)) ⟨hx, hb, hml, hown, hts⟩ (kX6_lotAt l D cA (fun k => h ([0].getD k 0)) (m_draft (1 : Int32).toNatClampNeg) _ q9) (va_cwS 1 hts gX6_readLot_X6_lotAt rfl rfl rfl (by decide +kernel) ⟨Nat.le_of_ble_eq_true rfl, Nat.le_of_ble_eq_true rfl⟩) Z hA [] rfl (by decide) rfl rfl hl.1 rfl (Nat.le_of_ble_eq_true rfl) dX6_readLot_32 ⟨Nat.zero_le _, Nat.zero_le _⟩ [none, none, none] rfl ⟨rfl, rfl, rfl, rfl⟩ (fun H locs Z => ?_)
      refine lv_istore_n (pc := 35) (lv' := [(2, .int x8), (0, .ref (h 0))]) hx hb dX6_readLot_35 rfl hl (by decide) rfl (fun ls hl => ?_)
      refine lv_aload_n (pc := 36) hx hb dX6_readLot_36 rfl (lv_at hl 1 rfl) ?_
      refine z_get (pc := 37) (ref := "LotSheetModel") (ci := 6) (C := RX6) (T := TX6) (N := 22) hx hb hts iw_X6_readLot_X6 hown Z 0 rfl rfl 9 (by decide) (List.mem_of_getElem? (i := 1) rfl) rfl rfl dX6_readLot_37 ?_
      refine lv_iload_n (pc := 40) hx hb dX6_readLot_40 rfl (lv_at hl 0 rfl) ?_
      refine lv_iconst (pc := 41) (v := (0 : Int32)) hx hb dX6_readLot_41 (by decide) ?_
      refine lv_iadd (pc := 42) hx hb dX6_readLot_42 ?_
      refine lv_aload_n (pc := 43) hx hb dX6_readLot_43 rfl (lv_at hl 1 rfl) ?_
      refine lv_iconst (pc := 44) (v := (1 : Int32)) hx hb dX6_readLot_44 (by decide) ?_
      refine lv_bipush (pc := 45) (v := (9 : Int32)) hx hb dX6_readLot_45 (by decide) ?_
      refine lv_aload_n (pc := 47) hx hb dX6_readLot_47 rfl (lv_at hl 1 rfl) ?_
      refine z_get (pc := 48) (ref := "LotSheetModel") (ci := 6) (C := RX6) (T := TX6) (N := 22) hx hb hts iw_X6_readLot_X6 hown Z 0 rfl rfl 9 (by decide) (List.mem_of_getElem? (i := 1) rfl) rfl rfl dX6_readLot_48 ?_
      refine lv_iconst (pc := 51) (v := (0 : Int32)) hx hb dX6_readLot_51 (by decide) ?_
      refine z_iald (pc := 52) hx hb Z 2 0 rfl rfl (show ¬ ((0 : Int32) < 0 ∨ 153 ≤ (0 : Int32).toNatClampNeg) by decide) dX6_readLot_52 ?_
      obtain ⟨x10, q11, hf⟩ := o_bindE hf
      refine z_callSi (pc := 53) (As := [.int (9 : Int32), .int (m_draft (0 : Int32).toNatClampNeg)]) (rest := [.int (1 : Int32), .ref (h 0), .int (x8 + (0 : Int32)), .ref (h 3)]) (Wc := (W_X6_min cA (fun k => h ([0].getD k 0)))) (W1 := (W_X6_min cA (fun k => h ([0].getD k 0)))) (W2 := (W_X6_readLot cA h m_thrown m_buffer m_bufferLength m_textLength m_position x2 x3 m_errorOffset m_draft m_undoDepth m_numberStart m_seen m_pages)) ⟨hx, hb, hml, hown, hts⟩ (kX6_min l D cA (fun k => h ([0].getD k 0)) (9 : Int32) (m_draft (0 : Int32).toNatClampNeg) _ q11) (va_cwS 2 hts gX6_readLot_X6_min rfl rfl rfl (by decide +kernel) ⟨Nat.le_of_ble_eq_true rfl, Nat.le_of_ble_eq_true rfl⟩) Z hA [] rfl (by decide) rfl rfl hl.1 rfl (Nat.le_of_ble_eq_true rfl) dX6_readLot_53 ⟨Nat.zero_le _, Nat.zero_le _⟩ [none, none, none] rfl ⟨rfl, rfl, rfl, rfl⟩ (fun H locs Z => ?_)
      obtain ⟨⟨x12, x13, x14, x15, x16⟩, q17, hf⟩ := o_bindE hf
      refine z_callVi (pc := 56) (As := [.int (1 : Int32), .int x10]) (rest := [.int (x8 + (0 : Int32)), .ref (h 3)]) (Wc := (W_X6_number cA (fun k => h ([0, 1, 2, 3, 4, 5, 6, 7, 8, 9, 10, 11, 12, 13, 14, 15, 16, 17, 18, 19].getD k 0)) m_thrown m_buffer m_bufferLength m_textLength m_position x2 x3 m_errorOffset m_undoDepth m_numberStart m_seen m_pages)) (W1 := (W_X6_number cA (fun k => h ([0, 1, 2, 3, 4, 5, 6, 7, 8, 9, 10, 11, 12, 13, 14, 15, 16, 17, 18, 19].getD k 0)) m_thrown m_buffer m_bufferLength m_textLength x13 x14 x15 m_errorOffset m_undoDepth x16 m_seen m_pages)) (W2 := (W_X6_readLot cA h m_thrown m_buffer m_bufferLength m_textLength x13 x14 x15 m_errorOffset m_draft m_undoDepth x16 m_seen m_pages)) ⟨hx, hb, hml, hown, hts⟩ (kX6_number l D cA (fun k => h ([0, 1, 2, 3, 4, 5, 6, 7, 8, 9, 10, 11, 12, 13, 14, 15, 16, 17, 18, 19].getD k 0)) (1 : Int32) x10 m_thrown m_buffer m_bufferLength m_textLength m_position x2 x3 m_errorOffset m_undoDepth m_numberStart m_seen m_pages _ q17) (cwV 2 hts gX6_readLot_X6_number rfl rfl rfl (by decide +kernel) ⟨Nat.le_of_ble_eq_true rfl, Nat.le_of_ble_eq_true rfl⟩) Z hA [0, 1] rfl (by decide) rfl (ci := 6) rfl rfl rfl rfl hl.1 rfl (Nat.le_of_ble_eq_true rfl) dX6_readLot_56 ⟨Nat.zero_le _, Nat.zero_le _⟩ [some 0, some 1, none] rfl ⟨rfl, rfl, rfl, rfl⟩ (fun H locs Z => ?_)
      obtain ⟨i18, hf⟩ := o_rdE hf
      refine z_iast (pc := 59) hx hb Z 2 0 rfl rfl i18 dX6_readLot_59 (fun g => (W_X6_readLot cA h m_thrown m_buffer m_bufferLength m_textLength x13 x14 x15 m_errorOffset g m_undoDepth x16 m_seen m_pages)) (fun _ => rfl) (fun a19 H locs ea19 Z => ?_)
      replace hf := o_letE ea19 hf
      refine lv_aload_n (pc := 60) hx hb dX6_readLot_60 rfl (lv_at hl 1 rfl) ?_
      refine z_get (pc := 61) (ref := "LotSheetModel") (ci := 6) (C := RX6) (T := TX6) (N := 22) hx hb hts iw_X6_readLot_X6 hown Z 0 rfl rfl 9 (by decide) (List.mem_of_getElem? (i := 1) rfl) rfl rfl dX6_readLot_61 ?_
      refine lv_iload_n (pc := 64) hx hb dX6_readLot_64 rfl (lv_at hl 0 rfl) ?_
      refine lv_iconst (pc := 65) (v := (1 : Int32)) hx hb dX6_readLot_65 (by decide) ?_
      refine lv_iadd (pc := 66) hx hb dX6_readLot_66 ?_
      refine lv_aload_n (pc := 67) hx hb dX6_readLot_67 rfl (lv_at hl 1 rfl) ?_
      refine lv_iconst (pc := 68) (v := (0 : Int32)) hx hb dX6_readLot_68 (by decide) ?_
      refine lv_sipush (pc := 69) (v := (9999 : Int32)) hx hb dX6_readLot_69 (by decide) ?_
      obtain ⟨⟨x20, x21, x22, x23, x24⟩, q25, hf⟩ := o_bindE hf
      refine z_callVi (pc := 72) (As := [.int (0 : Int32), .int (9999 : Int32)]) (rest := [.int (x8 + (1 : Int32)), .ref (h 3)]) (Wc := (W_X6_number cA (fun k => h ([0, 1, 2, 3, 4, 5, 6, 7, 8, 9, 10, 11, 12, 13, 14, 15, 16, 17, 18, 19].getD k 0)) m_thrown m_buffer m_bufferLength m_textLength x13 x14 x15 m_errorOffset m_undoDepth x16 m_seen m_pages)) (W1 := (W_X6_number cA (fun k => h ([0, 1, 2, 3, 4, 5, 6, 7, 8, 9, 10, 11, 12, 13, 14, 15, 16, 17, 18, 19].getD k 0)) m_thrown m_buffer m_bufferLength m_textLength x21 x22 x23 m_errorOffset m_undoDepth x24 m_seen m_pages)) (W2 := (W_X6_readLot cA h m_thrown m_buffer m_bufferLength m_textLength x21 x22 x23 m_errorOffset a19 m_undoDepth x24 m_seen m_pages)) ⟨hx, hb, hml, hown, hts⟩ (kX6_number l D cA (fun k => h ([0, 1, 2, 3, 4, 5, 6, 7, 8, 9, 10, 11, 12, 13, 14, 15, 16, 17, 18, 19].getD k 0)) (0 : Int32) (9999 : Int32) m_thrown m_buffer m_bufferLength m_textLength x13 x14 x15 m_errorOffset m_undoDepth x16 m_seen m_pages _ q25) (cwV 2 hts gX6_readLot_X6_number rfl rfl rfl (by decide +kernel) ⟨Nat.le_of_ble_eq_true rfl, Nat.le_of_ble_eq_true rfl⟩) Z hA [0, 1] rfl (by decide) rfl (ci := 6) rfl rfl rfl rfl hl.1 rfl (Nat.le_of_ble_eq_true rfl) dX6_readLot_72 ⟨Nat.zero_le _, Nat.zero_le _⟩ [some 0, some 1, none] rfl ⟨rfl, rfl, rfl, rfl⟩ (fun H locs Z => ?_)
      obtain ⟨i26, hf⟩ := o_rdE hf
      refine z_iast (pc := 75) hx hb Z 2 0 rfl rfl i26 dX6_readLot_75 (fun g => (W_X6_readLot cA h m_thrown m_buffer m_bufferLength m_textLength x21 x22 x23 m_errorOffset g m_undoDepth x24 m_seen m_pages)) (fun _ => rfl) (fun a27 H locs ea27 Z => ?_)
      replace hf := o_letE ea27 hf
      refine lv_aload_n (pc := 76) hx hb dX6_readLot_76 rfl (lv_at hl 1 rfl) ?_
      refine z_get (pc := 77) (ref := "LotSheetModel") (ci := 6) (C := RX6) (T := TX6) (N := 22) hx hb hts iw_X6_readLot_X6 hown Z 0 rfl rfl 9 (by decide) (List.mem_of_getElem? (i := 1) rfl) rfl rfl dX6_readLot_77 ?_
      refine lv_iload_n (pc := 80) hx hb dX6_readLot_80 rfl (lv_at hl 0 rfl) ?_
      refine lv_iconst (pc := 81) (v := (2 : Int32)) hx hb dX6_readLot_81 (by decide) ?_
      refine lv_iadd (pc := 82) hx hb dX6_readLot_82 ?_
      refine lv_aload_n (pc := 83) hx hb dX6_readLot_83 rfl (lv_at hl 1 rfl) ?_
      refine lv_iconst (pc := 84) (v := (0 : Int32)) hx hb dX6_readLot_84 (by decide) ?_
      refine lv_bipush (pc := 85) (v := (9 : Int32)) hx hb dX6_readLot_85 (by decide) ?_
      obtain ⟨⟨x28, x29, x30, x31, x32⟩, q33, hf⟩ := o_bindE hf
      refine z_callVi (pc := 87) (As := [.int (0 : Int32), .int (9 : Int32)]) (rest := [.int (x8 + (2 : Int32)), .ref (h 3)]) (Wc := (W_X6_number cA (fun k => h ([0, 1, 2, 3, 4, 5, 6, 7, 8, 9, 10, 11, 12, 13, 14, 15, 16, 17, 18, 19].getD k 0)) m_thrown m_buffer m_bufferLength m_textLength x21 x22 x23 m_errorOffset m_undoDepth x24 m_seen m_pages)) (W1 := (W_X6_number cA (fun k => h ([0, 1, 2, 3, 4, 5, 6, 7, 8, 9, 10, 11, 12, 13, 14, 15, 16, 17, 18, 19].getD k 0)) m_thrown m_buffer m_bufferLength m_textLength x29 x30 x31 m_errorOffset m_undoDepth x32 m_seen m_pages)) (W2 := (W_X6_readLot cA h m_thrown m_buffer m_bufferLength m_textLength x29 x30 x31 m_errorOffset a27 m_undoDepth x32 m_seen m_pages)) ⟨hx, hb, hml, hown, hts⟩ (kX6_number l D cA (fun k => h ([0, 1, 2, 3, 4, 5, 6, 7, 8, 9, 10, 11, 12, 13, 14, 15, 16, 17, 18, 19].getD k 0)) (0 : Int32) (9 : Int32) m_thrown m_buffer m_bufferLength m_textLength x21 x22 x23 m_errorOffset m_undoDepth x24 m_seen m_pages _ q33) (cwV 2 hts gX6_readLot_X6_number rfl rfl rfl (by decide +kernel) ⟨Nat.le_of_ble_eq_true rfl, Nat.le_of_ble_eq_true rfl⟩) Z hA [0, 1] rfl (by decide) rfl (ci := 6) rfl rfl rfl rfl hl.1 rfl (Nat.le_of_ble_eq_true rfl) dX6_readLot_87 ⟨Nat.zero_le _, Nat.zero_le _⟩ [some 0, some 1, none] rfl ⟨rfl, rfl, rfl, rfl⟩ (fun H locs Z => ?_)
      obtain ⟨i34, hf⟩ := o_rdE hf
      refine z_iast (pc := 90) hx hb Z 2 0 rfl rfl i34 dX6_readLot_90 (fun g => (W_X6_readLot cA h m_thrown m_buffer m_bufferLength m_textLength x29 x30 x31 m_errorOffset g m_undoDepth x32 m_seen m_pages)) (fun _ => rfl) (fun a35 H locs ea35 Z => ?_)
      replace hf := o_letE ea35 hf
      refine lv_aload_n (pc := 91) hx hb dX6_readLot_91 rfl (lv_at hl 1 rfl) ?_
      obtain ⟨x36, q37, hf⟩ := o_bindE hf
      refine z_callVi (pc := 92) (As := []) (rest := []) (Wc := (W_X6_isGood cA (fun k => h ([0, 1, 2, 3, 4, 5, 6, 7, 8, 9, 10, 11, 12, 13, 14, 15, 16, 17, 18, 19].getD k 0)) m_thrown m_bufferLength m_textLength x29 x30 x31 m_errorOffset m_undoDepth x32 m_seen m_pages)) (W1 := (W_X6_isGood cA (fun k => h ([0, 1, 2, 3, 4, 5, 6, 7, 8, 9, 10, 11, 12, 13, 14, 15, 16, 17, 18, 19].getD k 0)) m_thrown m_bufferLength m_textLength x29 x30 x31 m_errorOffset m_undoDepth x32 m_seen m_pages)) (W2 := (W_X6_readLot cA h m_thrown m_buffer m_bufferLength m_textLength x29 x30 x31 m_errorOffset a35 m_undoDepth x32 m_seen m_pages)) ⟨hx, hb, hml, hown, hts⟩ (kX6_isGood l D cA (fun k => h ([0, 1, 2, 3, 4, 5, 6, 7, 8, 9, 10, 11, 12, 13, 14, 15, 16, 17, 18, 19].getD k 0)) m_thrown m_bufferLength m_textLength x29 x30 x31 m_errorOffset m_undoDepth x32 m_seen m_pages _ q37) (cwV 0 hts gX6_readLot_X6_isGood rfl rfl rfl (by decide +kernel) ⟨Nat.le_of_ble_eq_true rfl, Nat.le_of_ble_eq_true rfl⟩) Z hA [0] rfl (by decide) rfl (ci := 6) rfl rfl rfl rfl hl.1 rfl (Nat.le_of_ble_eq_true rfl) dX6_readLot_92 ⟨Nat.zero_le _, Nat.zero_le _⟩ [some 0, none, none] rfl ⟨rfl, rfl, rfl, rfl⟩ (fun H locs Z => ?_)
      refine lv_if_ne (pc := 95) (tgt := 99) hx hb dX6_readLot_95 (by decide) (fun c38 => ?_) (fun c38 => ?_)
      · replace hf := o_neg c38 hf
        refine lv_aload_n (pc := 99) hx hb dX6_readLot_99 rfl (lv_at hl 1 rfl) ?_
        obtain ⟨⟨x39, x40⟩, q41, hf⟩ := o_bindE hf
        refine z_callVi (pc := 100) (As := []) (rest := []) (Wc := (W_X6_ahead cA (fun k => h ([0, 1, 2, 3, 4, 5, 6, 7, 8, 9, 10, 11, 12, 13, 14, 15, 16, 17, 18, 19].getD k 0)) m_thrown m_buffer m_bufferLength m_textLength x29 x30 x31 m_errorOffset m_undoDepth x32 m_seen m_pages)) (W1 := (W_X6_ahead cA (fun k => h ([0, 1, 2, 3, 4, 5, 6, 7, 8, 9, 10, 11, 12, 13, 14, 15, 16, 17, 18, 19].getD k 0)) m_thrown m_buffer m_bufferLength m_textLength x40 x30 x31 m_errorOffset m_undoDepth x32 m_seen m_pages)) (W2 := (W_X6_readLot cA h m_thrown m_buffer m_bufferLength m_textLength x40 x30 x31 m_errorOffset a35 m_undoDepth x32 m_seen m_pages)) ⟨hx, hb, hml, hown, hts⟩ (kX6_ahead l D cA (fun k => h ([0, 1, 2, 3, 4, 5, 6, 7, 8, 9, 10, 11, 12, 13, 14, 15, 16, 17, 18, 19].getD k 0)) m_thrown m_buffer m_bufferLength m_textLength x29 x30 x31 m_errorOffset m_undoDepth x32 m_seen m_pages _ q41) (cwV 0 hts gX6_readLot_X6_ahead rfl rfl rfl (by decide +kernel) ⟨Nat.le_of_ble_eq_true rfl, Nat.le_of_ble_eq_true rfl⟩) Z hA [0, 1] rfl (by decide) rfl (ci := 6) rfl rfl rfl rfl hl.1 rfl (Nat.le_of_ble_eq_true rfl) dX6_readLot_100 ⟨Nat.zero_le _, Nat.zero_le _⟩ [some 0, some 1, none] rfl ⟨rfl, rfl, rfl, rfl⟩ (fun H locs Z => ?_)
        refine lv_pop (pc := 103) hx hb dX6_readLot_103 rfl ?_
        refine lv_aload_n (pc := 104) hx hb dX6_readLot_104 rfl (lv_at hl 1 rfl) ?_
        refine z_get (pc := 105) (ref := "LotSheetModel") (ci := 6) (C := RX6) (T := TX6) (N := 22) hx hb hts iw_X6_readLot_X6 hown Z 0 rfl rfl 4 (by decide) (List.mem_of_getElem? (i := 2) rfl) rfl rfl dX6_readLot_105 ?_
        refine lv_istore_n (pc := 108) (lv' := [(3, .int x40), (2, .int x8), (0, .ref (h 0))]) hx hb dX6_readLot_108 rfl hl (by decide) rfl (fun ls hl => ?_)
        refine lv_aload_n (pc := 109) hx hb dX6_readLot_109 rfl (lv_at hl 2 rfl) ?_
        refine z_get (pc := 110) (ref := "LotSheetModel") (ci := 6) (C := RX6) (T := TX6) (N := 22) hx hb hts iw_X6_readLot_X6 hown Z 0 rfl rfl 9 (by decide) (List.mem_of_getElem? (i := 1) rfl) rfl rfl dX6_readLot_110 ?_
        refine lv_iload_n (pc := 113) hx hb dX6_readLot_113 rfl (lv_at hl 1 rfl) ?_
        refine lv_iconst (pc := 114) (v := (3 : Int32)) hx hb dX6_readLot_114 (by decide) ?_
        refine lv_iadd (pc := 115) hx hb dX6_readLot_115 ?_
        refine lv_iconst (pc := 116) (v := (1 : Int32)) hx hb dX6_readLot_116 (by decide) ?_
        obtain ⟨i42, hf⟩ := o_rdE hf
        refine z_iast (pc := 117) hx hb Z 2 0 rfl rfl i42 dX6_readLot_117 (fun g => (W_X6_readLot cA h m_thrown m_buffer m_bufferLength m_textLength x40 x30 x31 m_errorOffset g m_undoDepth x32 m_seen m_pages)) (fun _ => rfl) (fun a43 H locs ea43 Z => ?_)
        replace hf := o_letE ea43 hf
        refine lv_aload_n (pc := 118) hx hb dX6_readLot_118 rfl (lv_at hl 2 rfl) ?_
        refine z_get (pc := 119) (ref := "LotSheetModel") (ci := 6) (C := RX6) (T := TX6) (N := 22) hx hb hts iw_X6_readLot_X6 hown Z 0 rfl rfl 9 (by decide) (List.mem_of_getElem? (i := 1) rfl) rfl rfl dX6_readLot_119 ?_
        refine lv_iload_n (pc := 122) hx hb dX6_readLot_122 rfl (lv_at hl 1 rfl) ?_
        refine lv_iconst (pc := 123) (v := (4 : Int32)) hx hb dX6_readLot_123 (by decide) ?_
        refine lv_iadd (pc := 124) hx hb dX6_readLot_124 ?_
        refine lv_iconst (pc := 125) (v := (1 : Int32)) hx hb dX6_readLot_125 (by decide) ?_
        obtain ⟨i44, hf⟩ := o_rdE hf
        refine z_iast (pc := 126) hx hb Z 2 0 rfl rfl i44 dX6_readLot_126 (fun g => (W_X6_readLot cA h m_thrown m_buffer m_bufferLength m_textLength x40 x30 x31 m_errorOffset g m_undoDepth x32 m_seen m_pages)) (fun _ => rfl) (fun a45 H locs ea45 Z => ?_)
        replace hf := o_letE ea45 hf
        refine lv_aload_n (pc := 127) hx hb dX6_readLot_127 rfl (lv_at hl 2 rfl) ?_
        obtain ⟨sa46, hr46, hs46⟩ := hE.2.2.2.2.2 ("LotSheetModel", 125, "out", [111, 117, 116]) (List.mem_of_getElem? (i := 6) rfl)
        replace hr46 : vk_R RX6 125 "out" sa46 s := hr46
        replace hs46 : zStr sa46 [111, 117, 116] A s s.heap := hs46
        refine va_ldcS (pc := 128) hx hb hown hr46 dX6_readLot_128 ?_
        obtain ⟨⟨x47, x48⟩, q49, hf⟩ := o_bindE hf
        refine z_callViX (pc := 130) (As := [.ref sa46]) (rest := []) (Wc := (W_X6_takeWord cA (fun k => h ([0, 1, 2, 3, 4, 5, 6, 7, 8, 9, 10, 11, 12, 13, 14, 15, 16, 17, 18, 19].getD k 0)) m_thrown m_buffer m_bufferLength m_textLength x40 x30 x31 m_errorOffset m_undoDepth x32 m_seen m_pages)) (W1 := (W_X6_takeWord cA (fun k => h ([0, 1, 2, 3, 4, 5, 6, 7, 8, 9, 10, 11, 12, 13, 14, 15, 16, 17, 18, 19].getD k 0)) m_thrown m_buffer m_bufferLength m_textLength x48 x30 x31 m_errorOffset m_undoDepth x32 m_seen m_pages)) (W2 := (W_X6_readLot cA h m_thrown m_buffer m_bufferLength m_textLength x48 x30 x31 m_errorOffset a45 m_undoDepth x32 m_seen m_pages)) (zXS_pass sa46 [111, 117, 116]) ⟨hE.1, hs46⟩ ⟨hx, hb, hml, hown, hts⟩ (kX6_takeWord l D cA (fun k => h ([0, 1, 2, 3, 4, 5, 6, 7, 8, 9, 10, 11, 12, 13, 14, 15, 16, 17, 18, 19].getD k 0)) sa46 [111, 117, 116] m_thrown m_buffer m_bufferLength m_textLength x40 x30 x31 m_errorOffset m_undoDepth x32 m_seen m_pages _ q49) (cwV 1 hts gX6_readLot_X6_takeWord rfl rfl rfl (by decide +kernel) ⟨Nat.le_of_ble_eq_true rfl, Nat.le_of_ble_eq_true rfl⟩) Z hA [0, 1] rfl (by decide) rfl (ci := 6) rfl rfl rfl rfl hl.1 rfl (Nat.le_of_ble_eq_true rfl) dX6_readLot_130 ⟨Nat.zero_le _, Nat.zero_le _⟩ [some 0, some 1, none] rfl ⟨rfl, rfl, rfl, rfl⟩ (fun H locs Z => ?_)
        obtain ⟨j166_53, ej166_53, hf⟩ := o_jnE hf
        have hj166_53 : ∀ (x51 : Int32) (a52 : Nat → Int32) (H : Heap) (locs : List Loc) (ls : Array Slot), zw D (zTY cA) s A (W_X6_readLot cA h m_thrown m_buffer m_bufferLength m_textLength x51 x30 x31 m_errorOffset a52 m_undoDepth x32 m_seen m_pages) H locs → lv_has ls 4 [(0, .ref (h 0)), (3, .int x40)] → j166_53 x51 a52 = some u → W p l e ({ frames := 5, cells := 0, slots := 0, locals := 107 } : Room) s m args below meth c H locs 0 0 (MQ below (zQv D (zTY cA) A (W_X6_readLot cA h m_thrown m_buffer m_bufferLength m_textLength (u.1) (u.2.1) (u.2.2.1) m_errorOffset (u.2.2.2.1) m_undoDepth (u.2.2.2.2) m_seen m_pages)) args s 0 0 A) (F0 m 166 ls []) := by
          intro x51 a52 H locs ls Z hl hf
          rw [ej166_53] at hf
          refine lv_aload_n (pc := 166) hx hb dX6_readLot_166 rfl (lv_at hl 0 rfl) ?_
          refine z_get (pc := 167) (ref := "LotSheetModel") (ci := 6) (C := RX6) (T := TX6) (N := 22) hx hb hts iw_X6_readLot_X6 hown Z 0 rfl rfl 9 (by decide) (List.mem_of_getElem? (i := 1) rfl) rfl rfl dX6_readLot_167 ?_
          refine lv_iconst (pc := 170) (v := (1 : Int32)) hx hb dX6_readLot_170 (by decide) ?_
          refine lv_dup2_11 (pc := 171) hx hb dX6_readLot_171 rfl rfl ?_
          refine z_iald (pc := 172) hx hb Z 2 0 rfl rfl (show ¬ ((1 : Int32) < 0 ∨ 153 ≤ (1 : Int32).toNatClampNeg) by decide) dX6_readLot_172 ?_
          refine lv_iconst (pc := 173) (v := (1 : Int32)) hx hb dX6_readLot_173 (by decide) ?_
          refine lv_iadd (pc := 174) hx hb dX6_readLot_174 ?_
          refine z_iast (pc := 175) hx hb Z 2 0 rfl rfl (show ¬ ((1 : Int32) < 0 ∨ 153 ≤ (1 : Int32).toNatClampNeg) by decide) dX6_readLot_175 (fun g => (W_X6_readLot cA h m_thrown m_buffer m_bufferLength m_textLength x51 x30 x31 m_errorOffset g m_undoDepth x32 m_seen m_pages)) (fun _ => rfl) (fun a54 H locs ea54 Z => ?_)
          replace hf := o_letE ea54 hf
          refine lv_aload_n (pc := 176) hx hb dX6_readLot_176 rfl (lv_at hl 0 rfl) ?_
          refine z_get (pc := 177) (ref := "LotSheetModel") (ci := 6) (C := RX6) (T := TX6) (N := 22) hx hb hts iw_X6_readLot_X6 hown Z 0 rfl rfl 9 (by decide) (List.mem_of_getElem? (i := 1) rfl) rfl rfl dX6_readLot_177 ?_
          obtain ⟨x55, q56, hf⟩ := o_bindE hf
          refine z_callSi (pc := 180) (As := [.ref (h 3)]) (rest := []) (Wc := (W_X6_different cA (fun k => h ([3].getD k 0)) a54)) (W1 := (W_X6_different cA (fun k => h ([3].getD k 0)) a54)) (W2 := (W_X6_readLot cA h m_thrown m_buffer m_bufferLength m_textLength x51 x30 x31 m_errorOffset a54 m_undoDepth x32 m_seen m_pages)) ⟨hx, hb, hml, hown, hts⟩ (kX6_different l D cA (fun k => h ([3].getD k 0)) a54 _ q56) (va_cwS 1 hts gX6_readLot_X6_different rfl rfl rfl (by decide +kernel) ⟨Nat.le_of_ble_eq_true rfl, Nat.le_of_ble_eq_true rfl⟩) Z hA [2] rfl (by decide) rfl rfl hl.1 rfl (Nat.le_of_ble_eq_true rfl) dX6_readLot_180 ⟨Nat.zero_le _, Nat.zero_le _⟩ [none, none, some 0] rfl ⟨rfl, rfl, rfl, rfl⟩ (fun H locs Z => ?_)
          refine lv_bipush (pc := 183) (v := (8 : Int32)) hx hb dX6_readLot_183 (by decide) ?_
          refine lv_icmp_le (pc := 185) (tgt := 195) hx hb dX6_readLot_185 (by decide) (fun c57 => ?_) (fun c57 => ?_)
          · replace hf := o_pos c57 hf
            cases hf
            exact z_vret (pc := 195) hx hb hr hlocks Z rfl dX6_readLot_195
          · replace hf := o_neg c57 hf
            refine lv_aload_n (pc := 188) hx hb dX6_readLot_188 rfl (lv_at hl 0 rfl) ?_
            refine lv_bipush (pc := 189) (v := (-4 : Int32)) hx hb dX6_readLot_189 (by decide) ?_
            refine lv_iload_n (pc := 191) hx hb dX6_readLot_191 rfl (lv_at hl 1 rfl) ?_
            obtain ⟨⟨x58, x59⟩, q60, hf⟩ := o_bindE hf
            refine z_callVv (pc := 192) (As := [.int (-4 : Int32), .int x40]) (rest := []) (Wc := (W_X6_report cA (fun k => h ([0, 1, 2, 3, 4, 5, 6, 7, 8, 9, 10, 11, 12, 13, 14, 15, 16, 17, 18, 19].getD k 0)) m_thrown m_bufferLength m_textLength x51 x30 x31 m_errorOffset m_undoDepth x32 m_seen m_pages)) (W1 := (W_X6_report cA (fun k => h ([0, 1, 2, 3, 4, 5, 6, 7, 8, 9, 10, 11, 12, 13, 14, 15, 16, 17, 18, 19].getD k 0)) m_thrown m_bufferLength m_textLength x51 x58 x59 m_errorOffset m_undoDepth x32 m_seen m_pages)) (W2 := (W_X6_readLot cA h m_thrown m_buffer m_bufferLength m_textLength x51 x58 x59 m_errorOffset a54 m_undoDepth x32 m_seen m_pages)) ⟨hx, hb, hml, hown, hts⟩ (kX6_report l D cA (fun k => h ([0, 1, 2, 3, 4, 5, 6, 7, 8, 9, 10, 11, 12, 13, 14, 15, 16, 17, 18, 19].getD k 0)) (-4 : Int32) x40 m_thrown m_bufferLength m_textLength x51 x30 x31 m_errorOffset m_undoDepth x32 m_seen m_pages _ q60) (cwV 2 hts gX6_readLot_X6_report rfl rfl rfl (by decide +kernel) ⟨Nat.le_of_ble_eq_true rfl, Nat.le_of_ble_eq_true rfl⟩) Z hA [0] rfl (by decide) rfl (ci := 6) rfl rfl rfl rfl hl.1 rfl (Nat.le_of_ble_eq_true rfl) dX6_readLot_192 ⟨Nat.zero_le _, Nat.zero_le _⟩ [some 0, none, none] rfl ⟨rfl, rfl, rfl, rfl⟩ (fun H locs Z => ?_)
            cases hf
            exact z_vret (pc := 195) hx hb hr hlocks Z rfl dX6_readLot_195
        refine lv_if_eq (pc := 133) (tgt := 148) hx hb dX6_readLot_133 (by decide) (fun c50 => ?_) (fun c50 => ?_)
        · replace hf := o_pos c50 hf
          refine lv_aload_n (pc := 148) hx hb dX6_readLot_148 rfl (lv_at hl 2 rfl) ?_
          obtain ⟨sa61, hr61, hs61⟩ := hE.2.2.2.2.2 ("LotSheetModel", 131, "in", [105, 110]) (List.mem_of_getElem? (i := 7) rfl)
          replace hr61 : vk_R RX6 131 "in" sa61 s := hr61
          replace hs61 : zStr sa61 [105, 110] A s s.heap := hs61
          refine va_ldcS (pc := 149) hx hb hown hr61 dX6_readLot_149 ?_
          obtain ⟨⟨x62, x63⟩, q64, hf⟩ := o_bindE hf
          refine z_callViX (pc := 151) (As := [.ref sa61]) (rest := []) (Wc := (W_X6_takeWord cA (fun k => h ([0, 1, 2, 3, 4, 5, 6, 7, 8, 9, 10, 11, 12, 13, 14, 15, 16, 17, 18, 19].getD k 0)) m_thrown m_buffer m_bufferLength m_textLength x48 x30 x31 m_errorOffset m_undoDepth x32 m_seen m_pages)) (W1 := (W_X6_takeWord cA (fun k => h ([0, 1, 2, 3, 4, 5, 6, 7, 8, 9, 10, 11, 12, 13, 14, 15, 16, 17, 18, 19].getD k 0)) m_thrown m_buffer m_bufferLength m_textLength x63 x30 x31 m_errorOffset m_undoDepth x32 m_seen m_pages)) (W2 := (W_X6_readLot cA h m_thrown m_buffer m_bufferLength m_textLength x63 x30 x31 m_errorOffset a45 m_undoDepth x32 m_seen m_pages)) (zXS_pass sa61 [105, 110]) ⟨hE.1, hs61⟩ ⟨hx, hb, hml, hown, hts⟩ (kX6_takeWord l D cA (fun k => h ([0, 1, 2, 3, 4, 5, 6, 7, 8, 9, 10, 11, 12, 13, 14, 15, 16, 17, 18, 19].getD k 0)) sa61 [105, 110] m_thrown m_buffer m_bufferLength m_textLength x48 x30 x31 m_errorOffset m_undoDepth x32 m_seen m_pages _ q64) (cwV 1 hts gX6_readLot_X6_takeWord rfl rfl rfl (by decide +kernel) ⟨Nat.le_of_ble_eq_true rfl, Nat.le_of_ble_eq_true rfl⟩) Z hA [0, 1] rfl (by decide) rfl (ci := 6) rfl rfl rfl rfl hl.1 rfl (Nat.le_of_ble_eq_true rfl) dX6_readLot_151 ⟨Nat.zero_le _, Nat.zero_le _⟩ [some 0, some 1, none] rfl ⟨rfl, rfl, rfl, rfl⟩ (fun H locs Z => ?_)
          refine lv_if_eq (pc := 154) (tgt := 166) hx hb dX6_readLot_154 (by decide) (fun c65 => ?_) (fun c65 => ?_)
          · replace hf := o_pos c65 hf
            exact hj166_53 x63 a45 H locs ls Z (lv_sub hl [2, 0] rfl) hf
          · replace hf := o_neg c65 hf
            refine lv_aload_n (pc := 157) hx hb dX6_readLot_157 rfl (lv_at hl 2 rfl) ?_
            refine z_get (pc := 158) (ref := "LotSheetModel") (ci := 6) (C := RX6) (T := TX6) (N := 22) hx hb hts iw_X6_readLot_X6 hown Z 0 rfl rfl 9 (by decide) (List.mem_of_getElem? (i := 1) rfl) rfl rfl dX6_readLot_158 ?_
            refine lv_iload_n (pc := 161) hx hb dX6_readLot_161 rfl (lv_at hl 1 rfl) ?_
            refine lv_iconst (pc := 162) (v := (3 : Int32)) hx hb dX6_readLot_162 (by decide) ?_
            refine lv_iadd (pc := 163) hx hb dX6_readLot_163 ?_
            refine lv_iconst (pc := 164) (v := (0 : Int32)) hx hb dX6_readLot_164 (by decide) ?_
            obtain ⟨i66, hf⟩ := o_rdE hf
            refine z_iast (pc := 165) hx hb Z 2 0 rfl rfl i66 dX6_readLot_165 (fun g => (W_X6_readLot cA h m_thrown m_buffer m_bufferLength m_textLength x63 x30 x31 m_errorOffset g m_undoDepth x32 m_seen m_pages)) (fun _ => rfl) (fun a67 H locs ea67 Z => ?_)
            replace hf := o_letE ea67 hf
            exact hj166_53 x63 a67 H locs ls Z (lv_sub hl [2, 0] rfl) hf
        · replace hf := o_neg c50 hf
          refine lv_aload_n (pc := 136) hx hb dX6_readLot_136 rfl (lv_at hl 2 rfl) ?_
          refine z_get (pc := 137) (ref := "LotSheetModel") (ci := 6) (C := RX6) (T := TX6) (N := 22) hx hb hts iw_X6_readLot_X6 hown Z 0 rfl rfl 9 (by decide) (List.mem_of_getElem? (i := 1) rfl) rfl rfl dX6_readLot_137 ?_
          refine lv_iload_n (pc := 140) hx hb dX6_readLot_140 rfl (lv_at hl 1 rfl) ?_
          refine lv_iconst (pc := 141) (v := (4 : Int32)) hx hb dX6_readLot_141 (by decide) ?_
          refine lv_iadd (pc := 142) hx hb dX6_readLot_142 ?_
          refine lv_iconst (pc := 143) (v := (0 : Int32)) hx hb dX6_readLot_143 (by decide) ?_
          obtain ⟨i68, hf⟩ := o_rdE hf
          refine z_iast (pc := 144) hx hb Z 2 0 rfl rfl i68 dX6_readLot_144 (fun g => (W_X6_readLot cA h m_thrown m_buffer m_bufferLength m_textLength x48 x30 x31 m_errorOffset g m_undoDepth x32 m_seen m_pages)) (fun _ => rfl) (fun a69 H locs ea69 Z => ?_)
          replace hf := o_letE ea69 hf
          refine lv_goto (pc := 145) (tgt := 166) hx hb dX6_readLot_145 (by decide) ?_
          exact hj166_53 x48 a69 H locs ls Z (lv_sub hl [2, 0] rfl) hf
      · replace hf := o_pos c38 hf
        cases hf
        exact z_vret (pc := 98) hx hb hr hlocks Z rfl dX6_readLot_98
    · replace hf := o_pos c7 hf
      cases hf
      exact z_vret (pc := 25) hx hb hr hlocks Z rfl dX6_readLot_25
  refine lv_icmp_ne (pc := 8) (tgt := 18) hx hb dX6_readLot_8 (by decide) (fun c1 => ?_) (fun c1 => ?_)
  · replace hf := o_neg c1 hf
    exact hj18_4 m_error m_errorAt H locs ls Z (lv_sub hl [0] rfl) hf
  · replace hf := o_pos c1 hf
    refine lv_aload_n (pc := 11) hx hb dX6_readLot_11 rfl (lv_at hl 0 rfl) ?_
    refine lv_bipush (pc := 12) (v := (-4 : Int32)) hx hb dX6_readLot_12 (by decide) ?_
    refine lv_iload_n (pc := 14) hx hb dX6_readLot_14 rfl (lv_at hl 1 rfl) ?_
    obtain ⟨⟨x70, x71⟩, q72, hf⟩ := o_bindE hf
    refine z_callVv (pc := 15) (As := [.int (-4 : Int32), .int p1]) (rest := []) (Wc := (W_X6_report cA (fun k => h ([0, 1, 2, 3, 4, 5, 6, 7, 8, 9, 10, 11, 12, 13, 14, 15, 16, 17, 18, 19].getD k 0)) m_thrown m_bufferLength m_textLength m_position m_error m_errorAt m_errorOffset m_undoDepth m_numberStart m_seen m_pages)) (W1 := (W_X6_report cA (fun k => h ([0, 1, 2, 3, 4, 5, 6, 7, 8, 9, 10, 11, 12, 13, 14, 15, 16, 17, 18, 19].getD k 0)) m_thrown m_bufferLength m_textLength m_position x70 x71 m_errorOffset m_undoDepth m_numberStart m_seen m_pages)) (W2 := (W_X6_readLot cA h m_thrown m_buffer m_bufferLength m_textLength m_position x70 x71 m_errorOffset m_draft m_undoDepth m_numberStart m_seen m_pages)) ⟨hx, hb, hml, hown, hts⟩ (kX6_report l D cA (fun k => h ([0, 1, 2, 3, 4, 5, 6, 7, 8, 9, 10, 11, 12, 13, 14, 15, 16, 17, 18, 19].getD k 0)) (-4 : Int32) p1 m_thrown m_bufferLength m_textLength m_position m_error m_errorAt m_errorOffset m_undoDepth m_numberStart m_seen m_pages _ q72) (cwV 2 hts gX6_readLot_X6_report rfl rfl rfl (by decide +kernel) ⟨Nat.le_of_ble_eq_true rfl, Nat.le_of_ble_eq_true rfl⟩) Z hA [0] rfl (by decide) rfl (ci := 6) rfl rfl rfl rfl hl.1 rfl (Nat.le_of_ble_eq_true rfl) dX6_readLot_15 ⟨Nat.zero_le _, Nat.zero_le _⟩ [some 0, none, none] rfl ⟨rfl, rfl, rfl, rfl⟩ (fun H locs Z => ?_)
    exact hj18_4 x70 x71 H locs ls Z (lv_sub hl [0] rfl) hf
