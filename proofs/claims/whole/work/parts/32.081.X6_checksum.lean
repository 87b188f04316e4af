def W_X6_checksum (cA : Nat → ClassId) (h : Nat → Nat) (m_thrown : Int32) (m_bufferLength : Int32) (m_textLength : Int32) (m_position : Int32) (m_error : Int32) (m_errorAt : Int32) (m_errorOffset : Int32) (m_data : Nat → Int32) (m_undoDepth : Int32) (m_numberStart : Int32) (m_seen : Int32) (m_numberOf : Nat → Int32) (m_pageOf : Nat → Int32) (m_lineOf : Nat → Int32) (m_stands : Nat → Int32) (m_pages : Int32) (m_before : Nat → Int32) (m_told : Nat → Int32) (m_wasPrinted : Nat → Int32) : va_W := [(h 0, .inr (6, [.int m_thrown, .ref (h 1), .int m_bufferLength, .int m_textLength, .int m_position, .int m_error, .int m_errorAt, .int m_errorOffset, .ref (h 2), .ref (h 3), .ref (h 4), .int m_undoDepth, .int m_numberStart, .int m_seen, .ref (h 13), .ref (h 14), .ref (h 15), .ref (h 16), .int m_pages, .ref (h 17), .ref (h 18), .ref (h 19)])), (h 2, .inl (cA 0, 153, .inl m_data)), (h 13, .inl (cA 0, 24, .inl m_numberOf)), (h 14, .inl (cA 0, 24, .inl m_pageOf)), (h 15, .inl (cA 0, 24, .inl m_lineOf)), (h 16, .inl (cA 0, 960, .inl m_stands)), (h 17, .inl (cA 0, 960, .inl m_before)), (h 18, .inl (cA 0, 7, .inl m_told)), (h 19, .inl (cA 0, 24, .inl m_wasPrinted))]
def fX6_checksum_L111 (a24 : Nat → Int32) (a25 : Nat → Int32) (a26 : Nat → Int32) (a27 : Nat → Int32) (a28 : Nat → Int32) (x29 : Int32) (a30 : Nat → Int32) (a31 : Nat → Int32) (a32 : Nat → Int32) : Nat → Int64 → Int32 → Option (Int64 × Int32 × (Nat → Int32) × (Nat → Int32) × (Nat → Int32) × (Nat → Int32) × (Nat → Int32) × Int32 × (Nat → Int32) × (Nat → Int32) × (Nat → Int32))
  | 0, _, _ => none
  | n0 + 1, w34, x35 => (if (7 : Int32) ≤ x35 then some (w34, (0 : Int32), a24, a25, a26, a27, a28, x29, a30, a31, a32) else o_rd 7 x35 (o_let (((31 : Int64) * w34) + ((a31 x35.toNatClampNeg).toInt64)) (fun w38 => o_let (x35 + (1 : Int32)) (fun x39 => (fX6_checksum_L111 a24 a25 a26 a27 a28 x29 a30 a31 a32 n0 w38 x39)))))
def fX6_checksum_L53 (j81_44 : Int64 → Option (Int64 × Int32 × (Nat → Int32) × (Nat → Int32) × (Nat → Int32) × (Nat → Int32) × (Nat → Int32) × Int32 × (Nat → Int32) × (Nat → Int32) × (Nat → Int32))) (x41 : Int32) (m_data : Nat → Int32) (a2 : Nat → Int32) (a3 : Nat → Int32) (a4 : Nat → Int32) : Nat → Int64 → Int32 → Option (Int64 × Int32 × (Nat → Int32) × (Nat → Int32) × (Nat → Int32) × (Nat → Int32) × (Nat → Int32) × Int32 × (Nat → Int32) × (Nat → Int32) × (Nat → Int32))
  | 0, _, _ => none
  | n1 + 1, w46, x47 => (if (9 : Int32) ≤ x47 then (j81_44 w46) else o_bind (fX6_toldLot x41 x47 m_data a2 a3 a4) (fun x49 => o_let (((31 : Int64) * w46) + (x49.toInt64)) (fun w51 => o_let (x47 + (1 : Int32)) (fun x52 => (fX6_checksum_L53 j81_44 x41 m_data a2 a3 a4 n1 w51 x52)))))
def fX6_checksum_L40 (m_data : Nat → Int32) (j87_11 : Int64 → Option (Int64 × Int32 × (Nat → Int32) × (Nat → Int32) × (Nat → Int32) × (Nat → Int32) × (Nat → Int32) × Int32 × (Nat → Int32) × (Nat → Int32) × (Nat → Int32))) (a2 : Nat → Int32) (a3 : Nat → Int32) (a4 : Nat → Int32) : Nat → Int64 → Int32 → Option (Int64 × Int32 × (Nat → Int32) × (Nat → Int32) × (Nat → Int32) × (Nat → Int32) × (Nat → Int32) × Int32 × (Nat → Int32) × (Nat → Int32) × (Nat → Int32))
  | 0, _, _ => none
  | n0 + 1, w40, x41 => (if (m_data (1 : Int32).toNatClampNeg) ≤ x41 then (j87_11 w40) else o_let (fun (w43 : Int64) => o_let (x41 + (1 : Int32)) (fun x45 => (fX6_checksum_L40 m_data j87_11 a2 a3 a4 n0 w43 x45))) (fun (j81_44 : Int64 → Option (Int64 × Int32 × (Nat → Int32) × (Nat → Int32) × (Nat → Int32) × (Nat → Int32) × (Nat → Int32) × Int32 × (Nat → Int32) × (Nat → Int32) × (Nat → Int32))) => (fX6_checksum_L53 j81_44 x41 m_data a2 a3 a4 1024 w40 (0 : Int32))))
def fX6_checksum_L13 (j38_9 : Int64 → Option (Int64 × Int32 × (Nat → Int32) × (Nat → Int32) × (Nat → Int32) × (Nat → Int32) × (Nat → Int32) × Int32 × (Nat → Int32) × (Nat → Int32) × (Nat → Int32))) (m_data : Nat → Int32) (a3 : Nat → Int32) (x6 : Int32) : Nat → Int64 → Int32 → Option (Int64 × Int32 × (Nat → Int32) × (Nat → Int32) × (Nat → Int32) × (Nat → Int32) × (Nat → Int32) × Int32 × (Nat → Int32) × (Nat → Int32) × (Nat → Int32))
  | 0, _, _ => none
  | n0 + 1, w53, x54 => (if (12 : Int32) ≤ x54 then (j38_9 w53) else o_bind (fX6_toldState x54 m_data a3 x6) (fun x56 => o_let (((31 : Int64) * w53) + (x56.toInt64)) (fun w58 => o_let (x54 + (1 : Int32)) (fun x59 => (fX6_checksum_L13 j38_9 m_data a3 x6 n0 w58 x59)))))
def fX6_checksum (m_thrown : Int32) (m_data : Nat → Int32) (m_numberOf : Nat → Int32) (m_pageOf : Nat → Int32) (m_lineOf : Nat → Int32) (m_stands : Nat → Int32) (m_pages : Int32) (m_before : Nat → Int32) (m_told : Nat → Int32) (m_wasPrinted : Nat → Int32) : Option (Int64 × Int32 × (Nat → Int32) × (Nat → Int32) × (Nat → Int32) × (Nat → Int32) × (Nat → Int32) × Int32 × (Nat → Int32) × (Nat → Int32) × (Nat → Int32)) := o_let (0 : Int64) (fun w1 => o_bind (fX6_lay m_data m_numberOf m_pageOf m_lineOf m_stands m_pages) (fun (a2, a3, a4, a5, x6) => o_let (fun (w8 : Int64) => o_let (fun (w10 : Int64) => o_bind (fX6_bestOf (0 : Int32) (0 : Int32) m_data a2 a3 a4 a5 x6 m_before m_told m_wasPrinted) (fun (x12, a13, a14, a15, a16, a17, x18, a19, a20, a21) => o_let (((31 : Int64) * w10) + (x12.toInt64)) (fun w23 => o_bind (fX6_layChoice x12 a13 a14 a15 a16 a17 x18 a19 a20 a21) (fun (a24, a25, a26, a27, a28, x29, a30, a31, a32) => (fX6_checksum_L111 a24 a25 a26 a27 a28 x29 a30 a31 a32 1024 w23 (0 : Int32)))))) (fun (j87_11 : Int64 → Option (Int64 × Int32 × (Nat → Int32) × (Nat → Int32) × (Nat → Int32) × (Nat → Int32) × (Nat → Int32) × Int32 × (Nat → Int32) × (Nat → Int32) × (Nat → Int32))) => (fX6_checksum_L40 m_data j87_11 a2 a3 a4 1024 w8 (0 : Int32)))) (fun (j38_9 : Int64 → Option (Int64 × Int32 × (Nat → Int32) × (Nat → Int32) × (Nat → Int32) × (Nat → Int32) × (Nat → Int32) × Int32 × (Nat → Int32) × (Nat → Int32) × (Nat → Int32))) => (fX6_checksum_L13 j38_9 m_data a3 x6 1024 w1 (0 : Int32)))))
theorem iw_X6_checksum_X6 : ∀ w ∈ u_ws RX6 TX6 22, w ∈ wsX6_checksum := z_inr [90, 91, 92, 93, 94, 95, 96, 97, 98, 99, 100, 101, 102, 103, 104, 105, 106, 107, 108, 109, 110, 111] rfl
set_option maxHeartbeats 4000000 in
set_option maxRecDepth 100000 in
theorem kX6_checksum (l : Launch) (D : va_G) (cA : Nat → ClassId) (h : Nat → Nat) (m_thrown : Int32) (m_bufferLength : Int32) (m_textLength : Int32) (m_position : Int32) (m_error : Int32) (m_errorAt : Int32) (m_errorOffset : Int32) (m_data : Nat → Int32) (m_undoDepth : Int32) (m_numberStart : Int32) (m_seen : Int32) (m_numberOf : Nat → Int32) (m_pageOf : Nat → Int32) (m_lineOf : Nat → Int32) (m_stands : Nat → Int32) (m_pages : Int32) (m_before : Nat → Int32) (m_told : Nat → Int32) (m_wasPrinted : Nat → Int32) (u : Int64 × Int32 × (Nat → Int32) × (Nat → Int32) × (Nat → Int32) × (Nat → Int32) × (Nat → Int32) × Int32 × (Nat → Int32) × (Nat → Int32) × (Nat → Int32)) (hf : fX6_checksum m_thrown m_data m_numberOf m_pageOf m_lineOf m_stands m_pages m_before m_told m_wasPrinted = some u) : zMl l yX6_checksum wsX6_checksum ({ frames := 8, cells := 0, slots := 0, locals := 187 } : Room) D (zTY cA) [.ref (h 0)] (W_X6_checksum cA h m_thrown m_bufferLength m_textLength m_position m_error m_errorAt m_errorOffset m_data m_undoDepth m_numberStart m_seen m_numberOf m_pageOf m_lineOf m_stands m_pages m_before m_told m_wasPrinted) (W_X6_checksum cA h (u.2.1) m_bufferLength m_textLength m_position m_error m_errorAt m_errorOffset (u.2.2.1) m_undoDepth m_numberStart m_seen (u.2.2.2.1) (u.2.2.2.2.1) (u.2.2.2.2.2.1) (u.2.2.2.2.2.2.1) (u.2.2.2.2.2.2.2.1) (u.2.2.2.2.2.2.2.2.1) (u.2.2.2.2.2.2.2.2.2.1) (u.2.2.2.2.2.2.2.2.2.2)) u.1 := by
  refine z_startl (cc := cX6_checksum) (maxL := 5) (ret := (some .long)) (by decide) rfl (Nat.le_of_ble_eq_true rfl) ?_
  intro p e s m args below meth c A hx hb hr hts hown hlocks hml hA Z ls hl
  replace hown : s.vm.findClass RX6 = some m.cls := hown
  replace hl : lv_has ls 5 [(0, .ref (h 0))] := hl
  obtain ⟨H, hH⟩ : ∃ H, H = s.heap := ⟨_, rfl⟩
  rw [← hH] at Z ⊢
  clear hH
  obtain ⟨locs, hlc⟩ : ∃ q : List Loc, q = [] := ⟨_, rfl⟩
  rw [← hlc] at Z ⊢
  clear hlc
  refine lv_aload_n (pc := 0) hx hb dX6_checksum_0 rfl (lv_at hl 0 rfl) ?_
  refine lv_iconst (pc := 1) (v := (0 : Int32)) hx hb dX6_checksum_1 (by decide) ?_
  refine z_put (pc := 2) (ref := "LotSheetModel") (ci := 6) (C := RX6) (T := TX6) (N := 22) (W1 := (W_X6_checksum cA h (0 : Int32) m_bufferLength m_textLength m_position m_error m_errorAt m_errorOffset m_data m_undoDepth m_numberStart m_seen m_numberOf m_pageOf m_lineOf m_stands m_pages m_before m_told m_wasPrinted)) hx hb hts iw_X6_checksum_X6 tyX6 tyX6_ok nmX6 hown Z 0 rfl rfl 0 (by decide) (List.mem_of_getElem? (i := 1) rfl) rfl rfl rfl rfl (Nat.le_of_ble_eq_true rfl) dX6_checksum_2 rfl (fun H locs Z => ?_)
  refine lv_lconst (pc := 5) (v := (0 : Int64)) hx hb dX6_checksum_5 (by decide) ?_
  refine lv_topl (fun w1 ew1 => ?_)
  replace hf := o_letE ew1 hf
  refine lv_lstore_n (pc := 6) (lv' := [(1, .long w1), (0, .ref (h 0))]) hx hb dX6_checksum_6 rfl hl (by decide) rfl (fun ls hl => ?_)
  refine lv_aload_n (pc := 7) hx hb dX6_checksum_7 rfl (lv_at hl 1 rfl) ?_
  obtain ⟨⟨a2, a3, a4, a5, x6⟩, q7, hf⟩ := o_bindE hf
  refine z_callVv (pc := 8) (As := []) (rest := []) (Wc := (W_X6_lay cA (fun k => h ([0, 1, 2, 3, 4, 5, 6, 7, 8, 9, 10, 11, 12, 13, 14, 15, 16, 17, 18, 19].getD k 0)) (0 : Int32) m_bufferLength m_textLength m_position m_error m_errorAt m_errorOffset m_data m_undoDepth m_numberStart m_seen m_numberOf m_pageOf m_lineOf m_stands m_pages)) (W1 := (W_X6_lay cA (fun k => h ([0, 1, 2, 3, 4, 5, 6, 7, 8, 9, 10, 11, 12, 13, 14, 15, 16, 17, 18, 19].getD k 0)) (0 : Int32) m_bufferLength m_textLength m_position m_error m_errorAt m_errorOffset m_data m_undoDepth m_numberStart m_seen a2 a3 a4 a5 x6)) (W2 := (W_X6_checksum cA h (0 : Int32) m_bufferLength m_textLength m_position m_error m_errorAt m_errorOffset m_data m_undoDepth m_numberStart m_seen a2 a3 a4 a5 x6 m_before m_told m_wasPrinted)) ⟨hx, hb, hml, hown, hts⟩ (kX6_lay l D cA (fun k => h ([0, 1, 2, 3, 4, 5, 6, 7, 8, 9, 10, 11, 12, 13, 14, 15, 16, 17, 18, 19].getD k 0)) (0 : Int32) m_bufferLength m_textLength m_position m_error m_errorAt m_errorOffset m_data m_undoDepth m_numberStart m_seen m_numberOf m_pageOf m_lineOf m_stands m_pages _ q7) (cwV 0 hts gX6_checksum_X6_lay rfl rfl rfl (by decide +kernel) ⟨Nat.le_of_ble_eq_true rfl, Nat.le_of_ble_eq_true rfl⟩) Z hA [0, 1, 2, 3, 4, 5] rfl (by decide) rfl (ci := 6) rfl rfl rfl rfl hl.1 rfl (Nat.le_of_ble_eq_true rfl) dX6_checksum_8 ⟨Nat.zero_le _, Nat.zero_le _⟩ [some 0, some 1, some 2, some 3, some 4, some 5, none, none, none] rfl ⟨rfl, rfl, rfl, rfl, rfl, rfl, rfl, rfl, rfl, rfl⟩ (fun H locs Z => ?_)
  refine lv_iconst (pc := 11) (v := (0 : Int32)) hx hb dX6_checksum_11 (by decide) ?_
  refine lv_istore_n (pc := 12) (lv' := [(3, .int (0 : Int32)), (1, .long w1), (0, .ref (h 0))]) hx hb dX6_checksum_12 rfl hl (by decide) rfl (fun ls hl => ?_)
  obtain ⟨j38_9, ej38_9, hf⟩ := o_jnE hf
  have hj38_9 : ∀ (w8 : Int64) (H : Heap) (locs : List Loc) (ls : Array Slot), zw D (zTY cA) s A (W_X6_checksum cA h (0 : Int32) m_bufferLength m_textLength m_position m_error m_errorAt m_errorOffset m_data m_undoDepth m_numberStart m_seen a2 a3 a4 a5 x6 m_before m_told m_wasPrinted) H locs → lv_has ls 5 [(0, .ref (h 0)), (1, .long w8)] → j38_9 w8 = some u → W p l e ({ frames := 8, cells := 0, slots := 0, locals := 187 } : Room) s m args below meth c H locs 0 0 (MQ below (zQl D (zTY cA) A (W_X6_checksum cA h (u.2.1) m_bufferLength m_textLength m_position m_error m_errorAt m_errorOffset (u.2.2.1) m_undoDepth m_numberStart m_seen (u.2.2.2.1) (u.2.2.2.2.1) (u.2.2.2.2.2.1) (u.2.2.2.2.2.2.1) (u.2.2.2.2.2.2.2.1) (u.2.2.2.2.2.2.2.2.1) (u.2.2.2.2.2.2.2.2.2.1) (u.2.2.2.2.2.2.2.2.2.2)) u.1) args s 0 0 A) (F0 m 38 ls []) := by
    intro w8 H locs ls Z hl hf
    rw [ej38_9] at hf
    refine lv_iconst (pc := 38) (v := (0 : Int32)) hx hb dX6_checksum_38 (by decide) ?_
    refine lv_istore_n (pc := 39) (lv' := [(3, .int (0 : Int32)), (0, .ref (h 0)), (1, .long w8)]) hx hb dX6_checksum_39 rfl hl (by decide) rfl (fun ls hl => ?_)
    obtain ⟨j87_11, ej87_11, hf⟩ := o_jnE hf
    have hj87_11 : ∀ (w10 : Int64) (H : Heap) (locs : List Loc) (ls : Array Slot), zw D (zTY cA) s A (W_X6_checksum cA h (0 : Int32) m_bufferLength m_textLength m_position m_error m_errorAt m_errorOffset m_data m_undoDepth m_numberStart m_seen a2 a3 a4 a5 x6 m_before m_told m_wasPrinted) H locs → lv_has ls 5 [(0, .ref (h 0)), (1, .long w10)] → j87_11 w10 = some u → W p l e ({ frames := 8, cells := 0, slots := 0, locals := 187 } : Room) s m args below meth c H locs 0 0 (MQ below (zQl D (zTY cA) A (W_X6_checksum cA h (u.2.1) m_bufferLength m_textLength m_position m_error m_errorAt m_errorOffset (u.2.2.1) m_undoDepth m_numberStart m_seen (u.2.2.2.1) (u.2.2.2.2.1) (u.2.2.2.2.2.1) (u.2.2.2.2.2.2.1) (u.2.2.2.2.2.2.2.1) (u.2.2.2.2.2.2.2.2.1) (u.2.2.2.2.2.2.2.2.2.1) (u.2.2.2.2.2.2.2.2.2.2)) u.1) args s 0 0 A) (F0 m 87 ls []) := by
      intro w10 H locs ls Z hl hf
      rw [ej87_11] at hf
      refine lv_aload_n (pc := 87) hx hb dX6_checksum_87 rfl (lv_at hl 0 rfl) ?_
      refine lv_iconst (pc := 88) (v := (0 : Int32)) hx hb dX6_checksum_88 (by decide) ?_
      refine lv_iconst (pc := 89) (v := (0 : Int32)) hx hb dX6_checksum_89 (by decide) ?_
      obtain ⟨⟨x12, a13, a14, a15, a16, a17, x18, a19, a20, a21⟩, q22, hf⟩ := o_bindE hf
      refine z_callVi (pc := 90) (As := [.int (0 : Int32), .int (0 : Int32)]) (rest := []) (Wc := (W_X6_bestOf cA (fun k => h ([0, 1, 2, 3, 4, 5, 6, 7, 8, 9, 10, 11, 12, 13, 14, 15, 16, 17, 18, 19].getD k 0)) (0 : Int32) m_bufferLength m_textLength m_position m_error m_errorAt m_errorOffset m_data m_undoDepth m_numberStart m_seen a2 a3 a4 a5 x6 m_before m_told m_wasPrinted)) (W1 := (W_X6_bestOf cA (fun k => h ([0, 1, 2, 3, 4, 5, 6, 7, 8, 9, 10, 11, 12, 13, 14, 15, 16, 17, 18, 19].getD k 0)) (0 : Int32) m_bufferLength m_textLength m_position m_error m_errorAt m_errorOffset a13 m_undoDepth m_numberStart m_seen a14 a15 a16 a17 x18 a19 a20 a21)) (W2 := (W_X6_checksum cA h (0 : Int32) m_bufferLength m_textLength m_position m_error m_errorAt m_errorOffset a13 m_undoDepth m_numberStart m_seen a14 a15 a16 a17 x18 a19 a20 a21)) ⟨hx, hb, hml, hown, hts⟩ (kX6_bestOf l D cA (fun k => h ([0, 1, 2, 3, 4, 5, 6, 7, 8, 9, 10, 11, 12, 13, 14, 15, 16, 17, 18, 19].getD k 0)) (0 : Int32) (0 : Int32) (0 : Int32) m_bufferLength m_textLength m_position m_error m_errorAt m_errorOffset m_data m_undoDepth m_numberStart m_seen a2 a3 a4 a5 x6 m_before m_told m_wasPrinted _ q22) (cwV 2 hts gX6_checksum_X6_bestOf rfl rfl rfl (by decide +kernel) ⟨Nat.le_of_ble_eq_true rfl, Nat.le_of_ble_eq_true rfl⟩) Z hA [0, 1, 2, 3, 4, 5, 6, 7, 8] rfl (by decide) rfl (ci := 6) rfl rfl rfl rfl hl.1 rfl (Nat.le_of_ble_eq_true rfl) dX6_checksum_90 ⟨Nat.zero_le _, Nat.zero_le _⟩ [some 0, some 1, some 2, some 3, some 4, some 5, some 6, some 7, some 8] rfl ⟨rfl, rfl, rfl, rfl, rfl, rfl, rfl, rfl, rfl, rfl⟩ (fun H locs Z => ?_)
      refine lv_istore_n (pc := 93) (lv' := [(3, .int x12), (0, .ref (h 0)), (1, .long w10)]) hx hb dX6_checksum_93 rfl hl (by decide) rfl (fun ls hl => ?_)
      refine lv_ldc2 (pc := 94) (v := (31 : Int64)) hx hb hown (hts _ (List.mem_of_getElem? (i := 2) rfl)) dX6_checksum_94 ?_
      refine lv_lload_n (pc := 97) hx hb dX6_checksum_97 rfl (lv_at hl 2 rfl) ?_
      refine lv_lmul (pc := 98) hx hb dX6_checksum_98 ?_
      refine lv_iload_n (pc := 99) hx hb dX6_checksum_99 rfl (lv_at hl 0 rfl) ?_
      refine lv_i2l (pc := 100) hx hb dX6_checksum_100 rfl ?_
      refine lv_ladd (pc := 101) hx hb dX6_checksum_101 ?_
      refine lv_topl (fun w23 ew23 => ?_)
      replace hf := o_letE ew23 hf
      refine lv_lstore_n (pc := 102) (lv' := [(1, .long w23), (3, .int x12), (0, .ref (h 0))]) hx hb dX6_checksum_102 rfl hl (by decide) rfl (fun ls hl => ?_)
      refine lv_aload_n (pc := 103) hx hb dX6_checksum_103 rfl (lv_at hl 2 rfl) ?_
      refine lv_iload_n (pc := 104) hx hb dX6_checksum_104 rfl (lv_at hl 1 rfl) ?_
      obtain ⟨⟨a24, a25, a26, a27, a28, x29, a30, a31, a32⟩, q33, hf⟩ := o_bindE hf
      refine z_callVv (pc := 105) (As := [.int x12]) (rest := []) (Wc := (W_X6_layChoice cA (fun k => h ([0, 1, 2, 3, 4, 5, 6, 7, 8, 9, 10, 11, 12, 13, 14, 15, 16, 17, 18, 19].getD k 0)) (0 : Int32) m_bufferLength m_textLength m_position m_error m_errorAt m_errorOffset a13 m_undoDepth m_numberStart m_seen a14 a15 a16 a17 x18 a19 a20 a21)) (W1 := (W_X6_layChoice cA (fun k => h ([0, 1, 2, 3, 4, 5, 6, 7, 8, 9, 10, 11, 12, 13, 14, 15, 16, 17, 18, 19].getD k 0)) (0 : Int32) m_bufferLength m_textLength m_position m_error m_errorAt m_errorOffset a24 m_undoDepth m_numberStart m_seen a25 a26 a27 a28 x29 a30 a31 a32)) (W2 := (W_X6_checksum cA h (0 : Int32) m_bufferLength m_textLength m_position m_error m_errorAt m_errorOffset a24 m_undoDepth m_numberStart m_seen a25 a26 a27 a28 x29 a30 a31 a32)) ⟨hx, hb, hml, hown, hts⟩ (kX6_layChoice l D cA (fun k => h ([0, 1, 2, 3, 4, 5, 6, 7, 8, 9, 10, 11, 12, 13, 14, 15, 16, 17, 18, 19].getD k 0)) x12 (0 : Int32) m_bufferLength m_textLength m_position m_error m_errorAt m_errorOffset a13 m_undoDepth m_numberStart m_seen a14 a15 a16 a17 x18 a19 a20 a21 _ q33) (cwV 1 hts gX6_checksum_X6_layChoice rfl rfl rfl (by decide +kernel) ⟨Nat.le_of_ble_eq_true rfl, Nat.le_of_ble_eq_true rfl⟩) Z hA [0, 1, 2, 3, 4, 5, 6, 7, 8] rfl (by decide) rfl (ci := 6) rfl rfl rfl rfl hl.1 rfl (Nat.le_of_ble_eq_true rfl) dX6_checksum_105 ⟨Nat.zero_le _, Nat.zero_le _⟩ [some 0, some 1, some 2, some 3, some 4, some 5, some 6, some 7, some 8] rfl ⟨rfl, rfl, rfl, rfl, rfl, rfl, rfl, rfl, rfl, rfl⟩ (fun H locs Z => ?_)
      refine lv_iconst (pc := 108) (v := (0 : Int32)) hx hb dX6_checksum_108 (by decide) ?_
      refine lv_istore (pc := 109) (lv' := [(4, .int (0 : Int32)), (1, .long w23), (3, .int x12), (0, .ref (h 0))]) hx hb dX6_checksum_109 hl (by decide) rfl (fun ls hl => ?_)
      have hL111 : ∀ (n0 : Nat) (w34 : Int64) (x35 : Int32) (H : Heap) (locs : List Loc) (ls : Array Slot), zw D (zTY cA) s A (W_X6_checksum cA h (0 : Int32) m_bufferLength m_textLength m_position m_error m_errorAt m_errorOffset a24 m_undoDepth m_numberStart m_seen a25 a26 a27 a28 x29 a30 a31 a32) H locs → lv_has ls 5 [(0, .ref (h 0)), (1, .long w34), (4, .int x35)] → fX6_checksum_L111 a24 a25 a26 a27 a28 x29 a30 a31 a32 n0 w34 x35 = some u → W p l e ({ frames := 8, cells := 0, slots := 0, locals := 187 } : Room) s m args below meth c H locs 0 0 (MQ below (zQl D (zTY cA) A (W_X6_checksum cA h (u.2.1) m_bufferLength m_textLength m_position m_error m_errorAt m_errorOffset (u.2.2.1) m_undoDepth m_numberStart m_seen (u.2.2.2.1) (u.2.2.2.2.1) (u.2.2.2.2.2.1) (u.2.2.2.2.2.2.1) (u.2.2.2.2.2.2.2.1) (u.2.2.2.2.2.2.2.2.1) (u.2.2.2.2.2.2.2.2.2.1) (u.2.2.2.2.2.2.2.2.2.2)) u.1) args s 0 0 A) (F0 m 111 ls []) := by
        intro n0
        induction n0 with
        | zero => intro w34 x35 H locs ls Z hl hf; exact o_no hf
        | succ n0 ih0 =>
          intro w34 x35 H locs ls Z hl hf
          refine lv_iload (pc := 111) hx hb dX6_checksum_111 (lv_at hl 2 rfl) ?_
          refine lv_bipush (pc := 113) (v := (7 : Int32)) hx hb dX6_checksum_113 (by decide) ?_
          refine lv_icmp_ge (pc := 115) (tgt := 139) hx hb dX6_checksum_115 (by decide) (fun c36 => ?_) (fun c36 => ?_)
          · replace hf := o_pos c36 hf
            refine lv_lload_n (pc := 139) hx hb dX6_checksum_139 rfl (lv_at hl 1 rfl) ?_
            cases hf
            exact z_lret (pc := 140) hx hb hr hlocks Z rfl rfl dX6_checksum_140
          · replace hf := o_neg c36 hf
            refine lv_ldc2 (pc := 118) (v := (31 : Int64)) hx hb hown (hts _ (List.mem_of_getElem? (i := 2) rfl)) dX6_checksum_118 ?_
            refine lv_lload_n (pc := 121) hx hb dX6_checksum_121 rfl (lv_at hl 1 rfl) ?_
            refine lv_lmul (pc := 122) hx hb dX6_checksum_122 ?_
            refine lv_aload_n (pc := 123) hx hb dX6_checksum_123 rfl (lv_at hl 0 rfl) ?_
            refine z_get (pc := 124) (ref := "LotSheetModel") (ci := 6) (C := RX6) (T := TX6) (N := 22) hx hb hts iw_X6_checksum_X6 hown Z 0 rfl rfl 20 (by decide) (List.mem_of_getElem? (i := 4) rfl) rfl rfl dX6_checksum_124 ?_
            refine lv_iload (pc := 127) hx hb dX6_checksum_127 (lv_at hl 2 rfl) ?_
            obtain ⟨i37, hf⟩ := o_rdE hf
            refine z_iald (pc := 129) hx hb Z 7 0 rfl rfl i37 dX6_checksum_129 ?_
            refine lv_i2l (pc := 130) hx hb dX6_checksum_130 rfl ?_
            refine lv_ladd (pc := 131) hx hb dX6_checksum_131 ?_
            refine lv_topl (fun w38 ew38 => ?_)
            replace hf := o_letE ew38 hf
            refine lv_lstore_n (pc := 132) (lv' := [(1, .long w38), (0, .ref (h 0)), (4, .int x35)]) hx hb dX6_checksum_132 rfl hl (by decide) rfl (fun ls hl => ?_)
            obtain ⟨x39, ex39⟩ : ∃ y : Int32, y = (x35 + (1 : Int32)) := ⟨_, rfl⟩
            replace hf := o_letE ex39 hf
            refine lv_iinc (pc := 133) (v := x39) (lv' := [(4, .int x39), (1, .long w38), (0, .ref (h 0))]) hx hb dX6_checksum_133 hl (k := 2) rfl (by rw [ex39]; rfl) (by decide) rfl (fun ls hl => ?_)
            refine lv_goto (pc := 136) (tgt := 111) hx hb dX6_checksum_136 (by decide) ?_
            exact ih0 w38 x39 H locs ls Z (lv_sub hl [2, 1, 0] rfl) hf
      exact hL111 1024 w23 (0 : Int32) H locs ls Z (lv_sub hl [3, 1, 0] rfl) hf
    have hL40 : ∀ (n0 : Nat) (w40 : Int64) (x41 : Int32) (H : Heap) (locs : List Loc) (ls : Array Slot), zw D (zTY cA) s A (W_X6_checksum cA h (0 : Int32) m_bufferLength m_textLength m_position m_error m_errorAt m_errorOffset m_data m_undoDepth m_numberStart m_seen a2 a3 a4 a5 x6 m_before m_told m_wasPrinted) H locs → lv_has ls 5 [(0, .ref (h 0)), (1, .long w40), (3, .int x41)] → fX6_checksum_L40 m_data j87_11 a2 a3 a4 n0 w40 x41 = some u → W p l e ({ frames := 8, cells := 0, slots := 0, locals := 187 } : Room) s m args below meth c H locs 0 0 (MQ below (zQl D (zTY cA) A (W_X6_checksum cA h (u.2.1) m_bufferLength m_textLength m_position m_error m_errorAt m_errorOffset (u.2.2.1) m_undoDepth m_numberStart m_seen (u.2.2.2.1) (u.2.2.2.2.1) (u.2.2.2.2.2.1) (u.2.2.2.2.2.2.1) (u.2.2.2.2.2.2.2.1) (u.2.2.2.2.2.2.2.2.1) (u.2.2.2.2.2.2.2.2.2.1) (u.2.2.2.2.2.2.2.2.2.2)) u.1) args s 0 0 A) (F0 m 40 ls []) := by
      intro n0
      induction n0 with
      | zero => intro w40 x41 H locs ls Z hl hf; exact o_no hf
      | succ n0 ih0 =>
        intro w40 x41 H locs ls Z hl hf
        refine lv_iload_n (pc := 40) hx hb dX6_checksum_40 rfl (lv_at hl 2 rfl) ?_
        refine lv_aload_n (pc := 41) hx hb dX6_checksum_41 rfl (lv_at hl 0 rfl) ?_
        refine z_get (pc := 42) (ref := "LotSheetModel") (ci := 6) (C := RX6) (T := TX6) (N := 22) hx hb hts iw_X6_checksum_X6 hown Z 0 rfl rfl 8 (by decide) (List.mem_of_getElem? (i := 3) rfl) rfl rfl dX6_checksum_42 ?_
        refine lv_iconst (pc := 45) (v := (1 : Int32)) hx hb dX6_checksum_45 (by decide) ?_
        refine z_iald (pc := 46) hx hb Z 1 0 rfl rfl (show ¬ ((1 : Int32) < 0 ∨ 153 ≤ (1 : Int32).toNatClampNeg) by decide) dX6_checksum_46 ?_
        refine lv_icmp_ge (pc := 47) (tgt := 87) hx hb dX6_checksum_47 (by decide) (fun c42 => ?_) (fun c42 => ?_)
        · replace hf := o_pos c42 hf
          exact hj87_11 w40 H locs ls Z (lv_sub hl [0, 1] rfl) hf
        · replace hf := o_neg c42 hf
          refine lv_iconst (pc := 50) (v := (0 : Int32)) hx hb dX6_checksum_50 (by decide) ?_
          refine lv_istore (pc := 51) (lv' := [(4, .int (0 : Int32)), (0, .ref (h 0)), (1, .long w40), (3, .int x41)]) hx hb dX6_checksum_51 hl (by decide) rfl (fun ls hl => ?_)
          obtain ⟨j81_44, ej81_44, hf⟩ := o_jnE hf
          have hj81_44 : ∀ (w43 : Int64) (H : Heap) (locs : List Loc) (ls : Array Slot), zw D (zTY cA) s A (W_X6_checksum cA h (0 : Int32) m_bufferLength m_textLength m_position m_error m_errorAt m_errorOffset m_data m_undoDepth m_numberStart m_seen a2 a3 a4 a5 x6 m_before m_told m_wasPrinted) H locs → lv_has ls 5 [(0, .ref (h 0)), (1, .long w43), (3, .int x41)] → j81_44 w43 = some u → W p l e ({ frames := 8, cells := 0, slots := 0, locals := 187 } : Room) s m args below meth c H locs 0 0 (MQ below (zQl D (zTY cA) A (W_X6_checksum cA h (u.2.1) m_bufferLength m_textLength m_position m_error m_errorAt m_errorOffset (u.2.2.1) m_undoDepth m_numberStart m_seen (u.2.2.2.1) (u.2.2.2.2.1) (u.2.2.2.2.2.1) (u.2.2.2.2.2.2.1) (u.2.2.2.2.2.2.2.1) (u.2.2.2.2.2.2.2.2.1) (u.2.2.2.2.2.2.2.2.2.1) (u.2.2.2.2.2.2.2.2.2.2)) u.1) args s 0 0 A) (F0 m 81 ls []) := by
            intro w43 H locs ls Z hl hf
            rw [ej81_44] at hf
            obtain ⟨x45, ex45⟩ : ∃ y : Int32, y = (x41 + (1 : Int32)) := ⟨_, rfl⟩
            replace hf := o_letE ex45 hf
            refine lv_iinc (pc := 81) (v := x45) (lv' := [(3, .int x45), (0, .ref (h 0)), (1, .long w43)]) hx hb dX6_checksum_81 hl (k := 2) rfl (by rw [ex45]; rfl) (by decide) rfl (fun ls hl => ?_)
            refine lv_goto (pc := 84) (tgt := 40) hx hb dX6_checksum_84 (by decide) ?_
            exact ih0 w43 x45 H locs ls Z (lv_sub hl [1, 2, 0] rfl) hf
          have hL53 : ∀ (n1 : Nat) (w46 : Int64) (x47 : Int32) (H : Heap) (locs : List Loc) (ls : Array Slot), zw D (zTY cA) s A (W_X6_checksum cA h (0 : Int32) m_bufferLength m_textLength m_position m_error m_errorAt m_errorOffset m_data m_undoDepth m_numberStart m_seen a2 a3 a4 a5 x6 m_before m_told m_wasPrinted) H locs → lv_has ls 5 [(0, .ref (h 0)), (1, .long w46), (3, .int x41), (4, .int x47)] → fX6_checksum_L53 j81_44 x41 m_data a2 a3 a4 n1 w46 x47 = some u → W p l e ({ frames := 8, cells := 0, slots := 0, locals := 187 } : Room) s m args below meth c H locs 0 0 (MQ below (zQl D (zTY cA) A (W_X6_checksum cA h (u.2.1) m_bufferLength m_textLength m_position m_error m_errorAt m_errorOffset (u.2.2.1) m_undoDepth m_numberStart m_seen (u.2.2.2.1) (u.2.2.2.2.1) (u.2.2.2.2.2.1) (u.2.2.2.2.2.2.1) (u.2.2.2.2.2.2.2.1) (u.2.2.2.2.2.2.2.2.1) (u.2.2.2.2.2.2.2.2.2.1) (u.2.2.2.2.2.2.2.2.2.2)) u.1) args s 0 0 A) (F0 m 53 ls []) := by
            intro n1
            induction n1 with
            | zero => intro w46 x47 H locs ls Z hl hf; exact o_no hf
            | succ n1 ih1 =>
              intro w46 x47 H locs ls Z hl hf
              refine lv_iload (pc := 53) hx hb dX6_checksum_53 (lv_at hl 3 rfl) ?_
              refine lv_bipush (pc := 55) (v := (9 : Int32)) hx hb dX6_checksum_55 (by decide) ?_
              refine lv_icmp_ge (pc := 57) (tgt := 81) hx hb dX6_checksum_57 (by decide) (fun c48 => ?_) (fun c48 => ?_)
              · replace hf := o_pos c48 hf
                exact hj81_44 w46 H locs ls Z (lv_sub hl [0, 1, 2] rfl) hf
              · replace hf := o_neg c48 hf
                refine lv_ldc2 (pc := 60) (v := (31 : Int64)) hx hb hown (hts _ (List.mem_of_getElem? (i := 2) rfl)) dX6_checksum_60 ?_
                refine lv_lload_n (pc := 63) hx hb dX6_checksum_63 rfl (lv_at hl 1 rfl) ?_
                refine lv_lmul (pc := 64) hx hb dX6_checksum_64 ?_
                refine lv_aload_n (pc := 65) hx hb dX6_checksum_65 rfl (lv_at hl 0 rfl) ?_
                refine lv_iload_n (pc := 66) hx hb dX6_checksum_66 rfl (lv_at hl 2 rfl) ?_
                refine lv_iload (pc := 67) hx hb dX6_checksum_67 (lv_at hl 3 rfl) ?_
                obtain ⟨x49, q50, hf⟩ := o_bindE hf
                refine z_callVi (pc := 69) (As := [.int x41, .int x47]) (rest := [.long ((31 : Int64) * w46)]) (Wc := (W_X6_toldLot cA (fun k => h ([0, 1, 2, 3, 4, 5, 6, 7, 8, 9, 10, 11, 12, 13, 14, 15, 16, 17, 18, 19].getD k 0)) (0 : Int32) m_bufferLength m_textLength m_position m_error m_errorAt m_errorOffset m_data m_undoDepth m_numberStart m_seen a2 a3 a4 x6)) (W1 := (W_X6_toldLot cA (fun k => h ([0, 1, 2, 3, 4, 5, 6, 7, 8, 9, 10, 11, 12, 13, 14, 15, 16, 17, 18, 19].getD k 0)) (0 : Int32) m_bufferLength m_textLength m_position m_error m_errorAt m_errorOffset m_data m_undoDepth m_numberStart m_seen a2 a3 a4 x6)) (W2 := (W_X6_checksum cA h (0 : Int32) m_bufferLength m_textLength m_position m_error m_errorAt m_errorOffset m_data m_undoDepth m_numberStart m_seen a2 a3 a4 a5 x6 m_before m_told m_wasPrinted)) ⟨hx, hb, hml, hown, hts⟩ (kX6_toldLot l D cA (fun k => h ([0, 1, 2, 3, 4, 5, 6, 7, 8, 9, 10, 11, 12, 13, 14, 15, 16, 17, 18, 19].getD k 0)) x41 x47 (0 : Int32) m_bufferLength m_textLength m_position m_error m_errorAt m_errorOffset m_data m_undoDepth m_numberStart m_seen a2 a3 a4 x6 _ q50) (cwV 2 hts gX6_checksum_X6_toldLot rfl rfl rfl (by decide +kernel) ⟨Nat.le_of_ble_eq_true rfl, Nat.le_of_ble_eq_true rfl⟩) Z hA [0, 1, 2, 3, 4] rfl (by decide) rfl (ci := 6) rfl rfl rfl rfl hl.1 rfl (Nat.le_of_ble_eq_true rfl) dX6_checksum_69 ⟨Nat.zero_le _, Nat.zero_le _⟩ [some 0, some 1, some 2, some 3, some 4, none, none, none, none] rfl ⟨rfl, rfl, rfl, rfl, rfl, rfl, rfl, rfl, rfl, rfl⟩ (fun H locs Z => ?_)
                refine lv_i2l (pc := 72) hx hb dX6_checksum_72 rfl ?_
                refine lv_ladd (pc := 73) hx hb dX6_checksum_73 ?_
                refine lv_topl (fun w51 ew51 => ?_)
                replace hf := o_letE ew51 hf
                refine lv_lstore_n (pc := 74) (lv' := [(1, .long w51), (0, .ref (h 0)), (3, .int x41), (4, .int x47)]) hx hb dX6_checksum_74 rfl hl (by decide) rfl (fun ls hl => ?_)
                obtain ⟨x52, ex52⟩ : ∃ y : Int32, y = (x47 + (1 : Int32)) := ⟨_, rfl⟩
                replace hf := o_letE ex52 hf
                refine lv_iinc (pc := 75) (v := x52) (lv' := [(4, .int x52), (1, .long w51), (0, .ref (h 0)), (3, .int x41)]) hx hb dX6_checksum_75 hl (k := 3) rfl (by rw [ex52]; rfl) (by decide) rfl (fun ls hl => ?_)
                refine lv_goto (pc := 78) (tgt := 53) hx hb dX6_checksum_78 (by decide) ?_
                exact ih1 w51 x52 H locs ls Z (lv_sub hl [2, 1, 3, 0] rfl) hf
          exact hL53 1024 w40 (0 : Int32) H locs ls Z (lv_sub hl [1, 2, 3, 0] rfl) hf
    exact hL40 1024 w8 (0 : Int32) H locs ls Z (lv_sub hl [1, 2, 0] rfl) hf
  have hL13 : ∀ (n0 : Nat) (w53 : Int64) (x54 : Int32) (H : Heap) (locs : List Loc) (ls : Array Slot), zw D (zTY cA) s A (W_X6_checksum cA h (0 : Int32) m_bufferLength m_textLength m_position m_error m_errorAt m_errorOffset m_data m_undoDepth m_numberStart m_seen a2 a3 a4 a5 x6 m_before m_told m_wasPrinted) H locs → lv_has ls 5 [(0, .ref (h 0)), (1, .long w53), (3, .int x54)] → fX6_checksum_L13 j38_9 m_data a3 x6 n0 w53 x54 = some u → W p l e ({ frames := 8, cells := 0, slots := 0, locals := 187 } : Room) s m args below meth c H locs 0 0 (MQ below (zQl D (zTY cA) A (W_X6_checksum cA h (u.2.1) m_bufferLength m_textLength m_position m_error m_errorAt m_errorOffset (u.2.2.1) m_undoDepth m_numberStart m_seen (u.2.2.2.1) (u.2.2.2.2.1) (u.2.2.2.2.2.1) (u.2.2.2.2.2.2.1) (u.2.2.2.2.2.2.2.1) (u.2.2.2.2.2.2.2.2.1) (u.2.2.2.2.2.2.2.2.2.1) (u.2.2.2.2.2.2.2.2.2.2)) u.1) args s 0 0 A) (F0 m 13 ls []) := by
    intro n0
    induction n0 with
    | zero => intro w53 x54 H locs ls Z hl hf; exact o_no hf
    | succ n0 ih0 =>
      intro w53 x54 H locs ls Z hl hf
      refine lv_iload_n (pc := 13) hx hb dX6_checksum_13 rfl (lv_at hl 2 rfl) ?_
      refine lv_bipush (pc := 14) (v := (12 : Int32)) hx hb dX6_checksum_14 (by decide) ?_
      refine lv_icmp_ge (pc := 16) (tgt := 38) hx hb dX6_checksum_16 (by decide) (fun c55 => ?_) (fun c55 => ?_)
      · replace hf := o_pos c55 hf
        exact hj38_9 w53 H locs ls Z (lv_sub hl [0, 1] rfl) hf
      · replace hf := o_neg c55 hf
        refine lv_ldc2 (pc := 19) (v := (31 : Int64)) hx hb hown (hts _ (List.mem_of_getElem? (i := 2) rfl)) dX6_checksum_19 ?_
        refine lv_lload_n (pc := 22) hx hb dX6_checksum_22 rfl (lv_at hl 1 rfl) ?_
        refine lv_lmul (pc := 23) hx hb dX6_checksum_23 ?_
        refine lv_aload_n (pc := 24) hx hb dX6_checksum_24 rfl (lv_at hl 0 rfl) ?_
        refine lv_iload_n (pc := 25) hx hb dX6_checksum_25 rfl (lv_at hl 2 rfl) ?_
        obtain ⟨x56, q57, hf⟩ := o_bindE hf
        refine z_callVi (pc := 26) (As := [.int x54]) (rest := [.long ((31 : Int64) * w53)]) (Wc := (W_X6_toldState cA (fun k => h ([0, 1, 2, 3, 4, 5, 6, 7, 8, 9, 10, 11, 12, 13, 14, 15, 16, 17, 18, 19].getD k 0)) (0 : Int32) m_bufferLength m_textLength m_position m_error m_errorAt m_errorOffset m_data m_undoDepth m_numberStart m_seen a3 x6)) (W1 := (W_X6_toldState cA (fun k => h ([0, 1, 2, 3, 4, 5, 6, 7, 8, 9, 10, 11, 12, 13, 14, 15, 16, 17, 18, 19].getD k 0)) (0 : Int32) m_bufferLength m_textLength m_position m_error m_errorAt m_errorOffset m_data m_undoDepth m_numberStart m_seen a3 x6)) (W2 := (W_X6_checksum cA h (0 : Int32) m_bufferLength m_textLength m_position m_error m_errorAt m_errorOffset m_data m_undoDepth m_numberStart m_seen a2 a3 a4 a5 x6 m_before m_told m_wasPrinted)) ⟨hx, hb, hml, hown, hts⟩ (kX6_toldState l D cA (fun k => h ([0, 1, 2, 3, 4, 5, 6, 7, 8, 9, 10, 11, 12, 13, 14, 15, 16, 17, 18, 19].getD k 0)) x54 (0 : Int32) m_bufferLength m_textLength m_position m_error m_errorAt m_errorOffset m_data m_undoDepth m_numberStart m_seen a3 x6 _ q57) (cwV 1 hts gX6_checksum_X6_toldState rfl rfl rfl (by decide +kernel) ⟨Nat.le_of_ble_eq_true rfl, Nat.le_of_ble_eq_true rfl⟩) Z hA [0, 1, 3] rfl (by decide) rfl (ci := 6) rfl rfl rfl rfl hl.1 rfl (Nat.le_of_ble_eq_true rfl) dX6_checksum_26 ⟨Nat.zero_le _, Nat.zero_le _⟩ [some 0, some 1, none, some 2, none, none, none, none, none] rfl ⟨rfl, rfl, rfl, rfl, rfl, rfl, rfl, rfl, rfl, rfl⟩ (fun H locs Z => ?_)
        refine lv_i2l (pc := 29) hx hb dX6_checksum_29 rfl ?_
        refine lv_ladd (pc := 30) hx hb dX6_checksum_30 ?_
        refine lv_topl (fun w58 ew58 => ?_)
        replace hf := o_letE ew58 hf
        refine lv_lstore_n (pc := 31) (lv' := [(1, .long w58), (0, .ref (h 0)), (3, .int x54)]) hx hb dX6_checksum_31 rfl hl (by decide) rfl (fun ls hl => ?_)
        obtain ⟨x59, ex59⟩ : ∃ y : Int32, y = (x54 + (1 : Int32)) := ⟨_, rfl⟩
        replace hf := o_letE ex59 hf
        refine lv_iinc (pc := 32) (v := x59) (lv' := [(3, .int x59), (1, .long w58), (0, .ref (h 0))]) hx hb dX6_checksum_32 hl (k := 2) rfl (by rw [ex59]; rfl) (by decide) rfl (fun ls hl => ?_)
        refine lv_goto (pc := 35) (tgt := 13) hx hb dX6_checksum_35 (by decide) ?_
        exact ih0 w58 x59 H locs ls Z (lv_sub hl [2, 1, 0] rfl) hf
  exact hL13 1024 w1 (0 : Int32) H locs ls Z (lv_sub hl [2, 1, 0] rfl) hf
