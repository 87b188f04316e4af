def W_X6_layChoice (cA : Nat → ClassId) (h : Nat → Nat) (m_thrown : Int32) (m_bufferLength : Int32) (m_textLength : Int32) (m_position : Int32) (m_error : Int32) (m_errorAt : Int32) (m_errorOffset : Int32) (m_data : Nat → Int32) (m_undoDepth : Int32) (m_numberStart : Int32) (m_seen : Int32) (m_numberOf : Nat → Int32) (m_pageOf : Nat → Int32) (m_lineOf : Nat → Int32) (m_stands : Nat → Int32) (m_pages : Int32) (m_before : Nat → Int32) (m_told : Nat → Int32) (m_wasPrinted : Nat → Int32) : va_W := [(h 0, .inr (6, [.int m_thrown, .ref (h 1), .int m_bufferLength, .int m_textLength, .int m_position, .int m_error, .int m_errorAt, .int m_errorOffset, .ref (h 2), .ref (h 3), .ref (h 4), .int m_undoDepth, .int m_numberStart, .int m_seen, .ref (h 13), .ref (h 14), .ref (h 15), .ref (h 16), .int m_pages, .ref (h 17), .ref (h 18), .ref (h 19)])), (h 2, .inl (cA 0, 153, .inl m_data)), (h 13, .inl (cA 0, 24, .inl m_numberOf)), (h 14, .inl (cA 0, 24, .inl m_pageOf)), (h 15, .inl (cA 0, 24, .inl m_lineOf)), (h 16, .inl (cA 0, 960, .inl m_stands)), (h 17, .inl (cA 0, 960, .inl m_before)), (h 18, .inl (cA 0, 7, .inl m_told)), (h 19, .inl (cA 0, 24, .inl m_wasPrinted))]
def fX6_layChoice_L368 (a23 : Nat → Int32) (a17 : Nat → Int32) (a18 : Nat → Int32) (a19 : Nat → Int32) (a20 : Nat → Int32) (x21 : Int32) (a10 : Nat → Int32) (a15 : Nat → Int32) : Nat → Int32 → (Nat → Int32) → Option ((Nat → Int32) × (Nat → Int32) × (Nat → Int32) × (Nat → Int32) × (Nat → Int32) × Int32 × (Nat → Int32) × (Nat → Int32) × (Nat → Int32))
  | 0, _, _ => none
  | n0 + 1, x37, a38 => (if (5 : Int32) ≤ x37 then some (a23, a17, a18, a19, a20, x21, a10, a38, a15) else o_rd 7 (x37 + (1 : Int32)) (o_rd 153 ((4 : Int32) + x37) (o_let (upd a38 (0 : Int32).toNatClampNeg ((a38 (0 : Int32).toNatClampNeg) + ((a38 (x37 + (1 : Int32)).toNatClampNeg) * (a23 ((4 : Int32) + x37).toNatClampNeg)))) (fun a42 => o_let (x37 + (1 : Int32)) (fun x43 => (fX6_layChoice_L368 a23 a17 a18 a19 a20 x21 a10 a15 n0 x43 a42))))))
def fX6_layChoice_L204 (j292_28 : Int32 → Int32 → Int32 → Option ((Nat → Int32) × (Nat → Int32) × (Nat → Int32) × (Nat → Int32) × (Nat → Int32) × Int32 × (Nat → Int32) × (Nat → Int32) × (Nat → Int32))) (a17 : Nat → Int32) (a20 : Nat → Int32) (a10 : Nat → Int32) (x1 : Int32) : Nat → Int32 → Int32 → Int32 → Int32 → Int32 → Int32 → Option ((Nat → Int32) × (Nat → Int32) × (Nat → Int32) × (Nat → Int32) × (Nat → Int32) × Int32 × (Nat → Int32) × (Nat → Int32) × (Nat → Int32))
  | 0, _, _, _, _, _, _ => none
  | n0 + 1, x44, x45, x46, x47, x48, x49 => (if (960 : Int32) ≤ x49 then (j292_28 x44 x45 x46) else o_rd 960 x49 (o_bind (fX6_signOf x49 a17 a20) (fun x52 => (if (a10 x49.toNatClampNeg) = x52 then o_let (x49 + (1 : Int32)) (fun x68 => (fX6_layChoice_L204 j292_28 a17 a20 a10 x1 n0 x44 x45 x46 x47 x48 x68)) else o_as (¬ x1 = 0) (o_let (x49 / x1) (fun x56 => o_let (x44 + (1 : Int32)) (fun x57 => o_let (fun (x59 : Int32) => o_let (x45 + x59) (fun x61 => o_let (fun (x63 : Int32) => o_let (x46 + x63) (fun x65 => o_let (x56 / (4 : Int32)) (fun x66 => o_let (x49 + (1 : Int32)) (fun x67 => (fX6_layChoice_L204 j292_28 a17 a20 a10 x1 n0 x57 x61 x65 x56 x66 x67))))) (fun (j273_64 : Int32 → Option ((Nat → Int32) × (Nat → Int32) × (Nat → Int32) × (Nat → Int32) × (Nat → Int32) × Int32 × (Nat → Int32) × (Nat → Int32) × (Nat → Int32))) => (if (x56 / (4 : Int32)) = x48 then (j273_64 (0 : Int32)) else (j273_64 (1 : Int32)))))) (fun (j254_60 : Int32 → Option ((Nat → Int32) × (Nat → Int32) × (Nat → Int32) × (Nat → Int32) × (Nat → Int32) × Int32 × (Nat → Int32) × (Nat → Int32) × (Nat → Int32))) => (if x56 = x47 then (j254_60 (0 : Int32)) else (j254_60 (1 : Int32)))))))))))
def fX6_layChoice_L170 (j201_24 : (Nat → Int32) → Option ((Nat → Int32) × (Nat → Int32) × (Nat → Int32) × (Nat → Int32) × (Nat → Int32) × Int32 × (Nat → Int32) × (Nat → Int32) × (Nat → Int32))) (a15 : Nat → Int32) : Nat → Int32 → (Nat → Int32) → Option ((Nat → Int32) × (Nat → Int32) × (Nat → Int32) × (Nat → Int32) × (Nat → Int32) × Int32 × (Nat → Int32) × (Nat → Int32) × (Nat → Int32))
  | 0, _, _ => none
  | n0 + 1, x69, a70 => (if (a70 (1 : Int32).toNatClampNeg) ≤ x69 then (j201_24 a70) else o_rd 24 x69 (o_bind (fX6_set x69 (3 : Int32) (a15 x69.toNatClampNeg) a70) (fun a73 => o_let (x69 + (1 : Int32)) (fun x75 => (fX6_layChoice_L170 j201_24 a15 n0 x75 a73)))))
def fX6_layChoice_L107 (j163_16 : (Nat → Int32) → (Nat → Int32) → Option ((Nat → Int32) × (Nat → Int32) × (Nat → Int32) × (Nat → Int32) × (Nat → Int32) × Int32 × (Nat → Int32) × (Nat → Int32) × (Nat → Int32))) (x12 : Int32) : Nat → Int32 → (Nat → Int32) → (Nat → Int32) → Option ((Nat → Int32) × (Nat → Int32) × (Nat → Int32) × (Nat → Int32) × (Nat → Int32) × Int32 × (Nat → Int32) × (Nat → Int32) × (Nat → Int32))
  | 0, _, _, _ => none
  | n0 + 1, x76, a77, a78 => (if (a77 (1 : Int32).toNatClampNeg) ≤ x76 then (j163_16 a77 a78) else o_bind (fX6_of x76 (3 : Int32) a77) (fun x80 => o_rd 24 x76 (o_let (upd a78 x76.toNatClampNeg x80) (fun a83 => (if ((x12 >>> (x76 &&& 31)) &&& (1 : Int32)) = (1 : Int32) then o_bind (fX6_of x76 (4 : Int32) a77) (fun x86 => o_bind (fX6_set x76 (3 : Int32) x86 a77) (fun a88 => o_let (x76 + (1 : Int32)) (fun x90 => (fX6_layChoice_L107 j163_16 x12 n0 x90 a88 a83)))) else o_let (x76 + (1 : Int32)) (fun x85 => (fX6_layChoice_L107 j163_16 x12 n0 x85 a77 a83)))))))
def fX6_layChoice_L68 (m_data : Nat → Int32) (j104_13 : Int32 → Option ((Nat → Int32) × (Nat → Int32) × (Nat → Int32) × (Nat → Int32) × (Nat → Int32) × Int32 × (Nat → Int32) × (Nat → Int32) × (Nat → Int32))) (p1 : Int32) : Nat → Int32 → Int32 → Option ((Nat → Int32) × (Nat → Int32) × (Nat → Int32) × (Nat → Int32) × (Nat → Int32) × Int32 × (Nat → Int32) × (Nat → Int32) × (Nat → Int32))
  | 0, _, _ => none
  | n0 + 1, x91, x92 => (if (m_data (1 : Int32).toNatClampNeg) ≤ x92 then (j104_13 x91) else o_bind (fX6_isChosen p1 x92 m_data) (fun x94 => (if x94 = 0 then o_let (x92 + (1 : Int32)) (fun x97 => (fX6_layChoice_L68 m_data j104_13 p1 n0 x91 x97)) else o_let (x91 ||| ((1 : Int32) <<< (x92 &&& 31))) (fun x98 => o_let (x92 + (1 : Int32)) (fun x99 => (fX6_layChoice_L68 m_data j104_13 p1 n0 x98 x99))))))
def fX6_layChoice_L38 (j65_11 : (Nat → Int32) → Option ((Nat → Int32) × (Nat → Int32) × (Nat → Int32) × (Nat → Int32) × (Nat → Int32) × Int32 × (Nat → Int32) × (Nat → Int32) × (Nat → Int32))) (a4 : Nat → Int32) (a7 : Nat → Int32) : Nat → Int32 → (Nat → Int32) → Option ((Nat → Int32) × (Nat → Int32) × (Nat → Int32) × (Nat → Int32) × (Nat → Int32) × Int32 × (Nat → Int32) × (Nat → Int32) × (Nat → Int32))
  | 0, _, _ => none
  | n0 + 1, x100, a101 => (if (960 : Int32) ≤ x100 then (j65_11 a101) else o_bind (fX6_signOf x100 a4 a7) (fun x103 => o_rd 960 x100 (o_let (upd a101 x100.toNatClampNeg x103) (fun a106 => o_let (x100 + (1 : Int32)) (fun x107 => (fX6_layChoice_L38 j65_11 a4 a7 n0 x107 a106))))))
def fX6_layChoice (p1 : Int32) (m_data : Nat → Int32) (m_numberOf : Nat → Int32) (m_pageOf : Nat → Int32) (m_lineOf : Nat → Int32) (m_stands : Nat → Int32) (m_pages : Int32) (m_before : Nat → Int32) (m_told : Nat → Int32) (m_wasPrinted : Nat → Int32) : Option ((Nat → Int32) × (Nat → Int32) × (Nat → Int32) × (Nat → Int32) × (Nat → Int32) × Int32 × (Nat → Int32) × (Nat → Int32) × (Nat → Int32)) := o_let (m_data (0 : Int32).toNatClampNeg) (fun x1 => o_bind (fX6_entries p1 m_data) (fun x2 => o_bind (fX6_lay m_data m_numberOf m_pageOf m_lineOf m_stands m_pages) (fun (a4, a5, a6, a7, x8) => o_let (fun (a10 : Nat → Int32) => o_let (fun (x12 : Int32) => o_let (fun (a14 : Nat → Int32) (a15 : Nat → Int32) => o_bind (fX6_lay a14 a4 a5 a6 a7 x8) (fun (a17, a18, a19, a20, x21) => o_let (fun (a23 : Nat → Int32) => o_let (fun (x25 : Int32) (x26 : Int32) (x27 : Int32) => o_let (upd m_told (1 : Int32).toNatClampNeg x25) (fun a29 => o_let (upd a29 (2 : Int32).toNatClampNeg x26) (fun a30 => o_let (upd a30 (3 : Int32).toNatClampNeg x27) (fun a31 => o_as (¬ (a23 (3 : Int32).toNatClampNeg) = 0) (o_let (upd a31 (4 : Int32).toNatClampNeg (((x2 + (a23 (3 : Int32).toNatClampNeg)) - (1 : Int32)) / (a23 (3 : Int32).toNatClampNeg))) (fun a33 => o_let (upd a33 (5 : Int32).toNatClampNeg x2) (fun a34 => o_let (upd a34 (6 : Int32).toNatClampNeg x21) (fun a35 => o_let (upd a35 (0 : Int32).toNatClampNeg (0 : Int32)) (fun a36 => (fX6_layChoice_L368 a23 a17 a18 a19 a20 x21 a10 a15 1024 (0 : Int32) a36)))))))))) (fun (j292_28 : Int32 → Int32 → Int32 → Option ((Nat → Int32) × (Nat → Int32) × (Nat → Int32) × (Nat → Int32) × (Nat → Int32) × Int32 × (Nat → Int32) × (Nat → Int32) × (Nat → Int32))) => (fX6_layChoice_L204 j292_28 a17 a20 a10 x1 1024 (0 : Int32) (0 : Int32) (0 : Int32) (-1 : Int32) (-1 : Int32) (0 : Int32)))) (fun (j201_24 : (Nat → Int32) → Option ((Nat → Int32) × (Nat → Int32) × (Nat → Int32) × (Nat → Int32) × (Nat → Int32) × Int32 × (Nat → Int32) × (Nat → Int32) × (Nat → Int32))) => (fX6_layChoice_L170 j201_24 a15 1024 (0 : Int32) a14)))) (fun (j163_16 : (Nat → Int32) → (Nat → Int32) → Option ((Nat → Int32) × (Nat → Int32) × (Nat → Int32) × (Nat → Int32) × (Nat → Int32) × Int32 × (Nat → Int32) × (Nat → Int32) × (Nat → Int32))) => (fX6_layChoice_L107 j163_16 x12 1024 (0 : Int32) m_data m_wasPrinted))) (fun (j104_13 : Int32 → Option ((Nat → Int32) × (Nat → Int32) × (Nat → Int32) × (Nat → Int32) × (Nat → Int32) × Int32 × (Nat → Int32) × (Nat → Int32) × (Nat → Int32))) => (fX6_layChoice_L68 m_data j104_13 p1 1024 (0 : Int32) (0 : Int32)))) (fun (j65_11 : (Nat → Int32) → Option ((Nat → Int32) × (Nat → Int32) × (Nat → Int32) × (Nat → Int32) × (Nat → Int32) × Int32 × (Nat → Int32) × (Nat → Int32) × (Nat → Int32))) => (fX6_layChoice_L38 j65_11 a4 a7 1024 (0 : Int32) m_before)))))
theorem iw_X6_layChoice_X6 : ∀ w ∈ u_ws RX6 TX6 22, w ∈ wsX6_layChoice := z_inr [49, 50, 51, 52, 53, 54, 55, 56, 57, 58, 59, 60, 61, 62, 63, 64, 65, 66, 67, 68, 69, 70] rfl
set_option maxHeartbeats 4000000 in
set_option maxRecDepth 100000 in
theorem kX6_layChoice (l : Launch) (D : va_G) (cA : Nat → ClassId) (h : Nat → Nat) (p1 : Int32) (m_thrown : Int32) (m_bufferLength : Int32) (m_textLength : Int32) (m_position : Int32) (m_error : Int32) (m_errorAt : Int32) (m_errorOffset : Int32) (m_data : Nat → Int32) (m_undoDepth : Int32) (m_numberStart : Int32) (m_seen : Int32) (m_numberOf : Nat → Int32) (m_pageOf : Nat → Int32) (m_lineOf : Nat → Int32) (m_stands : Nat → Int32) (m_pages : Int32) (m_before : Nat → Int32) (m_told : Nat → Int32) (m_wasPrinted : Nat → Int32) (u : (Nat → Int32) × (Nat → Int32) × (Nat → Int32) × (Nat → Int32) × (Nat → Int32) × Int32 × (Nat → Int32) × (Nat → Int32) × (Nat → Int32)) (hf : fX6_layChoice p1 m_data m_numberOf m_pageOf m_lineOf m_stands m_pages m_before m_told m_wasPrinted = some u) : zMv l yX6_layChoice wsX6_layChoice ({ frames := 5, cells := 0, slots := 0, locals := 109 } : Room) D (zTY cA) [.ref (h 0), .int p1] (W_X6_layChoice cA h m_thrown m_bufferLength m_textLength m_position m_error m_errorAt m_errorOffset m_data m_undoDepth m_numberStart m_seen m_numberOf m_pageOf m_lineOf m_stands m_pages m_before m_told m_wasPrinted) (W_X6_layChoice cA h m_thrown m_bufferLength m_textLength m_position m_error m_errorAt m_errorOffset (u.1) m_undoDepth m_numberStart m_seen (u.2.1) (u.2.2.1) (u.2.2.2.1) (u.2.2.2.2.1) (u.2.2.2.2.2.1) (u.2.2.2.2.2.2.1) (u.2.2.2.2.2.2.2.1) (u.2.2.2.2.2.2.2.2)) := by
  refine z_startv (cc := cX6_layChoice) (maxL := 12) (ret := none) (by decide) rfl (Nat.le_of_ble_eq_true rfl) ?_
  intro p e s m args below meth c A hx hb hr hts hown hlocks hml hA Z ls hl
  replace hown : s.vm.findClass RX6 = some m.cls := hown
  replace hl : lv_has ls 12 [(0, .ref (h 0)), (1, .int p1)] := hl
  obtain ⟨H, hH⟩ : ∃ H, H = s.heap := ⟨_, rfl⟩
  rw [← hH] at Z ⊢
  clear hH
  obtain ⟨locs, hlc⟩ : ∃ q : List Loc, q = [] := ⟨_, rfl⟩
  rw [← hlc] at Z ⊢
  clear hlc
  refine lv_aload_n (pc := 0) hx hb dX6_layChoice_0 rfl (lv_at hl 0 rfl) ?_
  refine z_get (pc := 1) (ref := "LotSheetModel") (ci := 6) (C := RX6) (T := TX6) (N := 22) hx hb hts iw_X6_layChoice_X6 hown Z 0 rfl rfl 8 (by decide) (List.mem_of_getElem? (i := 1) rfl) rfl rfl dX6_layChoice_1 ?_
  refine lv_iconst (pc := 4) (v := (0 : Int32)) hx hb dX6_layChoice_4 (by decide) ?_
  refine z_iald (pc := 5) hx hb Z 1 0 rfl rfl (show ¬ ((0 : Int32) < 0 ∨ 153 ≤ (0 : Int32).toNatClampNeg) by decide) dX6_layChoice_5 ?_
  refine lv_topi (fun x1 ex1 => ?_)
  replace hf := o_letE ex1 hf
  refine lv_istore_n (pc := 6) (lv' := [(2, .int x1), (0, .ref (h 0)), (1, .int p1)]) hx hb dX6_layChoice_6 rfl hl (by decide) rfl (fun ls hl => ?_)
  refine lv_iconst (pc := 7) (v := (0 : Int32)) hx hb dX6_layChoice_7 (by decide) ?_
  refine lv_istore_n (pc := 8) (lv' := [(3, .int (0 : Int32)), (2, .int x1), (0, .ref (h 0)), (1, .int p1)]) hx hb dX6_layChoice_8 rfl hl (by decide) rfl (fun ls hl => ?_)
  refine lv_iconst (pc := 9) (v := (0 : Int32)) hx hb dX6_layChoice_9 (by decide) ?_
  refine lv_istore (pc := 10) (lv' := [(4, .int (0 : Int32)), (3, .int (0 : Int32)), (2, .int x1), (0, .ref (h 0)), (1, .int p1)]) hx hb dX6_layChoice_10 hl (by decide) rfl (fun ls hl => ?_)
  refine lv_iconst (pc := 12) (v := (0 : Int32)) hx hb dX6_layChoice_12 (by decide) ?_
  refine lv_istore (pc := 13) (lv' := [(5, .int (0 : Int32)), (4, .int (0 : Int32)), (3, .int (0 : Int32)), (2, .int x1), (0, .ref (h 0)), (1, .int p1)]) hx hb dX6_layChoice_13 hl (by decide) rfl (fun ls hl => ?_)
  refine lv_iconst (pc := 15) (v := (-1 : Int32)) hx hb dX6_layChoice_15 (by decide) ?_
  refine lv_istore (pc := 16) (lv' := [(6, .int (-1 : Int32)), (5, .int (0 : Int32)), (4, .int (0 : Int32)), (3, .int (0 : Int32)), (2, .int x1), (0, .ref (h 0)), (1, .int p1)]) hx hb dX6_layChoice_16 hl (by decide) rfl (fun ls hl => ?_)
  refine lv_iconst (pc := 18) (v := (-1 : Int32)) hx hb dX6_layChoice_18 (by decide) ?_
  refine lv_istore (pc := 19) (lv' := [(7, .int (-1 : Int32)), (6, .int (-1 : Int32)), (5, .int (0 : Int32)), (4, .int (0 : Int32)), (3, .int (0 : Int32)), (2, .int x1), (0, .ref (h 0)), (1, .int p1)]) hx hb dX6_layChoice_19 hl (by decide) rfl (fun ls hl => ?_)
  refine lv_aload_n (pc := 21) hx hb dX6_layChoice_21 rfl (lv_at hl 6 rfl) ?_
  refine lv_iload_n (pc := 22) hx hb dX6_layChoice_22 rfl (lv_at hl 7 rfl) ?_
  obtain ⟨x2, q3, hf⟩ := o_bindE hf
  refine z_callVi (pc := 23) (As := [.int p1]) (rest := []) (Wc := (W_X6_entries cA (fun k => h ([0, 1, 2, 3, 4, 5, 6, 7, 8, 9, 10, 11, 12, 13, 14, 15, 16, 17, 18, 19].getD k 0)) m_thrown m_bufferLength m_textLength m_position m_error m_errorAt m_errorOffset m_data m_undoDepth m_numberStart m_seen m_pages)) (W1 := (W_X6_entries cA (fun k => h ([0, 1, 2, 3, 4, 5, 6, 7, 8, 9, 10, 11, 12, 13, 14, 15, 16, 17, 18, 19].getD k 0)) m_thrown m_bufferLength m_textLength m_position m_error m_errorAt m_errorOffset m_data m_undoDepth m_numberStart m_seen m_pages)) (W2 := (W_X6_layChoice cA h m_thrown m_bufferLength m_textLength m_position m_error m_errorAt m_errorOffset m_data m_undoDepth m_numberStart m_seen m_numberOf m_pageOf m_lineOf m_stands m_pages m_before m_told m_wasPrinted)) ⟨hx, hb, hml, hown, hts⟩ (kX6_entries l D cA (fun k => h ([0, 1, 2, 3, 4, 5, 6, 7, 8, 9, 10, 11, 12, 13, 14, 15, 16, 17, 18, 19].getD k 0)) p1 m_thrown m_bufferLength m_textLength m_position m_error m_errorAt m_errorOffset m_data m_undoDepth m_numberStart m_seen m_pages _ q3) (cwV 1 hts gX6_layChoice_X6_entries rfl rfl rfl (by decide +kernel) ⟨Nat.le_of_ble_eq_true rfl, Nat.le_of_ble_eq_true rfl⟩) Z hA [0, 1] rfl (by decide) rfl (ci := 6) rfl rfl rfl rfl hl.1 rfl (Nat.le_of_ble_eq_true rfl) dX6_layChoice_23 ⟨Nat.zero_le _, Nat.zero_le _⟩ [some 0, some 1, none, none, none, none, none, none, none] rfl ⟨rfl, rfl, rfl, rfl, rfl, rfl, rfl, rfl, rfl, rfl⟩ (fun H locs Z => ?_)
  refine lv_istore (pc := 26) (lv' := [(8, .int x2), (7, .int (-1 : Int32)), (6, .int (-1 : Int32)), (5, .int (0 : Int32)), (4, .int (0 : Int32)), (3, .int (0 : Int32)), (2, .int x1), (0, .ref (h 0)), (1, .int p1)]) hx hb dX6_layChoice_26 hl (by decide) rfl (fun ls hl => ?_)
  refine lv_iconst (pc := 28) (v := (0 : Int32)) hx hb dX6_layChoice_28 (by decide) ?_
  refine lv_istore (pc := 29) (lv' := [(9, .int (0 : Int32)), (8, .int x2), (7, .int (-1 : Int32)), (6, .int (-1 : Int32)), (5, .int (0 : Int32)), (4, .int (0 : Int32)), (3, .int (0 : Int32)), (2, .int x1), (0, .ref (h 0)), (1, .int p1)]) hx hb dX6_layChoice_29 hl (by decide) rfl (fun ls hl => ?_)
  refine lv_aload_n (pc := 31) hx hb dX6_layChoice_31 rfl (lv_at hl 8 rfl) ?_
  obtain ⟨⟨a4, a5, a6, a7, x8⟩, q9, hf⟩ := o_bindE hf
  refine z_callVv (pc := 32) (As := []) (rest := []) (Wc := (W_X6_lay cA (fun k => h ([0, 1, 2, 3, 4, 5, 6, 7, 8, 9, 10, 11, 12, 13, 14, 15, 16, 17, 18, 19].getD k 0)) m_thrown m_bufferLength m_textLength m_position m_error m_errorAt m_errorOffset m_data m_undoDepth m_numberStart m_seen m_numberOf m_pageOf m_lineOf m_stands m_pages)) (W1 := (W_X6_lay cA (fun k => h ([0, 1, 2, 3, 4, 5, 6, 7, 8, 9, 10, 11, 12, 13, 14, 15, 16, 17, 18, 19].getD k 0)) m_thrown m_bufferLength m_textLength m_position m_error m_errorAt m_errorOffset m_data m_undoDepth m_numberStart m_seen a4 a5 a6 a7 x8)) (W2 := (W_X6_layChoice cA h m_thrown m_bufferLength m_textLength m_position m_error m_errorAt m_errorOffset m_data m_undoDepth m_numberStart m_seen a4 a5 a6 a7 x8 m_before m_told m_wasPrinted)) ⟨hx, hb, hml, hown, hts⟩ (kX6_lay l D cA (fun k => h ([0, 1, 2, 3, 4, 5, 6, 7, 8, 9, 10, 11, 12, 13, 14, 15, 16, 17, 18, 19].getD k 0)) m_thrown m_bufferLength m_textLength m_position m_error m_errorAt m_errorOffset m_data m_undoDepth m_numberStart m_seen m_numberOf m_pageOf m_lineOf m_stands m_pages _ q9) (cwV 0 hts gX6_layChoice_X6_lay rfl rfl rfl (by decide +kernel) ⟨Nat.le_of_ble_eq_true rfl, Nat.le_of_ble_eq_true rfl⟩) Z hA [0, 1, 2, 3, 4, 5] rfl (by decide) rfl (ci := 6) rfl rfl rfl rfl hl.1 rfl (Nat.le_of_ble_eq_true rfl) dX6_layChoice_32 ⟨Nat.zero_le _, Nat.zero_le _⟩ [some 0, some 1, some 2, some 3, some 4, some 5, none, none, none] rfl ⟨rfl, rfl, rfl, rfl, rfl, rfl, rfl, rfl, rfl, rfl⟩ (fun H locs Z => ?_)
  refine lv_iconst (pc := 35) (v := (0 : Int32)) hx hb dX6_layChoice_35 (by decide) ?_
  refine lv_istore (pc := 36) (lv' := [(10, .int (0 : Int32)), (9, .int (0 : Int32)), (8, .int x2), (7, .int (-1 : Int32)), (6, .int (-1 : Int32)), (5, .int (0 : Int32)), (4, .int (0 : Int32)), (3, .int (0 : Int32)), (2, .int x1), (0, .ref (h 0)), (1, .int p1)]) hx hb dX6_layChoice_36 hl (by decide) rfl (fun ls hl => ?_)
  obtain ⟨j65_11, ej65_11, hf⟩ := o_jnE hf
  have hj65_11 : ∀ (a10 : Nat → Int32) (H : Heap) (locs : List Loc) (ls : Array Slot), zw D (zTY cA) s A (W_X6_layChoice cA h m_thrown m_bufferLength m_textLength m_position m_error m_errorAt m_errorOffset m_data m_undoDepth m_numberStart m_seen a4 a5 a6 a7 x8 a10 m_told m_wasPrinted) H locs → lv_has ls 12 [(0, .ref (h 0)), (1, .int p1), (2, .int x1), (3, .int (0 : Int32)), (4, .int (0 : Int32)), (5, .int (0 : Int32)), (6, .int (-1 : Int32)), (7, .int (-1 : Int32)), (8, .int x2), (9, .int (0 : Int32))] → j65_11 a10 = some u → W p l e ({ frames := 5, cells := 0, slots := 0, locals := 109 } : Room) s m args below meth c H locs 0 0 (MQ below (zQv D (zTY cA) A (W_X6_layChoice cA h m_thrown m_bufferLength m_textLength m_position m_error m_errorAt m_errorOffset (u.1) m_undoDepth m_numberStart m_seen (u.2.1) (u.2.2.1) (u.2.2.2.1) (u.2.2.2.2.1) (u.2.2.2.2.2.1) (u.2.2.2.2.2.2.1) (u.2.2.2.2.2.2.2.1) (u.2.2.2.2.2.2.2.2))) args s 0 0 A) (F0 m 65 ls []) := by
    intro a10 H locs ls Z hl hf
    rw [ej65_11] at hf
    refine lv_iconst (pc := 65) (v := (0 : Int32)) hx hb dX6_layChoice_65 (by decide) ?_
    refine lv_istore (pc := 66) (lv' := [(10, .int (0 : Int32)), (0, .ref (h 0)), (1, .int p1), (2, .int x1), (3, .int (0 : Int32)), (4, .int (0 : Int32)), (5, .int (0 : Int32)), (6, .int (-1 : Int32)), (7, .int (-1 : Int32)), (8, .int x2), (9, .int (0 : Int32))]) hx hb dX6_layChoice_66 hl (by decide) rfl (fun ls hl => ?_)
    obtain ⟨j104_13, ej104_13, hf⟩ := o_jnE hf
    have hj104_13 : ∀ (x12 : Int32) (H : Heap) (locs : List Loc) (ls : Array Slot), zw D (zTY cA) s A (W_X6_layChoice cA h m_thrown m_bufferLength m_textLength m_position m_error m_errorAt m_errorOffset m_data m_undoDepth m_numberStart m_seen a4 a5 a6 a7 x8 a10 m_told m_wasPrinted) H locs → lv_has ls 12 [(0, .ref (h 0)), (2, .int x1), (3, .int (0 : Int32)), (4, .int (0 : Int32)), (5, .int (0 : Int32)), (6, .int (-1 : Int32)), (7, .int (-1 : Int32)), (8, .int x2), (9, .int x12)] → j104_13 x12 = some u → W p l e ({ frames := 5, cells := 0, slots := 0, locals := 109 } : Room) s m args below meth c H locs 0 0 (MQ below (zQv D (zTY cA) A (W_X6_layChoice cA h m_thrown m_bufferLength m_textLength m_position m_error m_errorAt m_errorOffset (u.1) m_undoDepth m_numberStart m_seen (u.2.1) (u.2.2.1) (u.2.2.2.1) (u.2.2.2.2.1) (u.2.2.2.2.2.1) (u.2.2.2.2.2.2.1) (u.2.2.2.2.2.2.2.1) (u.2.2.2.2.2.2.2.2))) args s 0 0 A) (F0 m 104 ls []) := by
      intro x12 H locs ls Z hl hf
      rw [ej104_13] at hf
      refine lv_iconst (pc := 104) (v := (0 : Int32)) hx hb dX6_layChoice_104 (by decide) ?_
      refine lv_istore (pc := 105) (lv' := [(10, .int (0 : Int32)), (0, .ref (h 0)), (2, .int x1), (3, .int (0 : Int32)), (4, .int (0 : Int32)), (5, .int (0 : Int32)), (6, .int (-1 : Int32)), (7, .int (-1 : Int32)), (8, .int x2), (9, .int x12)]) hx hb dX6_layChoice_105 hl (by decide) rfl (fun ls hl => ?_)
      obtain ⟨j163_16, ej163_16, hf⟩ := o_jnE hf
      have hj163_16 : ∀ (a14 : Nat → Int32) (a15 : Nat → Int32) (H : Heap) (locs : List Loc) (ls : Array Slot), zw D (zTY cA) s A (W_X6_layChoice cA h m_thrown m_bufferLength m_textLength m_position m_error m_errorAt m_errorOffset a14 m_undoDepth m_numberStart m_seen a4 a5 a6 a7 x8 a10 m_told a15) H locs → lv_has ls 12 [(0, .ref (h 0)), (2, .int x1), (3, .int (0 : Int32)), (4, .int (0 : Int32)), (5, .int (0 : Int32)), (6, .int (-1 : Int32)), (7, .int (-1 : Int32)), (8, .int x2)] → j163_16 a14 a15 = some u → W p l e ({ frames := 5, cells := 0, slots := 0, locals := 109 } : Room) s m args below meth c H locs 0 0 (MQ below (zQv D (zTY cA) A (W_X6_layChoice cA h m_thrown m_bufferLength m_textLength m_position m_error m_errorAt m_errorOffset (u.1) m_undoDepth m_numberStart m_seen (u.2.1) (u.2.2.1) (u.2.2.2.1) (u.2.2.2.2.1) (u.2.2.2.2.2.1) (u.2.2.2.2.2.2.1) (u.2.2.2.2.2.2.2.1) (u.2.2.2.2.2.2.2.2))) args s 0 0 A) (F0 m 163 ls []) := by
        intro a14 a15 H locs ls Z hl hf
        rw [ej163_16] at hf
        refine lv_aload_n (pc := 163) hx hb dX6_layChoice_163 rfl (lv_at hl 0 rfl) ?_
        obtain ⟨⟨a17, a18, a19, a20, x21⟩, q22, hf⟩ := o_bindE hf
        refine z_callVv (pc := 164) (As := []) (rest := []) (Wc := (W_X6_lay cA (fun k => h ([0, 1, 2, 3, 4, 5, 6, 7, 8, 9, 10, 11, 12, 13, 14, 15, 16, 17, 18, 19].getD k 0)) m_thrown m_bufferLength m_textLength m_position m_error m_errorAt m_errorOffset a14 m_undoDepth m_numberStart m_seen a4 a5 a6 a7 x8)) (W1 := (W_X6_lay cA (fun k => h ([0, 1, 2, 3, 4, 5, 6, 7, 8, 9, 10, 11, 12, 13, 14, 15, 16, 17, 18, 19].getD k 0)) m_thrown m_bufferLength m_textLength m_position m_error m_errorAt m_errorOffset a14 m_undoDepth m_numberStart m_seen a17 a18 a19 a20 x21)) (W2 := (W_X6_layChoice cA h m_thrown m_bufferLength m_textLength m_position m_error m_errorAt m_errorOffset a14 m_undoDepth m_numberStart m_seen a17 a18 a19 a20 x21 a10 m_told a15)) ⟨hx, hb, hml, hown, hts⟩ (kX6_lay l D cA (fun k => h ([0, 1, 2, 3, 4, 5, 6, 7, 8, 9, 10, 11, 12, 13, 14, 15, 16, 17, 18, 19].getD k 0)) m_thrown m_bufferLength m_textLength m_position m_error m_errorAt m_errorOffset a14 m_undoDepth m_numberStart m_seen a4 a5 a6 a7 x8 _ q22) (cwV 0 hts gX6_layChoice_X6_lay rfl rfl rfl (by decide +kernel) ⟨Nat.le_of_ble_eq_true rfl, Nat.le_of_ble_eq_true rfl⟩) Z hA [0, 1, 2, 3, 4, 5] rfl (by decide) rfl (ci := 6) rfl rfl rfl rfl hl.1 rfl (Nat.le_of_ble_eq_true rfl) dX6_layChoice_164 ⟨Nat.zero_le _, Nat.zero_le _⟩ [some 0, some 1, some 2, some 3, some 4, some 5, none, none, none] rfl ⟨rfl, rfl, rfl, rfl, rfl, rfl, rfl, rfl, rfl, rfl⟩ (fun H locs Z => ?_)
        refine lv_iconst (pc := 167) (v := (0 : Int32)) hx hb dX6_layChoice_167 (by decide) ?_
        refine lv_istore (pc := 168) (lv' := [(10, .int (0 : Int32)), (0, .ref (h 0)), (2, .int x1), (3, .int (0 : Int32)), (4, .int (0 : Int32)), (5, .int (0 : Int32)), (6, .int (-1 : Int32)), (7, .int (-1 : Int32)), (8, .int x2)]) hx hb dX6_layChoice_168 hl (by decide) rfl (fun ls hl => ?_)
        obtain ⟨j201_24, ej201_24, hf⟩ := o_jnE hf
        have hj201_24 : ∀ (a23 : Nat → Int32) (H : Heap) (locs : List Loc) (ls : Array Slot), zw D (zTY cA) s A (W_X6_layChoice cA h m_thrown m_bufferLength m_textLength m_position m_error m_errorAt m_errorOffset a23 m_undoDepth m_numberStart m_seen a17 a18 a19 a20 x21 a10 m_told a15) H locs → lv_has ls 12 [(0, .ref (h 0)), (2, .int x1), (3, .int (0 : Int32)), (4, .int (0 : Int32)), (5, .int (0 : Int32)), (6, .int (-1 : Int32)), (7, .int (-1 : Int32)), (8, .int x2)] → j201_24 a23 = some u → W p l e ({ frames := 5, cells := 0, slots := 0, locals := 109 } : Room) s m args below meth c H locs 0 0 (MQ below (zQv D (zTY cA) A (W_X6_layChoice cA h m_thrown m_bufferLength m_textLength m_position m_error m_errorAt m_errorOffset (u.1) m_undoDepth m_numberStart m_seen (u.2.1) (u.2.2.1) (u.2.2.2.1) (u.2.2.2.2.1) (u.2.2.2.2.2.1) (u.2.2.2.2.2.2.1) (u.2.2.2.2.2.2.2.1) (u.2.2.2.2.2.2.2.2))) args s 0 0 A) (F0 m 201 ls []) := by
          intro a23 H locs ls Z hl hf
          rw [ej201_24] at hf
          refine lv_iconst (pc := 201) (v := (0 : Int32)) hx hb dX6_layChoice_201 (by decide) ?_
          refine lv_istore (pc := 202) (lv' := [(10, .int (0 : Int32)), (0, .ref (h 0)), (2, .int x1), (3, .int (0 : Int32)), (4, .int (0 : Int32)), (5, .int (0 : Int32)), (6, .int (-1 : Int32)), (7, .int (-1 : Int32)), (8, .int x2)]) hx hb dX6_layChoice_202 hl (by decide) rfl (fun ls hl => ?_)
          obtain ⟨j292_28, ej292_28, hf⟩ := o_jnE hf
          have hj292_28 : ∀ (x25 : Int32) (x26 : Int32) (x27 : Int32) (H : Heap) (locs : List Loc) (ls : Array Slot), zw D (zTY cA) s A (W_X6_layChoice cA h m_thrown m_bufferLength m_textLength m_position m_error m_errorAt m_errorOffset a23 m_undoDepth m_numberStart m_seen a17 a18 a19 a20 x21 a10 m_told a15) H locs → lv_has ls 12 [(0, .ref (h 0)), (3, .int x25), (4, .int x26), (5, .int x27), (8, .int x2)] → j292_28 x25 x26 x27 = some u → W p l e ({ frames := 5, cells := 0, slots := 0, locals := 109 } : Room) s m args below meth c H locs 0 0 (MQ below (zQv D (zTY cA) A (W_X6_layChoice cA h m_thrown m_bufferLength m_textLength m_position m_error m_errorAt m_errorOffset (u.1) m_undoDepth m_numberStart m_seen (u.2.1) (u.2.2.1) (u.2.2.2.1) (u.2.2.2.2.1) (u.2.2.2.2.2.1) (u.2.2.2.2.2.2.1) (u.2.2.2.2.2.2.2.1) (u.2.2.2.2.2.2.2.2))) args s 0 0 A) (F0 m 292 ls []) := by
            intro x25 x26 x27 H locs ls Z hl hf
            rw [ej292_28] at hf
            refine lv_aload_n (pc := 292) hx hb dX6_layChoice_292 rfl (lv_at hl 0 rfl) ?_
            refine z_get (pc := 293) (ref := "LotSheetModel") (ci := 6) (C := RX6) (T := TX6) (N := 22) hx hb hts iw_X6_layChoice_X6 hown Z 0 rfl rfl 20 (by decide) (List.mem_of_getElem? (i := 4) rfl) rfl rfl dX6_layChoice_293 ?_
            refine lv_iconst (pc := 296) (v := (1 : Int32)) hx hb dX6_layChoice_296 (by decide) ?_
            refine lv_iload_n (pc := 297) hx hb dX6_layChoice_297 rfl (lv_at hl 1 rfl) ?_
            refine z_iast (pc := 298) hx hb Z 7 0 rfl rfl (show ¬ ((1 : Int32) < 0 ∨ 7 ≤ (1 : Int32).toNatClampNeg) by decide) dX6_layChoice_298 (fun g => (W_X6_layChoice cA h m_thrown m_bufferLength m_textLength m_position m_error m_errorAt m_errorOffset a23 m_undoDepth m_numberStart m_seen a17 a18 a19 a20 x21 a10 g a15)) (fun _ => rfl) (fun a29 H locs ea29 Z => ?_)
            replace hf := o_letE ea29 hf
            refine lv_aload_n (pc := 299) hx hb dX6_layChoice_299 rfl (lv_at hl 0 rfl) ?_
            refine z_get (pc := 300) (ref := "LotSheetModel") (ci := 6) (C := RX6) (T := TX6) (N := 22) hx hb hts iw_X6_layChoice_X6 hown Z 0 rfl rfl 20 (by decide) (List.mem_of_getElem? (i := 4) rfl) rfl rfl dX6_layChoice_300 ?_
            refine lv_iconst (pc := 303) (v := (2 : Int32)) hx hb dX6_layChoice_303 (by decide) ?_
            refine lv_iload (pc := 304) hx hb dX6_layChoice_304 (lv_at hl 2 rfl) ?_
            refine z_iast (pc := 306) hx hb Z 7 0 rfl rfl (show ¬ ((2 : Int32) < 0 ∨ 7 ≤ (2 : Int32).toNatClampNeg) by decide) dX6_layChoice_306 (fun g => (W_X6_layChoice cA h m_thrown m_bufferLength m_textLength m_position m_error m_errorAt m_errorOffset a23 m_undoDepth m_numberStart m_seen a17 a18 a19 a20 x21 a10 g a15)) (fun _ => rfl) (fun a30 H locs ea30 Z => ?_)
            replace hf := o_letE ea30 hf
            refine lv_aload_n (pc := 307) hx hb dX6_layChoice_307 rfl (lv_at hl 0 rfl) ?_
            refine z_get (pc := 308) (ref := "LotSheetModel") (ci := 6) (C := RX6) (T := TX6) (N := 22) hx hb hts iw_X6_layChoice_X6 hown Z 0 rfl rfl 20 (by decide) (List.mem_of_getElem? (i := 4) rfl) rfl rfl dX6_layChoice_308 ?_
            refine lv_iconst (pc := 311) (v := (3 : Int32)) hx hb dX6_layChoice_311 (by decide) ?_
            refine lv_iload (pc := 312) hx hb dX6_layChoice_312 (lv_at hl 3 rfl) ?_
            refine z_iast (pc := 314) hx hb Z 7 0 rfl rfl (show ¬ ((3 : Int32) < 0 ∨ 7 ≤ (3 : Int32).toNatClampNeg) by decide) dX6_layChoice_314 (fun g => (W_X6_layChoice cA h m_thrown m_bufferLength m_textLength m_position m_error m_errorAt m_errorOffset a23 m_undoDepth m_numberStart m_seen a17 a18 a19 a20 x21 a10 g a15)) (fun _ => rfl) (fun a31 H locs ea31 Z => ?_)
            replace hf := o_letE ea31 hf
            refine lv_aload_n (pc := 315) hx hb dX6_layChoice_315 rfl (lv_at hl 0 rfl) ?_
            refine z_get (pc := 316) (ref := "LotSheetModel") (ci := 6) (C := RX6) (T := TX6) (N := 22) hx hb hts iw_X6_layChoice_X6 hown Z 0 rfl rfl 20 (by decide) (List.mem_of_getElem? (i := 4) rfl) rfl rfl dX6_layChoice_316 ?_
            refine lv_iconst (pc := 319) (v := (4 : Int32)) hx hb dX6_layChoice_319 (by decide) ?_
            refine lv_iload (pc := 320) hx hb dX6_layChoice_320 (lv_at hl 4 rfl) ?_
            refine lv_aload_n (pc := 322) hx hb dX6_layChoice_322 rfl (lv_at hl 0 rfl) ?_
            refine z_get (pc := 323) (ref := "LotSheetModel") (ci := 6) (C := RX6) (T := TX6) (N := 22) hx hb hts iw_X6_layChoice_X6 hown Z 0 rfl rfl 8 (by decide) (List.mem_of_getElem? (i := 1) rfl) rfl rfl dX6_layChoice_323 ?_
            refine lv_iconst (pc := 326) (v := (3 : Int32)) hx hb dX6_layChoice_326 (by decide) ?_
            refine z_iald (pc := 327) hx hb Z 1 0 rfl rfl (show ¬ ((3 : Int32) < 0 ∨ 153 ≤ (3 : Int32).toNatClampNeg) by decide) dX6_layChoice_327 ?_
            refine lv_iadd (pc := 328) hx hb dX6_layChoice_328 ?_
            refine lv_iconst (pc := 329) (v := (1 : Int32)) hx hb dX6_layChoice_329 (by decide) ?_
            refine lv_isub (pc := 330) hx hb dX6_layChoice_330 ?_
            refine lv_aload_n (pc := 331) hx hb dX6_layChoice_331 rfl (lv_at hl 0 rfl) ?_
            refine z_get (pc := 332) (ref := "LotSheetModel") (ci := 6) (C := RX6) (T := TX6) (N := 22) hx hb hts iw_X6_layChoice_X6 hown Z 0 rfl rfl 8 (by decide) (List.mem_of_getElem? (i := 1) rfl) rfl rfl dX6_layChoice_332 ?_
            refine lv_iconst (pc := 335) (v := (3 : Int32)) hx hb dX6_layChoice_335 (by decide) ?_
            refine z_iald (pc := 336) hx hb Z 1 0 rfl rfl (show ¬ ((3 : Int32) < 0 ∨ 153 ≤ (3 : Int32).toNatClampNeg) by decide) dX6_layChoice_336 ?_
            obtain ⟨nz32, hf⟩ := o_asE hf
            refine lv_idiv (pc := 337) hx hb dX6_layChoice_337 nz32 ?_
            refine z_iast (pc := 338) hx hb Z 7 0 rfl rfl (show ¬ ((4 : Int32) < 0 ∨ 7 ≤ (4 : Int32).toNatClampNeg) by decide) dX6_layChoice_338 (fun g => (W_X6_layChoice cA h m_thrown m_bufferLength m_textLength m_position m_error m_errorAt m_errorOffset a23 m_undoDepth m_numberStart m_seen a17 a18 a19 a20 x21 a10 g a15)) (fun _ => rfl) (fun a33 H locs ea33 Z => ?_)
            replace hf := o_letE ea33 hf
            refine lv_aload_n (pc := 339) hx hb dX6_layChoice_339 rfl (lv_at hl 0 rfl) ?_
            refine z_get (pc := 340) (ref := "LotSheetModel") (ci := 6) (C := RX6) (T := TX6) (N := 22) hx hb hts iw_X6_layChoice_X6 hown Z 0 rfl rfl 20 (by decide) (List.mem_of_getElem? (i := 4) rfl) rfl rfl dX6_layChoice_340 ?_
            refine lv_iconst (pc := 343) (v := (5 : Int32)) hx hb dX6_layChoice_343 (by decide) ?_
            refine lv_iload (pc := 344) hx hb dX6_layChoice_344 (lv_at hl 4 rfl) ?_
            refine z_iast (pc := 346) hx hb Z 7 0 rfl rfl (show ¬ ((5 : Int32) < 0 ∨ 7 ≤ (5 : Int32).toNatClampNeg) by decide) dX6_layChoice_346 (fun g => (W_X6_layChoice cA h m_thrown m_bufferLength m_textLength m_position m_error m_errorAt m_errorOffset a23 m_undoDepth m_numberStart m_seen a17 a18 a19 a20 x21 a10 g a15)) (fun _ => rfl) (fun a34 H locs ea34 Z => ?_)
            replace hf := o_letE ea34 hf
            refine lv_aload_n (pc := 347) hx hb dX6_layChoice_347 rfl (lv_at hl 0 rfl) ?_
            refine z_get (pc := 348) (ref := "LotSheetModel") (ci := 6) (C := RX6) (T := TX6) (N := 22) hx hb hts iw_X6_layChoice_X6 hown Z 0 rfl rfl 20 (by decide) (List.mem_of_getElem? (i := 4) rfl) rfl rfl dX6_layChoice_348 ?_
            refine lv_bipush (pc := 351) (v := (6 : Int32)) hx hb dX6_layChoice_351 (by decide) ?_
            refine lv_aload_n (pc := 353) hx hb dX6_layChoice_353 rfl (lv_at hl 0 rfl) ?_
            refine z_get (pc := 354) (ref := "LotSheetModel") (ci := 6) (C := RX6) (T := TX6) (N := 22) hx hb hts iw_X6_layChoice_X6 hown Z 0 rfl rfl 18 (by decide) (List.mem_of_getElem? (i := 5) rfl) rfl rfl dX6_layChoice_354 ?_
            refine z_iast (pc := 357) hx hb Z 7 0 rfl rfl (show ¬ ((6 : Int32) < 0 ∨ 7 ≤ (6 : Int32).toNatClampNeg) by decide) dX6_layChoice_357 (fun g => (W_X6_layChoice cA h m_thrown m_bufferLength m_textLength m_position m_error m_errorAt m_errorOffset a23 m_undoDepth m_numberStart m_seen a17 a18 a19 a20 x21 a10 g a15)) (fun _ => rfl) (fun a35 H locs ea35 Z => ?_)
            replace hf := o_letE ea35 hf
            refine lv_aload_n (pc := 358) hx hb dX6_layChoice_358 rfl (lv_at hl 0 rfl) ?_
            refine z_get (pc := 359) (ref := "LotSheetModel") (ci := 6) (C := RX6) (T := TX6) (N := 22) hx hb hts iw_X6_layChoice_X6 hown Z 0 rfl rfl 20 (by decide) (List.mem_of_getElem? (i := 4) rfl) rfl rfl dX6_layChoice_359 ?_
            refine lv_iconst (pc := 362) (v := (0 : Int32)) hx hb dX6_layChoice_362 (by decide) ?_
            refine lv_iconst (pc := 363) (v := (0 : Int32)) hx hb dX6_layChoice_363 (by decide) ?_
            refine z_iast (pc := 364) hx hb Z 7 0 rfl rfl (show ¬ ((0 : Int32) < 0 ∨ 7 ≤ (0 : Int32).toNatClampNeg) by decide) dX6_layChoice_364 (fun g => (W_X6_layChoice cA h m_thrown m_bufferLength m_textLength m_position m_error m_errorAt m_errorOffset a23 m_undoDepth m_numberStart m_seen a17 a18 a19 a20 x21 a10 g a15)) (fun _ => rfl) (fun a36 H locs ea36 Z => ?_)
            replace hf := o_letE ea36 hf
            refine lv_iconst (pc := 365) (v := (0 : Int32)) hx hb dX6_layChoice_365 (by decide) ?_
            refine lv_istore (pc := 366) (lv' := [(10, .int (0 : Int32)), (0, .ref (h 0)), (3, .int x25), (4, .int x26), (5, .int x27), (8, .int x2)]) hx hb dX6_layChoice_366 hl (by decide) rfl (fun ls hl => ?_)
            have hL368 : ∀ (n0 : Nat) (x37 : Int32) (a38 : Nat → Int32) (H : Heap) (locs : List Loc) (ls : Array Slot), zw D (zTY cA) s A (W_X6_layChoice cA h m_thrown m_bufferLength m_textLength m_position m_error m_errorAt m_errorOffset a23 m_undoDepth m_numberStart m_seen a17 a18 a19 a20 x21 a10 a38 a15) H locs → lv_has ls 12 [(0, .ref (h 0)), (10, .int x37)] → fX6_layChoice_L368 a23 a17 a18 a19 a20 x21 a10 a15 n0 x37 a38 = some u → W p l e ({ frames := 5, cells := 0, slots := 0, locals := 109 } : Room) s m args below meth c H locs 0 0 (MQ below (zQv D (zTY cA) A (W_X6_layChoice cA h m_thrown m_bufferLength m_textLength m_position m_error m_errorAt m_errorOffset (u.1) m_undoDepth m_numberStart m_seen (u.2.1) (u.2.2.1) (u.2.2.2.1) (u.2.2.2.2.1) (u.2.2.2.2.2.1) (u.2.2.2.2.2.2.1) (u.2.2.2.2.2.2.2.1) (u.2.2.2.2.2.2.2.2))) args s 0 0 A) (F0 m 368 ls []) := by
              intro n0
              induction n0 with
              | zero => intro x37 a38 H locs ls Z hl hf; exact o_no hf
              | succ n0 ih0 =>
                intro x37 a38 H locs ls Z hl hf
                refine lv_iload (pc := 368) hx hb dX6_layChoice_368 (lv_at hl 1 rfl) ?_
                refine lv_iconst (pc := 370) (v := (5 : Int32)) hx hb dX6_layChoice_370 (by decide) ?_
                refine lv_icmp_ge (pc := 371) (tgt := 408) hx hb dX6_layChoice_371 (by decide) (fun c39 => ?_) (fun c39 => ?_)
                · replace hf := o_pos c39 hf
                  cases hf
                  exact z_vret (pc := 408) hx hb hr hlocks Z rfl dX6_layChoice_408
                · replace hf := o_neg c39 hf
                  refine lv_aload_n (pc := 374) hx hb dX6_layChoice_374 rfl (lv_at hl 0 rfl) ?_
                  refine z_get (pc := 375) (ref := "LotSheetModel") (ci := 6) (C := RX6) (T := TX6) (N := 22) hx hb hts iw_X6_layChoice_X6 hown Z 0 rfl rfl 20 (by decide) (List.mem_of_getElem? (i := 4) rfl) rfl rfl dX6_layChoice_375 ?_
                  refine lv_iconst (pc := 378) (v := (0 : Int32)) hx hb dX6_layChoice_378 (by decide) ?_
                  refine lv_dup2_11 (pc := 379) hx hb dX6_layChoice_379 rfl rfl ?_
                  refine z_iald (pc := 380) hx hb Z 7 0 rfl rfl (show ¬ ((0 : Int32) < 0 ∨ 7 ≤ (0 : Int32).toNatClampNeg) by decide) dX6_layChoice_380 ?_
                  refine lv_aload_n (pc := 381) hx hb dX6_layChoice_381 rfl (lv_at hl 0 rfl) ?_
                  refine z_get (pc := 382) (ref := "LotSheetModel") (ci := 6) (C := RX6) (T := TX6) (N := 22) hx hb hts iw_X6_layChoice_X6 hown Z 0 rfl rfl 20 (by decide) (List.mem_of_getElem? (i := 4) rfl) rfl rfl dX6_layChoice_382 ?_
                  refine lv_iload (pc := 385) hx hb dX6_layChoice_385 (lv_at hl 1 rfl) ?_
                  refine lv_iconst (pc := 387) (v := (1 : Int32)) hx hb dX6_layChoice_387 (by decide) ?_
                  refine lv_iadd (pc := 388) hx hb dX6_layChoice_388 ?_
                  obtain ⟨i40, hf⟩ := o_rdE hf
                  refine z_iald (pc := 389) hx hb Z 7 0 rfl rfl i40 dX6_layChoice_389 ?_
                  refine lv_aload_n (pc := 390) hx hb dX6_layChoice_390 rfl (lv_at hl 0 rfl) ?_
                  refine z_get (pc := 391) (ref := "LotSheetModel") (ci := 6) (C := RX6) (T := TX6) (N := 22) hx hb hts iw_X6_layChoice_X6 hown Z 0 rfl rfl 8 (by decide) (List.mem_of_getElem? (i := 1) rfl) rfl rfl dX6_layChoice_391 ?_
                  refine lv_iconst (pc := 394) (v := (4 : Int32)) hx hb dX6_layChoice_394 (by decide) ?_
                  refine lv_iload (pc := 395) hx hb dX6_layChoice_395 (lv_at hl 1 rfl) ?_
                  refine lv_iadd (pc := 397) hx hb dX6_layChoice_397 ?_
                  obtain ⟨i41, hf⟩ := o_rdE hf
                  refine z_iald (pc := 398) hx hb Z 1 0 rfl rfl i41 dX6_layChoice_398 ?_
                  refine lv_imul (pc := 399) hx hb dX6_layChoice_399 ?_
                  refine lv_iadd (pc := 400) hx hb dX6_layChoice_400 ?_
                  refine z_iast (pc := 401) hx hb Z 7 0 rfl rfl (show ¬ ((0 : Int32) < 0 ∨ 7 ≤ (0 : Int32).toNatClampNeg) by decide) dX6_layChoice_401 (fun g => (W_X6_layChoice cA h m_thrown m_bufferLength m_textLength m_position m_error m_errorAt m_errorOffset a23 m_undoDepth m_numberStart m_seen a17 a18 a19 a20 x21 a10 g a15)) (fun _ => rfl) (fun a42 H locs ea42 Z => ?_)
                  replace hf := o_letE ea42 hf
                  obtain ⟨x43, ex43⟩ : ∃ y : Int32, y = (x37 + (1 : Int32)) := ⟨_, rfl⟩
                  replace hf := o_letE ex43 hf
                  refine lv_iinc (pc := 402) (v := x43) (lv' := [(10, .int x43), (0, .ref (h 0))]) hx hb dX6_layChoice_402 hl (k := 1) rfl (by rw [ex43]; rfl) (by decide) rfl (fun ls hl => ?_)
                  refine lv_goto (pc := 405) (tgt := 368) hx hb dX6_layChoice_405 (by decide) ?_
                  exact ih0 x43 a42 H locs ls Z (lv_sub hl [1, 0] rfl) hf
            exact hL368 1024 (0 : Int32) a36 H locs ls Z (lv_sub hl [1, 0] rfl) hf
          have hL204 : ∀ (n0 : Nat) (x44 : Int32) (x45 : Int32) (x46 : Int32) (x47 : Int32) (x48 : Int32) (x49 : Int32) (H : Heap) (locs : List Loc) (ls : Array Slot), zw D (zTY cA) s A (W_X6_layChoice cA h m_thrown m_bufferLength m_textLength m_position m_error m_errorAt m_errorOffset a23 m_undoDepth m_numberStart m_seen a17 a18 a19 a20 x21 a10 m_told a15) H locs → lv_has ls 12 [(0, .ref (h 0)), (2, .int x1), (3, .int x44), (4, .int x45), (5, .int x46), (6, .int x47), (7, .int x48), (8, .int x2), (10, .int x49)] → fX6_layChoice_L204 j292_28 a17 a20 a10 x1 n0 x44 x45 x46 x47 x48 x49 = some u → W p l e ({ frames := 5, cells := 0, slots := 0, locals := 109 } : Room) s m args below meth c H locs 0 0 (MQ below (zQv D (zTY cA) A (W_X6_layChoice cA h m_thrown m_bufferLength m_textLength m_position m_error m_errorAt m_errorOffset (u.1) m_undoDepth m_numberStart m_seen (u.2.1) (u.2.2.1) (u.2.2.2.1) (u.2.2.2.2.1) (u.2.2.2.2.2.1) (u.2.2.2.2.2.2.1) (u.2.2.2.2.2.2.2.1) (u.2.2.2.2.2.2.2.2))) args s 0 0 A) (F0 m 204 ls []) := by
            intro n0
            induction n0 with
            | zero => intro x44 x45 x46 x47 x48 x49 H locs ls Z hl hf; exact o_no hf
            | succ n0 ih0 =>
              intro x44 x45 x46 x47 x48 x49 H locs ls Z hl hf
              refine lv_iload (pc := 204) hx hb dX6_layChoice_204 (lv_at hl 8 rfl) ?_
              refine lv_sipush (pc := 206) (v := (960 : Int32)) hx hb dX6_layChoice_206 (by decide) ?_
              refine lv_icmp_ge (pc := 209) (tgt := 292) hx hb dX6_layChoice_209 (by decide) (fun c50 => ?_) (fun c50 => ?_)
              · replace hf := o_pos c50 hf
                exact hj292_28 x44 x45 x46 H locs ls Z (lv_sub hl [0, 2, 3, 4, 7] rfl) hf
              · replace hf := o_neg c50 hf
                refine lv_aload_n (pc := 212) hx hb dX6_layChoice_212 rfl (lv_at hl 0 rfl) ?_
                refine z_get (pc := 213) (ref := "LotSheetModel") (ci := 6) (C := RX6) (T := TX6) (N := 22) hx hb hts iw_X6_layChoice_X6 hown Z 0 rfl rfl 19 (by decide) (List.mem_of_getElem? (i := 2) rfl) rfl rfl dX6_layChoice_213 ?_
                refine lv_iload (pc := 216) hx hb dX6_layChoice_216 (lv_at hl 8 rfl) ?_
                obtain ⟨i51, hf⟩ := o_rdE hf
                refine z_iald (pc := 218) hx hb Z 6 0 rfl rfl i51 dX6_layChoice_218 ?_
                refine lv_aload_n (pc := 219) hx hb dX6_layChoice_219 rfl (lv_at hl 0 rfl) ?_
                refine lv_iload (pc := 220) hx hb dX6_layChoice_220 (lv_at hl 8 rfl) ?_
                obtain ⟨x52, q53, hf⟩ := o_bindE hf
                refine z_callVi (pc := 222) (As := [.int x49]) (rest := [.int (a10 x49.toNatClampNeg)]) (Wc := (W_X6_signOf cA (fun k => h ([0, 1, 2, 3, 4, 5, 6, 7, 8, 9, 10, 11, 12, 13, 14, 15, 16, 17, 18, 19].getD k 0)) m_thrown m_bufferLength m_textLength m_position m_error m_errorAt m_errorOffset m_undoDepth m_numberStart m_seen a17 a20 x21)) (W1 := (W_X6_signOf cA (fun k => h ([0, 1, 2, 3, 4, 5, 6, 7, 8, 9, 10, 11, 12, 13, 14, 15, 16, 17, 18, 19].getD k 0)) m_thrown m_bufferLength m_textLength m_position m_error m_errorAt m_errorOffset m_undoDepth m_numberStart m_seen a17 a20 x21)) (W2 := (W_X6_layChoice cA h m_thrown m_bufferLength m_textLength m_position m_error m_errorAt m_errorOffset a23 m_undoDepth m_numberStart m_seen a17 a18 a19 a20 x21 a10 m_told a15)) ⟨hx, hb, hml, hown, hts⟩ (kX6_signOf l D cA (fun k => h ([0, 1, 2, 3, 4, 5, 6, 7, 8, 9, 10, 11, 12, 13, 14, 15, 16, 17, 18, 19].getD k 0)) x49 m_thrown m_bufferLength m_textLength m_position m_error m_errorAt m_errorOffset m_undoDepth m_numberStart m_seen a17 a20 x21 _ q53) (cwV 1 hts gX6_layChoice_X6_signOf rfl rfl rfl (by decide +kernel) ⟨Nat.le_of_ble_eq_true rfl, Nat.le_of_ble_eq_true rfl⟩) Z hA [0, 2, 5] rfl (by decide) rfl (ci := 6) rfl rfl rfl rfl hl.1 rfl (Nat.le_of_ble_eq_true rfl) dX6_layChoice_222 ⟨Nat.zero_le _, Nat.zero_le _⟩ [some 0, none, some 1, none, none, some 2, none, none, none] rfl ⟨rfl, rfl, rfl, rfl, rfl, rfl, rfl, rfl, rfl, rfl⟩ (fun H locs Z => ?_)
                refine lv_icmp_ne (pc := 225) (tgt := 231) hx hb dX6_layChoice_225 (by decide) (fun c54 => ?_) (fun c54 => ?_)
                · replace hf := o_neg c54 hf
                  refine lv_iload (pc := 231) hx hb dX6_layChoice_231 (lv_at hl 8 rfl) ?_
                  refine lv_iload_n (pc := 233) hx hb dX6_layChoice_233 rfl (lv_at hl 1 rfl) ?_
                  obtain ⟨nz55, hf⟩ := o_asE hf
                  refine lv_idiv (pc := 234) hx hb dX6_layChoice_234 nz55 ?_
                  refine lv_topi (fun x56 ex56 => ?_)
                  replace hf := o_letE ex56 hf
                  refine lv_istore (pc := 235) (lv' := [(11, .int x56), (0, .ref (h 0)), (2, .int x1), (3, .int x44), (4, .int x45), (5, .int x46), (6, .int x47), (7, .int x48), (8, .int x2), (10, .int x49)]) hx hb dX6_layChoice_235 hl (by decide) rfl (fun ls hl => ?_)
                  obtain ⟨x57, ex57⟩ : ∃ y : Int32, y = (x44 + (1 : Int32)) := ⟨_, rfl⟩
                  replace hf := o_letE ex57 hf
                  refine lv_iinc (pc := 237) (v := x57) (lv' := [(3, .int x57), (11, .int x56), (0, .ref (h 0)), (2, .int x1), (4, .int x45), (5, .int x46), (6, .int x47), (7, .int x48), (8, .int x2), (10, .int x49)]) hx hb dX6_layChoice_237 hl (k := 3) rfl (by rw [ex57]; rfl) (by decide) rfl (fun ls hl => ?_)
                  refine lv_iload (pc := 240) hx hb dX6_layChoice_240 (lv_at hl 4 rfl) ?_
                  refine lv_iload (pc := 242) hx hb dX6_layChoice_242 (lv_at hl 1 rfl) ?_
                  refine lv_iload (pc := 244) hx hb dX6_layChoice_244 (lv_at hl 6 rfl) ?_
                  obtain ⟨j254_60, ej254_60, hf⟩ := o_jnE hf
                  have hj254_60 : ∀ (x59 : Int32) (H : Heap) (locs : List Loc) (ls : Array Slot), zw D (zTY cA) s A (W_X6_layChoice cA h m_thrown m_bufferLength m_textLength m_position m_error m_errorAt m_errorOffset a23 m_undoDepth m_numberStart m_seen a17 a18 a19 a20 x21 a10 m_told a15) H locs → lv_has ls 12 [(0, .ref (h 0)), (2, .int x1), (3, .int x57), (5, .int x46), (7, .int x48), (8, .int x2), (10, .int x49), (11, .int x56)] → j254_60 x59 = some u → W p l e ({ frames := 5, cells := 0, slots := 0, locals := 109 } : Room) s m args below meth c H locs 0 0 (MQ below (zQv D (zTY cA) A (W_X6_layChoice cA h m_thrown m_bufferLength m_textLength m_position m_error m_errorAt m_errorOffset (u.1) m_undoDepth m_numberStart m_seen (u.2.1) (u.2.2.1) (u.2.2.2.1) (u.2.2.2.2.1) (u.2.2.2.2.2.1) (u.2.2.2.2.2.2.1) (u.2.2.2.2.2.2.2.1) (u.2.2.2.2.2.2.2.2))) args s 0 0 A) (F0 m 254 ls [.int x59, .int x45]) := by
                    intro x59 H locs ls Z hl hf
                    rw [ej254_60] at hf
                    refine lv_iadd (pc := 254) hx hb dX6_layChoice_254 ?_
                    refine lv_topi (fun x61 ex61 => ?_)
                    replace hf := o_letE ex61 hf
                    refine lv_istore (pc := 255) (lv' := [(4, .int x61), (0, .ref (h 0)), (2, .int x1), (3, .int x57), (5, .int x46), (7, .int x48), (8, .int x2), (10, .int x49), (11, .int x56)]) hx hb dX6_layChoice_255 hl (by decide) rfl (fun ls hl => ?_)
                    refine lv_iload (pc := 257) hx hb dX6_layChoice_257 (lv_at hl 4 rfl) ?_
                    refine lv_iload (pc := 259) hx hb dX6_layChoice_259 (lv_at hl 8 rfl) ?_
                    refine lv_iconst (pc := 261) (v := (4 : Int32)) hx hb dX6_layChoice_261 (by decide) ?_
                    refine lv_idiv (pc := 262) hx hb dX6_layChoice_262 (by decide) ?_
                    refine lv_iload (pc := 263) hx hb dX6_layChoice_263 (lv_at hl 5 rfl) ?_
                    obtain ⟨j273_64, ej273_64, hf⟩ := o_jnE hf
                    have hj273_64 : ∀ (x63 : Int32) (H : Heap) (locs : List Loc) (ls : Array Slot), zw D (zTY cA) s A (W_X6_layChoice cA h m_thrown m_bufferLength m_textLength m_position m_error m_errorAt m_errorOffset a23 m_undoDepth m_numberStart m_seen a17 a18 a19 a20 x21 a10 m_told a15) H locs → lv_has ls 12 [(0, .ref (h 0)), (2, .int x1), (3, .int x57), (4, .int x61), (8, .int x2), (10, .int x49), (11, .int x56)] → j273_64 x63 = some u → W p l e ({ frames := 5, cells := 0, slots := 0, locals := 109 } : Room) s m args below meth c H locs 0 0 (MQ below (zQv D (zTY cA) A (W_X6_layChoice cA h m_thrown m_bufferLength m_textLength m_position m_error m_errorAt m_errorOffset (u.1) m_undoDepth m_numberStart m_seen (u.2.1) (u.2.2.1) (u.2.2.2.1) (u.2.2.2.2.1) (u.2.2.2.2.2.1) (u.2.2.2.2.2.2.1) (u.2.2.2.2.2.2.2.1) (u.2.2.2.2.2.2.2.2))) args s 0 0 A) (F0 m 273 ls [.int x63, .int x46]) := by
                      intro x63 H locs ls Z hl hf
                      rw [ej273_64] at hf
                      refine lv_iadd (pc := 273) hx hb dX6_layChoice_273 ?_
                      refine lv_topi (fun x65 ex65 => ?_)
                      replace hf := o_letE ex65 hf
                      refine lv_istore (pc := 274) (lv' := [(5, .int x65), (0, .ref (h 0)), (2, .int x1), (3, .int x57), (4, .int x61), (8, .int x2), (10, .int x49), (11, .int x56)]) hx hb dX6_layChoice_274 hl (by decide) rfl (fun ls hl => ?_)
                      refine lv_iload (pc := 276) hx hb dX6_layChoice_276 (lv_at hl 7 rfl) ?_
                      refine lv_istore (pc := 278) (lv' := [(6, .int x56), (5, .int x65), (0, .ref (h 0)), (2, .int x1), (3, .int x57), (4, .int x61), (8, .int x2), (10, .int x49), (11, .int x56)]) hx hb dX6_layChoice_278 hl (by decide) rfl (fun ls hl => ?_)
                      refine lv_iload (pc := 280) hx hb dX6_layChoice_280 (lv_at hl 8 rfl) ?_
                      refine lv_iconst (pc := 282) (v := (4 : Int32)) hx hb dX6_layChoice_282 (by decide) ?_
                      refine lv_idiv (pc := 283) hx hb dX6_layChoice_283 (by decide) ?_
                      refine lv_topi (fun x66 ex66 => ?_)
                      replace hf := o_letE ex66 hf
                      refine lv_istore (pc := 284) (lv' := [(7, .int x66), (6, .int x56), (5, .int x65), (0, .ref (h 0)), (2, .int x1), (3, .int x57), (4, .int x61), (8, .int x2), (10, .int x49), (11, .int x56)]) hx hb dX6_layChoice_284 hl (by decide) rfl (fun ls hl => ?_)
                      obtain ⟨x67, ex67⟩ : ∃ y : Int32, y = (x49 + (1 : Int32)) := ⟨_, rfl⟩
                      replace hf := o_letE ex67 hf
                      refine lv_iinc (pc := 286) (v := x67) (lv' := [(10, .int x67), (7, .int x66), (6, .int x56), (5, .int x65), (0, .ref (h 0)), (2, .int x1), (3, .int x57), (4, .int x61), (8, .int x2), (11, .int x56)]) hx hb dX6_layChoice_286 hl (k := 8) rfl (by rw [ex67]; rfl) (by decide) rfl (fun ls hl => ?_)
                      refine lv_goto (pc := 289) (tgt := 204) hx hb dX6_layChoice_289 (by decide) ?_
                      exact ih0 x57 x61 x65 x56 x66 x67 H locs ls Z (lv_sub hl [4, 5, 6, 7, 3, 2, 1, 8, 0] rfl) hf
                    refine lv_icmp_eq (pc := 265) (tgt := 272) hx hb dX6_layChoice_265 (by decide) (fun c62 => ?_) (fun c62 => ?_)
                    · replace hf := o_pos c62 hf
                      refine lv_iconst (pc := 272) (v := (0 : Int32)) hx hb dX6_layChoice_272 (by decide) ?_
                      exact hj273_64 (0 : Int32) H locs ls Z (lv_sub hl [1, 2, 3, 0, 6, 7, 8] rfl) hf
                    · replace hf := o_neg c62 hf
                      refine lv_iconst (pc := 268) (v := (1 : Int32)) hx hb dX6_layChoice_268 (by decide) ?_
                      refine lv_goto (pc := 269) (tgt := 273) hx hb dX6_layChoice_269 (by decide) ?_
                      exact hj273_64 (1 : Int32) H locs ls Z (lv_sub hl [1, 2, 3, 0, 6, 7, 8] rfl) hf
                  refine lv_icmp_eq (pc := 246) (tgt := 253) hx hb dX6_layChoice_246 (by decide) (fun c58 => ?_) (fun c58 => ?_)
                  · replace hf := o_pos c58 hf
                    refine lv_iconst (pc := 253) (v := (0 : Int32)) hx hb dX6_layChoice_253 (by decide) ?_
                    exact hj254_60 (0 : Int32) H locs ls Z (lv_sub hl [2, 3, 0, 5, 7, 8, 9, 1] rfl) hf
                  · replace hf := o_neg c58 hf
                    refine lv_iconst (pc := 249) (v := (1 : Int32)) hx hb dX6_layChoice_249 (by decide) ?_
                    refine lv_goto (pc := 250) (tgt := 254) hx hb dX6_layChoice_250 (by decide) ?_
                    exact hj254_60 (1 : Int32) H locs ls Z (lv_sub hl [2, 3, 0, 5, 7, 8, 9, 1] rfl) hf
                · replace hf := o_pos c54 hf
                  refine lv_goto (pc := 228) (tgt := 286) hx hb dX6_layChoice_228 (by decide) ?_
                  obtain ⟨x68, ex68⟩ : ∃ y : Int32, y = (x49 + (1 : Int32)) := ⟨_, rfl⟩
                  replace hf := o_letE ex68 hf
                  refine lv_iinc (pc := 286) (v := x68) (lv' := [(10, .int x68), (0, .ref (h 0)), (2, .int x1), (3, .int x44), (4, .int x45), (5, .int x46), (6, .int x47), (7, .int x48), (8, .int x2)]) hx hb dX6_layChoice_286 hl (k := 8) rfl (by rw [ex68]; rfl) (by decide) rfl (fun ls hl => ?_)
                  refine lv_goto (pc := 289) (tgt := 204) hx hb dX6_layChoice_289 (by decide) ?_
                  exact ih0 x44 x45 x46 x47 x48 x68 H locs ls Z (lv_sub hl [1, 2, 3, 4, 5, 6, 7, 8, 0] rfl) hf
          exact hL204 1024 (0 : Int32) (0 : Int32) (0 : Int32) (-1 : Int32) (-1 : Int32) (0 : Int32) H locs ls Z (lv_sub hl [1, 2, 3, 4, 5, 6, 7, 8, 0] rfl) hf
        have hL170 : ∀ (n0 : Nat) (x69 : Int32) (a70 : Nat → Int32) (H : Heap) (locs : List Loc) (ls : Array Slot), zw D (zTY cA) s A (W_X6_layChoice cA h m_thrown m_bufferLength m_textLength m_position m_error m_errorAt m_errorOffset a70 m_undoDepth m_numberStart m_seen a17 a18 a19 a20 x21 a10 m_told a15) H locs → lv_has ls 12 [(0, .ref (h 0)), (2, .int x1), (3, .int (0 : Int32)), (4, .int (0 : Int32)), (5, .int (0 : Int32)), (6, .int (-1 : Int32)), (7, .int (-1 : Int32)), (8, .int x2), (10, .int x69)] → fX6_layChoice_L170 j201_24 a15 n0 x69 a70 = some u → W p l e ({ frames := 5, cells := 0, slots := 0, locals := 109 } : Room) s m args below meth c H locs 0 0 (MQ below (zQv D (zTY cA) A (W_X6_layChoice cA h m_thrown m_bufferLength m_textLength m_position m_error m_errorAt m_errorOffset (u.1) m_undoDepth m_numberStart m_seen (u.2.1) (u.2.2.1) (u.2.2.2.1) (u.2.2.2.2.1) (u.2.2.2.2.2.1) (u.2.2.2.2.2.2.1) (u.2.2.2.2.2.2.2.1) (u.2.2.2.2.2.2.2.2))) args s 0 0 A) (F0 m 170 ls []) := by
          intro n0
          induction n0 with
          | zero => intro x69 a70 H locs ls Z hl hf; exact o_no hf
          | succ n0 ih0 =>
            intro x69 a70 H locs ls Z hl hf
            refine lv_iload (pc := 170) hx hb dX6_layChoice_170 (lv_at hl 8 rfl) ?_
            refine lv_aload_n (pc := 172) hx hb dX6_layChoice_172 rfl (lv_at hl 0 rfl) ?_
            refine z_get (pc := 173) (ref := "LotSheetModel") (ci := 6) (C := RX6) (T := TX6) (N := 22) hx hb hts iw_X6_layChoice_X6 hown Z 0 rfl rfl 8 (by decide) (List.mem_of_getElem? (i := 1) rfl) rfl rfl dX6_layChoice_173 ?_
            refine lv_iconst (pc := 176) (v := (1 : Int32)) hx hb dX6_layChoice_176 (by decide) ?_
            refine z_iald (pc := 177) hx hb Z 1 0 rfl rfl (show ¬ ((1 : Int32) < 0 ∨ 153 ≤ (1 : Int32).toNatClampNeg) by decide) dX6_layChoice_177 ?_
            refine lv_icmp_ge (pc := 178) (tgt := 201) hx hb dX6_layChoice_178 (by decide) (fun c71 => ?_) (fun c71 => ?_)
            · replace hf := o_pos c71 hf
              exact hj201_24 a70 H locs ls Z (lv_sub hl [0, 1, 2, 3, 4, 5, 6, 7] rfl) hf
            · replace hf := o_neg c71 hf
              refine lv_aload_n (pc := 181) hx hb dX6_layChoice_181 rfl (lv_at hl 0 rfl) ?_
              refine lv_iload (pc := 182) hx hb dX6_layChoice_182 (lv_at hl 8 rfl) ?_
              refine lv_iconst (pc := 184) (v := (3 : Int32)) hx hb dX6_layChoice_184 (by decide) ?_
              refine lv_aload_n (pc := 185) hx hb dX6_layChoice_185 rfl (lv_at hl 0 rfl) ?_
              refine z_get (pc := 186) (ref := "LotSheetModel") (ci := 6) (C := RX6) (T := TX6) (N := 22) hx hb hts iw_X6_layChoice_X6 hown Z 0 rfl rfl 21 (by decide) (List.mem_of_getElem? (i := 3) rfl) rfl rfl dX6_layChoice_186 ?_
              refine lv_iload (pc := 189) hx hb dX6_layChoice_189 (lv_at hl 8 rfl) ?_
              obtain ⟨i72, hf⟩ := o_rdE hf
              refine z_iald (pc := 191) hx hb Z 8 0 rfl rfl i72 dX6_layChoice_191 ?_
              obtain ⟨a73, q74, hf⟩ := o_bindE hf
              refine z_callVv (pc := 192) (As := [.int x69, .int (3 : Int32), .int (a15 x69.toNatClampNeg)]) (rest := []) (Wc := (W_X6_set cA (fun k => h ([0, 1, 2, 3, 4, 5, 6, 7, 8, 9, 10, 11, 12, 13, 14, 15, 16, 17, 18, 19].getD k 0)) m_thrown m_bufferLength m_textLength m_position m_error m_errorAt m_errorOffset a70 m_undoDepth m_numberStart m_seen x21)) (W1 := (W_X6_set cA (fun k => h ([0, 1, 2, 3, 4, 5, 6, 7, 8, 9, 10, 11, 12, 13, 14, 15, 16, 17, 18, 19].getD k 0)) m_thrown m_bufferLength m_textLength m_position m_error m_errorAt m_errorOffset a73 m_undoDepth m_numberStart m_seen x21)) (W2 := (W_X6_layChoice cA h m_thrown m_bufferLength m_textLength m_position m_error m_errorAt m_errorOffset a73 m_undoDepth m_numberStart m_seen a17 a18 a19 a20 x21 a10 m_told a15)) ⟨hx, hb, hml, hown, hts⟩ (kX6_set l D cA (fun k => h ([0, 1, 2, 3, 4, 5, 6, 7, 8, 9, 10, 11, 12, 13, 14, 15, 16, 17, 18, 19].getD k 0)) x69 (3 : Int32) (a15 x69.toNatClampNeg) m_thrown m_bufferLength m_textLength m_position m_error m_errorAt m_errorOffset a70 m_undoDepth m_numberStart m_seen x21 _ q74) (cwV 3 hts gX6_layChoice_X6_set rfl rfl rfl (by decide +kernel) ⟨Nat.le_of_ble_eq_true rfl, Nat.le_of_ble_eq_true rfl⟩) Z hA [0, 1] rfl (by decide) rfl (ci := 6) rfl rfl rfl rfl hl.1 rfl (Nat.le_of_ble_eq_true rfl) dX6_layChoice_192 ⟨Nat.zero_le _, Nat.zero_le _⟩ [some 0, some 1, none, none, none, none, none, none, none] rfl ⟨rfl, rfl, rfl, rfl, rfl, rfl, rfl, rfl, rfl, rfl⟩ (fun H locs Z => ?_)
              obtain ⟨x75, ex75⟩ : ∃ y : Int32, y = (x69 + (1 : Int32)) := ⟨_, rfl⟩
              replace hf := o_letE ex75 hf
              refine lv_iinc (pc := 195) (v := x75) (lv' := [(10, .int x75), (0, .ref (h 0)), (2, .int x1), (3, .int (0 : Int32)), (4, .int (0 : Int32)), (5, .int (0 : Int32)), (6, .int (-1 : Int32)), (7, .int (-1 : Int32)), (8, .int x2)]) hx hb dX6_layChoice_195 hl (k := 8) rfl (by rw [ex75]; rfl) (by decide) rfl (fun ls hl => ?_)
              refine lv_goto (pc := 198) (tgt := 170) hx hb dX6_layChoice_198 (by decide) ?_
              exact ih0 x75 a73 H locs ls Z (lv_sub hl [1, 2, 3, 4, 5, 6, 7, 8, 0] rfl) hf
        exact hL170 1024 (0 : Int32) a14 H locs ls Z (lv_sub hl [1, 2, 3, 4, 5, 6, 7, 8, 0] rfl) hf
      have hL107 : ∀ (n0 : Nat) (x76 : Int32) (a77 : Nat → Int32) (a78 : Nat → Int32) (H : Heap) (locs : List Loc) (ls : Array Slot), zw D (zTY cA) s A (W_X6_layChoice cA h m_thrown m_bufferLength m_textLength m_position m_error m_errorAt m_errorOffset a77 m_undoDepth m_numberStart m_seen a4 a5 a6 a7 x8 a10 m_told a78) H locs → lv_has ls 12 [(0, .ref (h 0)), (2, .int x1), (3, .int (0 : Int32)), (4, .int (0 : Int32)), (5, .int (0 : Int32)), (6, .int (-1 : Int32)), (7, .int (-1 : Int32)), (8, .int x2), (9, .int x12), (10, .int x76)] → fX6_layChoice_L107 j163_16 x12 n0 x76 a77 a78 = some u → W p l e ({ frames := 5, cells := 0, slots := 0, locals := 109 } : Room) s m args below meth c H locs 0 0 (MQ below (zQv D (zTY cA) A (W_X6_layChoice cA h m_thrown m_bufferLength m_textLength m_position m_error m_errorAt m_errorOffset (u.1) m_undoDepth m_numberStart m_seen (u.2.1) (u.2.2.1) (u.2.2.2.1) (u.2.2.2.2.1) (u.2.2.2.2.2.1) (u.2.2.2.2.2.2.1) (u.2.2.2.2.2.2.2.1) (u.2.2.2.2.2.2.2.2))) args s 0 0 A) (F0 m 107 ls []) := by
        intro n0
        induction n0 with
        | zero => intro x76 a77 a78 H locs ls Z hl hf; exact o_no hf
        | succ n0 ih0 =>
          intro x76 a77 a78 H locs ls Z hl hf
          refine lv_iload (pc := 107) hx hb dX6_layChoice_107 (lv_at hl 9 rfl) ?_
          refine lv_aload_n (pc := 109) hx hb dX6_layChoice_109 rfl (lv_at hl 0 rfl) ?_
          refine z_get (pc := 110) (ref := "LotSheetModel") (ci := 6) (C := RX6) (T := TX6) (N := 22) hx hb hts iw_X6_layChoice_X6 hown Z 0 rfl rfl 8 (by decide) (List.mem_of_getElem? (i := 1) rfl) rfl rfl dX6_layChoice_110 ?_
          refine lv_iconst (pc := 113) (v := (1 : Int32)) hx hb dX6_layChoice_113 (by decide) ?_
          refine z_iald (pc := 114) hx hb Z 1 0 rfl rfl (show ¬ ((1 : Int32) < 0 ∨ 153 ≤ (1 : Int32).toNatClampNeg) by decide) dX6_layChoice_114 ?_
          refine lv_icmp_ge (pc := 115) (tgt := 163) hx hb dX6_layChoice_115 (by decide) (fun c79 => ?_) (fun c79 => ?_)
          · replace hf := o_pos c79 hf
            exact hj163_16 a77 a78 H locs ls Z (lv_sub hl [0, 1, 2, 3, 4, 5, 6, 7] rfl) hf
          · replace hf := o_neg c79 hf
            refine lv_aload_n (pc := 118) hx hb dX6_layChoice_118 rfl (lv_at hl 0 rfl) ?_
            refine z_get (pc := 119) (ref := "LotSheetModel") (ci := 6) (C := RX6) (T := TX6) (N := 22) hx hb hts iw_X6_layChoice_X6 hown Z 0 rfl rfl 21 (by decide) (List.mem_of_getElem? (i := 3) rfl) rfl rfl dX6_layChoice_119 ?_
            refine lv_iload (pc := 122) hx hb dX6_layChoice_122 (lv_at hl 9 rfl) ?_
            refine lv_aload_n (pc := 124) hx hb dX6_layChoice_124 rfl (lv_at hl 0 rfl) ?_
            refine lv_iload (pc := 125) hx hb dX6_layChoice_125 (lv_at hl 9 rfl) ?_
            refine lv_iconst (pc := 127) (v := (3 : Int32)) hx hb dX6_layChoice_127 (by decide) ?_
            obtain ⟨x80, q81, hf⟩ := o_bindE hf
            refine z_callVi (pc := 128) (As := [.int x76, .int (3 : Int32)]) (rest := [.int x76, .ref (h 19)]) (Wc := (W_X6_of cA (fun k => h ([0, 1, 2, 3, 4, 5, 6, 7, 8, 9, 10, 11, 12, 13, 14, 15, 16, 17, 18, 19].getD k 0)) m_thrown m_bufferLength m_textLength m_position m_error m_errorAt m_errorOffset a77 m_undoDepth m_numberStart m_seen x8)) (W1 := (W_X6_of cA (fun k => h ([0, 1, 2, 3, 4, 5, 6, 7, 8, 9, 10, 11, 12, 13, 14, 15, 16, 17, 18, 19].getD k 0)) m_thrown m_bufferLength m_textLength m_position m_error m_errorAt m_errorOffset a77 m_undoDepth m_numberStart m_seen x8)) (W2 := (W_X6_layChoice cA h m_thrown m_bufferLength m_textLength m_position m_error m_errorAt m_errorOffset a77 m_undoDepth m_numberStart m_seen a4 a5 a6 a7 x8 a10 m_told a78)) ⟨hx, hb, hml, hown, hts⟩ (kX6_of l D cA (fun k => h ([0, 1, 2, 3, 4, 5, 6, 7, 8, 9, 10, 11, 12, 13, 14, 15, 16, 17, 18, 19].getD k 0)) x76 (3 : Int32) m_thrown m_bufferLength m_textLength m_position m_error m_errorAt m_errorOffset a77 m_undoDepth m_numberStart m_seen x8 _ q81) (cwV 2 hts gX6_layChoice_X6_of rfl rfl rfl (by decide +kernel) ⟨Nat.le_of_ble_eq_true rfl, Nat.le_of_ble_eq_true rfl⟩) Z hA [0, 1] rfl (by decide) rfl (ci := 6) rfl rfl rfl rfl hl.1 rfl (Nat.le_of_ble_eq_true rfl) dX6_layChoice_128 ⟨Nat.zero_le _, Nat.zero_le _⟩ [some 0, some 1, none, none, none, none, none, none, none] rfl ⟨rfl, rfl, rfl, rfl, rfl, rfl, rfl, rfl, rfl, rfl⟩ (fun H locs Z => ?_)
            obtain ⟨i82, hf⟩ := o_rdE hf
            refine z_iast (pc := 131) hx hb Z 8 0 rfl rfl i82 dX6_layChoice_131 (fun g => (W_X6_layChoice cA h m_thrown m_bufferLength m_textLength m_position m_error m_errorAt m_errorOffset a77 m_undoDepth m_numberStart m_seen a4 a5 a6 a7 x8 a10 m_told g)) (fun _ => rfl) (fun a83 H locs ea83 Z => ?_)
            replace hf := o_letE ea83 hf
            refine lv_iload (pc := 132) hx hb dX6_layChoice_132 (lv_at hl 8 rfl) ?_
            refine lv_iload (pc := 134) hx hb dX6_layChoice_134 (lv_at hl 9 rfl) ?_
            refine lv_ishr (pc := 136) hx hb dX6_layChoice_136 ?_
            refine lv_iconst (pc := 137) (v := (1 : Int32)) hx hb dX6_layChoice_137 (by decide) ?_
            refine lv_iand (pc := 138) hx hb dX6_layChoice_138 ?_
            refine lv_iconst (pc := 139) (v := (1 : Int32)) hx hb dX6_layChoice_139 (by decide) ?_
            refine lv_icmp_ne (pc := 140) (tgt := 157) hx hb dX6_layChoice_140 (by decide) (fun c84 => ?_) (fun c84 => ?_)
            · replace hf := o_neg c84 hf
              obtain ⟨x85, ex85⟩ : ∃ y : Int32, y = (x76 + (1 : Int32)) := ⟨_, rfl⟩
              replace hf := o_letE ex85 hf
              refine lv_iinc (pc := 157) (v := x85) (lv' := [(10, .int x85), (0, .ref (h 0)), (2, .int x1), (3, .int (0 : Int32)), (4, .int (0 : Int32)), (5, .int (0 : Int32)), (6, .int (-1 : Int32)), (7, .int (-1 : Int32)), (8, .int x2), (9, .int x12)]) hx hb dX6_layChoice_157 hl (k := 9) rfl (by rw [ex85]; rfl) (by decide) rfl (fun ls hl => ?_)
              refine lv_goto (pc := 160) (tgt := 107) hx hb dX6_layChoice_160 (by decide) ?_
              exact ih0 x85 a77 a83 H locs ls Z (lv_sub hl [1, 2, 3, 4, 5, 6, 7, 8, 9, 0] rfl) hf
            · replace hf := o_pos c84 hf
              refine lv_aload_n (pc := 143) hx hb dX6_layChoice_143 rfl (lv_at hl 0 rfl) ?_
              refine lv_iload (pc := 144) hx hb dX6_layChoice_144 (lv_at hl 9 rfl) ?_
              refine lv_iconst (pc := 146) (v := (3 : Int32)) hx hb dX6_layChoice_146 (by decide) ?_
              refine lv_aload_n (pc := 147) hx hb dX6_layChoice_147 rfl (lv_at hl 0 rfl) ?_
              refine lv_iload (pc := 148) hx hb dX6_layChoice_148 (lv_at hl 9 rfl) ?_
              refine lv_iconst (pc := 150) (v := (4 : Int32)) hx hb dX6_layChoice_150 (by decide) ?_
              obtain ⟨x86, q87, hf⟩ := o_bindE hf
              refine z_callVi (pc := 151) (As := [.int x76, .int (4 : Int32)]) (rest := [.int (3 : Int32), .int x76, .ref (h 0)]) (Wc := (W_X6_of cA (fun k => h ([0, 1, 2, 3, 4, 5, 6, 7, 8, 9, 10, 11, 12, 13, 14, 15, 16, 17, 18, 19].getD k 0)) m_thrown m_bufferLength m_textLength m_position m_error m_errorAt m_errorOffset a77 m_undoDepth m_numberStart m_seen x8)) (W1 := (W_X6_of cA (fun k => h ([0, 1, 2, 3, 4, 5, 6, 7, 8, 9, 10, 11, 12, 13, 14, 15, 16, 17, 18, 19].getD k 0)) m_thrown m_bufferLength m_textLength m_position m_error m_errorAt m_errorOffset a77 m_undoDepth m_numberStart m_seen x8)) (W2 := (W_X6_layChoice cA h m_thrown m_bufferLength m_textLength m_position m_error m_errorAt m_errorOffset a77 m_undoDepth m_numberStart m_seen a4 a5 a6 a7 x8 a10 m_told a83)) ⟨hx, hb, hml, hown, hts⟩ (kX6_of l D cA (fun k => h ([0, 1, 2, 3, 4, 5, 6, 7, 8, 9, 10, 11, 12, 13, 14, 15, 16, 17, 18, 19].getD k 0)) x76 (4 : Int32) m_thrown m_bufferLength m_textLength m_position m_error m_errorAt m_errorOffset a77 m_undoDepth m_numberStart m_seen x8 _ q87) (cwV 2 hts gX6_layChoice_X6_of rfl rfl rfl (by decide +kernel) ⟨Nat.le_of_ble_eq_true rfl, Nat.le_of_ble_eq_true rfl⟩) Z hA [0, 1] rfl (by decide) rfl (ci := 6) rfl rfl rfl rfl hl.1 rfl (Nat.le_of_ble_eq_true rfl) dX6_layChoice_151 ⟨Nat.zero_le _, Nat.zero_le _⟩ [some 0, some 1, none, none, none, none, none, none, none] rfl ⟨rfl, rfl, rfl, rfl, rfl, rfl, rfl, rfl, rfl, rfl⟩ (fun H locs Z => ?_)
              obtain ⟨a88, q89, hf⟩ := o_bindE hf
              refine z_callVv (pc := 154) (As := [.int x76, .int (3 : Int32), .int x86]) (rest := []) (Wc := (W_X6_set cA (fun k => h ([0, 1, 2, 3, 4, 5, 6, 7, 8, 9, 10, 11, 12, 13, 14, 15, 16, 17, 18, 19].getD k 0)) m_thrown m_bufferLength m_textLength m_position m_error m_errorAt m_errorOffset a77 m_undoDepth m_numberStart m_seen x8)) (W1 := (W_X6_set cA (fun k => h ([0, 1, 2, 3, 4, 5, 6, 7, 8, 9, 10, 11, 12, 13, 14, 15, 16, 17, 18, 19].getD k 0)) m_thrown m_bufferLength m_textLength m_position m_error m_errorAt m_errorOffset a88 m_undoDepth m_numberStart m_seen x8)) (W2 := (W_X6_layChoice cA h m_thrown m_bufferLength m_textLength m_position m_error m_errorAt m_errorOffset a88 m_undoDepth m_numberStart m_seen a4 a5 a6 a7 x8 a10 m_told a83)) ⟨hx, hb, hml, hown, hts⟩ (kX6_set l D cA (fun k => h ([0, 1, 2, 3, 4, 5, 6, 7, 8, 9, 10, 11, 12, 13, 14, 15, 16, 17, 18, 19].getD k 0)) x76 (3 : Int32) x86 m_thrown m_bufferLength m_textLength m_position m_error m_errorAt m_errorOffset a77 m_undoDepth m_numberStart m_seen x8 _ q89) (cwV 3 hts gX6_layChoice_X6_set rfl rfl rfl (by decide +kernel) ⟨Nat.le_of_ble_eq_true rfl, Nat.le_of_ble_eq_true rfl⟩) Z hA [0, 1] rfl (by decide) rfl (ci := 6) rfl rfl rfl rfl hl.1 rfl (Nat.le_of_ble_eq_true rfl) dX6_layChoice_154 ⟨Nat.zero_le _, Nat.zero_le _⟩ [some 0, some 1, none, none, none, none, none, none, none] rfl ⟨rfl, rfl, rfl, rfl, rfl, rfl, rfl, rfl, rfl, rfl⟩ (fun H locs Z => ?_)
              obtain ⟨x90, ex90⟩ : ∃ y : Int32, y = (x76 + (1 : Int32)) := ⟨_, rfl⟩
              replace hf := o_letE ex90 hf
              refine lv_iinc (pc := 157) (v := x90) (lv' := [(10, .int x90), (0, .ref (h 0)), (2, .int x1), (3, .int (0 : Int32)), (4, .int (0 : Int32)), (5, .int (0 : Int32)), (6, .int (-1 : Int32)), (7, .int (-1 : Int32)), (8, .int x2), (9, .int x12)]) hx hb dX6_layChoice_157 hl (k := 9) rfl (by rw [ex90]; rfl) (by decide) rfl (fun ls hl => ?_)
              refine lv_goto (pc := 160) (tgt := 107) hx hb dX6_layChoice_160 (by decide) ?_
              exact ih0 x90 a88 a83 H locs ls Z (lv_sub hl [1, 2, 3, 4, 5, 6, 7, 8, 9, 0] rfl) hf
      exact hL107 1024 (0 : Int32) m_data m_wasPrinted H locs ls Z (lv_sub hl [1, 2, 3, 4, 5, 6, 7, 8, 9, 0] rfl) hf
    have hL68 : ∀ (n0 : Nat) (x91 : Int32) (x92 : Int32) (H : Heap) (locs : List Loc) (ls : Array Slot), zw D (zTY cA) s A (W_X6_layChoice cA h m_thrown m_bufferLength m_textLength m_position m_error m_errorAt m_errorOffset m_data m_undoDepth m_numberStart m_seen a4 a5 a6 a7 x8 a10 m_told m_wasPrinted) H locs → lv_has ls 12 [(0, .ref (h 0)), (1, .int p1), (2, .int x1), (3, .int (0 : Int32)), (4, .int (0 : Int32)), (5, .int (0 : Int32)), (6, .int (-1 : Int32)), (7, .int (-1 : Int32)), (8, .int x2), (9, .int x91), (10, .int x92)] → fX6_layChoice_L68 m_data j104_13 p1 n0 x91 x92 = some u → W p l e ({ frames := 5, cells := 0, slots := 0, locals := 109 } : Room) s m args below meth c H locs 0 0 (MQ below (zQv D (zTY cA) A (W_X6_layChoice cA h m_thrown m_bufferLength m_textLength m_position m_error m_errorAt m_errorOffset (u.1) m_undoDepth m_numberStart m_seen (u.2.1) (u.2.2.1) (u.2.2.2.1) (u.2.2.2.2.1) (u.2.2.2.2.2.1) (u.2.2.2.2.2.2.1) (u.2.2.2.2.2.2.2.1) (u.2.2.2.2.2.2.2.2))) args s 0 0 A) (F0 m 68 ls []) := by
      intro n0
      induction n0 with
      | zero => intro x91 x92 H locs ls Z hl hf; exact o_no hf
      | succ n0 ih0 =>
        intro x91 x92 H locs ls Z hl hf
        refine lv_iload (pc := 68) hx hb dX6_layChoice_68 (lv_at hl 10 rfl) ?_
        refine lv_aload_n (pc := 70) hx hb dX6_layChoice_70 rfl (lv_at hl 0 rfl) ?_
        refine z_get (pc := 71) (ref := "LotSheetModel") (ci := 6) (C := RX6) (T := TX6) (N := 22) hx hb hts iw_X6_layChoice_X6 hown Z 0 rfl rfl 8 (by decide) (List.mem_of_getElem? (i := 1) rfl) rfl rfl dX6_layChoice_71 ?_
        refine lv_iconst (pc := 74) (v := (1 : Int32)) hx hb dX6_layChoice_74 (by decide) ?_
        refine z_iald (pc := 75) hx hb Z 1 0 rfl rfl (show ¬ ((1 : Int32) < 0 ∨ 153 ≤ (1 : Int32).toNatClampNeg) by decide) dX6_layChoice_75 ?_
        refine lv_icmp_ge (pc := 76) (tgt := 104) hx hb dX6_layChoice_76 (by decide) (fun c93 => ?_) (fun c93 => ?_)
        · replace hf := o_pos c93 hf
          exact hj104_13 x91 H locs ls Z (lv_sub hl [0, 2, 3, 4, 5, 6, 7, 8, 9] rfl) hf
        · replace hf := o_neg c93 hf
          refine lv_aload_n (pc := 79) hx hb dX6_layChoice_79 rfl (lv_at hl 0 rfl) ?_
          refine lv_iload_n (pc := 80) hx hb dX6_layChoice_80 rfl (lv_at hl 1 rfl) ?_
          refine lv_iload (pc := 81) hx hb dX6_layChoice_81 (lv_at hl 10 rfl) ?_
          obtain ⟨x94, q95, hf⟩ := o_bindE hf
          refine z_callVi (pc := 83) (As := [.int p1, .int x92]) (rest := []) (Wc := (W_X6_isChosen cA (fun k => h ([0, 1, 2, 3, 4, 5, 6, 7, 8, 9, 10, 11, 12, 13, 14, 15, 16, 17, 18, 19].getD k 0)) m_thrown m_bufferLength m_textLength m_position m_error m_errorAt m_errorOffset m_data m_undoDepth m_numberStart m_seen x8)) (W1 := (W_X6_isChosen cA (fun k => h ([0, 1, 2, 3, 4, 5, 6, 7, 8, 9, 10, 11, 12, 13, 14, 15, 16, 17, 18, 19].getD k 0)) m_thrown m_bufferLength m_textLength m_position m_error m_errorAt m_errorOffset m_data m_undoDepth m_numberStart m_seen x8)) (W2 := (W_X6_layChoice cA h m_thrown m_bufferLength m_textLength m_position m_error m_errorAt m_errorOffset m_data m_undoDepth m_numberStart m_seen a4 a5 a6 a7 x8 a10 m_told m_wasPrinted)) ⟨hx, hb, hml, hown, hts⟩ (kX6_isChosen l D cA (fun k => h ([0, 1, 2, 3, 4, 5, 6, 7, 8, 9, 10, 11, 12, 13, 14, 15, 16, 17, 18, 19].getD k 0)) p1 x92 m_thrown m_bufferLength m_textLength m_position m_error m_errorAt m_errorOffset m_data m_undoDepth m_numberStart m_seen x8 _ q95) (cwV 2 hts gX6_layChoice_X6_isChosen rfl rfl rfl (by decide +kernel) ⟨Nat.le_of_ble_eq_true rfl, Nat.le_of_ble_eq_true rfl⟩) Z hA [0, 1] rfl (by decide) rfl (ci := 6) rfl rfl rfl rfl hl.1 rfl (Nat.le_of_ble_eq_true rfl) dX6_layChoice_83 ⟨Nat.zero_le _, Nat.zero_le _⟩ [some 0, some 1, none, none, none, none, none, none, none] rfl ⟨rfl, rfl, rfl, rfl, rfl, rfl, rfl, rfl, rfl, rfl⟩ (fun H locs Z => ?_)
          refine lv_if_eq (pc := 86) (tgt := 98) hx hb dX6_layChoice_86 (by decide) (fun c96 => ?_) (fun c96 => ?_)
          · replace hf := o_pos c96 hf
            obtain ⟨x97, ex97⟩ : ∃ y : Int32, y = (x92 + (1 : Int32)) := ⟨_, rfl⟩
            replace hf := o_letE ex97 hf
            refine lv_iinc (pc := 98) (v := x97) (lv' := [(10, .int x97), (0, .ref (h 0)), (1, .int p1), (2, .int x1), (3, .int (0 : Int32)), (4, .int (0 : Int32)), (5, .int (0 : Int32)), (6, .int (-1 : Int32)), (7, .int (-1 : Int32)), (8, .int x2), (9, .int x91)]) hx hb dX6_layChoice_98 hl (k := 10) rfl (by rw [ex97]; rfl) (by decide) rfl (fun ls hl => ?_)
            refine lv_goto (pc := 101) (tgt := 68) hx hb dX6_layChoice_101 (by decide) ?_
            exact ih0 x91 x97 H locs ls Z (lv_sub hl [1, 2, 3, 4, 5, 6, 7, 8, 9, 10, 0] rfl) hf
          · replace hf := o_neg c96 hf
            refine lv_iload (pc := 89) hx hb dX6_layChoice_89 (lv_at hl 9 rfl) ?_
            refine lv_iconst (pc := 91) (v := (1 : Int32)) hx hb dX6_layChoice_91 (by decide) ?_
            refine lv_iload (pc := 92) hx hb dX6_layChoice_92 (lv_at hl 10 rfl) ?_
            refine lv_ishl (pc := 94) hx hb dX6_layChoice_94 ?_
            refine lv_ior (pc := 95) hx hb dX6_layChoice_95 ?_
            refine lv_topi (fun x98 ex98 => ?_)
            replace hf := o_letE ex98 hf
            refine lv_istore (pc := 96) (lv' := [(9, .int x98), (0, .ref (h 0)), (1, .int p1), (2, .int x1), (3, .int (0 : Int32)), (4, .int (0 : Int32)), (5, .int (0 : Int32)), (6, .int (-1 : Int32)), (7, .int (-1 : Int32)), (8, .int x2), (10, .int x92)]) hx hb dX6_layChoice_96 hl (by decide) rfl (fun ls hl => ?_)
            obtain ⟨x99, ex99⟩ : ∃ y : Int32, y = (x92 + (1 : Int32)) := ⟨_, rfl⟩
            replace hf := o_letE ex99 hf
            refine lv_iinc (pc := 98) (v := x99) (lv' := [(10, .int x99), (9, .int x98), (0, .ref (h 0)), (1, .int p1), (2, .int x1), (3, .int (0 : Int32)), (4, .int (0 : Int32)), (5, .int (0 : Int32)), (6, .int (-1 : Int32)), (7, .int (-1 : Int32)), (8, .int x2)]) hx hb dX6_layChoice_98 hl (k := 10) rfl (by rw [ex99]; rfl) (by decide) rfl (fun ls hl => ?_)
            refine lv_goto (pc := 101) (tgt := 68) hx hb dX6_layChoice_101 (by decide) ?_
            exact ih0 x98 x99 H locs ls Z (lv_sub hl [2, 3, 4, 5, 6, 7, 8, 9, 10, 1, 0] rfl) hf
    exact hL68 1024 (0 : Int32) (0 : Int32) H locs ls Z (lv_sub hl [1, 2, 3, 4, 5, 6, 7, 8, 9, 10, 0] rfl) hf
  have hL38 : ∀ (n0 : Nat) (x100 : Int32) (a101 : Nat → Int32) (H : Heap) (locs : List Loc) (ls : Array Slot), zw D (zTY cA) s A (W_X6_layChoice cA h m_thrown m_bufferLength m_textLength m_position m_error m_errorAt m_errorOffset m_data m_undoDepth m_numberStart m_seen a4 a5 a6 a7 x8 a101 m_told m_wasPrinted) H locs → lv_has ls 12 [(0, .ref (h 0)), (1, .int p1), (2, .int x1), (3, .int (0 : Int32)), (4, .int (0 : Int32)), (5, .int (0 : Int32)), (6, .int (-1 : Int32)), (7, .int (-1 : Int32)), (8, .int x2), (9, .int (0 : Int32)), (10, .int x100)] → fX6_layChoice_L38 j65_11 a4 a7 n0 x100 a101 = some u → W p l e ({ frames := 5, cells := 0, slots := 0, locals := 109 } : Room) s m args below meth c H locs 0 0 (MQ below (zQv D (zTY cA) A (W_X6_layChoice cA h m_thrown m_bufferLength m_textLength m_position m_error m_errorAt m_errorOffset (u.1) m_undoDepth m_numberStart m_seen (u.2.1) (u.2.2.1) (u.2.2.2.1) (u.2.2.2.2.1) (u.2.2.2.2.2.1) (u.2.2.2.2.2.2.1) (u.2.2.2.2.2.2.2.1) (u.2.2.2.2.2.2.2.2))) args s 0 0 A) (F0 m 38 ls []) := by
    intro n0
    induction n0 with
    | zero => intro x100 a101 H locs ls Z hl hf; exact o_no hf
    | succ n0 ih0 =>
      intro x100 a101 H locs ls Z hl hf
      refine lv_iload (pc := 38) hx hb dX6_layChoice_38 (lv_at hl 10 rfl) ?_
      refine lv_sipush (pc := 40) (v := (960 : Int32)) hx hb dX6_layChoice_40 (by decide) ?_
      refine lv_icmp_ge (pc := 43) (tgt := 65) hx hb dX6_layChoice_43 (by decide) (fun c102 => ?_) (fun c102 => ?_)
      · replace hf := o_pos c102 hf
        exact hj65_11 a101 H locs ls Z (lv_sub hl [0, 1, 2, 3, 4, 5, 6, 7, 8, 9] rfl) hf
      · replace hf := o_neg c102 hf
        refine lv_aload_n (pc := 46) hx hb dX6_layChoice_46 rfl (lv_at hl 0 rfl) ?_
        refine z_get (pc := 47) (ref := "LotSheetModel") (ci := 6) (C := RX6) (T := TX6) (N := 22) hx hb hts iw_X6_layChoice_X6 hown Z 0 rfl rfl 19 (by decide) (List.mem_of_getElem? (i := 2) rfl) rfl rfl dX6_layChoice_47 ?_
        refine lv_iload (pc := 50) hx hb dX6_layChoice_50 (lv_at hl 10 rfl) ?_
        refine lv_aload_n (pc := 52) hx hb dX6_layChoice_52 rfl (lv_at hl 0 rfl) ?_
        refine lv_iload (pc := 53) hx hb dX6_layChoice_53 (lv_at hl 10 rfl) ?_
        obtain ⟨x103, q104, hf⟩ := o_bindE hf
        refine z_callVi (pc := 55) (As := [.int x100]) (rest := [.int x100, .ref (h 17)]) (Wc := (W_X6_signOf cA (fun k => h ([0, 1, 2, 3, 4, 5, 6, 7, 8, 9, 10, 11, 12, 13, 14, 15, 16, 17, 18, 19].getD k 0)) m_thrown m_bufferLength m_textLength m_position m_error m_errorAt m_errorOffset m_undoDepth m_numberStart m_seen a4 a7 x8)) (W1 := (W_X6_signOf cA (fun k => h ([0, 1, 2, 3, 4, 5, 6, 7, 8, 9, 10, 11, 12, 13, 14, 15, 16, 17, 18, 19].getD k 0)) m_thrown m_bufferLength m_textLength m_position m_error m_errorAt m_errorOffset m_undoDepth m_numberStart m_seen a4 a7 x8)) (W2 := (W_X6_layChoice cA h m_thrown m_bufferLength m_textLength m_position m_error m_errorAt m_errorOffset m_data m_undoDepth m_numberStart m_seen a4 a5 a6 a7 x8 a101 m_told m_wasPrinted)) ⟨hx, hb, hml, hown, hts⟩ (kX6_signOf l D cA (fun k => h ([0, 1, 2, 3, 4, 5, 6, 7, 8, 9, 10, 11, 12, 13, 14, 15, 16, 17, 18, 19].getD k 0)) x100 m_thrown m_bufferLength m_textLength m_position m_error m_errorAt m_errorOffset m_undoDepth m_numberStart m_seen a4 a7 x8 _ q104) (cwV 1 hts gX6_layChoice_X6_signOf rfl rfl rfl (by decide +kernel) ⟨Nat.le_of_ble_eq_true rfl, Nat.le_of_ble_eq_true rfl⟩) Z hA [0, 2, 5] rfl (by decide) rfl (ci := 6) rfl rfl rfl rfl hl.1 rfl (Nat.le_of_ble_eq_true rfl) dX6_layChoice_55 ⟨Nat.zero_le _, Nat.zero_le _⟩ [some 0, none, some 1, none, none, some 2, none, none, none] rfl ⟨rfl, rfl, rfl, rfl, rfl, rfl, rfl, rfl, rfl, rfl⟩ (fun H locs Z => ?_)
        obtain ⟨i105, hf⟩ := o_rdE hf
        refine z_iast (pc := 58) hx hb Z 6 0 rfl rfl i105 dX6_layChoice_58 (fun g => (W_X6_layChoice cA h m_thrown m_bufferLength m_textLength m_position m_error m_errorAt m_errorOffset m_data m_undoDepth m_numberStart m_seen a4 a5 a6 a7 x8 g m_told m_wasPrinted)) (fun _ => rfl) (fun a106 H locs ea106 Z => ?_)
        replace hf := o_letE ea106 hf
        obtain ⟨x107, ex107⟩ : ∃ y : Int32, y = (x100 + (1 : Int32)) := ⟨_, rfl⟩
        replace hf := o_letE ex107 hf
        refine lv_iinc (pc := 59) (v := x107) (lv' := [(10, .int x107), (0, .ref (h 0)), (1, .int p1), (2, .int x1), (3, .int (0 : Int32)), (4, .int (0 : Int32)), (5, .int (0 : Int32)), (6, .int (-1 : Int32)), (7, .int (-1 : Int32)), (8, .int x2), (9, .int (0 : Int32))]) hx hb dX6_layChoice_59 hl (k := 10) rfl (by rw [ex107]; rfl) (by decide) rfl (fun ls hl => ?_)
        refine lv_goto (pc := 62) (tgt := 38) hx hb dX6_layChoice_62 (by decide) ?_
        exact ih0 x107 a106 H locs ls Z (lv_sub hl [1, 2, 3, 4, 5, 6, 7, 8, 9, 10, 0] rfl) hf
  exact hL38 1024 (0 : Int32) m_before H locs ls Z (lv_sub hl [9, 10, 8, 7, 6, 5, 4, 3, 2, 1, 0] rfl) hf
