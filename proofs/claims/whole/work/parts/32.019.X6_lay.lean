def W_X6_lay (cA : Nat → ClassId) (h : Nat → Nat) (m_thrown : Int32) (m_bufferLength : Int32) (m_textLength : Int32) (m_position : Int32) (m_error : Int32) (m_errorAt : Int32) (m_errorOffset : Int32) (m_data : Nat → Int32) (m_undoDepth : Int32) (m_numberStart : Int32) (m_seen : Int32) (m_numberOf : Nat → Int32) (m_pageOf : Nat → Int32) (m_lineOf : Nat → Int32) (m_stands : Nat → Int32) (m_pages : Int32) : va_W := [(h 0, .inr (6, [.int m_thrown, .ref (h 1), .int m_bufferLength, .int m_textLength, .int m_position, .int m_error, .int m_errorAt, .int m_errorOffset, .ref (h 2), .ref (h 3), .ref (h 4), .int m_undoDepth, .int m_numberStart, .int m_seen, .ref (h 13), .ref (h 14), .ref (h 15), .ref (h 16), .int m_pages, .ref (h 17), .ref (h 18), .ref (h 19)])), (h 2, .inl (cA 0, 153, .inl m_data)), (h 13, .inl (cA 0, 24, .inl m_numberOf)), (h 14, .inl (cA 0, 24, .inl m_pageOf)), (h 15, .inl (cA 0, 24, .inl m_lineOf)), (h 16, .inl (cA 0, 960, .inl m_stands))]
def fX6_lay_L158 (x6 : Int32) (m_data : Nat → Int32) (j202_34 : (Nat → Int32) → Option ((Nat → Int32) × (Nat → Int32) × (Nat → Int32) × (Nat → Int32) × Int32)) (x1 : Int32) (x24 : Int32) (x23 : Int32) : Nat → Int32 → (Nat → Int32) → Option ((Nat → Int32) × (Nat → Int32) × (Nat → Int32) × (Nat → Int32) × Int32)
  | 0, _, _ => none
  | n1 + 1, x39, a40 => o_bind (fX6_of x6 (0 : Int32) m_data) (fun x41 => (if x41 ≤ x39 then (j202_34 a40) else o_rd 960 (((x1 * (x24 - (1 : Int32))) + x23) + x39) (o_let (upd a40 (((x1 * (x24 - (1 : Int32))) + x23) + x39).toNatClampNeg (((10 : Int32) * x6) + x39)) (fun a45 => o_let (x39 + (1 : Int32)) (fun x46 => (fX6_lay_L158 x6 m_data j202_34 x1 x24 x23 n1 x46 a45))))))
def fX6_lay_L44 (m_data : Nat → Int32) (x1 : Int32) : Nat → Int32 → Int32 → Int32 → (Nat → Int32) → (Nat → Int32) → (Nat → Int32) → (Nat → Int32) → Int32 → Option ((Nat → Int32) × (Nat → Int32) × (Nat → Int32) × (Nat → Int32) × Int32)
  | 0, _, _, _, _, _, _, _, _ => none
  | n0 + 1, x4, x5, x6, a7, a8, a9, a10, x11 => (if (m_data (1 : Int32).toNatClampNeg) ≤ x6 then some (a7, a8, a9, a10, x11) else o_rd 24 x6 (o_let (upd a7 x6.toNatClampNeg (0 : Int32)) (fun a14 => o_rd 24 x6 (o_let (upd a8 x6.toNatClampNeg (-1 : Int32)) (fun a16 => o_rd 24 x6 (o_let (upd a9 x6.toNatClampNeg (-1 : Int32)) (fun a18 => o_bind (fX6_isPrinted x6 m_data) (fun x19 => (if x19 = 0 then o_let (x6 + (1 : Int32)) (fun x52 => (fX6_lay_L44 m_data x1 n0 x4 x5 x52 a14 a16 a18 a10 x11)) else o_let (fun (x23 : Int32) (x24 : Int32) => o_let (x5 + (1 : Int32)) (fun x26 => o_rd 24 x6 (o_let (upd a14 x6.toNatClampNeg x26) (fun a28 => o_rd 24 x6 (o_let (upd a16 x6.toNatClampNeg (x24 - (1 : Int32))) (fun a30 => o_rd 24 x6 (o_let (upd a18 x6.toNatClampNeg x23) (fun a32 => o_let (fun (a33 : Nat → Int32) => o_bind (fX6_of x6 (0 : Int32) m_data) (fun x35 => o_let (x23 + x35) (fun x37 => o_let (x6 + (1 : Int32)) (fun x38 => (fX6_lay_L44 m_data x1 n0 x37 x26 x38 a28 a30 a32 a33 x24))))) (fun (j202_34 : (Nat → Int32) → Option ((Nat → Int32) × (Nat → Int32) × (Nat → Int32) × (Nat → Int32) × Int32)) => (fX6_lay_L158 x6 m_data j202_34 x1 x24 x23 1024 (0 : Int32) a10)))))))))) (fun (j123_25 : Int32 → Int32 → Option ((Nat → Int32) × (Nat → Int32) × (Nat → Int32) × (Nat → Int32) × Int32)) => o_let (o_let (x11 + (1 : Int32)) (fun x48 => (j123_25 (0 : Int32) x48))) (fun (j111_47 : Option ((Nat → Int32) × (Nat → Int32) × (Nat → Int32) × (Nat → Int32) × Int32)) => (if x11 = 0 then j111_47 else o_bind (fX6_of x6 (0 : Int32) m_data) (fun x49 => (if (x4 + x49) ≤ x1 then (j123_25 x4 x11) else j111_47))))))))))))))
def fX6_lay_L19 (j41_3 : (Nat → Int32) → Option ((Nat → Int32) × (Nat → Int32) × (Nat → Int32) × (Nat → Int32) × Int32)) : Nat → Int32 → (Nat → Int32) → Option ((Nat → Int32) × (Nat → Int32) × (Nat → Int32) × (Nat → Int32) × Int32)
  | 0, _, _ => none
  | n0 + 1, x53, a54 => (if (960 : Int32) ≤ x53 then (j41_3 a54) else o_rd 960 x53 (o_let (upd a54 x53.toNatClampNeg (-1 : Int32)) (fun a57 => o_let (x53 + (1 : Int32)) (fun x58 => (fX6_lay_L19 j41_3 n0 x58 a57)))))
def fX6_lay (m_data : Nat → Int32) (m_numberOf : Nat → Int32) (m_pageOf : Nat → Int32) (m_lineOf : Nat → Int32) (m_stands : Nat → Int32) (m_pages : Int32) : Option ((Nat → Int32) × (Nat → Int32) × (Nat → Int32) × (Nat → Int32) × Int32) := o_let (m_data (0 : Int32).toNatClampNeg) (fun x1 => o_let (fun (a2 : Nat → Int32) => (fX6_lay_L44 m_data x1 1024 (0 : Int32) (0 : Int32) (0 : Int32) m_numberOf m_pageOf m_lineOf a2 (0 : Int32))) (fun (j41_3 : (Nat → Int32) → Option ((Nat → Int32) × (Nat → Int32) × (Nat → Int32) × (Nat → Int32) × Int32)) => (fX6_lay_L19 j41_3 1024 (0 : Int32) m_stands)))
theorem iw_X6_lay_X6 : ∀ w ∈ u_ws RX6 TX6 22, w ∈ wsX6_lay := z_inr [19, 20, 21, 22, 23, 24, 25, 26, 27, 28, 29, 30, 31, 32, 33, 34, 35, 36, 37, 38, 39, 40] rfl
set_option maxHeartbeats 4000000 in
set_option maxRecDepth 100000 in
theorem kX6_lay (l : Launch) (D : va_G) (cA : Nat → ClassId) (h : Nat → Nat) (m_thrown : Int32) (m_bufferLength : Int32) (m_textLength : Int32) (m_position : Int32) (m_error : Int32) (m_errorAt : Int32) (m_errorOffset : Int32) (m_data : Nat → Int32) (m_undoDepth : Int32) (m_numberStart : Int32) (m_seen : Int32) (m_numberOf : Nat → Int32) (m_pageOf : Nat → Int32) (m_lineOf : Nat → Int32) (m_stands : Nat → Int32) (m_pages : Int32) (u : (Nat → Int32) × (Nat → Int32) × (Nat → Int32) × (Nat → Int32) × Int32) (hf : fX6_lay m_data m_numberOf m_pageOf m_lineOf m_stands m_pages = some u) : zMv l yX6_lay wsX6_lay ({ frames := 3, cells := 0, slots := 0, locals := 63 } : Room) D (zTY cA) [.ref (h 0)] (W_X6_lay cA h m_thrown m_bufferLength m_textLength m_position m_error m_errorAt m_errorOffset m_data m_undoDepth m_numberStart m_seen m_numberOf m_pageOf m_lineOf m_stands m_pages) (W_X6_lay cA h m_thrown m_bufferLength m_textLength m_position m_error m_errorAt m_errorOffset m_data m_undoDepth m_numberStart m_seen (u.1) (u.2.1) (u.2.2.1) (u.2.2.2.1) (u.2.2.2.2)) := by
  refine z_startv (cc := cX6_lay) (maxL := 6) (ret := none) (by decide) rfl (Nat.le_of_ble_eq_true rfl) ?_
  intro p e s m args below meth c A hx hb hr hts hown hlocks hml hA Z ls hl
  replace hown : s.vm.findClass RX6 = some m.cls := hown
  replace hl : lv_has ls 6 [(0, .ref (h 0))] := hl
  obtain ⟨H, hH⟩ : ∃ H, H = s.heap := ⟨_, rfl⟩
  rw [← hH] at Z ⊢
  clear hH
  obtain ⟨locs, hlc⟩ : ∃ q : List Loc, q = [] := ⟨_, rfl⟩
  rw [← hlc] at Z ⊢
  clear hlc
  refine lv_aload_n (pc := 0) hx hb dX6_lay_0 rfl (lv_at hl 0 rfl) ?_
  refine z_get (pc := 1) (ref := "LotSheetModel") (ci := 6) (C := RX6) (T := TX6) (N := 22) hx hb hts iw_X6_lay_X6 hown Z 0 rfl rfl 8 (by decide) (List.mem_of_getElem? (i := 1) rfl) rfl rfl dX6_lay_1 ?_
  refine lv_iconst (pc := 4) (v := (0 : Int32)) hx hb dX6_lay_4 (by decide) ?_
  refine z_iald (pc := 5) hx hb Z 1 0 rfl rfl (show ¬ ((0 : Int32) < 0 ∨ 153 ≤ (0 : Int32).toNatClampNeg) by decide) dX6_lay_5 ?_
  refine lv_topi (fun x1 ex1 => ?_)
  replace hf := o_letE ex1 hf
  refine lv_istore_n (pc := 6) (lv' := [(1, .int x1), (0, .ref (h 0))]) hx hb dX6_lay_6 rfl hl (by decide) rfl (fun ls hl => ?_)
  refine lv_iconst (pc := 7) (v := (0 : Int32)) hx hb dX6_lay_7 (by decide) ?_
  refine lv_istore_n (pc := 8) (lv' := [(2, .int (0 : Int32)), (1, .int x1), (0, .ref (h 0))]) hx hb dX6_lay_8 rfl hl (by decide) rfl (fun ls hl => ?_)
  refine lv_iconst (pc := 9) (v := (0 : Int32)) hx hb dX6_lay_9 (by decide) ?_
  refine lv_istore_n (pc := 10) (lv' := [(3, .int (0 : Int32)), (2, .int (0 : Int32)), (1, .int x1), (0, .ref (h 0))]) hx hb dX6_lay_10 rfl hl (by decide) rfl (fun ls hl => ?_)
  refine lv_aload_n (pc := 11) hx hb dX6_lay_11 rfl (lv_at hl 3 rfl) ?_
  refine lv_iconst (pc := 12) (v := (0 : Int32)) hx hb dX6_lay_12 (by decide) ?_
  refine z_put (pc := 13) (ref := "LotSheetModel") (ci := 6) (C := RX6) (T := TX6) (N := 22) (W1 := (W_X6_lay cA h m_thrown m_bufferLength m_textLength m_position m_error m_errorAt m_errorOffset m_data m_undoDepth m_numberStart m_seen m_numberOf m_pageOf m_lineOf m_stands (0 : Int32))) hx hb hts iw_X6_lay_X6 tyX6 tyX6_ok nmX6 hown Z 0 rfl rfl 18 (by decide) (List.mem_of_getElem? (i := 2) rfl) rfl rfl rfl rfl (Nat.le_of_ble_eq_true rfl) dX6_lay_13 rfl (fun H locs Z => ?_)
  refine lv_iconst (pc := 16) (v := (0 : Int32)) hx hb dX6_lay_16 (by decide) ?_
  refine lv_istore (pc := 17) (lv' := [(4, .int (0 : Int32)), (3, .int (0 : Int32)), (2, .int (0 : Int32)), (1, .int x1), (0, .ref (h 0))]) hx hb dX6_lay_17 hl (by decide) rfl (fun ls hl => ?_)
  obtain ⟨j41_3, ej41_3, hf⟩ := o_jnE hf
  have hj41_3 : ∀ (a2 : Nat → Int32) (H : Heap) (locs : List Loc) (ls : Array Slot), zw D (zTY cA) s A (W_X6_lay cA h m_thrown m_bufferLength m_textLength m_position m_error m_errorAt m_errorOffset m_data m_undoDepth m_numberStart m_seen m_numberOf m_pageOf m_lineOf a2 (0 : Int32)) H locs → lv_has ls 6 [(0, .ref (h 0)), (1, .int x1), (2, .int (0 : Int32)), (3, .int (0 : Int32))] → j41_3 a2 = some u → W p l e ({ frames := 3, cells := 0, slots := 0, locals := 63 } : Room) s m args below meth c H locs 0 0 (MQ below (zQv D (zTY cA) A (W_X6_lay cA h m_thrown m_bufferLength m_textLength m_position m_error m_errorAt m_errorOffset m_data m_undoDepth m_numberStart m_seen (u.1) (u.2.1) (u.2.2.1) (u.2.2.2.1) (u.2.2.2.2))) args s 0 0 A) (F0 m 41 ls []) := by
    intro a2 H locs ls Z hl hf
    rw [ej41_3] at hf
    refine lv_iconst (pc := 41) (v := (0 : Int32)) hx hb dX6_lay_41 (by decide) ?_
    refine lv_istore (pc := 42) (lv' := [(4, .int (0 : Int32)), (0, .ref (h 0)), (1, .int x1), (2, .int (0 : Int32)), (3, .int (0 : Int32))]) hx hb dX6_lay_42 hl (by decide) rfl (fun ls hl => ?_)
    have hL44 : ∀ (n0 : Nat) (x4 : Int32) (x5 : Int32) (x6 : Int32) (a7 : Nat → Int32) (a8 : Nat → Int32) (a9 : Nat → Int32) (a10 : Nat → Int32) (x11 : Int32) (H : Heap) (locs : List Loc) (ls : Array Slot), zw D (zTY cA) s A (W_X6_lay cA h m_thrown m_bufferLength m_textLength m_position m_error m_errorAt m_errorOffset m_data m_undoDepth m_numberStart m_seen a7 a8 a9 a10 x11) H locs → lv_has ls 6 [(0, .ref (h 0)), (1, .int x1), (2, .int x4), (3, .int x5), (4, .int x6)] → fX6_lay_L44 m_data x1 n0 x4 x5 x6 a7 a8 a9 a10 x11 = some u → W p l e ({ frames := 3, cells := 0, slots := 0, locals := 63 } : Room) s m args below meth c H locs 0 0 (MQ below (zQv D (zTY cA) A (W_X6_lay cA h m_thrown m_bufferLength m_textLength m_position m_error m_errorAt m_errorOffset m_data m_undoDepth m_numberStart m_seen (u.1) (u.2.1) (u.2.2.1) (u.2.2.2.1) (u.2.2.2.2))) args s 0 0 A) (F0 m 44 ls []) := by
      intro n0
      induction n0 with
      | zero => intro x4 x5 x6 a7 a8 a9 a10 x11 H locs ls Z hl hf; exact o_no hf
      | succ n0 ih0 =>
        intro x4 x5 x6 a7 a8 a9 a10 x11 H locs ls Z hl hf
        refine lv_iload (pc := 44) hx hb dX6_lay_44 (lv_at hl 4 rfl) ?_
        refine lv_aload_n (pc := 46) hx hb dX6_lay_46 rfl (lv_at hl 0 rfl) ?_
        refine z_get (pc := 47) (ref := "LotSheetModel") (ci := 6) (C := RX6) (T := TX6) (N := 22) hx hb hts iw_X6_lay_X6 hown Z 0 rfl rfl 8 (by decide) (List.mem_of_getElem? (i := 1) rfl) rfl rfl dX6_lay_47 ?_
        refine lv_iconst (pc := 50) (v := (1 : Int32)) hx hb dX6_lay_50 (by decide) ?_
        refine z_iald (pc := 51) hx hb Z 1 0 rfl rfl (show ¬ ((1 : Int32) < 0 ∨ 153 ≤ (1 : Int32).toNatClampNeg) by decide) dX6_lay_51 ?_
        refine lv_icmp_ge (pc := 52) (tgt := 218) hx hb dX6_lay_52 (by decide) (fun c12 => ?_) (fun c12 => ?_)
        · replace hf := o_pos c12 hf
          cases hf
          exact z_vret (pc := 218) hx hb hr hlocks Z rfl dX6_lay_218
        · replace hf := o_neg c12 hf
          refine lv_aload_n (pc := 55) hx hb dX6_lay_55 rfl (lv_at hl 0 rfl) ?_
          refine z_get (pc := 56) (ref := "LotSheetModel") (ci := 6) (C := RX6) (T := TX6) (N := 22) hx hb hts iw_X6_lay_X6 hown Z 0 rfl rfl 14 (by decide) (List.mem_of_getElem? (i := 4) rfl) rfl rfl dX6_lay_56 ?_
          refine lv_iload (pc := 59) hx hb dX6_lay_59 (lv_at hl 4 rfl) ?_
          refine lv_iconst (pc := 61) (v := (0 : Int32)) hx hb dX6_lay_61 (by decide) ?_
          obtain ⟨i13, hf⟩ := o_rdE hf
          refine z_iast (pc := 62) hx hb Z 2 0 rfl rfl i13 dX6_lay_62 (fun g => (W_X6_lay cA h m_thrown m_bufferLength m_textLength m_position m_error m_errorAt m_errorOffset m_data m_undoDepth m_numberStart m_seen g a8 a9 a10 x11)) (fun _ => rfl) (fun a14 H locs ea14 Z => ?_)
          replace hf := o_letE ea14 hf
          refine lv_aload_n (pc := 63) hx hb dX6_lay_63 rfl (lv_at hl 0 rfl) ?_
          refine z_get (pc := 64) (ref := "LotSheetModel") (ci := 6) (C := RX6) (T := TX6) (N := 22) hx hb hts iw_X6_lay_X6 hown Z 0 rfl rfl 15 (by decide) (List.mem_of_getElem? (i := 5) rfl) rfl rfl dX6_lay_64 ?_
          refine lv_iload (pc := 67) hx hb dX6_lay_67 (lv_at hl 4 rfl) ?_
          refine lv_iconst (pc := 69) (v := (-1 : Int32)) hx hb dX6_lay_69 (by decide) ?_
          obtain ⟨i15, hf⟩ := o_rdE hf
          refine z_iast (pc := 70) hx hb Z 3 0 rfl rfl i15 dX6_lay_70 (fun g => (W_X6_lay cA h m_thrown m_bufferLength m_textLength m_position m_error m_errorAt m_errorOffset m_data m_undoDepth m_numberStart m_seen a14 g a9 a10 x11)) (fun _ => rfl) (fun a16 H locs ea16 Z => ?_)
          replace hf := o_letE ea16 hf
          refine lv_aload_n (pc := 71) hx hb dX6_lay_71 rfl (lv_at hl 0 rfl) ?_
          refine z_get (pc := 72) (ref := "LotSheetModel") (ci := 6) (C := RX6) (T := TX6) (N := 22) hx hb hts iw_X6_lay_X6 hown Z 0 rfl rfl 16 (by decide) (List.mem_of_getElem? (i := 6) rfl) rfl rfl dX6_lay_72 ?_
          refine lv_iload (pc := 75) hx hb dX6_lay_75 (lv_at hl 4 rfl) ?_
          refine lv_iconst (pc := 77) (v := (-1 : Int32)) hx hb dX6_lay_77 (by decide) ?_
          obtain ⟨i17, hf⟩ := o_rdE hf
          refine z_iast (pc := 78) hx hb Z 4 0 rfl rfl i17 dX6_lay_78 (fun g => (W_X6_lay cA h m_thrown m_bufferLength m_textLength m_position m_error m_errorAt m_errorOffset m_data m_undoDepth m_numberStart m_seen a14 a16 g a10 x11)) (fun _ => rfl) (fun a18 H locs ea18 Z => ?_)
          replace hf := o_letE ea18 hf
          refine lv_aload_n (pc := 79) hx hb dX6_lay_79 rfl (lv_at hl 0 rfl) ?_
          refine lv_iload (pc := 80) hx hb dX6_lay_80 (lv_at hl 4 rfl) ?_
          obtain ⟨x19, q20, hf⟩ := o_bindE hf
          refine z_callVi (pc := 82) (As := [.int x6]) (rest := []) (Wc := (W_X6_isPrinted cA (fun k => h ([0, 1, 2, 3, 4, 5, 6, 7, 8, 9, 10, 11, 12, 13, 14, 15, 16, 17, 18, 19].getD k 0)) m_thrown m_bufferLength m_textLength m_position m_error m_errorAt m_errorOffset m_data m_undoDepth m_numberStart m_seen x11)) (W1 := (W_X6_isPrinted cA (fun k => h ([0, 1, 2, 3, 4, 5, 6, 7, 8, 9, 10, 11, 12, 13, 14, 15, 16, 17, 18, 19].getD k 0)) m_thrown m_bufferLength m_textLength m_position m_error m_errorAt m_errorOffset m_data m_undoDepth m_numberStart m_seen x11)) (W2 := (W_X6_lay cA h m_thrown m_bufferLength m_textLength m_position m_error m_errorAt m_errorOffset m_data m_undoDepth m_numberStart m_seen a14 a16 a18 a10 x11)) ⟨hx, hb, hml, hown, hts⟩ (kX6_isPrinted l D cA (fun k => h ([0, 1, 2, 3, 4, 5, 6, 7, 8, 9, 10, 11, 12, 13, 14, 15, 16, 17, 18, 19].getD k 0)) x6 m_thrown m_bufferLength m_textLength m_position m_error m_errorAt m_errorOffset m_data m_undoDepth m_numberStart m_seen x11 _ q20) (cwV 1 hts gX6_lay_X6_isPrinted rfl rfl rfl (by decide +kernel) ⟨Nat.le_of_ble_eq_true rfl, Nat.le_of_ble_eq_true rfl⟩) Z hA [0, 1] rfl (by decide) rfl (ci := 6) rfl rfl rfl rfl hl.1 rfl (Nat.le_of_ble_eq_true rfl) dX6_lay_82 ⟨Nat.zero_le _, Nat.zero_le _⟩ [some 0, some 1, none, none, none, none] rfl ⟨rfl, rfl, rfl, rfl, rfl, rfl, rfl⟩ (fun H locs Z => ?_)
          refine lv_if_ne (pc := 85) (tgt := 91) hx hb dX6_lay_85 (by decide) (fun c21 => ?_) (fun c21 => ?_)
          · replace hf := o_neg c21 hf
            refine lv_aload_n (pc := 91) hx hb dX6_lay_91 rfl (lv_at hl 0 rfl) ?_
            refine z_get (pc := 92) (ref := "LotSheetModel") (ci := 6) (C := RX6) (T := TX6) (N := 22) hx hb hts iw_X6_lay_X6 hown Z 0 rfl rfl 18 (by decide) (List.mem_of_getElem? (i := 2) rfl) rfl rfl dX6_lay_92 ?_
            obtain ⟨j123_25, ej123_25, hf⟩ := o_jnE hf
            have hj123_25 : ∀ (x23 : Int32) (x24 : Int32) (H : Heap) (locs : List Loc) (ls : Array Slot), zw D (zTY cA) s A (W_X6_lay cA h m_thrown m_bufferLength m_textLength m_position m_error m_errorAt m_errorOffset m_data m_undoDepth m_numberStart m_seen a14 a16 a18 a10 x24) H locs → lv_has ls 6 [(0, .ref (h 0)), (1, .int x1), (2, .int x23), (3, .int x5), (4, .int x6)] → j123_25 x23 x24 = some u → W p l e ({ frames := 3, cells := 0, slots := 0, locals := 63 } : Room) s m args below meth c H locs 0 0 (MQ below (zQv D (zTY cA) A (W_X6_lay cA h m_thrown m_bufferLength m_textLength m_position m_error m_errorAt m_errorOffset m_data m_undoDepth m_numberStart m_seen (u.1) (u.2.1) (u.2.2.1) (u.2.2.2.1) (u.2.2.2.2))) args s 0 0 A) (F0 m 123 ls []) := by
              intro x23 x24 H locs ls Z hl hf
              rw [ej123_25] at hf
              obtain ⟨x26, ex26⟩ : ∃ y : Int32, y = (x5 + (1 : Int32)) := ⟨_, rfl⟩
              replace hf := o_letE ex26 hf
              refine lv_iinc (pc := 123) (v := x26) (lv' := [(3, .int x26), (0, .ref (h 0)), (1, .int x1), (2, .int x23), (4, .int x6)]) hx hb dX6_lay_123 hl (k := 3) rfl (by rw [ex26]; rfl) (by decide) rfl (fun ls hl => ?_)
              refine lv_aload_n (pc := 126) hx hb dX6_lay_126 rfl (lv_at hl 1 rfl) ?_
              refine z_get (pc := 127) (ref := "LotSheetModel") (ci := 6) (C := RX6) (T := TX6) (N := 22) hx hb hts iw_X6_lay_X6 hown Z 0 rfl rfl 14 (by decide) (List.mem_of_getElem? (i := 4) rfl) rfl rfl dX6_lay_127 ?_
              refine lv_iload (pc := 130) hx hb dX6_lay_130 (lv_at hl 4 rfl) ?_
              refine lv_iload_n (pc := 132) hx hb dX6_lay_132 rfl (lv_at hl 0 rfl) ?_
              obtain ⟨i27, hf⟩ := o_rdE hf
              refine z_iast (pc := 133) hx hb Z 2 0 rfl rfl i27 dX6_lay_133 (fun g => (W_X6_lay cA h m_thrown m_bufferLength m_textLength m_position m_error m_errorAt m_errorOffset m_data m_undoDepth m_numberStart m_seen g a16 a18 a10 x24)) (fun _ => rfl) (fun a28 H locs ea28 Z => ?_)
              replace hf := o_letE ea28 hf
              refine lv_aload_n (pc := 134) hx hb dX6_lay_134 rfl (lv_at hl 1 rfl) ?_
              refine z_get (pc := 135) (ref := "LotSheetModel") (ci := 6) (C := RX6) (T := TX6) (N := 22) hx hb hts iw_X6_lay_X6 hown Z 0 rfl rfl 15 (by decide) (List.mem_of_getElem? (i := 5) rfl) rfl rfl dX6_lay_135 ?_
              refine lv_iload (pc := 138) hx hb dX6_lay_138 (lv_at hl 4 rfl) ?_
              refine lv_aload_n (pc := 140) hx hb dX6_lay_140 rfl (lv_at hl 1 rfl) ?_
              refine z_get (pc := 141) (ref := "LotSheetModel") (ci := 6) (C := RX6) (T := TX6) (N := 22) hx hb hts iw_X6_lay_X6 hown Z 0 rfl rfl 18 (by decide) (List.mem_of_getElem? (i := 2) rfl) rfl rfl dX6_lay_141 ?_
              refine lv_iconst (pc := 144) (v := (1 : Int32)) hx hb dX6_lay_144 (by decide) ?_
              refine lv_isub (pc := 145) hx hb dX6_lay_145 ?_
              obtain ⟨i29, hf⟩ := o_rdE hf
              refine z_iast (pc := 146) hx hb Z 3 0 rfl rfl i29 dX6_lay_146 (fun g => (W_X6_lay cA h m_thrown m_bufferLength m_textLength m_position m_error m_errorAt m_errorOffset m_data m_undoDepth m_numberStart m_seen a28 g a18 a10 x24)) (fun _ => rfl) (fun a30 H locs ea30 Z => ?_)
              replace hf := o_letE ea30 hf
              refine lv_aload_n (pc := 147) hx hb dX6_lay_147 rfl (lv_at hl 1 rfl) ?_
              refine z_get (pc := 148) (ref := "LotSheetModel") (ci := 6) (C := RX6) (T := TX6) (N := 22) hx hb hts iw_X6_lay_X6 hown Z 0 rfl rfl 16 (by decide) (List.mem_of_getElem? (i := 6) rfl) rfl rfl dX6_lay_148 ?_
              refine lv_iload (pc := 151) hx hb dX6_lay_151 (lv_at hl 4 rfl) ?_
              refine lv_iload_n (pc := 153) hx hb dX6_lay_153 rfl (lv_at hl 3 rfl) ?_
              obtain ⟨i31, hf⟩ := o_rdE hf
              refine z_iast (pc := 154) hx hb Z 4 0 rfl rfl i31 dX6_lay_154 (fun g => (W_X6_lay cA h m_thrown m_bufferLength m_textLength m_position m_error m_errorAt m_errorOffset m_data m_undoDepth m_numberStart m_seen a28 a30 g a10 x24)) (fun _ => rfl) (fun a32 H locs ea32 Z => ?_)
              replace hf := o_letE ea32 hf
              refine lv_iconst (pc := 155) (v := (0 : Int32)) hx hb dX6_lay_155 (by decide) ?_
              refine lv_istore (pc := 156) (lv' := [(5, .int (0 : Int32)), (3, .int x26), (0, .ref (h 0)), (1, .int x1), (2, .int x23), (4, .int x6)]) hx hb dX6_lay_156 hl (by decide) rfl (fun ls hl => ?_)
              obtain ⟨j202_34, ej202_34, hf⟩ := o_jnE hf
              have hj202_34 : ∀ (a33 : Nat → Int32) (H : Heap) (locs : List Loc) (ls : Array Slot), zw D (zTY cA) s A (W_X6_lay cA h m_thrown m_bufferLength m_textLength m_position m_error m_errorAt m_errorOffset m_data m_undoDepth m_numberStart m_seen a28 a30 a32 a33 x24) H locs → lv_has ls 6 [(0, .ref (h 0)), (1, .int x1), (2, .int x23), (3, .int x26), (4, .int x6)] → j202_34 a33 = some u → W p l e ({ frames := 3, cells := 0, slots := 0, locals := 63 } : Room) s m args below meth c H locs 0 0 (MQ below (zQv D (zTY cA) A (W_X6_lay cA h m_thrown m_bufferLength m_textLength m_position m_error m_errorAt m_errorOffset m_data m_undoDepth m_numberStart m_seen (u.1) (u.2.1) (u.2.2.1) (u.2.2.2.1) (u.2.2.2.2))) args s 0 0 A) (F0 m 202 ls []) := by
                intro a33 H locs ls Z hl hf
                rw [ej202_34] at hf
                refine lv_iload_n (pc := 202) hx hb dX6_lay_202 rfl (lv_at hl 2 rfl) ?_
                refine lv_aload_n (pc := 203) hx hb dX6_lay_203 rfl (lv_at hl 0 rfl) ?_
                refine lv_iload (pc := 204) hx hb dX6_lay_204 (lv_at hl 4 rfl) ?_
                refine lv_iconst (pc := 206) (v := (0 : Int32)) hx hb dX6_lay_206 (by decide) ?_
                obtain ⟨x35, q36, hf⟩ := o_bindE hf
                refine z_callVi (pc := 207) (As := [.int x6, .int (0 : Int32)]) (rest := [.int x23]) (Wc := (W_X6_of cA (fun k => h ([0, 1, 2, 3, 4, 5, 6, 7, 8, 9, 10, 11, 12, 13, 14, 15, 16, 17, 18, 19].getD k 0)) m_thrown m_bufferLength m_textLength m_position m_error m_errorAt m_errorOffset m_data m_undoDepth m_numberStart m_seen x24)) (W1 := (W_X6_of cA (fun k => h ([0, 1, 2, 3, 4, 5, 6, 7, 8, 9, 10, 11, 12, 13, 14, 15, 16, 17, 18, 19].getD k 0)) m_thrown m_bufferLength m_textLength m_position m_error m_errorAt m_errorOffset m_data m_undoDepth m_numberStart m_seen x24)) (W2 := (W_X6_lay cA h m_thrown m_bufferLength m_textLength m_position m_error m_errorAt m_errorOffset m_data m_undoDepth m_numberStart m_seen a28 a30 a32 a33 x24)) ⟨hx, hb, hml, hown, hts⟩ (kX6_of l D cA (fun k => h ([0, 1, 2, 3, 4, 5, 6, 7, 8, 9, 10, 11, 12, 13, 14, 15, 16, 17, 18, 19].getD k 0)) x6 (0 : Int32) m_thrown m_bufferLength m_textLength m_position m_error m_errorAt m_errorOffset m_data m_undoDepth m_numberStart m_seen x24 _ q36) (cwV 2 hts gX6_lay_X6_of rfl rfl rfl (by decide +kernel) ⟨Nat.le_of_ble_eq_true rfl, Nat.le_of_ble_eq_true rfl⟩) Z hA [0, 1] rfl (by decide) rfl (ci := 6) rfl rfl rfl rfl hl.1 rfl (Nat.le_of_ble_eq_true rfl) dX6_lay_207 ⟨Nat.zero_le _, Nat.zero_le _⟩ [some 0, some 1, none, none, none, none] rfl ⟨rfl, rfl, rfl, rfl, rfl, rfl, rfl⟩ (fun H locs Z => ?_)
                refine lv_iadd (pc := 210) hx hb dX6_lay_210 ?_
                refine lv_topi (fun x37 ex37 => ?_)
                replace hf := o_letE ex37 hf
                refine lv_istore_n (pc := 211) (lv' := [(2, .int x37), (0, .ref (h 0)), (1, .int x1), (3, .int x26), (4, .int x6)]) hx hb dX6_lay_211 rfl hl (by decide) rfl (fun ls hl => ?_)
                obtain ⟨x38, ex38⟩ : ∃ y : Int32, y = (x6 + (1 : Int32)) := ⟨_, rfl⟩
                replace hf := o_letE ex38 hf
                refine lv_iinc (pc := 212) (v := x38) (lv' := [(4, .int x38), (2, .int x37), (0, .ref (h 0)), (1, .int x1), (3, .int x26)]) hx hb dX6_lay_212 hl (k := 4) rfl (by rw [ex38]; rfl) (by decide) rfl (fun ls hl => ?_)
                refine lv_goto (pc := 215) (tgt := 44) hx hb dX6_lay_215 (by decide) ?_
                exact ih0 x37 x26 x38 a28 a30 a32 a33 x24 H locs ls Z (lv_sub hl [2, 3, 1, 4, 0] rfl) hf
              have hL158 : ∀ (n1 : Nat) (x39 : Int32) (a40 : Nat → Int32) (H : Heap) (locs : List Loc) (ls : Array Slot), zw D (zTY cA) s A (W_X6_lay cA h m_thrown m_bufferLength m_textLength m_position m_error m_errorAt m_errorOffset m_data m_undoDepth m_numberStart m_seen a28 a30 a32 a40 x24) H locs → lv_has ls 6 [(0, .ref (h 0)), (1, .int x1), (2, .int x23), (3, .int x26), (4, .int x6), (5, .int x39)] → fX6_lay_L158 x6 m_data j202_34 x1 x24 x23 n1 x39 a40 = some u → W p l e ({ frames := 3, cells := 0, slots := 0, locals := 63 } : Room) s m args below meth c H locs 0 0 (MQ below (zQv D (zTY cA) A (W_X6_lay cA h m_thrown m_bufferLength m_textLength m_position m_error m_errorAt m_errorOffset m_data m_undoDepth m_numberStart m_seen (u.1) (u.2.1) (u.2.2.1) (u.2.2.2.1) (u.2.2.2.2))) args s 0 0 A) (F0 m 158 ls []) := by
                intro n1
                induction n1 with
                | zero => intro x39 a40 H locs ls Z hl hf; exact o_no hf
                | succ n1 ih1 =>
                  intro x39 a40 H locs ls Z hl hf
                  refine lv_iload (pc := 158) hx hb dX6_lay_158 (lv_at hl 5 rfl) ?_
                  refine lv_aload_n (pc := 160) hx hb dX6_lay_160 rfl (lv_at hl 0 rfl) ?_
                  refine lv_iload (pc := 161) hx hb dX6_lay_161 (lv_at hl 4 rfl) ?_
                  refine lv_iconst (pc := 163) (v := (0 : Int32)) hx hb dX6_lay_163 (by decide) ?_
                  obtain ⟨x41, q42, hf⟩ := o_bindE hf
                  refine z_callVi (pc := 164) (As := [.int x6, .int (0 : Int32)]) (rest := [.int x39]) (Wc := (W_X6_of cA (fun k => h ([0, 1, 2, 3, 4, 5, 6, 7, 8, 9, 10, 11, 12, 13, 14, 15, 16, 17, 18, 19].getD k 0)) m_thrown m_bufferLength m_textLength m_position m_error m_errorAt m_errorOffset m_data m_undoDepth m_numberStart m_seen x24)) (W1 := (W_X6_of cA (fun k => h ([0, 1, 2, 3, 4, 5, 6, 7, 8, 9, 10, 11, 12, 13, 14, 15, 16, 17, 18, 19].getD k 0)) m_thrown m_bufferLength m_textLength m_position m_error m_errorAt m_errorOffset m_data m_undoDepth m_numberStart m_seen x24)) (W2 := (W_X6_lay cA h m_thrown m_bufferLength m_textLength m_position m_error m_errorAt m_errorOffset m_data m_undoDepth m_numberStart m_seen a28 a30 a32 a40 x24)) ⟨hx, hb, hml, hown, hts⟩ (kX6_of l D cA (fun k => h ([0, 1, 2, 3, 4, 5, 6, 7, 8, 9, 10, 11, 12, 13, 14, 15, 16, 17, 18, 19].getD k 0)) x6 (0 : Int32) m_thrown m_bufferLength m_textLength m_position m_error m_errorAt m_errorOffset m_data m_undoDepth m_numberStart m_seen x24 _ q42) (cwV 2 hts gX6_lay_X6_of rfl rfl rfl (by decide +kernel) ⟨Nat.le_of_ble_eq_true rfl, Nat.le_of_ble_eq_true rfl⟩) Z hA [0, 1] rfl (by decide) rfl (ci := 6) rfl rfl rfl rfl hl.1 rfl (Nat.le_of_ble_eq_true rfl) dX6_lay_164 ⟨Nat.zero_le _, Nat.zero_le _⟩ [some 0, some 1, none, none, none, none] rfl ⟨rfl, rfl, rfl, rfl, rfl, rfl, rfl⟩ (fun H locs Z => ?_)
                  refine lv_icmp_ge (pc := 167) (tgt := 202) hx hb dX6_lay_167 (by decide) (fun c43 => ?_) (fun c43 => ?_)
                  · replace hf := o_pos c43 hf
                    exact hj202_34 a40 H locs ls Z (lv_sub hl [0, 1, 2, 3, 4] rfl) hf
                  · replace hf := o_neg c43 hf
                    refine lv_aload_n (pc := 170) hx hb dX6_lay_170 rfl (lv_at hl 0 rfl) ?_
                    refine z_get (pc := 171) (ref := "LotSheetModel") (ci := 6) (C := RX6) (T := TX6) (N := 22) hx hb hts iw_X6_lay_X6 hown Z 0 rfl rfl 17 (by decide) (List.mem_of_getElem? (i := 3) rfl) rfl rfl dX6_lay_171 ?_
                    refine lv_iload_n (pc := 174) hx hb dX6_lay_174 rfl (lv_at hl 1 rfl) ?_
                    refine lv_aload_n (pc := 175) hx hb dX6_lay_175 rfl (lv_at hl 0 rfl) ?_
                    refine z_get (pc := 176) (ref := "LotSheetModel") (ci := 6) (C := RX6) (T := TX6) (N := 22) hx hb hts iw_X6_lay_X6 hown Z 0 rfl rfl 18 (by decide) (List.mem_of_getElem? (i := 2) rfl) rfl rfl dX6_lay_176 ?_
                    refine lv_iconst (pc := 179) (v := (1 : Int32)) hx hb dX6_lay_179 (by decide) ?_
                    refine lv_isub (pc := 180) hx hb dX6_lay_180 ?_
                    refine lv_imul (pc := 181) hx hb dX6_lay_181 ?_
                    refine lv_iload_n (pc := 182) hx hb dX6_lay_182 rfl (lv_at hl 2 rfl) ?_
                    refine lv_iadd (pc := 183) hx hb dX6_lay_183 ?_
                    refine lv_iload (pc := 184) hx hb dX6_lay_184 (lv_at hl 5 rfl) ?_
                    refine lv_iadd (pc := 186) hx hb dX6_lay_186 ?_
                    refine lv_bipush (pc := 187) (v := (10 : Int32)) hx hb dX6_lay_187 (by decide) ?_
                    refine lv_iload (pc := 189) hx hb dX6_lay_189 (lv_at hl 4 rfl) ?_
                    refine lv_imul (pc := 191) hx hb dX6_lay_191 ?_
                    refine lv_iload (pc := 192) hx hb dX6_lay_192 (lv_at hl 5 rfl) ?_
                    refine lv_iadd (pc := 194) hx hb dX6_lay_194 ?_
                    obtain ⟨i44, hf⟩ := o_rdE hf
                    refine z_iast (pc := 195) hx hb Z 5 0 rfl rfl i44 dX6_lay_195 (fun g => (W_X6_lay cA h m_thrown m_bufferLength m_textLength m_position m_error m_errorAt m_errorOffset m_data m_undoDepth m_numberStart m_seen a28 a30 a32 g x24)) (fun _ => rfl) (fun a45 H locs ea45 Z => ?_)
                    replace hf := o_letE ea45 hf
                    obtain ⟨x46, ex46⟩ : ∃ y : Int32, y = (x39 + (1 : Int32)) := ⟨_, rfl⟩
                    replace hf := o_letE ex46 hf
                    refine lv_iinc (pc := 196) (v := x46) (lv' := [(5, .int x46), (0, .ref (h 0)), (1, .int x1), (2, .int x23), (3, .int x26), (4, .int x6)]) hx hb dX6_lay_196 hl (k := 5) rfl (by rw [ex46]; rfl) (by decide) rfl (fun ls hl => ?_)
                    refine lv_goto (pc := 199) (tgt := 158) hx hb dX6_lay_199 (by decide) ?_
                    exact ih1 x46 a45 H locs ls Z (lv_sub hl [1, 2, 3, 4, 5, 0] rfl) hf
              exact hL158 1024 (0 : Int32) a10 H locs ls Z (lv_sub hl [2, 3, 4, 1, 5, 0] rfl) hf
            obtain ⟨j111_47, ej111_47, hf⟩ := o_jnE hf
            have hj111_47 : ∀ (H : Heap) (locs : List Loc) (ls : Array Slot), zw D (zTY cA) s A (W_X6_lay cA h m_thrown m_bufferLength m_textLength m_position m_error m_errorAt m_errorOffset m_data m_undoDepth m_numberStart m_seen a14 a16 a18 a10 x11) H locs → lv_has ls 6 [(0, .ref (h 0)), (1, .int x1), (3, .int x5), (4, .int x6)] → j111_47 = some u → W p l e ({ frames := 3, cells := 0, slots := 0, locals := 63 } : Room) s m args below meth c H locs 0 0 (MQ below (zQv D (zTY cA) A (W_X6_lay cA h m_thrown m_bufferLength m_textLength m_position m_error m_errorAt m_errorOffset m_data m_undoDepth m_numberStart m_seen (u.1) (u.2.1) (u.2.2.1) (u.2.2.2.1) (u.2.2.2.2))) args s 0 0 A) (F0 m 111 ls []) := by
              intro H locs ls Z hl hf
              rw [ej111_47] at hf
              refine lv_aload_n (pc := 111) hx hb dX6_lay_111 rfl (lv_at hl 0 rfl) ?_
              refine lv_dup (pc := 112) hx hb dX6_lay_112 rfl ?_
              refine z_get (pc := 113) (ref := "LotSheetModel") (ci := 6) (C := RX6) (T := TX6) (N := 22) hx hb hts iw_X6_lay_X6 hown Z 0 rfl rfl 18 (by decide) (List.mem_of_getElem? (i := 2) rfl) rfl rfl dX6_lay_113 ?_
              refine lv_iconst (pc := 116) (v := (1 : Int32)) hx hb dX6_lay_116 (by decide) ?_
              refine lv_iadd (pc := 117) hx hb dX6_lay_117 ?_
              refine lv_topi (fun x48 ex48 => ?_)
              replace hf := o_letE ex48 hf
              refine z_put (pc := 118) (ref := "LotSheetModel") (ci := 6) (C := RX6) (T := TX6) (N := 22) (W1 := (W_X6_lay cA h m_thrown m_bufferLength m_textLength m_position m_error m_errorAt m_errorOffset m_data m_undoDepth m_numberStart m_seen a14 a16 a18 a10 x48)) hx hb hts iw_X6_lay_X6 tyX6 tyX6_ok nmX6 hown Z 0 rfl rfl 18 (by decide) (List.mem_of_getElem? (i := 2) rfl) rfl rfl rfl rfl (Nat.le_of_ble_eq_true rfl) dX6_lay_118 rfl (fun H locs Z => ?_)
              refine lv_iconst (pc := 121) (v := (0 : Int32)) hx hb dX6_lay_121 (by decide) ?_
              refine lv_istore_n (pc := 122) (lv' := [(2, .int (0 : Int32)), (0, .ref (h 0)), (1, .int x1), (3, .int x5), (4, .int x6)]) hx hb dX6_lay_122 rfl hl (by decide) rfl (fun ls hl => ?_)
              exact hj123_25 (0 : Int32) x48 H locs ls Z (lv_sub hl [1, 2, 0, 3, 4] rfl) hf
            refine lv_if_eq (pc := 95) (tgt := 111) hx hb dX6_lay_95 (by decide) (fun c22 => ?_) (fun c22 => ?_)
            · replace hf := o_pos c22 hf
              exact hj111_47 H locs ls Z (lv_sub hl [0, 1, 3, 4] rfl) hf
            · replace hf := o_neg c22 hf
              refine lv_iload_n (pc := 98) hx hb dX6_lay_98 rfl (lv_at hl 2 rfl) ?_
              refine lv_aload_n (pc := 99) hx hb dX6_lay_99 rfl (lv_at hl 0 rfl) ?_
              refine lv_iload (pc := 100) hx hb dX6_lay_100 (lv_at hl 4 rfl) ?_
              refine lv_iconst (pc := 102) (v := (0 : Int32)) hx hb dX6_lay_102 (by decide) ?_
              obtain ⟨x49, q50, hf⟩ := o_bindE hf
              refine z_callVi (pc := 103) (As := [.int x6, .int (0 : Int32)]) (rest := [.int x4]) (Wc := (W_X6_of cA (fun k => h ([0, 1, 2, 3, 4, 5, 6, 7, 8, 9, 10, 11, 12, 13, 14, 15, 16, 17, 18, 19].getD k 0)) m_thrown m_bufferLength m_textLength m_position m_error m_errorAt m_errorOffset m_data m_undoDepth m_numberStart m_seen x11)) (W1 := (W_X6_of cA (fun k => h ([0, 1, 2, 3, 4, 5, 6, 7, 8, 9, 10, 11, 12, 13, 14, 15, 16, 17, 18, 19].getD k 0)) m_thrown m_bufferLength m_textLength m_position m_error m_errorAt m_errorOffset m_data m_undoDepth m_numberStart m_seen x11)) (W2 := (W_X6_lay cA h m_thrown m_bufferLength m_textLength m_position m_error m_errorAt m_errorOffset m_data m_undoDepth m_numberStart m_seen a14 a16 a18 a10 x11)) ⟨hx, hb, hml, hown, hts⟩ (kX6_of l D cA (fun k => h ([0, 1, 2, 3, 4, 5, 6, 7, 8, 9, 10, 11, 12, 13, 14, 15, 16, 17, 18, 19].getD k 0)) x6 (0 : Int32) m_thrown m_bufferLength m_textLength m_position m_error m_errorAt m_errorOffset m_data m_undoDepth m_numberStart m_seen x11 _ q50) (cwV 2 hts gX6_lay_X6_of rfl rfl rfl (by decide +kernel) ⟨Nat.le_of_ble_eq_true rfl, Nat.le_of_ble_eq_true rfl⟩) Z hA [0, 1] rfl (by decide) rfl (ci := 6) rfl rfl rfl rfl hl.1 rfl (Nat.le_of_ble_eq_true rfl) dX6_lay_103 ⟨Nat.zero_le _, Nat.zero_le _⟩ [some 0, some 1, none, none, none, none] rfl ⟨rfl, rfl, rfl, rfl, rfl, rfl, rfl⟩ (fun H locs Z => ?_)
              refine lv_iadd (pc := 106) hx hb dX6_lay_106 ?_
              refine lv_iload_n (pc := 107) hx hb dX6_lay_107 rfl (lv_at hl 1 rfl) ?_
              refine lv_icmp_le (pc := 108) (tgt := 123) hx hb dX6_lay_108 (by decide) (fun c51 => ?_) (fun c51 => ?_)
              · replace hf := o_pos c51 hf
                exact hj123_25 x4 x11 H locs ls Z (lv_sub hl [0, 1, 2, 3, 4] rfl) hf
              · replace hf := o_neg c51 hf
                exact hj111_47 H locs ls Z (lv_sub hl [0, 1, 3, 4] rfl) hf
          · replace hf := o_pos c21 hf
            refine lv_goto (pc := 88) (tgt := 212) hx hb dX6_lay_88 (by decide) ?_
            obtain ⟨x52, ex52⟩ : ∃ y : Int32, y = (x6 + (1 : Int32)) := ⟨_, rfl⟩
            replace hf := o_letE ex52 hf
            refine lv_iinc (pc := 212) (v := x52) (lv' := [(4, .int x52), (0, .ref (h 0)), (1, .int x1), (2, .int x4), (3, .int x5)]) hx hb dX6_lay_212 hl (k := 4) rfl (by rw [ex52]; rfl) (by decide) rfl (fun ls hl => ?_)
            refine lv_goto (pc := 215) (tgt := 44) hx hb dX6_lay_215 (by decide) ?_
            exact ih0 x4 x5 x52 a14 a16 a18 a10 x11 H locs ls Z (lv_sub hl [1, 2, 3, 4, 0] rfl) hf
    exact hL44 1024 (0 : Int32) (0 : Int32) (0 : Int32) m_numberOf m_pageOf m_lineOf a2 (0 : Int32) H locs ls Z (lv_sub hl [1, 2, 3, 4, 0] rfl) hf
  have hL19 : ∀ (n0 : Nat) (x53 : Int32) (a54 : Nat → Int32) (H : Heap) (locs : List Loc) (ls : Array Slot), zw D (zTY cA) s A (W_X6_lay cA h m_thrown m_bufferLength m_textLength m_position m_error m_errorAt m_errorOffset m_data m_undoDepth m_numberStart m_seen m_numberOf m_pageOf m_lineOf a54 (0 : Int32)) H locs → lv_has ls 6 [(0, .ref (h 0)), (1, .int x1), (2, .int (0 : Int32)), (3, .int (0 : Int32)), (4, .int x53)] → fX6_lay_L19 j41_3 n0 x53 a54 = some u → W p l e ({ frames := 3, cells := 0, slots := 0, locals := 63 } : Room) s m args below meth c H locs 0 0 (MQ below (zQv D (zTY cA) A (W_X6_lay cA h m_thrown m_bufferLength m_textLength m_position m_error m_errorAt m_errorOffset m_data m_undoDepth m_numberStart m_seen (u.1) (u.2.1) (u.2.2.1) (u.2.2.2.1) (u.2.2.2.2))) args s 0 0 A) (F0 m 19 ls []) := by
    intro n0
    induction n0 with
    | zero => intro x53 a54 H locs ls Z hl hf; exact o_no hf
    | succ n0 ih0 =>
      intro x53 a54 H locs ls Z hl hf
      refine lv_iload (pc := 19) hx hb dX6_lay_19 (lv_at hl 4 rfl) ?_
      refine lv_sipush (pc := 21) (v := (960 : Int32)) hx hb dX6_lay_21 (by decide) ?_
      refine lv_icmp_ge (pc := 24) (tgt := 41) hx hb dX6_lay_24 (by decide) (fun c55 => ?_) (fun c55 => ?_)
      · replace hf := o_pos c55 hf
        exact hj41_3 a54 H locs ls Z (lv_sub hl [0, 1, 2, 3] rfl) hf
      · replace hf := o_neg c55 hf
        refine lv_aload_n (pc := 27) hx hb dX6_lay_27 rfl (lv_at hl 0 rfl) ?_
        refine z_get (pc := 28) (ref := "LotSheetModel") (ci := 6) (C := RX6) (T := TX6) (N := 22) hx hb hts iw_X6_lay_X6 hown Z 0 rfl rfl 17 (by decide) (List.mem_of_getElem? (i := 3) rfl) rfl rfl dX6_lay_28 ?_
        refine lv_iload (pc := 31) hx hb dX6_lay_31 (lv_at hl 4 rfl) ?_
        refine lv_iconst (pc := 33) (v := (-1 : Int32)) hx hb dX6_lay_33 (by decide) ?_
        obtain ⟨i56, hf⟩ := o_rdE hf
        refine z_iast (pc := 34) hx hb Z 5 0 rfl rfl i56 dX6_lay_34 (fun g => (W_X6_lay cA h m_thrown m_bufferLength m_textLength m_position m_error m_errorAt m_errorOffset m_data m_undoDepth m_numberStart m_seen m_numberOf m_pageOf m_lineOf g (0 : Int32))) (fun _ => rfl) (fun a57 H locs ea57 Z => ?_)
        replace hf := o_letE ea57 hf
        obtain ⟨x58, ex58⟩ : ∃ y : Int32, y = (x53 + (1 : Int32)) := ⟨_, rfl⟩
        replace hf := o_letE ex58 hf
        refine lv_iinc (pc := 35) (v := x58) (lv' := [(4, .int x58), (0, .ref (h 0)), (1, .int x1), (2, .int (0 : Int32)), (3, .int (0 : Int32))]) hx hb dX6_lay_35 hl (k := 4) rfl (by rw [ex58]; rfl) (by decide) rfl (fun ls hl => ?_)
        refine lv_goto (pc := 38) (tgt := 19) hx hb dX6_lay_38 (by decide) ?_
        exact ih0 x58 a57 H locs ls Z (lv_sub hl [1, 2, 3, 4, 0] rfl) hf
  exact hL19 1024 (0 : Int32) m_stands H locs ls Z (lv_sub hl [4, 3, 2, 1, 0] rfl) hf
