def W_X6_signOf (cA : Nat → ClassId) (h : Nat → Nat) (m_thrown : Int32) (m_bufferLength : Int32) (m_textLength : Int32) (m_position : Int32) (m_error : Int32) (m_errorAt : Int32) (m_errorOffset : Int32) (m_undoDepth : Int32) (m_numberStart : Int32) (m_seen : Int32) (m_numberOf : Nat → Int32) (m_stands : Nat → Int32) (m_pages : Int32) : va_W := [(h 0, .inr (6, [.int m_thrown, .ref (h 1), .int m_bufferLength, .int m_textLength, .int m_position, .int m_error, .int m_errorAt, .int m_errorOffset, .ref (h 2), .ref (h 3), .ref (h 4), .int m_undoDepth, .int m_numberStart, .int m_seen, .ref (h 13), .ref (h 14), .ref (h 15), .ref (h 16), .int m_pages, .ref (h 17), .ref (h 18), .ref (h 19)])), (h 13, .inl (cA 0, 24, .inl m_numberOf)), (h 16, .inl (cA 0, 960, .inl m_stands))]
def fX6_signOf (p1 : Int32) (m_numberOf : Nat → Int32) (m_stands : Nat → Int32) : Option (Int32) := o_rd 960 p1 ((if (m_stands p1.toNatClampNeg) = (-1 : Int32) then some ((-1 : Int32)) else o_rd 960 p1 (o_rd 960 p1 ((if ((m_stands p1.toNatClampNeg) - (m_stands p1.toNatClampNeg) / (10 : Int32) * (10 : Int32)) = 0 then o_rd 960 p1 (o_rd 24 ((m_stands p1.toNatClampNeg) / (10 : Int32)) (some (((m_stands p1.toNatClampNeg) + ((1000 : Int32) * (m_numberOf ((m_stands p1.toNatClampNeg) / (10 : Int32)).toNatClampNeg)))))) else some (((m_stands p1.toNatClampNeg) + (0 : Int32))))))))
theorem iw_X6_signOf_X6 : ∀ w ∈ u_ws RX6 TX6 22, w ∈ wsX6_signOf := z_inr [3, 4, 5, 6, 7, 8, 9, 10, 11, 12, 13, 14, 15, 16, 17, 18, 19, 20, 21, 22, 23, 24] rfl
set_option maxHeartbeats 4000000 in
set_option maxRecDepth 100000 in
theorem kX6_signOf (l : Launch) (D : va_G) (cA : Nat → ClassId) (h : Nat → Nat) (p1 : Int32) (m_thrown : Int32) (m_bufferLength : Int32) (m_textLength : Int32) (m_position : Int32) (m_error : Int32) (m_errorAt : Int32) (m_errorOffset : Int32) (m_undoDepth : Int32) (m_numberStart : Int32) (m_seen : Int32) (m_numberOf : Nat → Int32) (m_stands : Nat → Int32) (m_pages : Int32) (u : Int32) (hf : fX6_signOf p1 m_numberOf m_stands = some u) : zMi l yX6_signOf wsX6_signOf ({ frames := 0, cells := 0, slots := 0, locals := 0 } : Room) D (zTY cA) [.ref (h 0), .int p1] (W_X6_signOf cA h m_thrown m_bufferLength m_textLength m_position m_error m_errorAt m_errorOffset m_undoDepth m_numberStart m_seen m_numberOf m_stands m_pages) (W_X6_signOf cA h m_thrown m_bufferLength m_textLength m_position m_error m_errorAt m_errorOffset m_undoDepth m_numberStart m_seen m_numberOf m_stands m_pages) u := by
  refine z_starti (cc := cX6_signOf) (maxL := 2) (ret := (some .int)) (by decide) rfl (Nat.le_of_ble_eq_true rfl) ?_
  intro p e s m args below meth c A hx hb hr hts hown hlocks hml hA Z ls hl
  replace hown : s.vm.findClass RX6 = some m.cls := hown
  replace hl : lv_has ls 2 [(0, .ref (h 0)), (1, .int p1)] := hl
  obtain ⟨H, hH⟩ : ∃ H, H = s.heap := ⟨_, rfl⟩
  rw [← hH] at Z ⊢
  clear hH
  obtain ⟨locs, hlc⟩ : ∃ q : List Loc, q = [] := ⟨_, rfl⟩
  rw [← hlc] at Z ⊢
  clear hlc
  refine lv_aload_n (pc := 0) hx hb dX6_signOf_0 rfl (lv_at hl 0 rfl) ?_
  refine z_get (pc := 1) (ref := "LotSheetModel") (ci := 6) (C := RX6) (T := TX6) (N := 22) hx hb hts iw_X6_signOf_X6 hown Z 0 rfl rfl 17 (by decide) (List.mem_of_getElem? (i := 1) rfl) rfl rfl dX6_signOf_1 ?_
  refine lv_iload_n (pc := 4) hx hb dX6_signOf_4 rfl (lv_at hl 1 rfl) ?_
  obtain ⟨i1, hf⟩ := o_rdE hf
  refine z_iald (pc := 5) hx hb Z 2 0 rfl rfl i1 dX6_signOf_5 ?_
  refine lv_iconst (pc := 6) (v := (-1 : Int32)) hx hb dX6_signOf_6 (by decide) ?_
  refine lv_icmp_ne (pc := 7) (tgt := 14) hx hb dX6_signOf_7 (by decide) (fun c2 => ?_) (fun c2 => ?_)
  · replace hf := o_neg c2 hf
    refine lv_aload_n (pc := 14) hx hb dX6_signOf_14 rfl (lv_at hl 0 rfl) ?_
    refine z_get (pc := 15) (ref := "LotSheetModel") (ci := 6) (C := RX6) (T := TX6) (N := 22) hx hb hts iw_X6_signOf_X6 hown Z 0 rfl rfl 17 (by decide) (List.mem_of_getElem? (i := 1) rfl) rfl rfl dX6_signOf_15 ?_
    refine lv_iload_n (pc := 18) hx hb dX6_signOf_18 rfl (lv_at hl 1 rfl) ?_
    obtain ⟨i3, hf⟩ := o_rdE hf
    refine z_iald (pc := 19) hx hb Z 2 0 rfl rfl i3 dX6_signOf_19 ?_
    refine lv_aload_n (pc := 20) hx hb dX6_signOf_20 rfl (lv_at hl 0 rfl) ?_
    refine z_get (pc := 21) (ref := "LotSheetModel") (ci := 6) (C := RX6) (T := TX6) (N := 22) hx hb hts iw_X6_signOf_X6 hown Z 0 rfl rfl 17 (by decide) (List.mem_of_getElem? (i := 1) rfl) rfl rfl dX6_signOf_21 ?_
    refine lv_iload_n (pc := 24) hx hb dX6_signOf_24 rfl (lv_at hl 1 rfl) ?_
    obtain ⟨i4, hf⟩ := o_rdE hf
    refine z_iald (pc := 25) hx hb Z 2 0 rfl rfl i4 dX6_signOf_25 ?_
    refine lv_bipush (pc := 26) (v := (10 : Int32)) hx hb dX6_signOf_26 (by decide) ?_
    refine lv_irem (pc := 28) hx hb dX6_signOf_28 (by decide) ?_
    refine lv_if_ne (pc := 29) (tgt := 53) hx hb dX6_signOf_29 (by decide) (fun c5 => ?_) (fun c5 => ?_)
    · replace hf := o_neg c5 hf
      refine lv_iconst (pc := 53) (v := (0 : Int32)) hx hb dX6_signOf_53 (by decide) ?_
      refine lv_iadd (pc := 54) hx hb dX6_signOf_54 ?_
      cases hf
      exact z_iret (pc := 55) hx hb hr hlocks Z rfl rfl dX6_signOf_55
    · replace hf := o_pos c5 hf
      refine lv_sipush (pc := 32) (v := (1000 : Int32)) hx hb dX6_signOf_32 (by decide) ?_
      refine lv_aload_n (pc := 35) hx hb dX6_signOf_35 rfl (lv_at hl 0 rfl) ?_
      refine z_get (pc := 36) (ref := "LotSheetModel") (ci := 6) (C := RX6) (T := TX6) (N := 22) hx hb hts iw_X6_signOf_X6 hown Z 0 rfl rfl 14 (by decide) (List.mem_of_getElem? (i := 2) rfl) rfl rfl dX6_signOf_36 ?_
      refine lv_aload_n (pc := 39) hx hb dX6_signOf_39 rfl (lv_at hl 0 rfl) ?_
      refine z_get (pc := 40) (ref := "LotSheetModel") (ci := 6) (C := RX6) (T := TX6) (N := 22) hx hb hts iw_X6_signOf_X6 hown Z 0 rfl rfl 17 (by decide) (List.mem_of_getElem? (i := 1) rfl) rfl rfl dX6_signOf_40 ?_
      refine lv_iload_n (pc := 43) hx hb dX6_signOf_43 rfl (lv_at hl 1 rfl) ?_
      obtain ⟨i6, hf⟩ := o_rdE hf
      refine z_iald (pc := 44) hx hb Z 2 0 rfl rfl i6 dX6_signOf_44 ?_
      refine lv_bipush (pc := 45) (v := (10 : Int32)) hx hb dX6_signOf_45 (by decide) ?_
      refine lv_idiv (pc := 47) hx hb dX6_signOf_47 (by decide) ?_
      obtain ⟨i7, hf⟩ := o_rdE hf
      refine z_iald (pc := 48) hx hb Z 1 0 rfl rfl i7 dX6_signOf_48 ?_
      refine lv_imul (pc := 49) hx hb dX6_signOf_49 ?_
      refine lv_goto (pc := 50) (tgt := 54) hx hb dX6_signOf_50 (by decide) ?_
      refine lv_iadd (pc := 54) hx hb dX6_signOf_54 ?_
      cases hf
      exact z_iret (pc := 55) hx hb hr hlocks Z rfl rfl dX6_signOf_55
  · replace hf := o_pos c2 hf
    refine lv_iconst (pc := 10) (v := (-1 : Int32)) hx hb dX6_signOf_10 (by decide) ?_
    refine lv_goto (pc := 11) (tgt := 55) hx hb dX6_signOf_11 (by decide) ?_
    cases hf
    exact z_iret (pc := 55) hx hb hr hlocks Z rfl rfl dX6_signOf_55
