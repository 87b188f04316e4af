def W_X3_leaveOut (cA : Nat → ClassId) (h : Nat → Nat) (y_numberOf : Nat → Int32) (y_pageOf : Nat → Int32) (y_lineOf : Nat → Int32) (y_pages : Int32) (y_printedLots : Int32) (y_printedLines : Int32) : va_W := [(h 0, .inr (3, [.ref (h 1), .ref (h 2), .ref (h 3), .ref (h 4), .ref (h 5), .ref (h 6), .int y_pages, .int y_printedLots, .int y_printedLines])), (h 1, .inl (cA 0, 24, .inl y_numberOf)), (h 2, .inl (cA 0, 24, .inl y_pageOf)), (h 3, .inl (cA 0, 24, .inl y_lineOf))]
def fX3_leaveOut (p1 : Int32) (y_numberOf : Nat → Int32) (y_pageOf : Nat → Int32) (y_lineOf : Nat → Int32) : Option ((Nat → Int32) × (Nat → Int32) × (Nat → Int32)) := o_rd 24 p1 (o_let (upd y_numberOf p1.toNatClampNeg (0 : Int32)) (fun a2 => o_rd 24 p1 (o_let (upd y_pageOf p1.toNatClampNeg (-1 : Int32)) (fun a4 => o_rd 24 p1 (o_let (upd y_lineOf p1.toNatClampNeg (-1 : Int32)) (fun a6 => some (a2, a4, a6)))))))
theorem iw_X3_leaveOut_X3 : ∀ w ∈ u_ws RX3 TX3 9, w ∈ wsX3_leaveOut := z_inr [4, 5, 6, 7, 8, 9, 10, 11, 12] rfl
set_option maxHeartbeats 4000000 in
set_option maxRecDepth 100000 in
theorem kX3_leaveOut (l : Launch) (D : va_G) (cA : Nat → ClassId) (h : Nat → Nat) (p1 : Int32) (y_numberOf : Nat → Int32) (y_pageOf : Nat → Int32) (y_lineOf : Nat → Int32) (y_pages : Int32) (y_printedLots : Int32) (y_printedLines : Int32) (u : (Nat → Int32) × (Nat → Int32) × (Nat → Int32)) (hf : fX3_leaveOut p1 y_numberOf y_pageOf y_lineOf = some u) : zMv l yX3_leaveOut wsX3_leaveOut ({ frames := 0, cells := 0, slots := 0, locals := 0 } : Room) D (zTY cA) [.ref (h 0), .int p1] (W_X3_leaveOut cA h y_numberOf y_pageOf y_lineOf y_pages y_printedLots y_printedLines) (W_X3_leaveOut cA h (u.1) (u.2.1) (u.2.2) y_pages y_printedLots y_printedLines) := by
  refine z_startv (cc := cX3_leaveOut) (maxL := 2) (ret := none) (by decide) rfl (Nat.le_of_ble_eq_true rfl) ?_
  intro p e s m args below meth c A hx hb hr hts hown hlocks hml hA Z ls hl
  replace hown : s.vm.findClass RX3 = some m.cls := hown
  replace hl : lv_has ls 2 [(0, .ref (h 0)), (1, .int p1)] := hl
  obtain ⟨H, hH⟩ : ∃ H, H = s.heap := ⟨_, rfl⟩
  rw [← hH] at Z ⊢
  clear hH
  obtain ⟨locs, hlc⟩ : ∃ q : List Loc, q = [] := ⟨_, rfl⟩
  rw [← hlc] at Z ⊢
  clear hlc
  refine lv_aload_n (pc := 0) hx hb dX3_leaveOut_0 rfl (lv_at hl 0 rfl) ?_
  refine z_get (pc := 1) (ref := "LotSheet$Layout") (ci := 3) (C := RX3) (T := TX3) (N := 9) hx hb hts iw_X3_leaveOut_X3 hown Z 0 rfl rfl 0 (by decide) (List.mem_of_getElem? (i := 1) rfl) rfl rfl dX3_leaveOut_1 ?_
  refine lv_iload_n (pc := 4) hx hb dX3_leaveOut_4 rfl (lv_at hl 1 rfl) ?_
  refine lv_iconst (pc := 5) (v := (0 : Int32)) hx hb dX3_leaveOut_5 (by decide) ?_
  obtain ⟨i1, hf⟩ := o_rdE hf
  refine z_iast (pc := 6) hx hb Z 1 0 rfl rfl i1 dX3_leaveOut_6 (fun g => (W_X3_leaveOut cA h g y_pageOf y_lineOf y_pages y_printedLots y_printedLines)) (fun _ => rfl) (fun a2 H locs ea2 Z => ?_)
  replace hf := o_letE ea2 hf
  refine lv_aload_n (pc := 7) hx hb dX3_leaveOut_7 rfl (lv_at hl 0 rfl) ?_
  refine z_get (pc := 8) (ref := "LotSheet$Layout") (ci := 3) (C := RX3) (T := TX3) (N := 9) hx hb hts iw_X3_leaveOut_X3 hown Z 0 rfl rfl 1 (by decide) (List.mem_of_getElem? (i := 2) rfl) rfl rfl dX3_leaveOut_8 ?_
  refine lv_iload_n (pc := 11) hx hb dX3_leaveOut_11 rfl (lv_at hl 1 rfl) ?_
  refine lv_iconst (pc := 12) (v := (-1 : Int32)) hx hb dX3_leaveOut_12 (by decide) ?_
  obtain ⟨i3, hf⟩ := o_rdE hf
  refine z_iast (pc := 13) hx hb Z 2 0 rfl rfl i3 dX3_leaveOut_13 (fun g => (W_X3_leaveOut cA h a2 g y_lineOf y_pages y_printedLots y_printedLines)) (fun _ => rfl) (fun a4 H locs ea4 Z => ?_)
  replace hf := o_letE ea4 hf
  refine lv_aload_n (pc := 14) hx hb dX3_leaveOut_14 rfl (lv_at hl 0 rfl) ?_
  refine z_get (pc := 15) (ref := "LotSheet$Layout") (ci := 3) (C := RX3) (T := TX3) (N := 9) hx hb hts iw_X3_leaveOut_X3 hown Z 0 rfl rfl 2 (by decide) (List.mem_of_getElem? (i := 3) rfl) rfl rfl dX3_leaveOut_15 ?_
  refine lv_iload_n (pc := 18) hx hb dX3_leaveOut_18 rfl (lv_at hl 1 rfl) ?_
  refine lv_iconst (pc := 19) (v := (-1 : Int32)) hx hb dX3_leaveOut_19 (by decide) ?_
  obtain ⟨i5, hf⟩ := o_rdE hf
  refine z_iast (pc := 20) hx hb Z 3 0 rfl rfl i5 dX3_leaveOut_20 (fun g => (W_X3_leaveOut cA h a2 a4 g y_pages y_printedLots y_printedLines)) (fun _ => rfl) (fun a6 H locs ea6 Z => ?_)
  replace hf := o_letE ea6 hf
  cases hf
  exact z_vret (pc := 21) hx hb hr hlocks Z rfl dX3_leaveOut_21
