def W_X3_linesUsedOn (cA : Nat → ClassId) (h : Nat → Nat) (y_usedOn : Nat → Int32) (y_pages : Int32) (y_printedLots : Int32) (y_printedLines : Int32) : va_W := [(h 0, .inr (3, [.ref (h 1), .ref (h 2), .ref (h 3), .ref (h 4), .ref (h 5), .ref (h 6), .int y_pages, .int y_printedLots, .int y_printedLines])), (h 4, .inl (cA 0, 24, .inl y_usedOn))]
def fX3_linesUsedOn (p1 : Int32) (y_usedOn : Nat → Int32) (y_pages : Int32) : Option (Int32) := (if p1 < 0 then some ((0 : Int32)) else (if y_pages ≤ p1 then some ((0 : Int32)) else o_rd 24 p1 (some ((y_usedOn p1.toNatClampNeg)))))
theorem iw_X3_linesUsedOn_X3 : ∀ w ∈ u_ws RX3 TX3 9, w ∈ wsX3_linesUsedOn := z_inr [3, 4, 5, 6, 7, 8, 9, 10, 11] rfl
set_option maxHeartbeats 4000000 in
set_option maxRecDepth 100000 in
theorem kX3_linesUsedOn (l : Launch) (D : va_G) (cA : Nat → ClassId) (h : Nat → Nat) (p1 : Int32) (y_usedOn : Nat → Int32) (y_pages : Int32) (y_printedLots : Int32) (y_printedLines : Int32) (u : Int32) (hf : fX3_linesUsedOn p1 y_usedOn y_pages = some u) : zMi l yX3_linesUsedOn wsX3_linesUsedOn ({ frames := 0, cells := 0, slots := 0, locals := 0 } : Room) D (zTY cA) [.ref (h 0), .int p1] (W_X3_linesUsedOn cA h y_usedOn y_pages y_printedLots y_printedLines) (W_X3_linesUsedOn cA h y_usedOn y_pages y_printedLots y_printedLines) u := by
  refine z_starti (cc := cX3_linesUsedOn) (maxL := 2) (ret := (some .int)) (by decide) rfl (Nat.le_of_ble_eq_true rfl) ?_
  intro p e s m args below meth c A hx hb hr hts hown hlocks hml hA Z ls hl
  replace hown : s.vm.findClass RX3 = some m.cls := hown
  replace hl : lv_has ls 2 [(0, .ref (h 0)), (1, .int p1)] := hl
  obtain ⟨H, hH⟩ : ∃ H, H = s.heap := ⟨_, rfl⟩
  rw [← hH] at Z ⊢
  clear hH
  obtain ⟨locs, hlc⟩ : ∃ q : List Loc, q = [] := ⟨_, rfl⟩
  rw [← hlc] at Z ⊢
  clear hlc
  refine lv_iload_n (pc := 0) hx hb dX3_linesUsedOn_0 rfl (lv_at hl 1 rfl) ?_
  refine lv_if_lt (pc := 1) (tgt := 21) hx hb dX3_linesUsedOn_1 (by decide) (fun c1 => ?_) (fun c1 => ?_)
  · replace hf := o_pos c1 hf
    refine lv_iconst (pc := 21) (v := (0 : Int32)) hx hb dX3_linesUsedOn_21 (by decide) ?_
    cases hf
    exact z_iret (pc := 22) hx hb hr hlocks Z rfl rfl dX3_linesUsedOn_22
  · replace hf := o_neg c1 hf
    refine lv_iload_n (pc := 4) hx hb dX3_linesUsedOn_4 rfl (lv_at hl 1 rfl) ?_
    refine lv_aload_n (pc := 5) hx hb dX3_linesUsedOn_5 rfl (lv_at hl 0 rfl) ?_
    refine z_get (pc := 6) (ref := "LotSheet$Layout") (ci := 3) (C := RX3) (T := TX3) (N := 9) hx hb hts iw_X3_linesUsedOn_X3 hown Z 0 rfl rfl 6 (by decide) (List.mem_of_getElem? (i := 1) rfl) rfl rfl dX3_linesUsedOn_6 ?_
    refine lv_icmp_ge (pc := 9) (tgt := 21) hx hb dX3_linesUsedOn_9 (by decide) (fun c2 => ?_) (fun c2 => ?_)
    · replace hf := o_pos c2 hf
      refine lv_iconst (pc := 21) (v := (0 : Int32)) hx hb dX3_linesUsedOn_21 (by decide) ?_
      cases hf
      exact z_iret (pc := 22) hx hb hr hlocks Z rfl rfl dX3_linesUsedOn_22
    · replace hf := o_neg c2 hf
      refine lv_aload_n (pc := 12) hx hb dX3_linesUsedOn_12 rfl (lv_at hl 0 rfl) ?_
      refine z_get (pc := 13) (ref := "LotSheet$Layout") (ci := 3) (C := RX3) (T := TX3) (N := 9) hx hb hts iw_X3_linesUsedOn_X3 hown Z 0 rfl rfl 3 (by decide) (List.mem_of_getElem? (i := 2) rfl) rfl rfl dX3_linesUsedOn_13 ?_
      refine lv_iload_n (pc := 16) hx hb dX3_linesUsedOn_16 rfl (lv_at hl 1 rfl) ?_
      obtain ⟨i3, hf⟩ := o_rdE hf
      refine z_iald (pc := 17) hx hb Z 1 0 rfl rfl i3 dX3_linesUsedOn_17 ?_
      refine lv_goto (pc := 18) (tgt := 22) hx hb dX3_linesUsedOn_18 (by decide) ?_
      cases hf
      exact z_iret (pc := 22) hx hb hr hlocks Z rfl rfl dX3_linesUsedOn_22
