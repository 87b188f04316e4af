def W_X5_needPage (cA : Nat → ClassId) (h : Nat → Nat) (y_pages : Int32) (y_printedLots : Int32) (y_printedLines : Int32) (x_latestErrorOffset : Int32) : va_W := [(h 0, .inr (5, [.ref (h 1), .ref (h 3), .ref (h 11), .ref (h 19), .ref (h 85), .ref (h 92), .int x_latestErrorOffset])), (h 85, .inr (3, [.ref (h 86), .ref (h 87), .ref (h 88), .ref (h 89), .ref (h 90), .ref (h 91), .int y_pages, .int y_printedLots, .int y_printedLines]))]
def fX5_needPage (p1 : Int32) (y_pages : Int32) : Option (String ⊕ (Unit)) := (if p1 < 0 then some (.inl "java/lang/IndexOutOfBoundsException") else (if p1 < y_pages then some (.inr ()) else some (.inl "java/lang/IndexOutOfBoundsException")))
theorem iw_X5_needPage_X5 : ∀ w ∈ u_ws RX5 TX5 7, w ∈ zsX5_needPage := z_inr [5, 6, 7, 8, 9, 10, 11] rfl
theorem iw_X5_needPage_X3 : ∀ w ∈ u_ws RX3 TX3 9, w ∈ zsX5_needPage := z_inr [12, 13, 14, 15, 16, 17, 18, 19, 20] rfl
set_option maxHeartbeats 4000000 in
set_option maxRecDepth 100000 in
theorem kX5_needPage (l : Launch) (D : va_G) (cA : Nat → ClassId) (h : Nat → Nat) (p1 : Int32) (y_pages : Int32) (y_printedLots : Int32) (y_printedLines : Int32) (x_latestErrorOffset : Int32) (u : Unit) (hf : fX5_needPage p1 y_pages = some (.inr u)) : zMv l yX5_needPage zsX5_needPage ({ frames := 6, cells := 0, slots := 0, locals := 90 } : Room) D (zTY cA) [.ref (h 0), .int p1] (W_X5_needPage cA h y_pages y_printedLots y_printedLines x_latestErrorOffset) (W_X5_needPage cA h y_pages y_printedLots y_printedLines x_latestErrorOffset) := by
  refine z_startv (cc := cX5_needPage) (maxL := 2) (ret := none) (by decide) rfl (Nat.le_of_ble_eq_true rfl) ?_
  intro p e s m args below meth c A hx hb hr hts hown hlocks hml hA Z ls hl
  replace hown : s.vm.findClass RX5 = some m.cls := hown
  replace hl : lv_has ls 2 [(0, .ref (h 0)), (1, .int p1)] := hl
  obtain ⟨H, hH⟩ : ∃ H, H = s.heap := ⟨_, rfl⟩
  rw [← hH] at Z ⊢
  clear hH
  obtain ⟨locs, hlc⟩ : ∃ q : List Loc, q = [] := ⟨_, rfl⟩
  rw [← hlc] at Z ⊢
  clear hlc
  refine lv_iload_n (pc := 0) hx hb dX5_needPage_0 rfl (lv_at hl 1 rfl) ?_
  refine lv_if_lt (pc := 1) (tgt := 15) hx hb dX5_needPage_1 (by decide) (fun c1 => ?_) (fun c1 => ?_)
  · replace hf := o_pos c1 hf
    cases hf
  · replace hf := o_neg c1 hf
    refine lv_iload_n (pc := 4) hx hb dX5_needPage_4 rfl (lv_at hl 1 rfl) ?_
    refine lv_aload_n (pc := 5) hx hb dX5_needPage_5 rfl (lv_at hl 0 rfl) ?_
    refine z_get (pc := 6) (ref := "LotSheet") (ci := 5) (C := RX5) (T := TX5) (N := 7) hx hb hts iw_X5_needPage_X5 hown Z 0 rfl rfl 4 (by decide) (List.mem_of_getElem? (i := 3) rfl) rfl rfl dX5_needPage_6 ?_
    refine z_get (pc := 9) (ref := "LotSheet$Layout") (ci := 3) (C := RX3) (T := TX3) (N := 9) hx hb hts iw_X5_needPage_X3 hown Z 1 rfl rfl 6 (by decide) (List.mem_of_getElem? (i := 4) rfl) rfl rfl dX5_needPage_9 ?_
    refine lv_icmp_lt (pc := 12) (tgt := 26) hx hb dX5_needPage_12 (by decide) (fun c2 => ?_) (fun c2 => ?_)
    · replace hf := o_pos c2 hf
      cases hf
      exact z_vret (pc := 26) hx hb hr hlocks Z rfl dX5_needPage_26
    · replace hf := o_neg c2 hf
      cases hf
set_option maxHeartbeats 4000000 in
set_option maxRecDepth 100000 in
theorem tX5_needPage (l : Launch) (D : va_G) (cA : Nat → ClassId) (h : Nat → Nat) (p1 : Int32) (y_pages : Int32) (y_printedLots : Int32) (y_printedLines : Int32) (x_latestErrorOffset : Int32) (E : String) (hf : fX5_needPage p1 y_pages = some (.inl E)) (hfl : l.stackTraces = false) : zMvT l yX5_needPage zsX5_needPage ({ frames := 6, cells := 1, slots := 6, locals := 90 } : Room) D (zTY cA) [.ref (h 0), .int p1] (W_X5_needPage cA h y_pages y_printedLots y_printedLines x_latestErrorOffset) E := by
  refine z_startvT (cc := cX5_needPage) (maxL := 2) (ret := none) (by decide) rfl (Nat.le_of_ble_eq_true rfl) ?_
  intro p e s m args below meth c A hx hb hr hts hown hlocks hml hA hE hxt Z ls hl
  replace hown : s.vm.findClass RX5 = some m.cls := hown
  replace hl : lv_has ls 2 [(0, .ref (h 0)), (1, .int p1)] := hl
  obtain ⟨H, hH⟩ : ∃ H, H = s.heap := ⟨_, rfl⟩
  rw [← hH] at Z ⊢
  clear hH
  obtain ⟨locs, hlc⟩ : ∃ q : List Loc, q = [] := ⟨_, rfl⟩
  rw [← hlc] at Z ⊢
  clear hlc
  refine lv_iload_n (pc := 0) hx hb dX5_needPage_0 rfl (lv_at hl 1 rfl) ?_
  refine lv_if_lt (pc := 1) (tgt := 15) hx hb dX5_needPage_1 (by decide) (fun c1 => ?_) (fun c1 => ?_)
  · replace hf := o_pos c1 hf
    cases hf
    exact z_throwEW (pc := 15) hx hb hfl hown hts (by decide +kernel) (List.mem_of_getElem? (i := 1) rfl) (List.mem_of_getElem? (i := 2) rfl) z_inX (List.mem_of_getElem? (i := 19) rfl) hE Z (hl.1.trans hml.symm) dX5_needPage_15 dX5_needPage_18 dX5_needPage_19 dX5_needPage_22 dX5_needPage_25 hxt (Nat.le_of_ble_eq_true rfl) (Nat.le_of_ble_eq_true rfl) (Nat.le_of_ble_eq_true rfl) (Nat.le_of_ble_eq_true rfl) hlocks
  · replace hf := o_neg c1 hf
    refine lv_iload_n (pc := 4) hx hb dX5_needPage_4 rfl (lv_at hl 1 rfl) ?_
    refine lv_aload_n (pc := 5) hx hb dX5_needPage_5 rfl (lv_at hl 0 rfl) ?_
    refine z_get (pc := 6) (ref := "LotSheet") (ci := 5) (C := RX5) (T := TX5) (N := 7) hx hb hts iw_X5_needPage_X5 hown Z 0 rfl rfl 4 (by decide) (List.mem_of_getElem? (i := 3) rfl) rfl rfl dX5_needPage_6 ?_
    refine z_get (pc := 9) (ref := "LotSheet$Layout") (ci := 3) (C := RX3) (T := TX3) (N := 9) hx hb hts iw_X5_needPage_X3 hown Z 1 rfl rfl 6 (by decide) (List.mem_of_getElem? (i := 4) rfl) rfl rfl dX5_needPage_9 ?_
    refine lv_icmp_lt (pc := 12) (tgt := 26) hx hb dX5_needPage_12 (by decide) (fun c2 => ?_) (fun c2 => ?_)
    · replace hf := o_pos c2 hf
      cases hf
    · replace hf := o_neg c2 hf
      cases hf
      exact z_throwEW (pc := 15) hx hb hfl hown hts (by decide +kernel) (List.mem_of_getElem? (i := 1) rfl) (List.mem_of_getElem? (i := 2) rfl) z_inX (List.mem_of_getElem? (i := 19) rfl) hE Z (hl.1.trans hml.symm) dX5_needPage_15 dX5_needPage_18 dX5_needPage_19 dX5_needPage_22 dX5_needPage_25 hxt (Nat.le_of_ble_eq_true rfl) (Nat.le_of_ble_eq_true rfl) (Nat.le_of_ble_eq_true rfl) (Nat.le_of_ble_eq_true rfl) hlocks
