def W_X5_different (cA : Nat → ClassId) (h : Nat → Nat) (c_lots : Nat → Int32) (c_count : Int32) (c_priced : Int32) (x_latestErrorOffset : Int32) : va_W := [(h 0, .inr (5, [.ref (h 1), .ref (h 3), .ref (h 11), .ref (h 19), .ref (h 85), .ref (h 92), .int x_latestErrorOffset])), (h 92, .inr (1, [.ref (h 93), .ref (h 94), .int c_count, .ref (h 95), .ref (h 102), .ref (h 103), .ref (h 104), .int c_priced])), (h 93, .inl (cA 0, 8, .inl c_lots))]
def fX5_different (p1 : Int32) (c_lots : Nat → Int32) (c_count : Int32) : Option (String ⊕ (Int32)) := (if p1 < 0 then some (.inl "java/util/NoSuchElementException") else (if p1 < c_count then o_rd 8 p1 (some (.inr ((c_lots p1.toNatClampNeg)))) else some (.inl "java/util/NoSuchElementException")))
theorem iw_X5_different_X5 : ∀ w ∈ u_ws RX5 TX5 7, w ∈ zsX5_different := z_inr [6, 7, 8, 9, 10, 11, 12] rfl
theorem iw_X5_different_X1 : ∀ w ∈ u_ws RX1 TX1 8, w ∈ zsX5_different := z_inr [13, 14, 15, 16, 17, 18, 19, 20] rfl
set_option maxHeartbeats 4000000 in
set_option maxRecDepth 100000 in
theorem kX5_different (l : Launch) (D : va_G) (cA : Nat → ClassId) (h : Nat → Nat) (p1 : Int32) (c_lots : Nat → Int32) (c_count : Int32) (c_priced : Int32) (x_latestErrorOffset : Int32) (u : Int32) (hf : fX5_different p1 c_lots c_count = some (.inr u)) : zMi l yX5_different zsX5_different ({ frames := 6, cells := 0, slots := 0, locals := 90 } : Room) D (zTY cA) [.ref (h 0), .int p1] (W_X5_different cA h c_lots c_count c_priced x_latestErrorOffset) (W_X5_different cA h c_lots c_count c_priced x_latestErrorOffset) u := by
  refine z_starti (cc := cX5_different) (maxL := 2) (ret := (some .int)) (by decide) rfl (Nat.le_of_ble_eq_true rfl) ?_
  intro p e s m args below meth c A hx hb hr hts hown hlocks hml hA Z ls hl
  replace hown : s.vm.findClass RX5 = some m.cls := hown
  replace hl : lv_has ls 2 [(0, .ref (h 0)), (1, .int p1)] := hl
  obtain ⟨H, hH⟩ : ∃ H, H = s.heap := ⟨_, rfl⟩
  rw [← hH] at Z ⊢
  clear hH
  obtain ⟨locs, hlc⟩ : ∃ q : List Loc, q = [] := ⟨_, rfl⟩
  rw [← hlc] at Z ⊢
  clear hlc
  refine lv_iload_n (pc := 0) hx hb dX5_different_0 rfl (lv_at hl 1 rfl) ?_
  refine lv_if_lt (pc := 1) (tgt := 15) hx hb dX5_different_1 (by decide) (fun c1 => ?_) (fun c1 => ?_)
  · replace hf := o_pos c1 hf
    cases hf
  · replace hf := o_neg c1 hf
    refine lv_iload_n (pc := 4) hx hb dX5_different_4 rfl (lv_at hl 1 rfl) ?_
    refine lv_aload_n (pc := 5) hx hb dX5_different_5 rfl (lv_at hl 0 rfl) ?_
    refine z_get (pc := 6) (ref := "LotSheet") (ci := 5) (C := RX5) (T := TX5) (N := 7) hx hb hts iw_X5_different_X5 hown Z 0 rfl rfl 5 (by decide) (List.mem_of_getElem? (i := 3) rfl) rfl rfl dX5_different_6 ?_
    refine z_get (pc := 9) (ref := "LotSheet$Choices") (ci := 1) (C := RX1) (T := TX1) (N := 8) hx hb hts iw_X5_different_X1 hown Z 1 rfl rfl 2 (by decide) (List.mem_of_getElem? (i := 4) rfl) rfl rfl dX5_different_9 ?_
    refine lv_icmp_lt (pc := 12) (tgt := 25) hx hb dX5_different_12 (by decide) (fun c2 => ?_) (fun c2 => ?_)
    · replace hf := o_pos c2 hf
      refine lv_aload_n (pc := 25) hx hb dX5_different_25 rfl (lv_at hl 0 rfl) ?_
      refine z_get (pc := 26) (ref := "LotSheet") (ci := 5) (C := RX5) (T := TX5) (N := 7) hx hb hts iw_X5_different_X5 hown Z 0 rfl rfl 5 (by decide) (List.mem_of_getElem? (i := 3) rfl) rfl rfl dX5_different_26 ?_
      refine z_get (pc := 29) (ref := "LotSheet$Choices") (ci := 1) (C := RX1) (T := TX1) (N := 8) hx hb hts iw_X5_different_X1 hown Z 1 rfl rfl 0 (by decide) (List.mem_of_getElem? (i := 5) rfl) rfl rfl dX5_different_29 ?_
      refine lv_iload_n (pc := 32) hx hb dX5_different_32 rfl (lv_at hl 1 rfl) ?_
      obtain ⟨i3, hf⟩ := o_rdE hf
      refine z_iald (pc := 33) hx hb Z 2 0 rfl rfl i3 dX5_different_33 ?_
      cases hf
      exact z_iret (pc := 34) hx hb hr hlocks Z rfl rfl dX5_different_34
    · replace hf := o_neg c2 hf
      cases hf
set_option maxHeartbeats 4000000 in
set_option maxRecDepth 100000 in
theorem tX5_different (l : Launch) (D : va_G) (cA : Nat → ClassId) (h : Nat → Nat) (p1 : Int32) (c_lots : Nat → Int32) (c_count : Int32) (c_priced : Int32) (x_latestErrorOffset : Int32) (E : String) (hf : fX5_different p1 c_lots c_count = some (.inl E)) (hfl : l.stackTraces = false) : zMiT l yX5_different zsX5_different ({ frames := 6, cells := 1, slots := 6, locals := 90 } : Room) D (zTY cA) [.ref (h 0), .int p1] (W_X5_different cA h c_lots c_count c_priced x_latestErrorOffset) E := by
  refine z_startiT (cc := cX5_different) (maxL := 2) (ret := (some .int)) (by decide) rfl (Nat.le_of_ble_eq_true rfl) ?_
  intro p e s m args below meth c A hx hb hr hts hown hlocks hml hA hE hxt Z ls hl
  replace hown : s.vm.findClass RX5 = some m.cls := hown
  replace hl : lv_has ls 2 [(0, .ref (h 0)), (1, .int p1)] := hl
  obtain ⟨H, hH⟩ : ∃ H, H = s.heap := ⟨_, rfl⟩
  rw [← hH] at Z ⊢
  clear hH
  obtain ⟨locs, hlc⟩ : ∃ q : List Loc, q = [] := ⟨_, rfl⟩
  rw [← hlc] at Z ⊢
  clear hlc
  refine lv_iload_n (pc := 0) hx hb dX5_different_0 rfl (lv_at hl 1 rfl) ?_
  refine lv_if_lt (pc := 1) (tgt := 15) hx hb dX5_different_1 (by decide) (fun c1 => ?_) (fun c1 => ?_)
  · replace hf := o_pos c1 hf
    cases hf
    exact z_throwNS (pc := 15) hx hb hfl hown hts (List.mem_of_getElem? (i := 1) rfl) (List.mem_of_getElem? (i := 2) rfl) (List.mem_of_getElem? (i := 6) rfl) hE Z (hl.1.trans hml.symm) dX5_different_15 dX5_different_18 dX5_different_19 dX5_different_21 dX5_different_24 hxt (Nat.le_of_ble_eq_true rfl) (Nat.le_of_ble_eq_true rfl) (Nat.le_of_ble_eq_true rfl) (Nat.le_of_ble_eq_true rfl) hlocks
  · replace hf := o_neg c1 hf
    refine lv_iload_n (pc := 4) hx hb dX5_different_4 rfl (lv_at hl 1 rfl) ?_
    refine lv_aload_n (pc := 5) hx hb dX5_different_5 rfl (lv_at hl 0 rfl) ?_
    refine z_get (pc := 6) (ref := "LotSheet") (ci := 5) (C := RX5) (T := TX5) (N := 7) hx hb hts iw_X5_different_X5 hown Z 0 rfl rfl 5 (by decide) (List.mem_of_getElem? (i := 3) rfl) rfl rfl dX5_different_6 ?_
    refine z_get (pc := 9) (ref := "LotSheet$Choices") (ci := 1) (C := RX1) (T := TX1) (N := 8) hx hb hts iw_X5_different_X1 hown Z 1 rfl rfl 2 (by decide) (List.mem_of_getElem? (i := 4) rfl) rfl rfl dX5_different_9 ?_
    refine lv_icmp_lt (pc := 12) (tgt := 25) hx hb dX5_different_12 (by decide) (fun c2 => ?_) (fun c2 => ?_)
    · replace hf := o_pos c2 hf
      refine lv_aload_n (pc := 25) hx hb dX5_different_25 rfl (lv_at hl 0 rfl) ?_
      refine z_get (pc := 26) (ref := "LotSheet") (ci := 5) (C := RX5) (T := TX5) (N := 7) hx hb hts iw_X5_different_X5 hown Z 0 rfl rfl 5 (by decide) (List.mem_of_getElem? (i := 3) rfl) rfl rfl dX5_different_26 ?_
      refine z_get (pc := 29) (ref := "LotSheet$Choices") (ci := 1) (C := RX1) (T := TX1) (N := 8) hx hb hts iw_X5_different_X1 hown Z 1 rfl rfl 0 (by decide) (List.mem_of_getElem? (i := 5) rfl) rfl rfl dX5_different_29 ?_
      refine lv_iload_n (pc := 32) hx hb dX5_different_32 rfl (lv_at hl 1 rfl) ?_
      obtain ⟨i3, hf⟩ := o_rdE hf
      refine z_iald (pc := 33) hx hb Z 2 0 rfl rfl i3 dX5_different_33 ?_
      cases hf
    · replace hf := o_neg c2 hf
      cases hf
      exact z_throwNS (pc := 15) hx hb hfl hown hts (List.mem_of_getElem? (i := 1) rfl) (List.mem_of_getElem? (i := 2) rfl) (List.mem_of_getElem? (i := 6) rfl) hE Z (hl.1.trans hml.symm) dX5_different_15 dX5_different_18 dX5_different_19 dX5_different_21 dX5_different_24 hxt (Nat.le_of_ble_eq_true rfl) (Nat.le_of_ble_eq_true rfl) (Nat.le_of_ble_eq_true rfl) (Nat.le_of_ble_eq_true rfl) hlocks
