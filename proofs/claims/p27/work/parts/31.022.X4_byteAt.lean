def W_X4_byteAt (cA : Nat → ClassId) (h : Nat → Nat) (t_size : Int32) (t_errorAt : Int32) (t_bytes : Nat → Int32) (t_length : Int32) (t_at : Int32) (t_error : Int32) (t_costsRead : Int32) (t_slipRead : Int32) : va_W := [(h 0, .inr (4, [.int t_size, .int t_errorAt, .ref (h 1), .int t_length, .int t_at, .int t_error, .int t_costsRead, .int t_slipRead])), (h 1, .inl (cA 2, 500, .inl t_bytes))]
def fX4_byteAt (p1 : Int32) (t_bytes : Nat → Int32) (t_length : Int32) : Option (Int32) := (if p1 < 0 then some ((-1 : Int32)) else (if t_length ≤ p1 then some ((-1 : Int32)) else (if (500 : Int32) ≤ p1 then some ((-1 : Int32)) else o_rd 500 p1 (some (((t_bytes p1.toNatClampNeg) &&& (255 : Int32)))))))
theorem iw_X4_byteAt_X4 : ∀ w ∈ u_ws RX4 TX4 8, w ∈ wsX4_byteAt := z_inr [3, 4, 5, 6, 7, 8, 9, 10] rfl
set_option maxHeartbeats 4000000 in
set_option maxRecDepth 100000 in
theorem kX4_byteAt (l : Launch) (D : va_G) (cA : Nat → ClassId) (h : Nat → Nat) (p1 : Int32) (t_size : Int32) (t_errorAt : Int32) (t_bytes : Nat → Int32) (t_length : Int32) (t_at : Int32) (t_error : Int32) (t_costsRead : Int32) (t_slipRead : Int32) (u : Int32) (hf : fX4_byteAt p1 t_bytes t_length = some u) : zMi l yX4_byteAt wsX4_byteAt ({ frames := 0, cells := 0, slots := 0, locals := 0 } : Room) D (zTY cA) [.ref (h 0), .int p1] (W_X4_byteAt cA h t_size t_errorAt t_bytes t_length t_at t_error t_costsRead t_slipRead) (W_X4_byteAt cA h t_size t_errorAt t_bytes t_length t_at t_error t_costsRead t_slipRead) u := by
  refine z_starti (cc := cX4_byteAt) (maxL := 2) (ret := (some .int)) (by decide) rfl (Nat.le_of_ble_eq_true rfl) ?_
  intro p e s m args below meth c A hx hb hr hts hown hlocks hml hA Z ls hl
  replace hown : s.vm.findClass RX4 = some m.cls := hown
  replace hl : lv_has ls 2 [(0, .ref (h 0)), (1, .int p1)] := hl
  obtain ⟨H, hH⟩ : ∃ H, H = s.heap := ⟨_, rfl⟩
  rw [← hH] at Z ⊢
  clear hH
  obtain ⟨locs, hlc⟩ : ∃ q : List Loc, q = [] := ⟨_, rfl⟩
  rw [← hlc] at Z ⊢
  clear hlc
  refine lv_iload_n (pc := 0) hx hb dX4_byteAt_0 rfl (lv_at hl 1 rfl) ?_
  refine lv_if_lt (pc := 1) (tgt := 32) hx hb dX4_byteAt_1 (by decide) (fun c1 => ?_) (fun c1 => ?_)
  · replace hf := o_pos c1 hf
    refine lv_iconst (pc := 32) (v := (-1 : Int32)) hx hb dX4_byteAt_32 (by decide) ?_
    cases hf
    exact z_iret (pc := 33) hx hb hr hlocks Z rfl rfl dX4_byteAt_33
  · replace hf := o_neg c1 hf
    refine lv_iload_n (pc := 4) hx hb dX4_byteAt_4 rfl (lv_at hl 1 rfl) ?_
    refine lv_aload_n (pc := 5) hx hb dX4_byteAt_5 rfl (lv_at hl 0 rfl) ?_
    refine z_get (pc := 6) (ref := "LotSheet$SetupText") (ci := 4) (C := RX4) (T := TX4) (N := 8) hx hb hts iw_X4_byteAt_X4 hown Z 0 rfl rfl 3 (by decide) (List.mem_of_getElem? (i := 1) rfl) rfl rfl dX4_byteAt_6 ?_
    refine lv_icmp_ge (pc := 9) (tgt := 32) hx hb dX4_byteAt_9 (by decide) (fun c2 => ?_) (fun c2 => ?_)
    · replace hf := o_pos c2 hf
      refine lv_iconst (pc := 32) (v := (-1 : Int32)) hx hb dX4_byteAt_32 (by decide) ?_
      cases hf
      exact z_iret (pc := 33) hx hb hr hlocks Z rfl rfl dX4_byteAt_33
    · replace hf := o_neg c2 hf
      refine lv_iload_n (pc := 12) hx hb dX4_byteAt_12 rfl (lv_at hl 1 rfl) ?_
      refine lv_sipush (pc := 13) (v := (500 : Int32)) hx hb dX4_byteAt_13 (by decide) ?_
      refine lv_icmp_ge (pc := 16) (tgt := 32) hx hb dX4_byteAt_16 (by decide) (fun c3 => ?_) (fun c3 => ?_)
      · replace hf := o_pos c3 hf
        refine lv_iconst (pc := 32) (v := (-1 : Int32)) hx hb dX4_byteAt_32 (by decide) ?_
        cases hf
        exact z_iret (pc := 33) hx hb hr hlocks Z rfl rfl dX4_byteAt_33
      · replace hf := o_neg c3 hf
        refine lv_aload_n (pc := 19) hx hb dX4_byteAt_19 rfl (lv_at hl 0 rfl) ?_
        refine z_get (pc := 20) (ref := "LotSheet$SetupText") (ci := 4) (C := RX4) (T := TX4) (N := 8) hx hb hts iw_X4_byteAt_X4 hown Z 0 rfl rfl 2 (by decide) (List.mem_of_getElem? (i := 2) rfl) rfl rfl dX4_byteAt_20 ?_
        refine lv_iload_n (pc := 23) hx hb dX4_byteAt_23 rfl (lv_at hl 1 rfl) ?_
        obtain ⟨i4, hf⟩ := o_rdE hf
        refine z_bald (pc := 24) hx hb Z 1 2 rfl rfl i4 dX4_byteAt_24 ?_
        refine lv_sipush (pc := 25) (v := (255 : Int32)) hx hb dX4_byteAt_25 (by decide) ?_
        refine lv_iand (pc := 28) hx hb dX4_byteAt_28 ?_
        refine lv_goto (pc := 29) (tgt := 33) hx hb dX4_byteAt_29 (by decide) ?_
        cases hf
        exact z_iret (pc := 33) hx hb hr hlocks Z rfl rfl dX4_byteAt_33
