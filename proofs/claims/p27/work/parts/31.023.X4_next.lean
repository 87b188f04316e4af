def W_X4_next (cA : Nat → ClassId) (h : Nat → Nat) (t_size : Int32) (t_errorAt : Int32) (t_bytes : Nat → Int32) (t_length : Int32) (t_at : Int32) (t_error : Int32) (t_costsRead : Int32) (t_slipRead : Int32) : va_W := [(h 0, .inr (4, [.int t_size, .int t_errorAt, .ref (h 1), .int t_length, .int t_at, .int t_error, .int t_costsRead, .int t_slipRead])), (h 1, .inl (cA 2, 500, .inl t_bytes))]
def fX4_next_L0 (t_length : Int32) (j37_2 : Int32 → Option (Int32 × Int32)) (t_bytes : Nat → Int32) : Nat → Int32 → Option (Int32 × Int32)
  | 0, _ => none
  | n0 + 1, x5 => (if t_length ≤ x5 then (j37_2 x5) else o_bind (fX4_byteAt x5 t_bytes t_length) (fun x7 => (if x7 = (32 : Int32) then o_let (x5 + (1 : Int32)) (fun x10 => (fX4_next_L0 t_length j37_2 t_bytes n0 x10)) else (j37_2 x5))))
def fX4_next (t_bytes : Nat → Int32) (t_length : Int32) (t_at : Int32) : Option (Int32 × Int32) := o_let (fun (x1 : Int32) => o_bind (fX4_byteAt x1 t_bytes t_length) (fun x3 => some (x3, x1))) (fun (j37_2 : Int32 → Option (Int32 × Int32)) => (fX4_next_L0 t_length j37_2 t_bytes 1024 t_at))
theorem iw_X4_next_X4 : ∀ w ∈ u_ws RX4 TX4 8, w ∈ wsX4_next := z_inr [9, 10, 11, 12, 13, 14, 15, 16] rfl
set_option maxHeartbeats 4000000 in
set_option maxRecDepth 100000 in
theorem kX4_next (l : Launch) (D : va_G) (cA : Nat → ClassId) (h : Nat → Nat) (t_size : Int32) (t_errorAt : Int32) (t_bytes : Nat → Int32) (t_length : Int32) (t_at : Int32) (t_error : Int32) (t_costsRead : Int32) (t_slipRead : Int32) (u : Int32 × Int32) (hf : fX4_next t_bytes t_length t_at = some u) : zMi l yX4_next wsX4_next ({ frames := 1, cells := 0, slots := 0, locals := 21 } : Room) D (zTY cA) [.ref (h 0)] (W_X4_next cA h t_size t_errorAt t_bytes t_length t_at t_error t_costsRead t_slipRead) (W_X4_next cA h t_size t_errorAt t_bytes t_length (u.2) t_error t_costsRead t_slipRead) u.1 := by
  refine z_starti (cc := cX4_next) (maxL := 1) (ret := (some .int)) (by decide) rfl (Nat.le_of_ble_eq_true rfl) ?_
  intro p e s m args below meth c A hx hb hr hts hown hlocks hml hA Z ls hl
  replace hown : s.vm.findClass RX4 = some m.cls := hown
  replace hl : lv_has ls 1 [(0, .ref (h 0))] := hl
  obtain ⟨H, hH⟩ : ∃ H, H = s.heap := ⟨_, rfl⟩
  rw [← hH] at Z ⊢
  clear hH
  obtain ⟨locs, hlc⟩ : ∃ q : List Loc, q = [] := ⟨_, rfl⟩
  rw [← hlc] at Z ⊢
  clear hlc
  obtain ⟨j37_2, ej37_2, hf⟩ := o_jnE hf
  have hj37_2 : ∀ (x1 : Int32) (H : Heap) (locs : List Loc) (ls : Array Slot), zw D (zTY cA) s A (W_X4_next cA h t_size t_errorAt t_bytes t_length x1 t_error t_costsRead t_slipRead) H locs → lv_has ls 1 [(0, .ref (h 0))] → j37_2 x1 = some u → W p l e ({ frames := 1, cells := 0, slots := 0, locals := 21 } : Room) s m args below meth c H locs 0 0 (MQ below (zQi D (zTY cA) A (W_X4_next cA h t_size t_errorAt t_bytes t_length (u.2) t_error t_costsRead t_slipRead) u.1) args s 0 0 A) (F0 m 37 ls []) := by
    intro x1 H locs ls Z hl hf
    rw [ej37_2] at hf
    refine lv_aload_n (pc := 37) hx hb dX4_next_37 rfl (lv_at hl 0 rfl) ?_
    refine lv_aload_n (pc := 38) hx hb dX4_next_38 rfl (lv_at hl 0 rfl) ?_
    refine z_get (pc := 39) (ref := "LotSheet$SetupText") (ci := 4) (C := RX4) (T := TX4) (N := 8) hx hb hts iw_X4_next_X4 hown Z 0 rfl rfl 4 (by decide) (List.mem_of_getElem? (i := 1) rfl) rfl rfl dX4_next_39 ?_
    obtain ⟨x3, q4, hf⟩ := o_bindE hf
    refine z_callVi (pc := 42) (As := [.int x1]) (rest := []) (Wc := (W_X4_byteAt cA (fun k => h ([0, 1].getD k 0)) t_size t_errorAt t_bytes t_length x1 t_error t_costsRead t_slipRead)) (W1 := (W_X4_byteAt cA (fun k => h ([0, 1].getD k 0)) t_size t_errorAt t_bytes t_length x1 t_error t_costsRead t_slipRead)) (W2 := (W_X4_next cA h t_size t_errorAt t_bytes t_length x1 t_error t_costsRead t_slipRead)) ⟨hx, hb, hml, hown, hts⟩ (kX4_byteAt l D cA (fun k => h ([0, 1].getD k 0)) x1 t_size t_errorAt t_bytes t_length x1 t_error t_costsRead t_slipRead _ q4) (cwV 1 hts gX4_next_X4_byteAt rfl rfl rfl (by decide +kernel) ⟨Nat.le_of_ble_eq_true rfl, Nat.le_of_ble_eq_true rfl⟩) Z hA [0, 1] rfl (by decide) rfl (ci := 4) rfl rfl rfl rfl hl.1 rfl (Nat.le_of_ble_eq_true rfl) dX4_next_42 ⟨Nat.zero_le _, Nat.zero_le _⟩ [some 0, some 1] rfl ⟨rfl, rfl, rfl⟩ (fun H locs Z => ?_)
    cases hf
    exact z_iret (pc := 45) hx hb hr hlocks Z rfl rfl dX4_next_45
  have hL0 : ∀ (n0 : Nat) (x5 : Int32) (H : Heap) (locs : List Loc) (ls : Array Slot), zw D (zTY cA) s A (W_X4_next cA h t_size t_errorAt t_bytes t_length x5 t_error t_costsRead t_slipRead) H locs → lv_has ls 1 [(0, .ref (h 0))] → fX4_next_L0 t_length j37_2 t_bytes n0 x5 = some u → W p l e ({ frames := 1, cells := 0, slots := 0, locals := 21 } : Room) s m args below meth c H locs 0 0 (MQ below (zQi D (zTY cA) A (W_X4_next cA h t_size t_errorAt t_bytes t_length (u.2) t_error t_costsRead t_slipRead) u.1) args s 0 0 A) (F0 m 0 ls []) := by
    intro n0
    induction n0 with
    | zero => intro x5 H locs ls Z hl hf; exact o_no hf
    | succ n0 ih0 =>
      intro x5 H locs ls Z hl hf
      refine lv_aload_n (pc := 0) hx hb dX4_next_0 rfl (lv_at hl 0 rfl) ?_
      refine z_get (pc := 1) (ref := "LotSheet$SetupText") (ci := 4) (C := RX4) (T := TX4) (N := 8) hx hb hts iw_X4_next_X4 hown Z 0 rfl rfl 4 (by decide) (List.mem_of_getElem? (i := 1) rfl) rfl rfl dX4_next_1 ?_
      refine lv_aload_n (pc := 4) hx hb dX4_next_4 rfl (lv_at hl 0 rfl) ?_
      refine z_get (pc := 5) (ref := "LotSheet$SetupText") (ci := 4) (C := RX4) (T := TX4) (N := 8) hx hb hts iw_X4_next_X4 hown Z 0 rfl rfl 3 (by decide) (List.mem_of_getElem? (i := 2) rfl) rfl rfl dX4_next_5 ?_
      refine lv_icmp_ge (pc := 8) (tgt := 37) hx hb dX4_next_8 (by decide) (fun c6 => ?_) (fun c6 => ?_)
      · replace hf := o_pos c6 hf
        exact hj37_2 x5 H locs ls Z (lv_sub hl [0] rfl) hf
      · replace hf := o_neg c6 hf
        refine lv_aload_n (pc := 11) hx hb dX4_next_11 rfl (lv_at hl 0 rfl) ?_
        refine lv_aload_n (pc := 12) hx hb dX4_next_12 rfl (lv_at hl 0 rfl) ?_
        refine z_get (pc := 13) (ref := "LotSheet$SetupText") (ci := 4) (C := RX4) (T := TX4) (N := 8) hx hb hts iw_X4_next_X4 hown Z 0 rfl rfl 4 (by decide) (List.mem_of_getElem? (i := 1) rfl) rfl rfl dX4_next_13 ?_
        obtain ⟨x7, q8, hf⟩ := o_bindE hf
        refine z_callVi (pc := 16) (As := [.int x5]) (rest := []) (Wc := (W_X4_byteAt cA (fun k => h ([0, 1].getD k 0)) t_size t_errorAt t_bytes t_length x5 t_error t_costsRead t_slipRead)) (W1 := (W_X4_byteAt cA (fun k => h ([0, 1].getD k 0)) t_size t_errorAt t_bytes t_length x5 t_error t_costsRead t_slipRead)) (W2 := (W_X4_next cA h t_size t_errorAt t_bytes t_length x5 t_error t_costsRead t_slipRead)) ⟨hx, hb, hml, hown, hts⟩ (kX4_byteAt l D cA (fun k => h ([0, 1].getD k 0)) x5 t_size t_errorAt t_bytes t_length x5 t_error t_costsRead t_slipRead _ q8) (cwV 1 hts gX4_next_X4_byteAt rfl rfl rfl (by decide +kernel) ⟨Nat.le_of_ble_eq_true rfl, Nat.le_of_ble_eq_true rfl⟩) Z hA [0, 1] rfl (by decide) rfl (ci := 4) rfl rfl rfl rfl hl.1 rfl (Nat.le_of_ble_eq_true rfl) dX4_next_16 ⟨Nat.zero_le _, Nat.zero_le _⟩ [some 0, some 1] rfl ⟨rfl, rfl, rfl⟩ (fun H locs Z => ?_)
        refine lv_bipush (pc := 19) (v := (32 : Int32)) hx hb dX4_next_19 (by decide) ?_
        refine lv_icmp_ne (pc := 21) (tgt := 37) hx hb dX4_next_21 (by decide) (fun c9 => ?_) (fun c9 => ?_)
        · replace hf := o_neg c9 hf
          exact hj37_2 x5 H locs ls Z (lv_sub hl [0] rfl) hf
        · replace hf := o_pos c9 hf
          refine lv_aload_n (pc := 24) hx hb dX4_next_24 rfl (lv_at hl 0 rfl) ?_
          refine lv_dup (pc := 25) hx hb dX4_next_25 rfl ?_
          refine z_get (pc := 26) (ref := "LotSheet$SetupText") (ci := 4) (C := RX4) (T := TX4) (N := 8) hx hb hts iw_X4_next_X4 hown Z 0 rfl rfl 4 (by decide) (List.mem_of_getElem? (i := 1) rfl) rfl rfl dX4_next_26 ?_
          refine lv_iconst (pc := 29) (v := (1 : Int32)) hx hb dX4_next_29 (by decide) ?_
          refine lv_iadd (pc := 30) hx hb dX4_next_30 ?_
          refine lv_topi (fun x10 ex10 => ?_)
          replace hf := o_letE ex10 hf
          refine z_put (pc := 31) (ref := "LotSheet$SetupText") (ci := 4) (C := RX4) (T := TX4) (N := 8) (W1 := (W_X4_next cA h t_size t_errorAt t_bytes t_length x10 t_error t_costsRead t_slipRead)) hx hb hts iw_X4_next_X4 tyX4 tyX4_ok nmX4 hown Z 0 rfl rfl 4 (by decide) (List.mem_of_getElem? (i := 1) rfl) rfl rfl rfl rfl (Nat.le_of_ble_eq_true rfl) dX4_next_31 rfl (fun H locs Z => ?_)
          refine lv_goto (pc := 34) (tgt := 0) hx hb dX4_next_34 (by decide) ?_
          exact ih0 x10 H locs ls Z (lv_sub hl [0] rfl) hf
  exact hL0 1024 t_at H locs ls Z (lv_sub hl [0] rfl) hf
