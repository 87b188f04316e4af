def W_X4_putWord (cA : Nat → ClassId) (h : Nat → Nat) (t_size : Int32) (t_errorAt : Int32) (t_bytes : Nat → Int32) (t_length : Int32) (t_at : Int32) (t_error : Int32) (t_costsRead : Int32) (t_slipRead : Int32) : va_W := [(h 0, .inr (4, [.int t_size, .int t_errorAt, .ref (h 1), .int t_length, .int t_at, .int t_error, .int t_costsRead, .int t_slipRead])), (h 1, .inl (cA 2, 500, .inl t_bytes))]
def fX4_putWord_L3 (p1 : Int32) : Nat → Int32 → Int32 → (Nat → Int32) → Option (Int32 × (Nat → Int32))
  | 0, _, _, _ => none
  | n0 + 1, x1, x2, a3 => (if x1 < 0 then some (x2, a3) else (if x2 < 0 then o_let (x1 + (-8 : Int32)) (fun x6 => (fX4_putWord_L3 p1 n0 x6 x2 a3)) else (if (500 : Int32) ≤ x2 then o_let (x1 + (-8 : Int32)) (fun x8 => (fX4_putWord_L3 p1 n0 x8 x2 a3)) else o_rd 500 x2 (o_let (upd a3 x2.toNatClampNeg (vp_nar .byte (((p1.toUInt32 >>> (x1.toUInt32 &&& Int32.toUInt32 31)).toInt32).toInt8.toInt32))) (fun a10 => o_let (x2 + (1 : Int32)) (fun x11 => o_let (x1 + (-8 : Int32)) (fun x12 => (fX4_putWord_L3 p1 n0 x12 x11 a10))))))))
def fX4_putWord (p1 : Int32) (t_size : Int32) (t_bytes : Nat → Int32) : Option (Int32 × (Nat → Int32)) := (fX4_putWord_L3 p1 1024 (24 : Int32) t_size t_bytes)
theorem iw_X4_putWord_X4 : ∀ w ∈ u_ws RX4 TX4 8, w ∈ wsX4_putWord := z_inr [3, 4, 5, 6, 7, 8, 9, 10] rfl
set_option maxHeartbeats 4000000 in
set_option maxRecDepth 100000 in
theorem kX4_putWord (l : Launch) (D : va_G) (cA : Nat → ClassId) (h : Nat → Nat) (p1 : Int32) (t_size : Int32) (t_errorAt : Int32) (t_bytes : Nat → Int32) (t_length : Int32) (t_at : Int32) (t_error : Int32) (t_costsRead : Int32) (t_slipRead : Int32) (u : Int32 × (Nat → Int32)) (hf : fX4_putWord p1 t_size t_bytes = some u) : zMv l yX4_putWord wsX4_putWord ({ frames := 0, cells := 0, slots := 0, locals := 0 } : Room) D (zTY cA) [.ref (h 0), .int p1] (W_X4_putWord cA h t_size t_errorAt t_bytes t_length t_at t_error t_costsRead t_slipRead) (W_X4_putWord cA h (u.1) t_errorAt (u.2) t_length t_at t_error t_costsRead t_slipRead) := by
  refine z_startv (cc := cX4_putWord) (maxL := 3) (ret := none) (by decide) rfl (Nat.le_of_ble_eq_true rfl) ?_
  intro p e s m args below meth c A hx hb hr hts hown hlocks hml hA Z ls hl
  replace hown : s.vm.findClass RX4 = some m.cls := hown
  replace hl : lv_has ls 3 [(0, .ref (h 0)), (1, .int p1)] := hl
  obtain ⟨H, hH⟩ : ∃ H, H = s.heap := ⟨_, rfl⟩
  rw [← hH] at Z ⊢
  clear hH
  obtain ⟨locs, hlc⟩ : ∃ q : List Loc, q = [] := ⟨_, rfl⟩
  rw [← hlc] at Z ⊢
  clear hlc
  refine lv_bipush (pc := 0) (v := (24 : Int32)) hx hb dX4_putWord_0 (by decide) ?_
  refine lv_istore_n (pc := 2) (lv' := [(2, .int (24 : Int32)), (0, .ref (h 0)), (1, .int p1)]) hx hb dX4_putWord_2 rfl hl (by decide) rfl (fun ls hl => ?_)
  have hL3 : ∀ (n0 : Nat) (x1 : Int32) (x2 : Int32) (a3 : Nat → Int32) (H : Heap) (locs : List Loc) (ls : Array Slot), zw D (zTY cA) s A (W_X4_putWord cA h x2 t_errorAt a3 t_length t_at t_error t_costsRead t_slipRead) H locs → lv_has ls 3 [(0, .ref (h 0)), (1, .int p1), (2, .int x1)] → fX4_putWord_L3 p1 n0 x1 x2 a3 = some u → W p l e ({ frames := 0, cells := 0, slots := 0, locals := 0 } : Room) s m args below meth c H locs 0 0 (MQ below (zQv D (zTY cA) A (W_X4_putWord cA h (u.1) t_errorAt (u.2) t_length t_at t_error t_costsRead t_slipRead)) args s 0 0 A) (F0 m 3 ls []) := by
    intro n0
    induction n0 with
    | zero => intro x1 x2 a3 H locs ls Z hl hf; exact o_no hf
    | succ n0 ih0 =>
      intro x1 x2 a3 H locs ls Z hl hf
      refine lv_iload_n (pc := 3) hx hb dX4_putWord_3 rfl (lv_at hl 2 rfl) ?_
      refine lv_if_lt (pc := 4) (tgt := 53) hx hb dX4_putWord_4 (by decide) (fun c4 => ?_) (fun c4 => ?_)
      · replace hf := o_pos c4 hf
        cases hf
        exact z_vret (pc := 53) hx hb hr hlocks Z rfl dX4_putWord_53
      · replace hf := o_neg c4 hf
        refine lv_aload_n (pc := 7) hx hb dX4_putWord_7 rfl (lv_at hl 0 rfl) ?_
        refine z_get (pc := 8) (ref := "LotSheet$SetupText") (ci := 4) (C := RX4) (T := TX4) (N := 8) hx hb hts iw_X4_putWord_X4 hown Z 0 rfl rfl 0 (by decide) (List.mem_of_getElem? (i := 1) rfl) rfl rfl dX4_putWord_8 ?_
        refine lv_if_lt (pc := 11) (tgt := 47) hx hb dX4_putWord_11 (by decide) (fun c5 => ?_) (fun c5 => ?_)
        · replace hf := o_pos c5 hf
          obtain ⟨x6, ex6⟩ : ∃ y : Int32, y = (x1 + (-8 : Int32)) := ⟨_, rfl⟩
          replace hf := o_letE ex6 hf
          refine lv_iinc (pc := 47) (v := x6) (lv' := [(2, .int x6), (0, .ref (h 0)), (1, .int p1)]) hx hb dX4_putWord_47 hl (k := 2) rfl (by rw [ex6]; rfl) (by decide) rfl (fun ls hl => ?_)
          refine lv_goto (pc := 50) (tgt := 3) hx hb dX4_putWord_50 (by decide) ?_
          exact ih0 x6 x2 a3 H locs ls Z (lv_sub hl [1, 2, 0] rfl) hf
        · replace hf := o_neg c5 hf
          refine lv_aload_n (pc := 14) hx hb dX4_putWord_14 rfl (lv_at hl 0 rfl) ?_
          refine z_get (pc := 15) (ref := "LotSheet$SetupText") (ci := 4) (C := RX4) (T := TX4) (N := 8) hx hb hts iw_X4_putWord_X4 hown Z 0 rfl rfl 0 (by decide) (List.mem_of_getElem? (i := 1) rfl) rfl rfl dX4_putWord_15 ?_
          refine lv_sipush (pc := 18) (v := (500 : Int32)) hx hb dX4_putWord_18 (by decide) ?_
          refine lv_icmp_ge (pc := 21) (tgt := 47) hx hb dX4_putWord_21 (by decide) (fun c7 => ?_) (fun c7 => ?_)
          · replace hf := o_pos c7 hf
            obtain ⟨x8, ex8⟩ : ∃ y : Int32, y = (x1 + (-8 : Int32)) := ⟨_, rfl⟩
            replace hf := o_letE ex8 hf
            refine lv_iinc (pc := 47) (v := x8) (lv' := [(2, .int x8), (0, .ref (h 0)), (1, .int p1)]) hx hb dX4_putWord_47 hl (k := 2) rfl (by rw [ex8]; rfl) (by decide) rfl (fun ls hl => ?_)
            refine lv_goto (pc := 50) (tgt := 3) hx hb dX4_putWord_50 (by decide) ?_
            exact ih0 x8 x2 a3 H locs ls Z (lv_sub hl [1, 2, 0] rfl) hf
          · replace hf := o_neg c7 hf
            refine lv_aload_n (pc := 24) hx hb dX4_putWord_24 rfl (lv_at hl 0 rfl) ?_
            refine z_get (pc := 25) (ref := "LotSheet$SetupText") (ci := 4) (C := RX4) (T := TX4) (N := 8) hx hb hts iw_X4_putWord_X4 hown Z 0 rfl rfl 2 (by decide) (List.mem_of_getElem? (i := 2) rfl) rfl rfl dX4_putWord_25 ?_
            refine lv_aload_n (pc := 28) hx hb dX4_putWord_28 rfl (lv_at hl 0 rfl) ?_
            refine z_get (pc := 29) (ref := "LotSheet$SetupText") (ci := 4) (C := RX4) (T := TX4) (N := 8) hx hb hts iw_X4_putWord_X4 hown Z 0 rfl rfl 0 (by decide) (List.mem_of_getElem? (i := 1) rfl) rfl rfl dX4_putWord_29 ?_
            refine lv_iload_n (pc := 32) hx hb dX4_putWord_32 rfl (lv_at hl 1 rfl) ?_
            refine lv_iload_n (pc := 33) hx hb dX4_putWord_33 rfl (lv_at hl 2 rfl) ?_
            refine lv_iushr (pc := 34) hx hb dX4_putWord_34 rfl ?_
            refine lv_i2b (pc := 35) hx hb dX4_putWord_35 rfl ?_
            obtain ⟨i9, hf⟩ := o_rdE hf
            refine z_bast (pc := 36) hx hb Z 1 2 rfl rfl i9 dX4_putWord_36 (fun g => (W_X4_putWord cA h x2 t_errorAt g t_length t_at t_error t_costsRead t_slipRead)) (fun _ => rfl) (fun a10 H locs ea10 Z => ?_)
            replace hf := o_letE ea10 hf
            refine lv_aload_n (pc := 37) hx hb dX4_putWord_37 rfl (lv_at hl 0 rfl) ?_
            refine lv_dup (pc := 38) hx hb dX4_putWord_38 rfl ?_
            refine z_get (pc := 39) (ref := "LotSheet$SetupText") (ci := 4) (C := RX4) (T := TX4) (N := 8) hx hb hts iw_X4_putWord_X4 hown Z 0 rfl rfl 0 (by decide) (List.mem_of_getElem? (i := 1) rfl) rfl rfl dX4_putWord_39 ?_
            refine lv_iconst (pc := 42) (v := (1 : Int32)) hx hb dX4_putWord_42 (by decide) ?_
            refine lv_iadd (pc := 43) hx hb dX4_putWord_43 ?_
            refine lv_topi (fun x11 ex11 => ?_)
            replace hf := o_letE ex11 hf
            refine z_put (pc := 44) (ref := "LotSheet$SetupText") (ci := 4) (C := RX4) (T := TX4) (N := 8) (W1 := (W_X4_putWord cA h x11 t_errorAt a10 t_length t_at t_error t_costsRead t_slipRead)) hx hb hts iw_X4_putWord_X4 tyX4 tyX4_ok nmX4 hown Z 0 rfl rfl 0 (by decide) (List.mem_of_getElem? (i := 1) rfl) rfl rfl rfl rfl (Nat.le_of_ble_eq_true rfl) dX4_putWord_44 rfl (fun H locs Z => ?_)
            obtain ⟨x12, ex12⟩ : ∃ y : Int32, y = (x1 + (-8 : Int32)) := ⟨_, rfl⟩
            replace hf := o_letE ex12 hf
            refine lv_iinc (pc := 47) (v := x12) (lv' := [(2, .int x12), (0, .ref (h 0)), (1, .int p1)]) hx hb dX4_putWord_47 hl (k := 2) rfl (by rw [ex12]; rfl) (by decide) rfl (fun ls hl => ?_)
            refine lv_goto (pc := 50) (tgt := 3) hx hb dX4_putWord_50 (by decide) ?_
            exact ih0 x12 x11 a10 H locs ls Z (lv_sub hl [1, 2, 0] rfl) hf
  exact hL3 1024 (24 : Int32) t_size t_bytes H locs ls Z (lv_sub hl [1, 2, 0] rfl) hf
