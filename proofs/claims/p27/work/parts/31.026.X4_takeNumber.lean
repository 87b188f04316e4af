def W_X4_takeNumber (cA : Nat → ClassId) (h : Nat → Nat) (t_size : Int32) (t_errorAt : Int32) (t_bytes : Nat → Int32) (t_length : Int32) (t_at : Int32) (t_error : Int32) (t_costsRead : Int32) (t_slipRead : Int32) : va_W := [(h 0, .inr (4, [.int t_size, .int t_errorAt, .ref (h 1), .int t_length, .int t_at, .int t_error, .int t_costsRead, .int t_slipRead])), (h 1, .inl (cA 2, 500, .inl t_bytes))]
def fX4_takeNumber_L26 (t_length : Int32) (j73_9 : Int32 → Int32 → Option (Int32 × Int32 × Int32 × Int32)) (t_bytes : Nat → Int32) : Nat → Int32 → Int32 → Option (Int32 × Int32 × Int32 × Int32)
  | 0, _, _ => none
  | n0 + 1, x19, x20 => (if t_length ≤ x19 then (j73_9 x19 x20) else o_bind (fX4_byteAt x19 t_bytes t_length) (fun x22 => o_bind (fX4_isDigit x22) (fun x24 => (if x24 = 0 then (j73_9 x19 x20) else o_bind (fX4_byteAt x19 t_bytes t_length) (fun x27 => o_let (if (10000 : Int32) < ((((10 : Int32) * x20) + x27) - (48 : Int32)) then (10000 : Int32) else ((((10 : Int32) * x20) + x27) - (48 : Int32))) (fun x29 => o_let (x19 + (1 : Int32)) (fun x30 => (fX4_takeNumber_L26 t_length j73_9 t_bytes n0 x30 x29))))))))
def fX4_takeNumber (p1 : Int32) (p2 : Int32) (t_errorAt : Int32) (t_bytes : Nat → Int32) (t_length : Int32) (t_at : Int32) (t_error : Int32) : Option (Int32 × Int32 × Int32 × Int32) := o_bind (fX4_next t_bytes t_length t_at) (fun (x1, x2) => o_bind (fX4_isDigit x1) (fun x4 => (if x4 = 0 then o_bind (fX4_fail (-2 : Int32) t_errorAt x2 t_error) (fun (x31, x32) => some (p1, x31, x2, x32)) else o_let (fun (x7 : Int32) (x8 : Int32) => o_let (fun (x11 : Int32) (x12 : Int32) => some (x8, x11, x7, x12)) (fun (j91_13 : Int32 → Int32 → Option (Int32 × Int32 × Int32 × Int32)) => o_let (o_bind (fX4_fail (-3 : Int32) t_errorAt x2 t_error) (fun (x15, x16) => (j91_13 x15 x16))) (fun (j85_14 : Option (Int32 × Int32 × Int32 × Int32)) => (if x8 < p1 then j85_14 else (if x8 ≤ p2 then (j91_13 t_errorAt t_error) else j85_14))))) (fun (j73_9 : Int32 → Int32 → Option (Int32 × Int32 × Int32 × Int32)) => (fX4_takeNumber_L26 t_length j73_9 t_bytes 1024 x2 (0 : Int32))))))
theorem iw_X4_takeNumber_X4 : ∀ w ∈ u_ws RX4 TX4 8, w ∈ wsX4_takeNumber := z_inr [26, 27, 28, 29, 30, 31, 32, 33] rfl
set_option maxHeartbeats 4000000 in
set_option maxRecDepth 100000 in
theorem kX4_takeNumber (l : Launch) (D : va_G) (cA : Nat → ClassId) (h : Nat → Nat) (p1 : Int32) (p2 : Int32) (t_size : Int32) (t_errorAt : Int32) (t_bytes : Nat → Int32) (t_length : Int32) (t_at : Int32) (t_error : Int32) (t_costsRead : Int32) (t_slipRead : Int32) (u : Int32 × Int32 × Int32 × Int32) (hf : fX4_takeNumber p1 p2 t_errorAt t_bytes t_length t_at t_error = some u) : zMi l yX4_takeNumber wsX4_takeNumber ({ frames := 2, cells := 0, slots := 0, locals := 41 } : Room) D (zTY cA) [.ref (h 0), .int p1, .int p2] (W_X4_takeNumber cA h t_size t_errorAt t_bytes t_length t_at t_error t_costsRead t_slipRead) (W_X4_takeNumber cA h t_size (u.2.1) t_bytes t_length (u.2.2.1) (u.2.2.2) t_costsRead t_slipRead) u.1 := by
  refine z_starti (cc := cX4_takeNumber) (maxL := 5) (ret := (some .int)) (by decide) rfl (Nat.le_of_ble_eq_true rfl) ?_
  intro p e s m args below meth c A hx hb hr hts hown hlocks hml hA Z ls hl
  replace hown : s.vm.findClass RX4 = some m.cls := hown
  replace hl : lv_has ls 5 [(0, .ref (h 0)), (1, .int p1), (2, .int p2)] := hl
  obtain ⟨H, hH⟩ : ∃ H, H = s.heap := ⟨_, rfl⟩
  rw [← hH] at Z ⊢
  clear hH
  obtain ⟨locs, hlc⟩ : ∃ q : List Loc, q = [] := ⟨_, rfl⟩
  rw [← hlc] at Z ⊢
  clear hlc
  refine lv_aload_n (pc := 0) hx hb dX4_takeNumber_0 rfl (lv_at hl 0 rfl) ?_
  obtain ⟨⟨x1, x2⟩, q3, hf⟩ := o_bindE hf
  refine z_callVi (pc := 1) (As := []) (rest := []) (Wc := (W_X4_next cA (fun k => h ([0, 1].getD k 0)) t_size t_errorAt t_bytes t_length t_at t_error t_costsRead t_slipRead)) (W1 := (W_X4_next cA (fun k => h ([0, 1].getD k 0)) t_size t_errorAt t_bytes t_length x2 t_error t_costsRead t_slipRead)) (W2 := (W_X4_takeNumber cA h t_size t_errorAt t_bytes t_length x2 t_error t_costsRead t_slipRead)) ⟨hx, hb, hml, hown, hts⟩ (kX4_next l D cA (fun k => h ([0, 1].getD k 0)) t_size t_errorAt t_bytes t_length t_at t_error t_costsRead t_slipRead _ q3) (cwV 0 hts gX4_takeNumber_X4_next rfl rfl rfl (by decide +kernel) ⟨Nat.le_of_ble_eq_true rfl, Nat.le_of_ble_eq_true rfl⟩) Z hA [0, 1] rfl (by decide) rfl (ci := 4) rfl rfl rfl rfl hl.1 rfl (Nat.le_of_ble_eq_true rfl) dX4_takeNumber_1 ⟨Nat.zero_le _, Nat.zero_le _⟩ [some 0, some 1] rfl ⟨rfl, rfl, rfl⟩ (fun H locs Z => ?_)
  obtain ⟨x4, q5, hf⟩ := o_bindE hf
  refine z_callSi (pc := 4) (As := [.int x1]) (rest := []) (Wc := (W_X4_isDigit cA (fun k => h ([0].getD k 0)))) (W1 := (W_X4_isDigit cA (fun k => h ([0].getD k 0)))) (W2 := (W_X4_takeNumber cA h t_size t_errorAt t_bytes t_length x2 t_error t_costsRead t_slipRead)) ⟨hx, hb, hml, hown, hts⟩ (kX4_isDigit l D cA (fun k => h ([0].getD k 0)) x1 _ q5) (va_cwS 1 hts gX4_takeNumber_X4_isDigit rfl rfl rfl (by decide +kernel) ⟨Nat.le_of_ble_eq_true rfl, Nat.le_of_ble_eq_true rfl⟩) Z hA [] rfl (by decide) rfl rfl hl.1 rfl (Nat.le_of_ble_eq_true rfl) dX4_takeNumber_4 ⟨Nat.zero_le _, Nat.zero_le _⟩ [none, none] rfl ⟨rfl, rfl, rfl⟩ (fun H locs Z => ?_)
  refine lv_if_ne (pc := 7) (tgt := 18) hx hb dX4_takeNumber_7 (by decide) (fun c6 => ?_) (fun c6 => ?_)
  · replace hf := o_neg c6 hf
    refine lv_aload_n (pc := 18) hx hb dX4_takeNumber_18 rfl (lv_at hl 0 rfl) ?_
    refine z_get (pc := 19) (ref := "LotSheet$SetupText") (ci := 4) (C := RX4) (T := TX4) (N := 8) hx hb hts iw_X4_takeNumber_X4 hown Z 0 rfl rfl 4 (by decide) (List.mem_of_getElem? (i := 1) rfl) rfl rfl dX4_takeNumber_19 ?_
    refine lv_istore_n (pc := 22) (lv' := [(3, .int x2), (0, .ref (h 0)), (1, .int p1), (2, .int p2)]) hx hb dX4_takeNumber_22 rfl hl (by decide) rfl (fun ls hl => ?_)
    refine lv_iconst (pc := 23) (v := (0 : Int32)) hx hb dX4_takeNumber_23 (by decide) ?_
    refine lv_istore (pc := 24) (lv' := [(4, .int (0 : Int32)), (3, .int x2), (0, .ref (h 0)), (1, .int p1), (2, .int p2)]) hx hb dX4_takeNumber_24 hl (by decide) rfl (fun ls hl => ?_)
    obtain ⟨j73_9, ej73_9, hf⟩ := o_jnE hf
    have hj73_9 : ∀ (x7 : Int32) (x8 : Int32) (H : Heap) (locs : List Loc) (ls : Array Slot), zw D (zTY cA) s A (W_X4_takeNumber cA h t_size t_errorAt t_bytes t_length x2 t_error t_costsRead t_slipRead) H locs → lv_has ls 5 [(0, .ref (h 0)), (1, .int p1), (2, .int p2), (3, .int x7), (4, .int x8)] → j73_9 x7 x8 = some u → W p l e ({ frames := 2, cells := 0, slots := 0, locals := 41 } : Room) s m args below meth c H locs 0 0 (MQ below (zQi D (zTY cA) A (W_X4_takeNumber cA h t_size (u.2.1) t_bytes t_length (u.2.2.1) (u.2.2.2) t_costsRead t_slipRead) u.1) args s 0 0 A) (F0 m 73 ls []) := by
      intro x7 x8 H locs ls Z hl hf
      rw [ej73_9] at hf
      refine lv_iload (pc := 73) hx hb dX4_takeNumber_73 (lv_at hl 4 rfl) ?_
      refine lv_iload_n (pc := 75) hx hb dX4_takeNumber_75 rfl (lv_at hl 1 rfl) ?_
      obtain ⟨j91_13, ej91_13, hf⟩ := o_jnE hf
      have hj91_13 : ∀ (x11 : Int32) (x12 : Int32) (H : Heap) (locs : List Loc) (ls : Array Slot), zw D (zTY cA) s A (W_X4_takeNumber cA h t_size x11 t_bytes t_length x2 x12 t_costsRead t_slipRead) H locs → lv_has ls 5 [(0, .ref (h 0)), (3, .int x7), (4, .int x8)] → j91_13 x11 x12 = some u → W p l e ({ frames := 2, cells := 0, slots := 0, locals := 41 } : Room) s m args below meth c H locs 0 0 (MQ below (zQi D (zTY cA) A (W_X4_takeNumber cA h t_size (u.2.1) t_bytes t_length (u.2.2.1) (u.2.2.2) t_costsRead t_slipRead) u.1) args s 0 0 A) (F0 m 91 ls []) := by
        intro x11 x12 H locs ls Z hl hf
        rw [ej91_13] at hf
        refine lv_aload_n (pc := 91) hx hb dX4_takeNumber_91 rfl (lv_at hl 0 rfl) ?_
        refine lv_iload_n (pc := 92) hx hb dX4_takeNumber_92 rfl (lv_at hl 1 rfl) ?_
        refine z_put (pc := 93) (ref := "LotSheet$SetupText") (ci := 4) (C := RX4) (T := TX4) (N := 8) (W1 := (W_X4_takeNumber cA h t_size x11 t_bytes t_length x7 x12 t_costsRead t_slipRead)) hx hb hts iw_X4_takeNumber_X4 tyX4 tyX4_ok nmX4 hown Z 0 rfl rfl 4 (by decide) (List.mem_of_getElem? (i := 1) rfl) rfl rfl rfl rfl (Nat.le_of_ble_eq_true rfl) dX4_takeNumber_93 rfl (fun H locs Z => ?_)
        refine lv_iload (pc := 96) hx hb dX4_takeNumber_96 (lv_at hl 2 rfl) ?_
        cases hf
        exact z_iret (pc := 98) hx hb hr hlocks Z rfl rfl dX4_takeNumber_98
      obtain ⟨j85_14, ej85_14, hf⟩ := o_jnE hf
      have hj85_14 : ∀ (H : Heap) (locs : List Loc) (ls : Array Slot), zw D (zTY cA) s A (W_X4_takeNumber cA h t_size t_errorAt t_bytes t_length x2 t_error t_costsRead t_slipRead) H locs → lv_has ls 5 [(0, .ref (h 0)), (3, .int x7), (4, .int x8)] → j85_14 = some u → W p l e ({ frames := 2, cells := 0, slots := 0, locals := 41 } : Room) s m args below meth c H locs 0 0 (MQ below (zQi D (zTY cA) A (W_X4_takeNumber cA h t_size (u.2.1) t_bytes t_length (u.2.2.1) (u.2.2.2) t_costsRead t_slipRead) u.1) args s 0 0 A) (F0 m 85 ls []) := by
        intro H locs ls Z hl hf
        rw [ej85_14] at hf
        refine lv_aload_n (pc := 85) hx hb dX4_takeNumber_85 rfl (lv_at hl 0 rfl) ?_
        refine lv_bipush (pc := 86) (v := (-3 : Int32)) hx hb dX4_takeNumber_86 (by decide) ?_
        obtain ⟨⟨x15, x16⟩, q17, hf⟩ := o_bindE hf
        refine z_callVv (pc := 88) (As := [.int (-3 : Int32)]) (rest := []) (Wc := (W_X4_fail cA (fun k => h ([0, 1].getD k 0)) t_size t_errorAt t_length x2 t_error t_costsRead t_slipRead)) (W1 := (W_X4_fail cA (fun k => h ([0, 1].getD k 0)) t_size x15 t_length x2 x16 t_costsRead t_slipRead)) (W2 := (W_X4_takeNumber cA h t_size x15 t_bytes t_length x2 x16 t_costsRead t_slipRead)) ⟨hx, hb, hml, hown, hts⟩ (kX4_fail l D cA (fun k => h ([0, 1].getD k 0)) (-3 : Int32) t_size t_errorAt t_length x2 t_error t_costsRead t_slipRead _ q17) (cwV 1 hts gX4_takeNumber_X4_fail rfl rfl rfl (by decide +kernel) ⟨Nat.le_of_ble_eq_true rfl, Nat.le_of_ble_eq_true rfl⟩) Z hA [0] rfl (by decide) rfl (ci := 4) rfl rfl rfl rfl hl.1 rfl (Nat.le_of_ble_eq_true rfl) dX4_takeNumber_88 ⟨Nat.zero_le _, Nat.zero_le _⟩ [some 0, none] rfl ⟨rfl, rfl, rfl⟩ (fun H locs Z => ?_)
        exact hj91_13 x15 x16 H locs ls Z (lv_sub hl [0, 1, 2] rfl) hf
      refine lv_icmp_lt (pc := 76) (tgt := 85) hx hb dX4_takeNumber_76 (by decide) (fun c10 => ?_) (fun c10 => ?_)
      · replace hf := o_pos c10 hf
        exact hj85_14 H locs ls Z (lv_sub hl [0, 3, 4] rfl) hf
      · replace hf := o_neg c10 hf
        refine lv_iload (pc := 79) hx hb dX4_takeNumber_79 (lv_at hl 4 rfl) ?_
        refine lv_iload_n (pc := 81) hx hb dX4_takeNumber_81 rfl (lv_at hl 2 rfl) ?_
        refine lv_icmp_le (pc := 82) (tgt := 91) hx hb dX4_takeNumber_82 (by decide) (fun c18 => ?_) (fun c18 => ?_)
        · replace hf := o_pos c18 hf
          exact hj91_13 t_errorAt t_error H locs ls Z (lv_sub hl [0, 3, 4] rfl) hf
        · replace hf := o_neg c18 hf
          exact hj85_14 H locs ls Z (lv_sub hl [0, 3, 4] rfl) hf
    have hL26 : ∀ (n0 : Nat) (x19 : Int32) (x20 : Int32) (H : Heap) (locs : List Loc) (ls : Array Slot), zw D (zTY cA) s A (W_X4_takeNumber cA h t_size t_errorAt t_bytes t_length x2 t_error t_costsRead t_slipRead) H locs → lv_has ls 5 [(0, .ref (h 0)), (1, .int p1), (2, .int p2), (3, .int x19), (4, .int x20)] → fX4_takeNumber_L26 t_length j73_9 t_bytes n0 x19 x20 = some u → W p l e ({ frames := 2, cells := 0, slots := 0, locals := 41 } : Room) s m args below meth c H locs 0 0 (MQ below (zQi D (zTY cA) A (W_X4_takeNumber cA h t_size (u.2.1) t_bytes t_length (u.2.2.1) (u.2.2.2) t_costsRead t_slipRead) u.1) args s 0 0 A) (F0 m 26 ls []) := by
      intro n0
      induction n0 with
      | zero => intro x19 x20 H locs ls Z hl hf; exact o_no hf
      | succ n0 ih0 =>
        intro x19 x20 H locs ls Z hl hf
        refine lv_iload_n (pc := 26) hx hb dX4_takeNumber_26 rfl (lv_at hl 3 rfl) ?_
        refine lv_aload_n (pc := 27) hx hb dX4_takeNumber_27 rfl (lv_at hl 0 rfl) ?_
        refine z_get (pc := 28) (ref := "LotSheet$SetupText") (ci := 4) (C := RX4) (T := TX4) (N := 8) hx hb hts iw_X4_takeNumber_X4 hown Z 0 rfl rfl 3 (by decide) (List.mem_of_getElem? (i := 2) rfl) rfl rfl dX4_takeNumber_28 ?_
        refine lv_icmp_ge (pc := 31) (tgt := 73) hx hb dX4_takeNumber_31 (by decide) (fun c21 => ?_) (fun c21 => ?_)
        · replace hf := o_pos c21 hf
          exact hj73_9 x19 x20 H locs ls Z (lv_sub hl [0, 1, 2, 3, 4] rfl) hf
        · replace hf := o_neg c21 hf
          refine lv_aload_n (pc := 34) hx hb dX4_takeNumber_34 rfl (lv_at hl 0 rfl) ?_
          refine lv_iload_n (pc := 35) hx hb dX4_takeNumber_35 rfl (lv_at hl 3 rfl) ?_
          obtain ⟨x22, q23, hf⟩ := o_bindE hf
          refine z_callVi (pc := 36) (As := [.int x19]) (rest := []) (Wc := (W_X4_byteAt cA (fun k => h ([0, 1].getD k 0)) t_size t_errorAt t_bytes t_length x2 t_error t_costsRead t_slipRead)) (W1 := (W_X4_byteAt cA (fun k => h ([0, 1].getD k 0)) t_size t_errorAt t_bytes t_length x2 t_error t_costsRead t_slipRead)) (W2 := (W_X4_takeNumber cA h t_size t_errorAt t_bytes t_length x2 t_error t_costsRead t_slipRead)) ⟨hx, hb, hml, hown, hts⟩ (kX4_byteAt l D cA (fun k => h ([0, 1].getD k 0)) x19 t_size t_errorAt t_bytes t_length x2 t_error t_costsRead t_slipRead _ q23) (cwV 1 hts gX4_takeNumber_X4_byteAt rfl rfl rfl (by decide +kernel) ⟨Nat.le_of_ble_eq_true rfl, Nat.le_of_ble_eq_true rfl⟩) Z hA [0, 1] rfl (by decide) rfl (ci := 4) rfl rfl rfl rfl hl.1 rfl (Nat.le_of_ble_eq_true rfl) dX4_takeNumber_36 ⟨Nat.zero_le _, Nat.zero_le _⟩ [some 0, some 1] rfl ⟨rfl, rfl, rfl⟩ (fun H locs Z => ?_)
          obtain ⟨x24, q25, hf⟩ := o_bindE hf
          refine z_callSi (pc := 39) (As := [.int x22]) (rest := []) (Wc := (W_X4_isDigit cA (fun k => h ([0].getD k 0)))) (W1 := (W_X4_isDigit cA (fun k => h ([0].getD k 0)))) (W2 := (W_X4_takeNumber cA h t_size t_errorAt t_bytes t_length x2 t_error t_costsRead t_slipRead)) ⟨hx, hb, hml, hown, hts⟩ (kX4_isDigit l D cA (fun k => h ([0].getD k 0)) x22 _ q25) (va_cwS 1 hts gX4_takeNumber_X4_isDigit rfl rfl rfl (by decide +kernel) ⟨Nat.le_of_ble_eq_true rfl, Nat.le_of_ble_eq_true rfl⟩) Z hA [] rfl (by decide) rfl rfl hl.1 rfl (Nat.le_of_ble_eq_true rfl) dX4_takeNumber_39 ⟨Nat.zero_le _, Nat.zero_le _⟩ [none, none] rfl ⟨rfl, rfl, rfl⟩ (fun H locs Z => ?_)
          refine lv_if_eq (pc := 42) (tgt := 73) hx hb dX4_takeNumber_42 (by decide) (fun c26 => ?_) (fun c26 => ?_)
          · replace hf := o_pos c26 hf
            exact hj73_9 x19 x20 H locs ls Z (lv_sub hl [0, 1, 2, 3, 4] rfl) hf
          · replace hf := o_neg c26 hf
            refine lv_bipush (pc := 45) (v := (10 : Int32)) hx hb dX4_takeNumber_45 (by decide) ?_
            refine lv_iload (pc := 47) hx hb dX4_takeNumber_47 (lv_at hl 4 rfl) ?_
            refine lv_imul (pc := 49) hx hb dX4_takeNumber_49 ?_
            refine lv_aload_n (pc := 50) hx hb dX4_takeNumber_50 rfl (lv_at hl 0 rfl) ?_
            refine lv_iload_n (pc := 51) hx hb dX4_takeNumber_51 rfl (lv_at hl 3 rfl) ?_
            obtain ⟨x27, q28, hf⟩ := o_bindE hf
            refine z_callVi (pc := 52) (As := [.int x19]) (rest := [.int ((10 : Int32) * x20)]) (Wc := (W_X4_byteAt cA (fun k => h ([0, 1].getD k 0)) t_size t_errorAt t_bytes t_length x2 t_error t_costsRead t_slipRead)) (W1 := (W_X4_byteAt cA (fun k => h ([0, 1].getD k 0)) t_size t_errorAt t_bytes t_length x2 t_error t_costsRead t_slipRead)) (W2 := (W_X4_takeNumber cA h t_size t_errorAt t_bytes t_length x2 t_error t_costsRead t_slipRead)) ⟨hx, hb, hml, hown, hts⟩ (kX4_byteAt l D cA (fun k => h ([0, 1].getD k 0)) x19 t_size t_errorAt t_bytes t_length x2 t_error t_costsRead t_slipRead _ q28) (cwV 1 hts gX4_takeNumber_X4_byteAt rfl rfl rfl (by decide +kernel) ⟨Nat.le_of_ble_eq_true rfl, Nat.le_of_ble_eq_true rfl⟩) Z hA [0, 1] rfl (by decide) rfl (ci := 4) rfl rfl rfl rfl hl.1 rfl (Nat.le_of_ble_eq_true rfl) dX4_takeNumber_52 ⟨Nat.zero_le _, Nat.zero_le _⟩ [some 0, some 1] rfl ⟨rfl, rfl, rfl⟩ (fun H locs Z => ?_)
            refine lv_iadd (pc := 55) hx hb dX4_takeNumber_55 ?_
            refine lv_bipush (pc := 56) (v := (48 : Int32)) hx hb dX4_takeNumber_56 (by decide) ?_
            refine lv_isub (pc := 58) hx hb dX4_takeNumber_58 ?_
            refine lv_sipush (pc := 59) (v := (10000 : Int32)) hx hb dX4_takeNumber_59 (by decide) ?_
            refine va_mmin (pc := 62) hx hb (hml.trans hl.1.symm) hown (hts _ (List.mem_of_getElem? (i := 3) rfl)) (hts _ (List.mem_of_getElem? (i := 4) rfl)) (hts _ (List.mem_of_getElem? (i := 5) rfl)) (hts _ (List.mem_of_getElem? (i := 6) rfl)) (Nat.le_of_ble_eq_true rfl) (Nat.le_of_ble_eq_true rfl) (Nat.zero_le _) (Nat.zero_le _) dX4_takeNumber_62 ?_
            refine lv_topi (fun x29 ex29 => ?_)
            replace hf := o_letE ex29 hf
            refine lv_istore (pc := 65) (lv' := [(4, .int x29), (0, .ref (h 0)), (1, .int p1), (2, .int p2), (3, .int x19)]) hx hb dX4_takeNumber_65 hl (by decide) rfl (fun ls hl => ?_)
            obtain ⟨x30, ex30⟩ : ∃ y : Int32, y = (x19 + (1 : Int32)) := ⟨_, rfl⟩
            replace hf := o_letE ex30 hf
            refine lv_iinc (pc := 67) (v := x30) (lv' := [(3, .int x30), (4, .int x29), (0, .ref (h 0)), (1, .int p1), (2, .int p2)]) hx hb dX4_takeNumber_67 hl (k := 4) rfl (by rw [ex30]; rfl) (by decide) rfl (fun ls hl => ?_)
            refine lv_goto (pc := 70) (tgt := 26) hx hb dX4_takeNumber_70 (by decide) ?_
            exact ih0 x30 x29 H locs ls Z (lv_sub hl [2, 3, 4, 0, 1] rfl) hf
    exact hL26 1024 x2 (0 : Int32) H locs ls Z (lv_sub hl [2, 3, 4, 1, 0] rfl) hf
  · replace hf := o_pos c6 hf
    refine lv_aload_n (pc := 10) hx hb dX4_takeNumber_10 rfl (lv_at hl 0 rfl) ?_
    refine lv_bipush (pc := 11) (v := (-2 : Int32)) hx hb dX4_takeNumber_11 (by decide) ?_
    obtain ⟨⟨x31, x32⟩, q33, hf⟩ := o_bindE hf
    refine z_callVv (pc := 13) (As := [.int (-2 : Int32)]) (rest := []) (Wc := (W_X4_fail cA (fun k => h ([0, 1].getD k 0)) t_size t_errorAt t_length x2 t_error t_costsRead t_slipRead)) (W1 := (W_X4_fail cA (fun k => h ([0, 1].getD k 0)) t_size x31 t_length x2 x32 t_costsRead t_slipRead)) (W2 := (W_X4_takeNumber cA h t_size x31 t_bytes t_length x2 x32 t_costsRead t_slipRead)) ⟨hx, hb, hml, hown, hts⟩ (kX4_fail l D cA (fun k => h ([0, 1].getD k 0)) (-2 : Int32) t_size t_errorAt t_length x2 t_error t_costsRead t_slipRead _ q33) (cwV 1 hts gX4_takeNumber_X4_fail rfl rfl rfl (by decide +kernel) ⟨Nat.le_of_ble_eq_true rfl, Nat.le_of_ble_eq_true rfl⟩) Z hA [0] rfl (by decide) rfl (ci := 4) rfl rfl rfl rfl hl.1 rfl (Nat.le_of_ble_eq_true rfl) dX4_takeNumber_13 ⟨Nat.zero_le _, Nat.zero_le _⟩ [some 0, none] rfl ⟨rfl, rfl, rfl⟩ (fun H locs Z => ?_)
    refine lv_iload_n (pc := 16) hx hb dX4_takeNumber_16 rfl (lv_at hl 1 rfl) ?_
    cases hf
    exact z_iret (pc := 17) hx hb hr hlocks Z rfl rfl dX4_takeNumber_17
