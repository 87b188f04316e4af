def W_X4_takeSemicolon (cA : Nat → ClassId) (h : Nat → Nat) (t_size : Int32) (t_errorAt : Int32) (t_bytes : Nat → Int32) (t_length : Int32) (t_at : Int32) (t_error : Int32) (t_costsRead : Int32) (t_slipRead : Int32) : va_W := [(h 0, .inr (4, [.int t_size, .int t_errorAt, .ref (h 1), .int t_length, .int t_at, .int t_error, .int t_costsRead, .int t_slipRead])), (h 1, .inl (cA 2, 500, .inl t_bytes))]
def fX4_takeSemicolon (t_errorAt : Int32) (t_bytes : Nat → Int32) (t_length : Int32) (t_at : Int32) (t_error : Int32) : Option (Int32 × Int32 × Int32) := o_bind (fX4_next t_bytes t_length t_at) (fun (x1, x2) => o_let (fun (x5 : Int32) (x6 : Int32) => o_let (x2 + (1 : Int32)) (fun x8 => some (x5, x8, x6))) (fun (j15_7 : Int32 → Int32 → Option (Int32 × Int32 × Int32)) => (if x1 = (59 : Int32) then (j15_7 t_errorAt t_error) else o_bind (fX4_fail (-2 : Int32) t_errorAt x2 t_error) (fun (x9, x10) => (j15_7 x9 x10)))))
theorem iw_X4_takeSemicolon_X4 : ∀ w ∈ u_ws RX4 TX4 8, w ∈ wsX4_takeSemicolon := z_inr [19, 20, 21, 22, 23, 24, 25, 26] rfl
set_option maxHeartbeats 4000000 in
set_option maxRecDepth 100000 in
theorem kX4_takeSemicolon (l : Launch) (D : va_G) (cA : Nat → ClassId) (h : Nat → Nat) (t_size : Int32) (t_errorAt : Int32) (t_bytes : Nat → Int32) (t_length : Int32) (t_at : Int32) (t_error : Int32) (t_costsRead : Int32) (t_slipRead : Int32) (u : Int32 × Int32 × Int32) (hf : fX4_takeSemicolon t_errorAt t_bytes t_length t_at t_error = some u) : zMv l yX4_takeSemicolon wsX4_takeSemicolon ({ frames := 2, cells := 0, slots := 0, locals := 41 } : Room) D (zTY cA) [.ref (h 0)] (W_X4_takeSemicolon cA h t_size t_errorAt t_bytes t_length t_at t_error t_costsRead t_slipRead) (W_X4_takeSemicolon cA h t_size (u.1) t_bytes t_length (u.2.1) (u.2.2) t_costsRead t_slipRead) := by
  refine z_startv (cc := cX4_takeSemicolon) (maxL := 1) (ret := none) (by decide) rfl (Nat.le_of_ble_eq_true rfl) ?_
  intro p e s m args below meth c A hx hb hr hts hown hlocks hml hA Z ls hl
  replace hown : s.vm.findClass RX4 = some m.cls := hown
  replace hl : lv_has ls 1 [(0, .ref (h 0))] := hl
  obtain ⟨H, hH⟩ : ∃ H, H = s.heap := ⟨_, rfl⟩
  rw [← hH] at Z ⊢
  clear hH
  obtain ⟨locs, hlc⟩ : ∃ q : List Loc, q = [] := ⟨_, rfl⟩
  rw [← hlc] at Z ⊢
  clear hlc
  refine lv_aload_n (pc := 0) hx hb dX4_takeSemicolon_0 rfl (lv_at hl 0 rfl) ?_
  obtain ⟨⟨x1, x2⟩, q3, hf⟩ := o_bindE hf
  refine z_callVi (pc := 1) (As := []) (rest := []) (Wc := (W_X4_next cA (fun k => h ([0, 1].getD k 0)) t_size t_errorAt t_bytes t_length t_at t_error t_costsRead t_slipRead)) (W1 := (W_X4_next cA (fun k => h ([0, 1].getD k 0)) t_size t_errorAt t_bytes t_length x2 t_error t_costsRead t_slipRead)) (W2 := (W_X4_takeSemicolon cA h t_size t_errorAt t_bytes t_length x2 t_error t_costsRead t_slipRead)) ⟨hx, hb, hml, hown, hts⟩ (kX4_next l D cA (fun k => h ([0, 1].getD k 0)) t_size t_errorAt t_bytes t_length t_at t_error t_costsRead t_slipRead _ q3) (cwV 0 hts gX4_takeSemicolon_X4_next rfl rfl rfl (by decide +kernel) ⟨Nat.le_of_ble_eq_true rfl, Nat.le_of_ble_eq_true rfl⟩) Z hA [0, 1] rfl (by decide) rfl (ci := 4) rfl rfl rfl rfl hl.1 rfl (Nat.le_of_ble_eq_true rfl) dX4_takeSemicolon_1 ⟨Nat.zero_le _, Nat.zero_le _⟩ [some 0, some 1] rfl ⟨rfl, rfl, rfl⟩ (fun H locs Z => ?_)
  refine lv_bipush (pc := 4) (v := (59 : Int32)) hx hb dX4_takeSemicolon_4 (by decide) ?_
  obtain ⟨j15_7, ej15_7, hf⟩ := o_jnE hf
  have hj15_7 : ∀ (x5 : Int32) (x6 : Int32) (H : Heap) (locs : List Loc) (ls : Array Slot), zw D (zTY cA) s A (W_X4_takeSemicolon cA h t_size x5 t_bytes t_length x2 x6 t_costsRead t_slipRead) H locs → lv_has ls 1 [(0, .ref (h 0))] → j15_7 x5 x6 = some u → W p l e ({ frames := 2, cells := 0, slots := 0, locals := 41 } : Room) s m args below meth c H locs 0 0 (MQ below (zQv D (zTY cA) A (W_X4_takeSemicolon cA h t_size (u.1) t_bytes t_length (u.2.1) (u.2.2) t_costsRead t_slipRead)) args s 0 0 A) (F0 m 15 ls []) := by
    intro x5 x6 H locs ls Z hl hf
    rw [ej15_7] at hf
    refine lv_aload_n (pc := 15) hx hb dX4_takeSemicolon_15 rfl (lv_at hl 0 rfl) ?_
    refine lv_dup (pc := 16) hx hb dX4_takeSemicolon_16 rfl ?_
    refine z_get (pc := 17) (ref := "LotSheet$SetupText") (ci := 4) (C := RX4) (T := TX4) (N := 8) hx hb hts iw_X4_takeSemicolon_X4 hown Z 0 rfl rfl 4 (by decide) (List.mem_of_getElem? (i := 1) rfl) rfl rfl dX4_takeSemicolon_17 ?_
    refine lv_iconst (pc := 20) (v := (1 : Int32)) hx hb dX4_takeSemicolon_20 (by decide) ?_
    refine lv_iadd (pc := 21) hx hb dX4_takeSemicolon_21 ?_
    refine lv_topi (fun x8 ex8 => ?_)
    replace hf := o_letE ex8 hf
    refine z_put (pc := 22) (ref := "LotSheet$SetupText") (ci := 4) (C := RX4) (T := TX4) (N := 8) (W1 := (W_X4_takeSemicolon cA h t_size x5 t_bytes t_length x8 x6 t_costsRead t_slipRead)) hx hb hts iw_X4_takeSemicolon_X4 tyX4 tyX4_ok nmX4 hown Z 0 rfl rfl 4 (by decide) (List.mem_of_getElem? (i := 1) rfl) rfl rfl rfl rfl (Nat.le_of_ble_eq_true rfl) dX4_takeSemicolon_22 rfl (fun H locs Z => ?_)
    cases hf
    exact z_vret (pc := 25) hx hb hr hlocks Z rfl dX4_takeSemicolon_25
  refine lv_icmp_eq (pc := 6) (tgt := 15) hx hb dX4_takeSemicolon_6 (by decide) (fun c4 => ?_) (fun c4 => ?_)
  · replace hf := o_pos c4 hf
    exact hj15_7 t_errorAt t_error H locs ls Z (lv_sub hl [0] rfl) hf
  · replace hf := o_neg c4 hf
    refine lv_aload_n (pc := 9) hx hb dX4_takeSemicolon_9 rfl (lv_at hl 0 rfl) ?_
    refine lv_bipush (pc := 10) (v := (-2 : Int32)) hx hb dX4_takeSemicolon_10 (by decide) ?_
    obtain ⟨⟨x9, x10⟩, q11, hf⟩ := o_bindE hf
    refine z_callVv (pc := 12) (As := [.int (-2 : Int32)]) (rest := []) (Wc := (W_X4_fail cA (fun k => h ([0, 1].getD k 0)) t_size t_errorAt t_length x2 t_error t_costsRead t_slipRead)) (W1 := (W_X4_fail cA (fun k => h ([0, 1].getD k 0)) t_size x9 t_length x2 x10 t_costsRead t_slipRead)) (W2 := (W_X4_takeSemicolon cA h t_size x9 t_bytes t_length x2 x10 t_costsRead t_slipRead)) ⟨hx, hb, hml, hown, hts⟩ (kX4_fail l D cA (fun k => h ([0, 1].getD k 0)) (-2 : Int32) t_size t_errorAt t_length x2 t_error t_costsRead t_slipRead _ q11) (cwV 1 hts gX4_takeSemicolon_X4_fail rfl rfl rfl (by decide +kernel) ⟨Nat.le_of_ble_eq_true rfl, Nat.le_of_ble_eq_true rfl⟩) Z hA [0] rfl (by decide) rfl (ci := 4) rfl rfl rfl rfl hl.1 rfl (Nat.le_of_ble_eq_true rfl) dX4_takeSemicolon_12 ⟨Nat.zero_le _, Nat.zero_le _⟩ [some 0, none] rfl ⟨rfl, rfl, rfl⟩ (fun H locs Z => ?_)
    exact hj15_7 x9 x10 H locs ls Z (lv_sub hl [0] rfl) hf
