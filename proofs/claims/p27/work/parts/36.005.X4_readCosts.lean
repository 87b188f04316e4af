def W_X4_readCosts (cA : Nat → ClassId) (h : Nat → Nat) (t_size : Int32) (t_errorAt : Int32) (t_bytes : Nat → Int32) (t_length : Int32) (t_at : Int32) (t_error : Int32) (t_costsRead : Int32) (t_slipRead : Int32) (b_height : Int32) (b_count : Int32) (b_room : Int32) (b_account : Int32) (b_costs : Nat → Int32) : va_W := [(h 0, .inr (4, [.int t_size, .int t_errorAt, .ref (h 1), .int t_length, .int t_at, .int t_error, .int t_costsRead, .int t_slipRead])), (h 1, .inl (cA 2, 500, .inl t_bytes)), (h 2, .inr (0, [.int b_height, .int b_count, .int b_room, .int b_account, .ref (h 3), .ref (h 4), .ref (h 5), .ref (h 6), .ref (h 7), .ref (h 8), .ref (h 9)])), (h 3, .inl (cA 0, 5, .inl b_costs))]
def fX4_readCosts_L17 (t_bytes : Nat → Int32) (t_length : Int32) : Nat → Int32 → Int32 → Int32 → Int32 → (Nat → Int32) → Option (Int32 × Int32 × Int32 × Int32 × (Nat → Int32))
  | 0, _, _, _, _, _ => none
  | n0 + 1, x2, x3, x4, x5, a6 => (if (5 : Int32) ≤ x2 then some (x3, x4, x5, (1 : Int32), a6) else o_bind (fX4_takeNumber (0 : Int32) (99 : Int32) x3 t_bytes t_length x4 x5) (fun (x8, x9, x10, x11) => o_rd 5 x2 (o_let (upd a6 x2.toNatClampNeg x8) (fun a14 => o_let (x2 + (1 : Int32)) (fun x15 => (fX4_readCosts_L17 t_bytes t_length n0 x15 x9 x10 x11 a14))))))
def fX4_readCosts (t_errorAt : Int32) (t_bytes : Nat → Int32) (t_length : Int32) (t_at : Int32) (t_error : Int32) (t_costsRead : Int32) (b_costs : Nat → Int32) : Option (Int32 × Int32 × Int32 × Int32 × (Nat → Int32)) := o_let (t_at + (5 : Int32)) (fun x1 => (fX4_readCosts_L17 t_bytes t_length 1024 (0 : Int32) t_errorAt x1 t_error b_costs))
theorem iw_X4_readCosts_X4 : ∀ w ∈ u_ws RX4 TX4 8, w ∈ wsX4_readCosts := z_inr [32, 33, 34, 35, 36, 37, 38, 39] rfl
theorem iw_X4_readCosts_X0 : ∀ w ∈ u_ws RX0 TX0 11, w ∈ wsX4_readCosts := z_inr [40, 41, 42, 43, 44, 45, 46, 47, 48, 49, 50] rfl
set_option maxHeartbeats 4000000 in
set_option maxRecDepth 100000 in
theorem kX4_readCosts (l : Launch) (D : va_G) (cA : Nat → ClassId) (h : Nat → Nat) (t_size : Int32) (t_errorAt : Int32) (t_bytes : Nat → Int32) (t_length : Int32) (t_at : Int32) (t_error : Int32) (t_costsRead : Int32) (t_slipRead : Int32) (b_height : Int32) (b_count : Int32) (b_room : Int32) (b_account : Int32) (b_costs : Nat → Int32) (u : Int32 × Int32 × Int32 × Int32 × (Nat → Int32)) (hf : fX4_readCosts t_errorAt t_bytes t_length t_at t_error t_costsRead b_costs = some u) : zMv l yX4_readCosts wsX4_readCosts ({ frames := 3, cells := 0, slots := 0, locals := 65 } : Room) D (zTY cA) [.ref (h 0), .ref (h 2)] (W_X4_readCosts cA h t_size t_errorAt t_bytes t_length t_at t_error t_costsRead t_slipRead b_height b_count b_room b_account b_costs) (W_X4_readCosts cA h t_size (u.1) t_bytes t_length (u.2.1) (u.2.2.1) (u.2.2.2.1) t_slipRead b_height b_count b_room b_account (u.2.2.2.2)) := by
  refine z_startv (cc := cX4_readCosts) (maxL := 3) (ret := none) (by decide) rfl (Nat.le_of_ble_eq_true rfl) ?_
  intro p e s m args below meth c A hx hb hr hts hown hlocks hml hA Z ls hl
  replace hown : s.vm.findClass RX4 = some m.cls := hown
  replace hl : lv_has ls 3 [(0, .ref (h 0)), (1, .ref (h 2))] := hl
  obtain ⟨H, hH⟩ : ∃ H, H = s.heap := ⟨_, rfl⟩
  rw [← hH] at Z ⊢
  clear hH
  obtain ⟨locs, hlc⟩ : ∃ q : List Loc, q = [] := ⟨_, rfl⟩
  rw [← hlc] at Z ⊢
  clear hlc
  refine lv_aload_n (pc := 0) hx hb dX4_readCosts_0 rfl (lv_at hl 0 rfl) ?_
  refine lv_iconst (pc := 1) (v := (1 : Int32)) hx hb dX4_readCosts_1 (by decide) ?_
  refine z_put (pc := 2) (ref := "LotSheet$SetupText") (ci := 4) (C := RX4) (T := TX4) (N := 8) (W1 := (W_X4_readCosts cA h t_size t_errorAt t_bytes t_length t_at t_error (1 : Int32) t_slipRead b_height b_count b_room b_account b_costs)) hx hb hts iw_X4_readCosts_X4 tyX4 tyX4_ok nmX4 hown Z 0 rfl rfl 6 (by decide) (List.mem_of_getElem? (i := 1) rfl) rfl rfl rfl rfl (Nat.le_of_ble_eq_true rfl) dX4_readCosts_2 rfl (fun H locs Z => ?_)
  refine lv_aload_n (pc := 5) hx hb dX4_readCosts_5 rfl (lv_at hl 0 rfl) ?_
  refine lv_dup (pc := 6) hx hb dX4_readCosts_6 rfl ?_
  refine z_get (pc := 7) (ref := "LotSheet$SetupText") (ci := 4) (C := RX4) (T := TX4) (N := 8) hx hb hts iw_X4_readCosts_X4 hown Z 0 rfl rfl 4 (by decide) (List.mem_of_getElem? (i := 2) rfl) rfl rfl dX4_readCosts_7 ?_
  refine lv_iconst (pc := 10) (v := (5 : Int32)) hx hb dX4_readCosts_10 (by decide) ?_
  refine lv_iadd (pc := 11) hx hb dX4_readCosts_11 ?_
  refine lv_topi (fun x1 ex1 => ?_)
  replace hf := o_letE ex1 hf
  refine z_put (pc := 12) (ref := "LotSheet$SetupText") (ci := 4) (C := RX4) (T := TX4) (N := 8) (W1 := (W_X4_readCosts cA h t_size t_errorAt t_bytes t_length x1 t_error (1 : Int32) t_slipRead b_height b_count b_room b_account b_costs)) hx hb hts iw_X4_readCosts_X4 tyX4 tyX4_ok nmX4 hown Z 0 rfl rfl 4 (by decide) (List.mem_of_getElem? (i := 2) rfl) rfl rfl rfl rfl (Nat.le_of_ble_eq_true rfl) dX4_readCosts_12 rfl (fun H locs Z => ?_)
  refine lv_iconst (pc := 15) (v := (0 : Int32)) hx hb dX4_readCosts_15 (by decide) ?_
  refine lv_istore_n (pc := 16) (lv' := [(2, .int (0 : Int32)), (0, .ref (h 0)), (1, .ref (h 2))]) hx hb dX4_readCosts_16 rfl hl (by decide) rfl (fun ls hl => ?_)
  have hL17 : ∀ (n0 : Nat) (x2 : Int32) (x3 : Int32) (x4 : Int32) (x5 : Int32) (a6 : Nat → Int32) (H : Heap) (locs : List Loc) (ls : Array Slot), zw D (zTY cA) s A (W_X4_readCosts cA h t_size x3 t_bytes t_length x4 x5 (1 : Int32) t_slipRead b_height b_count b_room b_account a6) H locs → lv_has ls 3 [(0, .ref (h 0)), (1, .ref (h 2)), (2, .int x2)] → fX4_readCosts_L17 t_bytes t_length n0 x2 x3 x4 x5 a6 = some u → W p l e ({ frames := 3, cells := 0, slots := 0, locals := 65 } : Room) s m args below meth c H locs 0 0 (MQ below (zQv D (zTY cA) A (W_X4_readCosts cA h t_size (u.1) t_bytes t_length (u.2.1) (u.2.2.1) (u.2.2.2.1) t_slipRead b_height b_count b_room b_account (u.2.2.2.2))) args s 0 0 A) (F0 m 17 ls []) := by
    intro n0
    induction n0 with
    | zero => intro x2 x3 x4 x5 a6 H locs ls Z hl hf; exact o_no hf
    | succ n0 ih0 =>
      intro x2 x3 x4 x5 a6 H locs ls Z hl hf
      refine lv_iload_n (pc := 17) hx hb dX4_readCosts_17 rfl (lv_at hl 2 rfl) ?_
      refine lv_iconst (pc := 18) (v := (5 : Int32)) hx hb dX4_readCosts_18 (by decide) ?_
      refine lv_icmp_ge (pc := 19) (tgt := 41) hx hb dX4_readCosts_19 (by decide) (fun c7 => ?_) (fun c7 => ?_)
      · replace hf := o_pos c7 hf
        cases hf
        exact z_vret (pc := 41) hx hb hr hlocks Z rfl dX4_readCosts_41
      · replace hf := o_neg c7 hf
        refine lv_aload_n (pc := 22) hx hb dX4_readCosts_22 rfl (lv_at hl 1 rfl) ?_
        refine z_get (pc := 23) (ref := "LotSheet$Bill") (ci := 0) (C := RX0) (T := TX0) (N := 11) hx hb hts iw_X4_readCosts_X0 hown Z 2 rfl rfl 4 (by decide) (List.mem_of_getElem? (i := 3) rfl) rfl rfl dX4_readCosts_23 ?_
        refine lv_iload_n (pc := 26) hx hb dX4_readCosts_26 rfl (lv_at hl 2 rfl) ?_
        refine lv_aload_n (pc := 27) hx hb dX4_readCosts_27 rfl (lv_at hl 0 rfl) ?_
        refine lv_iconst (pc := 28) (v := (0 : Int32)) hx hb dX4_readCosts_28 (by decide) ?_
        refine lv_bipush (pc := 29) (v := (99 : Int32)) hx hb dX4_readCosts_29 (by decide) ?_
        obtain ⟨⟨x8, x9, x10, x11⟩, q12, hf⟩ := o_bindE hf
        refine z_callVi (pc := 31) (As := [.int (0 : Int32), .int (99 : Int32)]) (rest := [.int x2, .ref (h 3)]) (Wc := (W_X4_takeNumber cA (fun k => h ([0, 1].getD k 0)) t_size x3 t_bytes t_length x4 x5 (1 : Int32) t_slipRead)) (W1 := (W_X4_takeNumber cA (fun k => h ([0, 1].getD k 0)) t_size x9 t_bytes t_length x10 x11 (1 : Int32) t_slipRead)) (W2 := (W_X4_readCosts cA h t_size x9 t_bytes t_length x10 x11 (1 : Int32) t_slipRead b_height b_count b_room b_account a6)) ⟨hx, hb, hml, hown, hts⟩ (kX4_takeNumber l D cA (fun k => h ([0, 1].getD k 0)) (0 : Int32) (99 : Int32) t_size x3 t_bytes t_length x4 x5 (1 : Int32) t_slipRead _ q12) (cwV 2 hts gX4_readCosts_X4_takeNumber rfl rfl rfl (by decide +kernel) ⟨Nat.le_of_ble_eq_true rfl, Nat.le_of_ble_eq_true rfl⟩) Z hA [0, 1] rfl (by decide) rfl (ci := 4) rfl rfl rfl rfl hl.1 rfl (Nat.le_of_ble_eq_true rfl) dX4_readCosts_31 ⟨Nat.zero_le _, Nat.zero_le _⟩ [some 0, some 1, none, none] rfl ⟨rfl, rfl, rfl, rfl, rfl⟩ (fun H locs Z => ?_)
        obtain ⟨i13, hf⟩ := o_rdE hf
        refine z_iast (pc := 34) hx hb Z 3 0 rfl rfl i13 dX4_readCosts_34 (fun g => (W_X4_readCosts cA h t_size x9 t_bytes t_length x10 x11 (1 : Int32) t_slipRead b_height b_count b_room b_account g)) (fun _ => rfl) (fun a14 H locs ea14 Z => ?_)
        replace hf := o_letE ea14 hf
        obtain ⟨x15, ex15⟩ : ∃ y : Int32, y = (x2 + (1 : Int32)) := ⟨_, rfl⟩
        replace hf := o_letE ex15 hf
        refine lv_iinc (pc := 35) (v := x15) (lv' := [(2, .int x15), (0, .ref (h 0)), (1, .ref (h 2))]) hx hb dX4_readCosts_35 hl (k := 2) rfl (by rw [ex15]; rfl) (by decide) rfl (fun ls hl => ?_)
        refine lv_goto (pc := 38) (tgt := 17) hx hb dX4_readCosts_38 (by decide) ?_
        exact ih0 x15 x9 x10 x11 a14 H locs ls Z (lv_sub hl [1, 2, 0] rfl) hf
  exact hL17 1024 (0 : Int32) t_errorAt x1 t_error b_costs H locs ls Z (lv_sub hl [1, 2, 0] rfl) hf
