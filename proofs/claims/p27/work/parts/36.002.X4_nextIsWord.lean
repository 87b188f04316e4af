def W_X4_nextIsWord (cA : Nat → ClassId) (h : Nat → Nat) (t_size : Int32) (t_errorAt : Int32) (t_bytes : Nat → Int32) (t_length : Int32) (t_at : Int32) (t_error : Int32) (t_costsRead : Int32) (t_slipRead : Int32) : va_W := [(h 0, .inr (4, [.int t_size, .int t_errorAt, .ref (h 1), .int t_length, .int t_at, .int t_error, .int t_costsRead, .int t_slipRead])), (h 1, .inl (cA 2, 500, .inl t_bytes))]
def fX4_nextIsWord_L7 (sw : List Int32) (j41_4 : Option (Int32 × Int32)) (x2 : Int32) (t_bytes : Nat → Int32) (t_length : Int32) : Nat → Int32 → Option (Int32 × Int32)
  | 0, _ => none
  | n0 + 1, x10 => (if (Int32.ofNat sw.length) ≤ x10 then j41_4 else o_bind (fX4_byteAt (x2 + x10) t_bytes t_length) (fun x12 => o_rd sw.length x10 ((if x12 = (zch (sw.getD x10.toNatClampNeg 0)) then o_let (x10 + (1 : Int32)) (fun x16 => (fX4_nextIsWord_L7 sw j41_4 x2 t_bytes t_length n0 x16)) else some ((0 : Int32), x2)))))
def fX4_nextIsWord (sw : List Int32) (t_bytes : Nat → Int32) (t_length : Int32) (t_at : Int32) : Option (Int32 × Int32) := o_as (sw.length < 2147483648) (o_bind (fX4_next t_bytes t_length t_at) (fun (x1, x2) => o_let (o_bind (fX4_byteAt (x2 + (Int32.ofNat sw.length)) t_bytes t_length) (fun x5 => o_bind (fX4_isLetter x5) (fun x7 => (if x7 = 0 then some ((1 : Int32), x2) else some ((0 : Int32), x2))))) (fun (j41_4 : Option (Int32 × Int32)) => (fX4_nextIsWord_L7 sw j41_4 x2 t_bytes t_length 1024 (0 : Int32)))))
theorem iw_X4_nextIsWord_X4 : ∀ w ∈ u_ws RX4 TX4 8, w ∈ wsX4_nextIsWord := z_inr [65, 66, 67, 68, 69, 70, 71, 72] rfl
set_option maxHeartbeats 4000000 in
set_option maxRecDepth 100000 in
theorem kX4_nextIsWord (l : Launch) (D : va_G) (cA : Nat → ClassId) (h : Nat → Nat) (sa : Nat) (sw : List Int32) (t_size : Int32) (t_errorAt : Int32) (t_bytes : Nat → Int32) (t_length : Int32) (t_at : Int32) (t_error : Int32) (t_costsRead : Int32) (t_slipRead : Int32) (u : Int32 × Int32) (hf : fX4_nextIsWord sw t_bytes t_length t_at = some u) : zMiX (zXS sa sw) l yX4_nextIsWord wsX4_nextIsWord ({ frames := 4, cells := 0, slots := 0, locals := 85 } : Room) D (zTY cA) [.ref (h 0), .ref sa] (W_X4_nextIsWord cA h t_size t_errorAt t_bytes t_length t_at t_error t_costsRead t_slipRead) (W_X4_nextIsWord cA h t_size t_errorAt t_bytes t_length (u.2) t_error t_costsRead t_slipRead) u.1 := by
  refine z_startiX (cc := cX4_nextIsWord) (maxL := 3) (ret := (some .boolean)) (by decide) rfl (Nat.le_of_ble_eq_true rfl) ?_
  intro p e s m args below meth c A hx hb hr hts hown hlocks hml hA hX Z ls hl
  replace hown : s.vm.findClass RX4 = some m.cls := hown
  replace hl : lv_has ls 3 [(0, .ref (h 0)), (1, .ref sa)] := hl
  obtain ⟨H, hH⟩ : ∃ H, H = s.heap := ⟨_, rfl⟩
  rw [← hH] at Z ⊢
  clear hH
  obtain ⟨locs, hlc⟩ : ∃ q : List Loc, q = [] := ⟨_, rfl⟩
  rw [← hlc] at Z ⊢
  clear hlc
  obtain ⟨hsw, hf⟩ := o_asE hf
  refine lv_aload_n (pc := 0) hx hb dX4_nextIsWord_0 rfl (lv_at hl 0 rfl) ?_
  obtain ⟨⟨x1, x2⟩, q3, hf⟩ := o_bindE hf
  refine z_callVi (pc := 1) (As := []) (rest := []) (Wc := (W_X4_next cA (fun k => h ([0, 1].getD k 0)) t_size t_errorAt t_bytes t_length t_at t_error t_costsRead t_slipRead)) (W1 := (W_X4_next cA (fun k => h ([0, 1].getD k 0)) t_size t_errorAt t_bytes t_length x2 t_error t_costsRead t_slipRead)) (W2 := (W_X4_nextIsWord cA h t_size t_errorAt t_bytes t_length x2 t_error t_costsRead t_slipRead)) ⟨hx, hb, hml, hown, hts⟩ (kX4_next l D cA (fun k => h ([0, 1].getD k 0)) t_size t_errorAt t_bytes t_length t_at t_error t_costsRead t_slipRead _ q3) (cwV 0 hts gX4_nextIsWord_X4_next rfl rfl rfl (by decide +kernel) ⟨Nat.le_of_ble_eq_true rfl, Nat.le_of_ble_eq_true rfl⟩) Z hA [0, 1] rfl (by decide) rfl (ci := 4) rfl rfl rfl rfl hl.1 rfl (Nat.le_of_ble_eq_true rfl) dX4_nextIsWord_1 ⟨Nat.zero_le _, Nat.zero_le _⟩ [some 0, some 1] rfl ⟨rfl, rfl, rfl⟩ (fun H locs Z => ?_)
  refine lv_pop (pc := 4) hx hb dX4_nextIsWord_4 rfl ?_
  refine lv_iconst (pc := 5) (v := (0 : Int32)) hx hb dX4_nextIsWord_5 (by decide) ?_
  refine lv_istore_n (pc := 6) (lv' := [(2, .int (0 : Int32)), (0, .ref (h 0)), (1, .ref sa)]) hx hb dX4_nextIsWord_6 rfl hl (by decide) rfl (fun ls hl => ?_)
  obtain ⟨j41_4, ej41_4, hf⟩ := o_jnE hf
  have hj41_4 : ∀ (H : Heap) (locs : List Loc) (ls : Array Slot), zw D (zTY cA) s A (W_X4_nextIsWord cA h t_size t_errorAt t_bytes t_length x2 t_error t_costsRead t_slipRead) H locs → lv_has ls 3 [(0, .ref (h 0)), (1, .ref sa)] → j41_4 = some u → W p l e ({ frames := 4, cells := 0, slots := 0, locals := 85 } : Room) s m args below meth c H locs 0 0 (MQ below (zQi D (zTY cA) A (W_X4_nextIsWord cA h t_size t_errorAt t_bytes t_length (u.2) t_error t_costsRead t_slipRead) u.1) args s 0 0 A) (F0 m 41 ls []) := by
    intro H locs ls Z hl hf
    rw [ej41_4] at hf
    refine lv_aload_n (pc := 41) hx hb dX4_nextIsWord_41 rfl (lv_at hl 0 rfl) ?_
    refine lv_aload_n (pc := 42) hx hb dX4_nextIsWord_42 rfl (lv_at hl 0 rfl) ?_
    refine z_get (pc := 43) (ref := "LotSheet$SetupText") (ci := 4) (C := RX4) (T := TX4) (N := 8) hx hb hts iw_X4_nextIsWord_X4 hown Z 0 rfl rfl 4 (by decide) (List.mem_of_getElem? (i := 1) rfl) rfl rfl dX4_nextIsWord_43 ?_
    refine lv_aload_n (pc := 46) hx hb dX4_nextIsWord_46 rfl (lv_at hl 1 rfl) ?_
    refine z_cTi (pc := 47) (As := []) (rest := [.int x2, .ref (h 0)]) (zXS_pass sa sw) hX ⟨hx, hb, hml, hown, hts⟩ (kJ0_length l D (zTY cA) sa sw) (cwV 0 hts gX4_nextIsWord_J0_length_8abf5 rfl rfl rfl (by decide +kernel) ⟨Nat.le_of_ble_eq_true rfl, Nat.le_of_ble_eq_true rfl⟩) hX.2.1 Z hA rfl hl.1 rfl (Nat.le_of_ble_eq_true rfl) dX4_nextIsWord_47 ⟨Nat.zero_le _, Nat.zero_le _⟩ (fun H locs Z => ?_)
    refine lv_iadd (pc := 50) hx hb dX4_nextIsWord_50 ?_
    obtain ⟨x5, q6, hf⟩ := o_bindE hf
    refine z_callVi (pc := 51) (As := [.int (x2 + (Int32.ofNat sw.length))]) (rest := []) (Wc := (W_X4_byteAt cA (fun k => h ([0, 1].getD k 0)) t_size t_errorAt t_bytes t_length x2 t_error t_costsRead t_slipRead)) (W1 := (W_X4_byteAt cA (fun k => h ([0, 1].getD k 0)) t_size t_errorAt t_bytes t_length x2 t_error t_costsRead t_slipRead)) (W2 := (W_X4_nextIsWord cA h t_size t_errorAt t_bytes t_length x2 t_error t_costsRead t_slipRead)) ⟨hx, hb, hml, hown, hts⟩ (kX4_byteAt l D cA (fun k => h ([0, 1].getD k 0)) (x2 + (Int32.ofNat sw.length)) t_size t_errorAt t_bytes t_length x2 t_error t_costsRead t_slipRead _ q6) (cwV 1 hts gX4_nextIsWord_X4_byteAt rfl rfl rfl (by decide +kernel) ⟨Nat.le_of_ble_eq_true rfl, Nat.le_of_ble_eq_true rfl⟩) Z hA [0, 1] rfl (by decide) rfl (ci := 4) rfl rfl rfl rfl hl.1 rfl (Nat.le_of_ble_eq_true rfl) dX4_nextIsWord_51 ⟨Nat.zero_le _, Nat.zero_le _⟩ [some 0, some 1] rfl ⟨rfl, rfl, rfl⟩ (fun H locs Z => ?_)
    obtain ⟨x7, q8, hf⟩ := o_bindE hf
    refine z_callSi (pc := 54) (As := [.int x5]) (rest := []) (Wc := (W_X4_isLetter cA (fun k => h ([0].getD k 0)))) (W1 := (W_X4_isLetter cA (fun k => h ([0].getD k 0)))) (W2 := (W_X4_nextIsWord cA h t_size t_errorAt t_bytes t_length x2 t_error t_costsRead t_slipRead)) ⟨hx, hb, hml, hown, hts⟩ (kX4_isLetter l D cA (fun k => h ([0].getD k 0)) x5 _ q8) (va_cwS 1 hts gX4_nextIsWord_X4_isLetter rfl rfl rfl (by decide +kernel) ⟨Nat.le_of_ble_eq_true rfl, Nat.le_of_ble_eq_true rfl⟩) Z hA [] rfl (by decide) rfl rfl hl.1 rfl (Nat.le_of_ble_eq_true rfl) dX4_nextIsWord_54 ⟨Nat.zero_le _, Nat.zero_le _⟩ [none, none] rfl ⟨rfl, rfl, rfl⟩ (fun H locs Z => ?_)
    refine lv_if_ne (pc := 57) (tgt := 64) hx hb dX4_nextIsWord_57 (by decide) (fun c9 => ?_) (fun c9 => ?_)
    · replace hf := o_neg c9 hf
      refine lv_iconst (pc := 64) (v := (0 : Int32)) hx hb dX4_nextIsWord_64 (by decide) ?_
      cases hf
      exact z_zret (pc := 65) hx hb hr hlocks Z rfl rfl (by decide) dX4_nextIsWord_65
    · replace hf := o_pos c9 hf
      refine lv_iconst (pc := 60) (v := (1 : Int32)) hx hb dX4_nextIsWord_60 (by decide) ?_
      refine lv_goto (pc := 61) (tgt := 65) hx hb dX4_nextIsWord_61 (by decide) ?_
      cases hf
      exact z_zret (pc := 65) hx hb hr hlocks Z rfl rfl (by decide) dX4_nextIsWord_65
  have hL7 : ∀ (n0 : Nat) (x10 : Int32) (H : Heap) (locs : List Loc) (ls : Array Slot), zw D (zTY cA) s A (W_X4_nextIsWord cA h t_size t_errorAt t_bytes t_length x2 t_error t_costsRead t_slipRead) H locs → lv_has ls 3 [(0, .ref (h 0)), (1, .ref sa), (2, .int x10)] → fX4_nextIsWord_L7 sw j41_4 x2 t_bytes t_length n0 x10 = some u → W p l e ({ frames := 4, cells := 0, slots := 0, locals := 85 } : Room) s m args below meth c H locs 0 0 (MQ below (zQi D (zTY cA) A (W_X4_nextIsWord cA h t_size t_errorAt t_bytes t_length (u.2) t_error t_costsRead t_slipRead) u.1) args s 0 0 A) (F0 m 7 ls []) := by
    intro n0
    induction n0 with
    | zero => intro x10 H locs ls Z hl hf; exact o_no hf
    | succ n0 ih0 =>
      intro x10 H locs ls Z hl hf
      refine lv_iload_n (pc := 7) hx hb dX4_nextIsWord_7 rfl (lv_at hl 2 rfl) ?_
      refine lv_aload_n (pc := 8) hx hb dX4_nextIsWord_8 rfl (lv_at hl 1 rfl) ?_
      refine z_cTi (pc := 9) (As := []) (rest := [.int x10]) (zXS_pass sa sw) hX ⟨hx, hb, hml, hown, hts⟩ (kJ0_length l D (zTY cA) sa sw) (cwV 0 hts gX4_nextIsWord_J0_length_8abf5 rfl rfl rfl (by decide +kernel) ⟨Nat.le_of_ble_eq_true rfl, Nat.le_of_ble_eq_true rfl⟩) hX.2.1 Z hA rfl hl.1 rfl (Nat.le_of_ble_eq_true rfl) dX4_nextIsWord_9 ⟨Nat.zero_le _, Nat.zero_le _⟩ (fun H locs Z => ?_)
      refine lv_icmp_ge (pc := 12) (tgt := 41) hx hb dX4_nextIsWord_12 (by decide) (fun c11 => ?_) (fun c11 => ?_)
      · replace hf := o_pos c11 hf
        exact hj41_4 H locs ls Z (lv_sub hl [0, 1] rfl) hf
      · replace hf := o_neg c11 hf
        refine lv_aload_n (pc := 15) hx hb dX4_nextIsWord_15 rfl (lv_at hl 0 rfl) ?_
        refine lv_aload_n (pc := 16) hx hb dX4_nextIsWord_16 rfl (lv_at hl 0 rfl) ?_
        refine z_get (pc := 17) (ref := "LotSheet$SetupText") (ci := 4) (C := RX4) (T := TX4) (N := 8) hx hb hts iw_X4_nextIsWord_X4 hown Z 0 rfl rfl 4 (by decide) (List.mem_of_getElem? (i := 1) rfl) rfl rfl dX4_nextIsWord_17 ?_
        refine lv_iload_n (pc := 20) hx hb dX4_nextIsWord_20 rfl (lv_at hl 2 rfl) ?_
        refine lv_iadd (pc := 21) hx hb dX4_nextIsWord_21 ?_
        obtain ⟨x12, q13, hf⟩ := o_bindE hf
        refine z_callVi (pc := 22) (As := [.int (x2 + x10)]) (rest := []) (Wc := (W_X4_byteAt cA (fun k => h ([0, 1].getD k 0)) t_size t_errorAt t_bytes t_length x2 t_error t_costsRead t_slipRead)) (W1 := (W_X4_byteAt cA (fun k => h ([0, 1].getD k 0)) t_size t_errorAt t_bytes t_length x2 t_error t_costsRead t_slipRead)) (W2 := (W_X4_nextIsWord cA h t_size t_errorAt t_bytes t_length x2 t_error t_costsRead t_slipRead)) ⟨hx, hb, hml, hown, hts⟩ (kX4_byteAt l D cA (fun k => h ([0, 1].getD k 0)) (x2 + x10) t_size t_errorAt t_bytes t_length x2 t_error t_costsRead t_slipRead _ q13) (cwV 1 hts gX4_nextIsWord_X4_byteAt rfl rfl rfl (by decide +kernel) ⟨Nat.le_of_ble_eq_true rfl, Nat.le_of_ble_eq_true rfl⟩) Z hA [0, 1] rfl (by decide) rfl (ci := 4) rfl rfl rfl rfl hl.1 rfl (Nat.le_of_ble_eq_true rfl) dX4_nextIsWord_22 ⟨Nat.zero_le _, Nat.zero_le _⟩ [some 0, some 1] rfl ⟨rfl, rfl, rfl⟩ (fun H locs Z => ?_)
        refine lv_aload_n (pc := 25) hx hb dX4_nextIsWord_25 rfl (lv_at hl 1 rfl) ?_
        refine lv_iload_n (pc := 26) hx hb dX4_nextIsWord_26 rfl (lv_at hl 2 rfl) ?_
        obtain ⟨i14, hf⟩ := o_rdE hf
        refine z_cTi (pc := 27) (As := [.int x10]) (rest := [.int x12]) (zXS_pass sa sw) hX ⟨hx, hb, hml, hown, hts⟩ (kJ0_charAt l D (zTY cA) sa sw x10 hsw i14) (cwV 1 hts gX4_nextIsWord_J0_charAt_5068e rfl rfl rfl (by decide +kernel) ⟨Nat.le_of_ble_eq_true rfl, Nat.le_of_ble_eq_true rfl⟩) hX.2.1 Z hA rfl hl.1 rfl (Nat.le_of_ble_eq_true rfl) dX4_nextIsWord_27 ⟨Nat.zero_le _, Nat.zero_le _⟩ (fun H locs Z => ?_)
        refine lv_icmp_eq (pc := 30) (tgt := 35) hx hb dX4_nextIsWord_30 (by decide) (fun c15 => ?_) (fun c15 => ?_)
        · replace hf := o_pos c15 hf
          obtain ⟨x16, ex16⟩ : ∃ y : Int32, y = (x10 + (1 : Int32)) := ⟨_, rfl⟩
          replace hf := o_letE ex16 hf
          refine lv_iinc (pc := 35) (v := x16) (lv' := [(2, .int x16), (0, .ref (h 0)), (1, .ref sa)]) hx hb dX4_nextIsWord_35 hl (k := 2) rfl (by rw [ex16]; rfl) (by decide) rfl (fun ls hl => ?_)
          refine lv_goto (pc := 38) (tgt := 7) hx hb dX4_nextIsWord_38 (by decide) ?_
          exact ih0 x16 H locs ls Z (lv_sub hl [1, 2, 0] rfl) hf
        · replace hf := o_neg c15 hf
          refine lv_iconst (pc := 33) (v := (0 : Int32)) hx hb dX4_nextIsWord_33 (by decide) ?_
          cases hf
          exact z_zret (pc := 34) hx hb hr hlocks Z rfl rfl (by decide) dX4_nextIsWord_34
  exact hL7 1024 (0 : Int32) H locs ls Z (lv_sub hl [1, 2, 0] rfl) hf
