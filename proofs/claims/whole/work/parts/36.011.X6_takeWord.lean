def W_X6_takeWord (cA : Nat → ClassId) (h : Nat → Nat) (m_thrown : Int32) (m_buffer : Nat → Int32) (m_bufferLength : Int32) (m_textLength : Int32) (m_position : Int32) (m_error : Int32) (m_errorAt : Int32) (m_errorOffset : Int32) (m_undoDepth : Int32) (m_numberStart : Int32) (m_seen : Int32) (m_pages : Int32) : va_W := [(h 0, .inr (6, [.int m_thrown, .ref (h 1), .int m_bufferLength, .int m_textLength, .int m_position, .int m_error, .int m_errorAt, .int m_errorOffset, .ref (h 2), .ref (h 3), .ref (h 4), .int m_undoDepth, .int m_numberStart, .int m_seen, .ref (h 13), .ref (h 14), .ref (h 15), .ref (h 16), .int m_pages, .ref (h 17), .ref (h 18), .ref (h 19)])), (h 1, .inl (cA 0, 500, .inl m_buffer))]
def fX6_takeWord_L16 (sw : List Int32) (j48_8 : Int32 → Option (Int32 × Int32)) (x5 : Int32) (m_buffer : Nat → Int32) (m_textLength : Int32) : Nat → Int32 → Option (Int32 × Int32)
  | 0, _ => none
  | n0 + 1, x16 => (if (Int32.ofNat sw.length) ≤ x16 then (j48_8 x16) else o_bind (fX6_byteAt (x5 + x16) m_buffer m_textLength) (fun x18 => o_rd sw.length x16 ((if x18 = (zch (sw.getD x16.toNatClampNeg 0)) then o_let (x16 + (1 : Int32)) (fun x22 => (fX6_takeWord_L16 sw j48_8 x5 m_buffer m_textLength n0 x22)) else (j48_8 x16)))))
def fX6_takeWord (sw : List Int32) (m_buffer : Nat → Int32) (m_textLength : Int32) (m_position : Int32) (m_error : Int32) : Option (Int32 × Int32) := o_as (sw.length < 2147483648) (o_bind (fX6_isGood m_error) (fun x1 => (if x1 = 0 then some ((0 : Int32), m_position) else o_bind (fX6_ahead m_buffer m_textLength m_position) (fun (x4, x5) => o_let (fun (x7 : Int32) => (if x7 < (Int32.ofNat sw.length) then some ((0 : Int32), x5) else o_bind (fX6_byteAt (x5 + x7) m_buffer m_textLength) (fun x10 => o_bind (fX6_in x10 (97 : Int32) (122 : Int32)) (fun x12 => (if x12 = 0 then o_let (x5 + x7) (fun x15 => some ((1 : Int32), x15)) else some ((0 : Int32), x5)))))) (fun (j48_8 : Int32 → Option (Int32 × Int32)) => (fX6_takeWord_L16 sw j48_8 x5 m_buffer m_textLength 1024 (0 : Int32)))))))
theorem iw_X6_takeWord_X6 : ∀ w ∈ u_ws RX6 TX6 22, w ∈ wsX6_takeWord := z_inr [70, 71, 72, 73, 74, 75, 76, 77, 78, 79, 80, 81, 82, 83, 84, 85, 86, 87, 88, 89, 90, 91] rfl
set_option maxHeartbeats 4000000 in
set_option maxRecDepth 100000 in
theorem kX6_takeWord (l : Launch) (D : va_G) (cA : Nat → ClassId) (h : Nat → Nat) (sa : Nat) (sw : List Int32) (m_thrown : Int32) (m_buffer : Nat → Int32) (m_bufferLength : Int32) (m_textLength : Int32) (m_position : Int32) (m_error : Int32) (m_errorAt : Int32) (m_errorOffset : Int32) (m_undoDepth : Int32) (m_numberStart : Int32) (m_seen : Int32) (m_pages : Int32) (u : Int32 × Int32) (hf : fX6_takeWord sw m_buffer m_textLength m_position m_error = some u) : zMiX (zXS sa sw) l yX6_takeWord wsX6_takeWord ({ frames := 4, cells := 0, slots := 0, locals := 85 } : Room) D (zTY cA) [.ref (h 0), .ref sa] (W_X6_takeWord cA h m_thrown m_buffer m_bufferLength m_textLength m_position m_error m_errorAt m_errorOffset m_undoDepth m_numberStart m_seen m_pages) (W_X6_takeWord cA h m_thrown m_buffer m_bufferLength m_textLength (u.2) m_error m_errorAt m_errorOffset m_undoDepth m_numberStart m_seen m_pages) u.1 := by
  refine z_startiX (cc := cX6_takeWord) (maxL := 3) (ret := (some .boolean)) (by decide) rfl (Nat.le_of_ble_eq_true rfl) ?_
  intro p e s m args below meth c A hx hb hr hts hown hlocks hml hA hX Z ls hl
  replace hown : s.vm.findClass RX6 = some m.cls := hown
  replace hl : lv_has ls 3 [(0, .ref (h 0)), (1, .ref sa)] := hl
  obtain ⟨H, hH⟩ : ∃ H, H = s.heap := ⟨_, rfl⟩
  rw [← hH] at Z ⊢
  clear hH
  obtain ⟨locs, hlc⟩ : ∃ q : List Loc, q = [] := ⟨_, rfl⟩
  rw [← hlc] at Z ⊢
  clear hlc
  obtain ⟨hsw, hf⟩ := o_asE hf
  refine lv_aload_n (pc := 0) hx hb dX6_takeWord_0 rfl (lv_at hl 0 rfl) ?_
  obtain ⟨x1, q2, hf⟩ := o_bindE hf
  refine z_callVi (pc := 1) (As := []) (rest := []) (Wc := (W_X6_isGood cA (fun k => h ([0, 1, 2, 3, 4, 5, 6, 7, 8, 9, 10, 11, 12, 13, 14, 15, 16, 17, 18, 19].getD k 0)) m_thrown m_bufferLength m_textLength m_position m_error m_errorAt m_errorOffset m_undoDepth m_numberStart m_seen m_pages)) (W1 := (W_X6_isGood cA (fun k => h ([0, 1, 2, 3, 4, 5, 6, 7, 8, 9, 10, 11, 12, 13, 14, 15, 16, 17, 18, 19].getD k 0)) m_thrown m_bufferLength m_textLength m_position m_error m_errorAt m_errorOffset m_undoDepth m_numberStart m_seen m_pages)) (W2 := (W_X6_takeWord cA h m_thrown m_buffer m_bufferLength m_textLength m_position m_error m_errorAt m_errorOffset m_undoDepth m_numberStart m_seen m_pages)) ⟨hx, hb, hml, hown, hts⟩ (kX6_isGood l D cA (fun k => h ([0, 1, 2, 3, 4, 5, 6, 7, 8, 9, 10, 11, 12, 13, 14, 15, 16, 17, 18, 19].getD k 0)) m_thrown m_bufferLength m_textLength m_position m_error m_errorAt m_errorOffset m_undoDepth m_numberStart m_seen m_pages _ q2) (cwV 0 hts gX6_takeWord_X6_isGood rfl rfl rfl (by decide +kernel) ⟨Nat.le_of_ble_eq_true rfl, Nat.le_of_ble_eq_true rfl⟩) Z hA [0] rfl (by decide) rfl (ci := 6) rfl rfl rfl rfl hl.1 rfl (Nat.le_of_ble_eq_true rfl) dX6_takeWord_1 ⟨Nat.zero_le _, Nat.zero_le _⟩ [some 0, none] rfl ⟨rfl, rfl, rfl⟩ (fun H locs Z => ?_)
  refine lv_if_ne (pc := 4) (tgt := 9) hx hb dX6_takeWord_4 (by decide) (fun c3 => ?_) (fun c3 => ?_)
  · replace hf := o_neg c3 hf
    refine lv_aload_n (pc := 9) hx hb dX6_takeWord_9 rfl (lv_at hl 0 rfl) ?_
    obtain ⟨⟨x4, x5⟩, q6, hf⟩ := o_bindE hf
    refine z_callVi (pc := 10) (As := []) (rest := []) (Wc := (W_X6_ahead cA (fun k => h ([0, 1, 2, 3, 4, 5, 6, 7, 8, 9, 10, 11, 12, 13, 14, 15, 16, 17, 18, 19].getD k 0)) m_thrown m_buffer m_bufferLength m_textLength m_position m_error m_errorAt m_errorOffset m_undoDepth m_numberStart m_seen m_pages)) (W1 := (W_X6_ahead cA (fun k => h ([0, 1, 2, 3, 4, 5, 6, 7, 8, 9, 10, 11, 12, 13, 14, 15, 16, 17, 18, 19].getD k 0)) m_thrown m_buffer m_bufferLength m_textLength x5 m_error m_errorAt m_errorOffset m_undoDepth m_numberStart m_seen m_pages)) (W2 := (W_X6_takeWord cA h m_thrown m_buffer m_bufferLength m_textLength x5 m_error m_errorAt m_errorOffset m_undoDepth m_numberStart m_seen m_pages)) ⟨hx, hb, hml, hown, hts⟩ (kX6_ahead l D cA (fun k => h ([0, 1, 2, 3, 4, 5, 6, 7, 8, 9, 10, 11, 12, 13, 14, 15, 16, 17, 18, 19].getD k 0)) m_thrown m_buffer m_bufferLength m_textLength m_position m_error m_errorAt m_errorOffset m_undoDepth m_numberStart m_seen m_pages _ q6) (cwV 0 hts gX6_takeWord_X6_ahead rfl rfl rfl (by decide +kernel) ⟨Nat.le_of_ble_eq_true rfl, Nat.le_of_ble_eq_true rfl⟩) Z hA [0, 1] rfl (by decide) rfl (ci := 6) rfl rfl rfl rfl hl.1 rfl (Nat.le_of_ble_eq_true rfl) dX6_takeWord_10 ⟨Nat.zero_le _, Nat.zero_le _⟩ [some 0, some 1] rfl ⟨rfl, rfl, rfl⟩ (fun H locs Z => ?_)
    refine lv_pop (pc := 13) hx hb dX6_takeWord_13 rfl ?_
    refine lv_iconst (pc := 14) (v := (0 : Int32)) hx hb dX6_takeWord_14 (by decide) ?_
    refine lv_istore_n (pc := 15) (lv' := [(2, .int (0 : Int32)), (0, .ref (h 0)), (1, .ref sa)]) hx hb dX6_takeWord_15 rfl hl (by decide) rfl (fun ls hl => ?_)
    obtain ⟨j48_8, ej48_8, hf⟩ := o_jnE hf
    have hj48_8 : ∀ (x7 : Int32) (H : Heap) (locs : List Loc) (ls : Array Slot), zw D (zTY cA) s A (W_X6_takeWord cA h m_thrown m_buffer m_bufferLength m_textLength x5 m_error m_errorAt m_errorOffset m_undoDepth m_numberStart m_seen m_pages) H locs → lv_has ls 3 [(0, .ref (h 0)), (1, .ref sa), (2, .int x7)] → j48_8 x7 = some u → W p l e ({ frames := 4, cells := 0, slots := 0, locals := 85 } : Room) s m args below meth c H locs 0 0 (MQ below (zQi D (zTY cA) A (W_X6_takeWord cA h m_thrown m_buffer m_bufferLength m_textLength (u.2) m_error m_errorAt m_errorOffset m_undoDepth m_numberStart m_seen m_pages) u.1) args s 0 0 A) (F0 m 48 ls []) := by
      intro x7 H locs ls Z hl hf
      rw [ej48_8] at hf
      refine lv_iload_n (pc := 48) hx hb dX6_takeWord_48 rfl (lv_at hl 2 rfl) ?_
      refine lv_aload_n (pc := 49) hx hb dX6_takeWord_49 rfl (lv_at hl 1 rfl) ?_
      refine z_cTi (pc := 50) (As := []) (rest := [.int x7]) (zXS_pass sa sw) hX ⟨hx, hb, hml, hown, hts⟩ (kJ0_length l D (zTY cA) sa sw) (cwV 0 hts gX6_takeWord_J0_length_8abf5 rfl rfl rfl (by decide +kernel) ⟨Nat.le_of_ble_eq_true rfl, Nat.le_of_ble_eq_true rfl⟩) hX.2.1 Z hA rfl hl.1 rfl (Nat.le_of_ble_eq_true rfl) dX6_takeWord_50 ⟨Nat.zero_le _, Nat.zero_le _⟩ (fun H locs Z => ?_)
      refine lv_icmp_lt (pc := 53) (tgt := 76) hx hb dX6_takeWord_53 (by decide) (fun c9 => ?_) (fun c9 => ?_)
      · replace hf := o_pos c9 hf
        refine lv_iconst (pc := 76) (v := (0 : Int32)) hx hb dX6_takeWord_76 (by decide) ?_
        cases hf
        exact z_zret (pc := 77) hx hb hr hlocks Z rfl rfl (by decide) dX6_takeWord_77
      · replace hf := o_neg c9 hf
        refine lv_aload_n (pc := 56) hx hb dX6_takeWord_56 rfl (lv_at hl 0 rfl) ?_
        refine lv_aload_n (pc := 57) hx hb dX6_takeWord_57 rfl (lv_at hl 0 rfl) ?_
        refine z_get (pc := 58) (ref := "LotSheetModel") (ci := 6) (C := RX6) (T := TX6) (N := 22) hx hb hts iw_X6_takeWord_X6 hown Z 0 rfl rfl 4 (by decide) (List.mem_of_getElem? (i := 1) rfl) rfl rfl dX6_takeWord_58 ?_
        refine lv_iload_n (pc := 61) hx hb dX6_takeWord_61 rfl (lv_at hl 2 rfl) ?_
        refine lv_iadd (pc := 62) hx hb dX6_takeWord_62 ?_
        obtain ⟨x10, q11, hf⟩ := o_bindE hf
        refine z_callVi (pc := 63) (As := [.int (x5 + x7)]) (rest := []) (Wc := (W_X6_byteAt cA (fun k => h ([0, 1, 2, 3, 4, 5, 6, 7, 8, 9, 10, 11, 12, 13, 14, 15, 16, 17, 18, 19].getD k 0)) m_thrown m_buffer m_bufferLength m_textLength x5 m_error m_errorAt m_errorOffset m_undoDepth m_numberStart m_seen m_pages)) (W1 := (W_X6_byteAt cA (fun k => h ([0, 1, 2, 3, 4, 5, 6, 7, 8, 9, 10, 11, 12, 13, 14, 15, 16, 17, 18, 19].getD k 0)) m_thrown m_buffer m_bufferLength m_textLength x5 m_error m_errorAt m_errorOffset m_undoDepth m_numberStart m_seen m_pages)) (W2 := (W_X6_takeWord cA h m_thrown m_buffer m_bufferLength m_textLength x5 m_error m_errorAt m_errorOffset m_undoDepth m_numberStart m_seen m_pages)) ⟨hx, hb, hml, hown, hts⟩ (kX6_byteAt l D cA (fun k => h ([0, 1, 2, 3, 4, 5, 6, 7, 8, 9, 10, 11, 12, 13, 14, 15, 16, 17, 18, 19].getD k 0)) (x5 + x7) m_thrown m_buffer m_bufferLength m_textLength x5 m_error m_errorAt m_errorOffset m_undoDepth m_numberStart m_seen m_pages _ q11) (cwV 1 hts gX6_takeWord_X6_byteAt rfl rfl rfl (by decide +kernel) ⟨Nat.le_of_ble_eq_true rfl, Nat.le_of_ble_eq_true rfl⟩) Z hA [0, 1] rfl (by decide) rfl (ci := 6) rfl rfl rfl rfl hl.1 rfl (Nat.le_of_ble_eq_true rfl) dX6_takeWord_63 ⟨Nat.zero_le _, Nat.zero_le _⟩ [some 0, some 1] rfl ⟨rfl, rfl, rfl⟩ (fun H locs Z => ?_)
        refine lv_bipush (pc := 66) (v := (97 : Int32)) hx hb dX6_takeWord_66 (by decide) ?_
        refine lv_bipush (pc := 68) (v := (122 : Int32)) hx hb dX6_takeWord_68 (by decide) ?_
        obtain ⟨x12, q13, hf⟩ := o_bindE hf
        refine z_callSi (pc := 70) (As := [.int x10, .int (97 : Int32), .int (122 : Int32)]) (rest := []) (Wc := (W_X6_in cA (fun k => h ([0].getD k 0)))) (W1 := (W_X6_in cA (fun k => h ([0].getD k 0)))) (W2 := (W_X6_takeWord cA h m_thrown m_buffer m_bufferLength m_textLength x5 m_error m_errorAt m_errorOffset m_undoDepth m_numberStart m_seen m_pages)) ⟨hx, hb, hml, hown, hts⟩ (kX6_in l D cA (fun k => h ([0].getD k 0)) x10 (97 : Int32) (122 : Int32) _ q13) (va_cwS 3 hts gX6_takeWord_X6_in rfl rfl rfl (by decide +kernel) ⟨Nat.le_of_ble_eq_true rfl, Nat.le_of_ble_eq_true rfl⟩) Z hA [] rfl (by decide) rfl rfl hl.1 rfl (Nat.le_of_ble_eq_true rfl) dX6_takeWord_70 ⟨Nat.zero_le _, Nat.zero_le _⟩ [none, none] rfl ⟨rfl, rfl, rfl⟩ (fun H locs Z => ?_)
        refine lv_if_eq (pc := 73) (tgt := 78) hx hb dX6_takeWord_73 (by decide) (fun c14 => ?_) (fun c14 => ?_)
        · replace hf := o_pos c14 hf
          refine lv_aload_n (pc := 78) hx hb dX6_takeWord_78 rfl (lv_at hl 0 rfl) ?_
          refine lv_dup (pc := 79) hx hb dX6_takeWord_79 rfl ?_
          refine z_get (pc := 80) (ref := "LotSheetModel") (ci := 6) (C := RX6) (T := TX6) (N := 22) hx hb hts iw_X6_takeWord_X6 hown Z 0 rfl rfl 4 (by decide) (List.mem_of_getElem? (i := 1) rfl) rfl rfl dX6_takeWord_80 ?_
          refine lv_iload_n (pc := 83) hx hb dX6_takeWord_83 rfl (lv_at hl 2 rfl) ?_
          refine lv_iadd (pc := 84) hx hb dX6_takeWord_84 ?_
          refine lv_topi (fun x15 ex15 => ?_)
          replace hf := o_letE ex15 hf
          refine z_put (pc := 85) (ref := "LotSheetModel") (ci := 6) (C := RX6) (T := TX6) (N := 22) (W1 := (W_X6_takeWord cA h m_thrown m_buffer m_bufferLength m_textLength x15 m_error m_errorAt m_errorOffset m_undoDepth m_numberStart m_seen m_pages)) hx hb hts iw_X6_takeWord_X6 tyX6 tyX6_ok nmX6 hown Z 0 rfl rfl 4 (by decide) (List.mem_of_getElem? (i := 1) rfl) rfl rfl rfl rfl (Nat.le_of_ble_eq_true rfl) dX6_takeWord_85 rfl (fun H locs Z => ?_)
          refine lv_iconst (pc := 88) (v := (1 : Int32)) hx hb dX6_takeWord_88 (by decide) ?_
          cases hf
          exact z_zret (pc := 89) hx hb hr hlocks Z rfl rfl (by decide) dX6_takeWord_89
        · replace hf := o_neg c14 hf
          refine lv_iconst (pc := 76) (v := (0 : Int32)) hx hb dX6_takeWord_76 (by decide) ?_
          cases hf
          exact z_zret (pc := 77) hx hb hr hlocks Z rfl rfl (by decide) dX6_takeWord_77
    have hL16 : ∀ (n0 : Nat) (x16 : Int32) (H : Heap) (locs : List Loc) (ls : Array Slot), zw D (zTY cA) s A (W_X6_takeWord cA h m_thrown m_buffer m_bufferLength m_textLength x5 m_error m_errorAt m_errorOffset m_undoDepth m_numberStart m_seen m_pages) H locs → lv_has ls 3 [(0, .ref (h 0)), (1, .ref sa), (2, .int x16)] → fX6_takeWord_L16 sw j48_8 x5 m_buffer m_textLength n0 x16 = some u → W p l e ({ frames := 4, cells := 0, slots := 0, locals := 85 } : Room) s m args below meth c H locs 0 0 (MQ below (zQi D (zTY cA) A (W_X6_takeWord cA h m_thrown m_buffer m_bufferLength m_textLength (u.2) m_error m_errorAt m_errorOffset m_undoDepth m_numberStart m_seen m_pages) u.1) args s 0 0 A) (F0 m 16 ls []) := by
      intro n0
      induction n0 with
      | zero => intro x16 H locs ls Z hl hf; exact o_no hf
      | succ n0 ih0 =>
        intro x16 H locs ls Z hl hf
        refine lv_iload_n (pc := 16) hx hb dX6_takeWord_16 rfl (lv_at hl 2 rfl) ?_
        refine lv_aload_n (pc := 17) hx hb dX6_takeWord_17 rfl (lv_at hl 1 rfl) ?_
        refine z_cTi (pc := 18) (As := []) (rest := [.int x16]) (zXS_pass sa sw) hX ⟨hx, hb, hml, hown, hts⟩ (kJ0_length l D (zTY cA) sa sw) (cwV 0 hts gX6_takeWord_J0_length_8abf5 rfl rfl rfl (by decide +kernel) ⟨Nat.le_of_ble_eq_true rfl, Nat.le_of_ble_eq_true rfl⟩) hX.2.1 Z hA rfl hl.1 rfl (Nat.le_of_ble_eq_true rfl) dX6_takeWord_18 ⟨Nat.zero_le _, Nat.zero_le _⟩ (fun H locs Z => ?_)
        refine lv_icmp_ge (pc := 21) (tgt := 48) hx hb dX6_takeWord_21 (by decide) (fun c17 => ?_) (fun c17 => ?_)
        · replace hf := o_pos c17 hf
          exact hj48_8 x16 H locs ls Z (lv_sub hl [0, 1, 2] rfl) hf
        · replace hf := o_neg c17 hf
          refine lv_aload_n (pc := 24) hx hb dX6_takeWord_24 rfl (lv_at hl 0 rfl) ?_
          refine lv_aload_n (pc := 25) hx hb dX6_takeWord_25 rfl (lv_at hl 0 rfl) ?_
          refine z_get (pc := 26) (ref := "LotSheetModel") (ci := 6) (C := RX6) (T := TX6) (N := 22) hx hb hts iw_X6_takeWord_X6 hown Z 0 rfl rfl 4 (by decide) (List.mem_of_getElem? (i := 1) rfl) rfl rfl dX6_takeWord_26 ?_
          refine lv_iload_n (pc := 29) hx hb dX6_takeWord_29 rfl (lv_at hl 2 rfl) ?_
          refine lv_iadd (pc := 30) hx hb dX6_takeWord_30 ?_
          obtain ⟨x18, q19, hf⟩ := o_bindE hf
          refine z_callVi (pc := 31) (As := [.int (x5 + x16)]) (rest := []) (Wc := (W_X6_byteAt cA (fun k => h ([0, 1, 2, 3, 4, 5, 6, 7, 8, 9, 10, 11, 12, 13, 14, 15, 16, 17, 18, 19].getD k 0)) m_thrown m_buffer m_bufferLength m_textLength x5 m_error m_errorAt m_errorOffset m_undoDepth m_numberStart m_seen m_pages)) (W1 := (W_X6_byteAt cA (fun k => h ([0, 1, 2, 3, 4, 5, 6, 7, 8, 9, 10, 11, 12, 13, 14, 15, 16, 17, 18, 19].getD k 0)) m_thrown m_buffer m_bufferLength m_textLength x5 m_error m_errorAt m_errorOffset m_undoDepth m_numberStart m_seen m_pages)) (W2 := (W_X6_takeWord cA h m_thrown m_buffer m_bufferLength m_textLength x5 m_error m_errorAt m_errorOffset m_undoDepth m_numberStart m_seen m_pages)) ⟨hx, hb, hml, hown, hts⟩ (kX6_byteAt l D cA (fun k => h ([0, 1, 2, 3, 4, 5, 6, 7, 8, 9, 10, 11, 12, 13, 14, 15, 16, 17, 18, 19].getD k 0)) (x5 + x16) m_thrown m_buffer m_bufferLength m_textLength x5 m_error m_errorAt m_errorOffset m_undoDepth m_numberStart m_seen m_pages _ q19) (cwV 1 hts gX6_takeWord_X6_byteAt rfl rfl rfl (by decide +kernel) ⟨Nat.le_of_ble_eq_true rfl, Nat.le_of_ble_eq_true rfl⟩) Z hA [0, 1] rfl (by decide) rfl (ci := 6) rfl rfl rfl rfl hl.1 rfl (Nat.le_of_ble_eq_true rfl) dX6_takeWord_31 ⟨Nat.zero_le _, Nat.zero_le _⟩ [some 0, some 1] rfl ⟨rfl, rfl, rfl⟩ (fun H locs Z => ?_)
          refine lv_aload_n (pc := 34) hx hb dX6_takeWord_34 rfl (lv_at hl 1 rfl) ?_
          refine lv_iload_n (pc := 35) hx hb dX6_takeWord_35 rfl (lv_at hl 2 rfl) ?_
          obtain ⟨i20, hf⟩ := o_rdE hf
          refine z_cTi (pc := 36) (As := [.int x16]) (rest := [.int x18]) (zXS_pass sa sw) hX ⟨hx, hb, hml, hown, hts⟩ (kJ0_charAt l D (zTY cA) sa sw x16 hsw i20) (cwV 1 hts gX6_takeWord_J0_charAt_5068e rfl rfl rfl (by decide +kernel) ⟨Nat.le_of_ble_eq_true rfl, Nat.le_of_ble_eq_true rfl⟩) hX.2.1 Z hA rfl hl.1 rfl (Nat.le_of_ble_eq_true rfl) dX6_takeWord_36 ⟨Nat.zero_le _, Nat.zero_le _⟩ (fun H locs Z => ?_)
          refine lv_icmp_ne (pc := 39) (tgt := 48) hx hb dX6_takeWord_39 (by decide) (fun c21 => ?_) (fun c21 => ?_)
          · replace hf := o_neg c21 hf
            exact hj48_8 x16 H locs ls Z (lv_sub hl [0, 1, 2] rfl) hf
          · replace hf := o_pos c21 hf
            obtain ⟨x22, ex22⟩ : ∃ y : Int32, y = (x16 + (1 : Int32)) := ⟨_, rfl⟩
            replace hf := o_letE ex22 hf
            refine lv_iinc (pc := 42) (v := x22) (lv' := [(2, .int x22), (0, .ref (h 0)), (1, .ref sa)]) hx hb dX6_takeWord_42 hl (k := 2) rfl (by rw [ex22]; rfl) (by decide) rfl (fun ls hl => ?_)
            refine lv_goto (pc := 45) (tgt := 16) hx hb dX6_takeWord_45 (by decide) ?_
            exact ih0 x22 H locs ls Z (lv_sub hl [1, 2, 0] rfl) hf
    exact hL16 1024 (0 : Int32) H locs ls Z (lv_sub hl [1, 2, 0] rfl) hf
  · replace hf := o_pos c3 hf
    refine lv_iconst (pc := 7) (v := (0 : Int32)) hx hb dX6_takeWord_7 (by decide) ?_
    cases hf
    exact z_zret (pc := 8) hx hb hr hlocks Z rfl rfl (by decide) dX6_takeWord_8
