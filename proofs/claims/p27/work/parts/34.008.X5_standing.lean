def W_X5_standing (cA : Nat → ClassId) (h : Nat → Nat) (b_height : Int32) (b_count : Int32) (b_room : Int32) (b_account : Int32) (b_lines : Nat → Int32) (y_pageOf : Nat → Int32) (y_lineOf : Nat → Int32) (y_pages : Int32) (y_printedLots : Int32) (y_printedLines : Int32) (x_latestErrorOffset : Int32) : va_W := [(h 0, .inr (5, [.ref (h 1), .ref (h 3), .ref (h 11), .ref (h 19), .ref (h 85), .ref (h 92), .int x_latestErrorOffset])), (h 3, .inr (0, [.int b_height, .int b_count, .int b_room, .int b_account, .ref (h 4), .ref (h 5), .ref (h 6), .ref (h 7), .ref (h 8), .ref (h 9), .ref (h 10)])), (h 5, .inl (cA 0, 24, .inl b_lines)), (h 85, .inr (3, [.ref (h 86), .ref (h 87), .ref (h 88), .ref (h 89), .ref (h 90), .ref (h 91), .int y_pages, .int y_printedLots, .int y_printedLines])), (h 87, .inl (cA 0, 24, .inl y_pageOf)), (h 88, .inl (cA 0, 24, .inl y_lineOf))]
def fX5_standing_L32 (b_count : Int32) (p2 : Int32) (y_lineOf : Nat → Int32) (y_pageOf : Nat → Int32) (p1 : Int32) (b_lines : Nat → Int32) (j88_6 : Int32 → Int32 → Option (String ⊕ (Int32))) : Nat → Int32 → Option (String ⊕ (Int32))
  | 0, _ => none
  | n0 + 1, x7 => (if b_count ≤ x7 then some (.inr ((-1 : Int32))) else o_rd 24 x7 (o_let (p2 - (y_lineOf x7.toNatClampNeg)) (fun x10 => o_rd 24 x7 ((if (y_pageOf x7.toNatClampNeg) = p1 then (if x10 < 0 then o_let (x7 + (1 : Int32)) (fun x15 => (fX5_standing_L32 b_count p2 y_lineOf y_pageOf p1 b_lines j88_6 n0 x15)) else o_rd 24 x7 ((if (b_lines x7.toNatClampNeg) ≤ x10 then o_let (x7 + (1 : Int32)) (fun x18 => (fX5_standing_L32 b_count p2 y_lineOf y_pageOf p1 b_lines j88_6 n0 x18)) else (j88_6 x7 x10)))) else o_let (x7 + (1 : Int32)) (fun x13 => (fX5_standing_L32 b_count p2 y_lineOf y_pageOf p1 b_lines j88_6 n0 x13)))))))
def fX5_standing (p1 : Int32) (p2 : Int32) (b_height : Int32) (b_count : Int32) (b_lines : Nat → Int32) (y_pageOf : Nat → Int32) (y_lineOf : Nat → Int32) (y_pages : Int32) : Option (String ⊕ (Int32)) := o_try (fX5_needPage p1 y_pages) (fun _ => (if p2 < 0 then some (.inl "java/lang/IllegalArgumentException") else (if p2 < b_height then o_let (fun (x4 : Int32) (x5 : Int32) => some (.inr ((((10 : Int32) * x4) + x5)))) (fun (j88_6 : Int32 → Int32 → Option (String ⊕ (Int32))) => (fX5_standing_L32 b_count p2 y_lineOf y_pageOf p1 b_lines j88_6 1024 (0 : Int32))) else some (.inl "java/lang/IllegalArgumentException"))))
theorem iw_X5_standing_X5 : ∀ w ∈ u_ws RX5 TX5 7, w ∈ zsX5_standing := z_inr [18, 19, 20, 21, 22, 23, 24] rfl
theorem iw_X5_standing_X0 : ∀ w ∈ u_ws RX0 TX0 11, w ∈ zsX5_standing := z_inr [25, 26, 27, 28, 29, 30, 31, 32, 33, 34, 35] rfl
theorem iw_X5_standing_X3 : ∀ w ∈ u_ws RX3 TX3 9, w ∈ zsX5_standing := z_inr [36, 37, 38, 39, 40, 41, 42, 43, 44] rfl
set_option maxHeartbeats 4000000 in
set_option maxRecDepth 100000 in
theorem kX5_standing (l : Launch) (D : va_G) (cA : Nat → ClassId) (h : Nat → Nat) (p1 : Int32) (p2 : Int32) (b_height : Int32) (b_count : Int32) (b_room : Int32) (b_account : Int32) (b_lines : Nat → Int32) (y_pageOf : Nat → Int32) (y_lineOf : Nat → Int32) (y_pages : Int32) (y_printedLots : Int32) (y_printedLines : Int32) (x_latestErrorOffset : Int32) (u : Int32) (hf : fX5_standing p1 p2 b_height b_count b_lines y_pageOf y_lineOf y_pages = some (.inr u)) : zMi l yX5_standing zsX5_standing ({ frames := 7, cells := 0, slots := 0, locals := 111 } : Room) D (zTY cA) [.ref (h 0), .int p1, .int p2] (W_X5_standing cA h b_height b_count b_room b_account b_lines y_pageOf y_lineOf y_pages y_printedLots y_printedLines x_latestErrorOffset) (W_X5_standing cA h b_height b_count b_room b_account b_lines y_pageOf y_lineOf y_pages y_printedLots y_printedLines x_latestErrorOffset) u := by
  refine z_starti (cc := cX5_standing) (maxL := 5) (ret := (some .int)) (by decide) rfl (Nat.le_of_ble_eq_true rfl) ?_
  intro p e s m args below meth c A hx hb hr hts hown hlocks hml hA Z ls hl
  replace hown : s.vm.findClass RX5 = some m.cls := hown
  replace hl : lv_has ls 5 [(0, .ref (h 0)), (1, .int p1), (2, .int p2)] := hl
  obtain ⟨H, hH⟩ : ∃ H, H = s.heap := ⟨_, rfl⟩
  rw [← hH] at Z ⊢
  clear hH
  obtain ⟨locs, hlc⟩ : ∃ q : List Loc, q = [] := ⟨_, rfl⟩
  rw [← hlc] at Z ⊢
  clear hlc
  refine lv_aload_n (pc := 0) hx hb dX5_standing_0 rfl (lv_at hl 0 rfl) ?_
  refine lv_iload_n (pc := 1) hx hb dX5_standing_1 rfl (lv_at hl 1 rfl) ?_
  obtain ⟨_, q1, hf⟩ := o_tryOk hf
  refine z_callVv (pc := 2) (As := [.int p1]) (rest := []) (Wc := (W_X5_needPage cA (fun k => h (k)) y_pages y_printedLots y_printedLines x_latestErrorOffset)) (W1 := (W_X5_needPage cA (fun k => h (k)) y_pages y_printedLots y_printedLines x_latestErrorOffset)) (W2 := (W_X5_standing cA h b_height b_count b_room b_account b_lines y_pageOf y_lineOf y_pages y_printedLots y_printedLines x_latestErrorOffset)) ⟨hx, hb, hml, hown, hts⟩ (kX5_needPage l D cA (fun k => h (k)) p1 y_pages y_printedLots y_printedLines x_latestErrorOffset _ q1) (cwV 1 hts zgX5_standing_X5_needPage_158 rfl rfl rfl (by decide +kernel) ⟨Nat.le_of_ble_eq_true rfl, Nat.le_of_ble_eq_true rfl⟩) Z hA [0, 3] rfl (by decide) rfl (ci := 5) rfl rfl rfl rfl hl.1 rfl (Nat.le_of_ble_eq_true rfl) dX5_standing_2 ⟨Nat.zero_le _, Nat.zero_le _⟩ [some 0, none, none, some 1, none, none] rfl ⟨rfl, rfl, rfl, rfl, rfl, rfl, rfl⟩ (fun H locs Z => ?_)
  refine lv_iload_n (pc := 5) hx hb dX5_standing_5 rfl (lv_at hl 2 rfl) ?_
  refine lv_if_lt (pc := 6) (tgt := 20) hx hb dX5_standing_6 (by decide) (fun c2 => ?_) (fun c2 => ?_)
  · replace hf := o_pos c2 hf
    cases hf
  · replace hf := o_neg c2 hf
    refine lv_iload_n (pc := 9) hx hb dX5_standing_9 rfl (lv_at hl 2 rfl) ?_
    refine lv_aload_n (pc := 10) hx hb dX5_standing_10 rfl (lv_at hl 0 rfl) ?_
    refine z_get (pc := 11) (ref := "LotSheet") (ci := 5) (C := RX5) (T := TX5) (N := 7) hx hb hts iw_X5_standing_X5 hown Z 0 rfl rfl 1 (by decide) (List.mem_of_getElem? (i := 3) rfl) rfl rfl dX5_standing_11 ?_
    refine z_get (pc := 14) (ref := "LotSheet$Bill") (ci := 0) (C := RX0) (T := TX0) (N := 11) hx hb hts iw_X5_standing_X0 hown Z 1 rfl rfl 0 (by decide) (List.mem_of_getElem? (i := 4) rfl) rfl rfl dX5_standing_14 ?_
    refine lv_icmp_lt (pc := 17) (tgt := 30) hx hb dX5_standing_17 (by decide) (fun c3 => ?_) (fun c3 => ?_)
    · replace hf := o_pos c3 hf
      refine lv_iconst (pc := 30) (v := (0 : Int32)) hx hb dX5_standing_30 (by decide) ?_
      refine lv_istore_n (pc := 31) (lv' := [(3, .int (0 : Int32)), (0, .ref (h 0)), (1, .int p1), (2, .int p2)]) hx hb dX5_standing_31 rfl hl (by decide) rfl (fun ls hl => ?_)
      obtain ⟨j88_6, ej88_6, hf⟩ := o_jnE hf
      have hj88_6 : ∀ (x4 : Int32) (x5 : Int32) (H : Heap) (locs : List Loc) (ls : Array Slot), zw D (zTY cA) s A (W_X5_standing cA h b_height b_count b_room b_account b_lines y_pageOf y_lineOf y_pages y_printedLots y_printedLines x_latestErrorOffset) H locs → lv_has ls 5 [(3, .int x4), (4, .int x5)] → j88_6 x4 x5 = some (.inr u) → W p l e ({ frames := 7, cells := 0, slots := 0, locals := 111 } : Room) s m args below meth c H locs 0 0 (MQ below (zQi D (zTY cA) A (W_X5_standing cA h b_height b_count b_room b_account b_lines y_pageOf y_lineOf y_pages y_printedLots y_printedLines x_latestErrorOffset) u) args s 0 0 A) (F0 m 88 ls []) := by
        intro x4 x5 H locs ls Z hl hf
        rw [ej88_6] at hf
        refine lv_bipush (pc := 88) (v := (10 : Int32)) hx hb dX5_standing_88 (by decide) ?_
        refine lv_iload_n (pc := 90) hx hb dX5_standing_90 rfl (lv_at hl 0 rfl) ?_
        refine lv_imul (pc := 91) hx hb dX5_standing_91 ?_
        refine lv_iload (pc := 92) hx hb dX5_standing_92 (lv_at hl 1 rfl) ?_
        refine lv_iadd (pc := 94) hx hb dX5_standing_94 ?_
        cases hf
        exact z_iret (pc := 95) hx hb hr hlocks Z rfl rfl dX5_standing_95
      have hL32 : ∀ (n0 : Nat) (x7 : Int32) (H : Heap) (locs : List Loc) (ls : Array Slot), zw D (zTY cA) s A (W_X5_standing cA h b_height b_count b_room b_account b_lines y_pageOf y_lineOf y_pages y_printedLots y_printedLines x_latestErrorOffset) H locs → lv_has ls 5 [(0, .ref (h 0)), (1, .int p1), (2, .int p2), (3, .int x7)] → fX5_standing_L32 b_count p2 y_lineOf y_pageOf p1 b_lines j88_6 n0 x7 = some (.inr u) → W p l e ({ frames := 7, cells := 0, slots := 0, locals := 111 } : Room) s m args below meth c H locs 0 0 (MQ below (zQi D (zTY cA) A (W_X5_standing cA h b_height b_count b_room b_account b_lines y_pageOf y_lineOf y_pages y_printedLots y_printedLines x_latestErrorOffset) u) args s 0 0 A) (F0 m 32 ls []) := by
        intro n0
        induction n0 with
        | zero => intro x7 H locs ls Z hl hf; exact o_no hf
        | succ n0 ih0 =>
          intro x7 H locs ls Z hl hf
          refine lv_iload_n (pc := 32) hx hb dX5_standing_32 rfl (lv_at hl 3 rfl) ?_
          refine lv_aload_n (pc := 33) hx hb dX5_standing_33 rfl (lv_at hl 0 rfl) ?_
          refine z_get (pc := 34) (ref := "LotSheet") (ci := 5) (C := RX5) (T := TX5) (N := 7) hx hb hts iw_X5_standing_X5 hown Z 0 rfl rfl 1 (by decide) (List.mem_of_getElem? (i := 3) rfl) rfl rfl dX5_standing_34 ?_
          refine z_get (pc := 37) (ref := "LotSheet$Bill") (ci := 0) (C := RX0) (T := TX0) (N := 11) hx hb hts iw_X5_standing_X0 hown Z 1 rfl rfl 1 (by decide) (List.mem_of_getElem? (i := 5) rfl) rfl rfl dX5_standing_37 ?_
          refine lv_icmp_ge (pc := 40) (tgt := 102) hx hb dX5_standing_40 (by decide) (fun c8 => ?_) (fun c8 => ?_)
          · replace hf := o_pos c8 hf
            refine lv_iconst (pc := 102) (v := (-1 : Int32)) hx hb dX5_standing_102 (by decide) ?_
            cases hf
            exact z_iret (pc := 103) hx hb hr hlocks Z rfl rfl dX5_standing_103
          · replace hf := o_neg c8 hf
            refine lv_iload_n (pc := 43) hx hb dX5_standing_43 rfl (lv_at hl 2 rfl) ?_
            refine lv_aload_n (pc := 44) hx hb dX5_standing_44 rfl (lv_at hl 0 rfl) ?_
            refine z_get (pc := 45) (ref := "LotSheet") (ci := 5) (C := RX5) (T := TX5) (N := 7) hx hb hts iw_X5_standing_X5 hown Z 0 rfl rfl 4 (by decide) (List.mem_of_getElem? (i := 6) rfl) rfl rfl dX5_standing_45 ?_
            refine z_get (pc := 48) (ref := "LotSheet$Layout") (ci := 3) (C := RX3) (T := TX3) (N := 9) hx hb hts iw_X5_standing_X3 hown Z 3 rfl rfl 2 (by decide) (List.mem_of_getElem? (i := 7) rfl) rfl rfl dX5_standing_48 ?_
            refine lv_iload_n (pc := 51) hx hb dX5_standing_51 rfl (lv_at hl 3 rfl) ?_
            obtain ⟨i9, hf⟩ := o_rdE hf
            refine z_iald (pc := 52) hx hb Z 5 0 rfl rfl i9 dX5_standing_52 ?_
            refine lv_isub (pc := 53) hx hb dX5_standing_53 ?_
            refine lv_topi (fun x10 ex10 => ?_)
            replace hf := o_letE ex10 hf
            refine lv_istore (pc := 54) (lv' := [(4, .int x10), (0, .ref (h 0)), (1, .int p1), (2, .int p2), (3, .int x7)]) hx hb dX5_standing_54 hl (by decide) rfl (fun ls hl => ?_)
            refine lv_aload_n (pc := 56) hx hb dX5_standing_56 rfl (lv_at hl 1 rfl) ?_
            refine z_get (pc := 57) (ref := "LotSheet") (ci := 5) (C := RX5) (T := TX5) (N := 7) hx hb hts iw_X5_standing_X5 hown Z 0 rfl rfl 4 (by decide) (List.mem_of_getElem? (i := 6) rfl) rfl rfl dX5_standing_57 ?_
            refine z_get (pc := 60) (ref := "LotSheet$Layout") (ci := 3) (C := RX3) (T := TX3) (N := 9) hx hb hts iw_X5_standing_X3 hown Z 3 rfl rfl 1 (by decide) (List.mem_of_getElem? (i := 8) rfl) rfl rfl dX5_standing_60 ?_
            refine lv_iload_n (pc := 63) hx hb dX5_standing_63 rfl (lv_at hl 4 rfl) ?_
            obtain ⟨i11, hf⟩ := o_rdE hf
            refine z_iald (pc := 64) hx hb Z 4 0 rfl rfl i11 dX5_standing_64 ?_
            refine lv_iload_n (pc := 65) hx hb dX5_standing_65 rfl (lv_at hl 2 rfl) ?_
            refine lv_icmp_ne (pc := 66) (tgt := 96) hx hb dX5_standing_66 (by decide) (fun c12 => ?_) (fun c12 => ?_)
            · replace hf := o_neg c12 hf
              obtain ⟨x13, ex13⟩ : ∃ y : Int32, y = (x7 + (1 : Int32)) := ⟨_, rfl⟩
              replace hf := o_letE ex13 hf
              refine lv_iinc (pc := 96) (v := x13) (lv' := [(3, .int x13), (4, .int x10), (0, .ref (h 0)), (1, .int p1), (2, .int p2)]) hx hb dX5_standing_96 hl (k := 4) rfl (by rw [ex13]; rfl) (by decide) rfl (fun ls hl => ?_)
              refine lv_goto (pc := 99) (tgt := 32) hx hb dX5_standing_99 (by decide) ?_
              exact ih0 x13 H locs ls Z (lv_sub hl [2, 3, 4, 0] rfl) hf
            · replace hf := o_pos c12 hf
              refine lv_iload (pc := 69) hx hb dX5_standing_69 (lv_at hl 0 rfl) ?_
              refine lv_if_lt (pc := 71) (tgt := 96) hx hb dX5_standing_71 (by decide) (fun c14 => ?_) (fun c14 => ?_)
              · replace hf := o_pos c14 hf
                obtain ⟨x15, ex15⟩ : ∃ y : Int32, y = (x7 + (1 : Int32)) := ⟨_, rfl⟩
                replace hf := o_letE ex15 hf
                refine lv_iinc (pc := 96) (v := x15) (lv' := [(3, .int x15), (4, .int x10), (0, .ref (h 0)), (1, .int p1), (2, .int p2)]) hx hb dX5_standing_96 hl (k := 4) rfl (by rw [ex15]; rfl) (by decide) rfl (fun ls hl => ?_)
                refine lv_goto (pc := 99) (tgt := 32) hx hb dX5_standing_99 (by decide) ?_
                exact ih0 x15 H locs ls Z (lv_sub hl [2, 3, 4, 0] rfl) hf
              · replace hf := o_neg c14 hf
                refine lv_iload (pc := 74) hx hb dX5_standing_74 (lv_at hl 0 rfl) ?_
                refine lv_aload_n (pc := 76) hx hb dX5_standing_76 rfl (lv_at hl 1 rfl) ?_
                refine z_get (pc := 77) (ref := "LotSheet") (ci := 5) (C := RX5) (T := TX5) (N := 7) hx hb hts iw_X5_standing_X5 hown Z 0 rfl rfl 1 (by decide) (List.mem_of_getElem? (i := 3) rfl) rfl rfl dX5_standing_77 ?_
                refine z_get (pc := 80) (ref := "LotSheet$Bill") (ci := 0) (C := RX0) (T := TX0) (N := 11) hx hb hts iw_X5_standing_X0 hown Z 1 rfl rfl 5 (by decide) (List.mem_of_getElem? (i := 9) rfl) rfl rfl dX5_standing_80 ?_
                refine lv_iload_n (pc := 83) hx hb dX5_standing_83 rfl (lv_at hl 4 rfl) ?_
                obtain ⟨i16, hf⟩ := o_rdE hf
                refine z_iald (pc := 84) hx hb Z 2 0 rfl rfl i16 dX5_standing_84 ?_
                refine lv_icmp_ge (pc := 85) (tgt := 96) hx hb dX5_standing_85 (by decide) (fun c17 => ?_) (fun c17 => ?_)
                · replace hf := o_pos c17 hf
                  obtain ⟨x18, ex18⟩ : ∃ y : Int32, y = (x7 + (1 : Int32)) := ⟨_, rfl⟩
                  replace hf := o_letE ex18 hf
                  refine lv_iinc (pc := 96) (v := x18) (lv' := [(3, .int x18), (4, .int x10), (0, .ref (h 0)), (1, .int p1), (2, .int p2)]) hx hb dX5_standing_96 hl (k := 4) rfl (by rw [ex18]; rfl) (by decide) rfl (fun ls hl => ?_)
                  refine lv_goto (pc := 99) (tgt := 32) hx hb dX5_standing_99 (by decide) ?_
                  exact ih0 x18 H locs ls Z (lv_sub hl [2, 3, 4, 0] rfl) hf
                · replace hf := o_neg c17 hf
                  exact hj88_6 x7 x10 H locs ls Z (lv_sub hl [4, 0] rfl) hf
      exact hL32 1024 (0 : Int32) H locs ls Z (lv_sub hl [1, 2, 3, 0] rfl) hf
    · replace hf := o_neg c3 hf
      cases hf
set_option maxHeartbeats 4000000 in
set_option maxRecDepth 100000 in
theorem tX5_standing (l : Launch) (D : va_G) (cA : Nat → ClassId) (h : Nat → Nat) (p1 : Int32) (p2 : Int32) (b_height : Int32) (b_count : Int32) (b_room : Int32) (b_account : Int32) (b_lines : Nat → Int32) (y_pageOf : Nat → Int32) (y_lineOf : Nat → Int32) (y_pages : Int32) (y_printedLots : Int32) (y_printedLines : Int32) (x_latestErrorOffset : Int32) (E : String) (hf : fX5_standing p1 p2 b_height b_count b_lines y_pageOf y_lineOf y_pages = some (.inl E)) (hfl : l.stackTraces = false) : zMiT l yX5_standing zsX5_standing ({ frames := 7, cells := 1, slots := 6, locals := 111 } : Room) D (zTY cA) [.ref (h 0), .int p1, .int p2] (W_X5_standing cA h b_height b_count b_room b_account b_lines y_pageOf y_lineOf y_pages y_printedLots y_printedLines x_latestErrorOffset) E := by
  refine z_startiT (cc := cX5_standing) (maxL := 5) (ret := (some .int)) (by decide) rfl (Nat.le_of_ble_eq_true rfl) ?_
  intro p e s m args below meth c A hx hb hr hts hown hlocks hml hA hE hxt Z ls hl
  replace hown : s.vm.findClass RX5 = some m.cls := hown
  replace hl : lv_has ls 5 [(0, .ref (h 0)), (1, .int p1), (2, .int p2)] := hl
  obtain ⟨H, hH⟩ : ∃ H, H = s.heap := ⟨_, rfl⟩
  rw [← hH] at Z ⊢
  clear hH
  obtain ⟨locs, hlc⟩ : ∃ q : List Loc, q = [] := ⟨_, rfl⟩
  rw [← hlc] at Z ⊢
  clear hlc
  refine lv_aload_n (pc := 0) hx hb dX5_standing_0 rfl (lv_at hl 0 rfl) ?_
  refine lv_iload_n (pc := 1) hx hb dX5_standing_1 rfl (lv_at hl 1 rfl) ?_
  rcases o_tryX hf with q1 | ⟨_, q1, hf⟩
  · exact z_callVvt (pc := 2) (As := [.int p1]) (rest := []) (Wc := (W_X5_needPage cA (fun k => h (k)) y_pages y_printedLots y_printedLines x_latestErrorOffset)) ⟨hx, hb, hml, hown, hts⟩ (tX5_needPage l D cA (fun k => h (k)) p1 y_pages y_printedLots y_printedLines x_latestErrorOffset _ q1 hfl) (cwV 1 hts zgX5_standing_X5_needPage_158 rfl rfl rfl (by decide +kernel) ⟨Nat.le_of_ble_eq_true rfl, Nat.le_of_ble_eq_true rfl⟩) hE Z hA [0, 3] rfl (by decide) (ci := 5) rfl rfl rfl rfl hl.1 rfl (Nat.le_of_ble_eq_true rfl) dX5_standing_2 ⟨Nat.le_of_ble_eq_true rfl, Nat.le_of_ble_eq_true rfl⟩ [some 0, none, none, some 1, none, none] rfl ⟨rfl, rfl, rfl, rfl, rfl, rfl, rfl⟩ hxt hlocks
  refine z_callVv (pc := 2) (As := [.int p1]) (rest := []) (Wc := (W_X5_needPage cA (fun k => h (k)) y_pages y_printedLots y_printedLines x_latestErrorOffset)) (W1 := (W_X5_needPage cA (fun k => h (k)) y_pages y_printedLots y_printedLines x_latestErrorOffset)) (W2 := (W_X5_standing cA h b_height b_count b_room b_account b_lines y_pageOf y_lineOf y_pages y_printedLots y_printedLines x_latestErrorOffset)) ⟨hx, hb, hml, hown, hts⟩ (kX5_needPage l D cA (fun k => h (k)) p1 y_pages y_printedLots y_printedLines x_latestErrorOffset _ q1) (cwV 1 hts zgX5_standing_X5_needPage_158 rfl rfl rfl (by decide +kernel) ⟨Nat.le_of_ble_eq_true rfl, Nat.le_of_ble_eq_true rfl⟩) Z hA [0, 3] rfl (by decide) rfl (ci := 5) rfl rfl rfl rfl hl.1 rfl (Nat.le_of_ble_eq_true rfl) dX5_standing_2 ⟨Nat.zero_le _, Nat.zero_le _⟩ [some 0, none, none, some 1, none, none] rfl ⟨rfl, rfl, rfl, rfl, rfl, rfl, rfl⟩ (fun H locs Z => ?_)
  refine lv_iload_n (pc := 5) hx hb dX5_standing_5 rfl (lv_at hl 2 rfl) ?_
  refine lv_if_lt (pc := 6) (tgt := 20) hx hb dX5_standing_6 (by decide) (fun c2 => ?_) (fun c2 => ?_)
  · replace hf := o_pos c2 hf
    cases hf
    exact z_throwE (pc := 20) hx hb hfl hown hts (by decide +kernel) (List.mem_of_getElem? (i := 1) rfl) (List.mem_of_getElem? (i := 2) rfl) z_inI (List.mem_of_getElem? (i := 4) rfl) hE Z (hl.1.trans hml.symm) dX5_standing_20 dX5_standing_23 dX5_standing_24 dX5_standing_26 dX5_standing_29 hxt (Nat.le_of_ble_eq_true rfl) (Nat.le_of_ble_eq_true rfl) (Nat.le_of_ble_eq_true rfl) (Nat.le_of_ble_eq_true rfl) hlocks
  · replace hf := o_neg c2 hf
    refine lv_iload_n (pc := 9) hx hb dX5_standing_9 rfl (lv_at hl 2 rfl) ?_
    refine lv_aload_n (pc := 10) hx hb dX5_standing_10 rfl (lv_at hl 0 rfl) ?_
    refine z_get (pc := 11) (ref := "LotSheet") (ci := 5) (C := RX5) (T := TX5) (N := 7) hx hb hts iw_X5_standing_X5 hown Z 0 rfl rfl 1 (by decide) (List.mem_of_getElem? (i := 3) rfl) rfl rfl dX5_standing_11 ?_
    refine z_get (pc := 14) (ref := "LotSheet$Bill") (ci := 0) (C := RX0) (T := TX0) (N := 11) hx hb hts iw_X5_standing_X0 hown Z 1 rfl rfl 0 (by decide) (List.mem_of_getElem? (i := 4) rfl) rfl rfl dX5_standing_14 ?_
    refine lv_icmp_lt (pc := 17) (tgt := 30) hx hb dX5_standing_17 (by decide) (fun c3 => ?_) (fun c3 => ?_)
    · replace hf := o_pos c3 hf
      refine lv_iconst (pc := 30) (v := (0 : Int32)) hx hb dX5_standing_30 (by decide) ?_
      refine lv_istore_n (pc := 31) (lv' := [(3, .int (0 : Int32)), (0, .ref (h 0)), (1, .int p1), (2, .int p2)]) hx hb dX5_standing_31 rfl hl (by decide) rfl (fun ls hl => ?_)
      obtain ⟨j88_6, ej88_6, hf⟩ := o_jnE hf
      have hj88_6 : ∀ (x4 : Int32) (x5 : Int32) (H : Heap) (locs : List Loc) (ls : Array Slot), zw D (zTY cA) s A (W_X5_standing cA h b_height b_count b_room b_account b_lines y_pageOf y_lineOf y_pages y_printedLots y_printedLines x_latestErrorOffset) H locs → lv_has ls 5 [(3, .int x4), (4, .int x5)] → j88_6 x4 x5 = some (.inl E) → W p l e ({ frames := 7, cells := 1, slots := 6, locals := 111 } : Room) s m args below meth c H locs 0 0 (vx_MQ below (va_Qi (fun _ (_ : Unit) => False) (fun _ _ => True) A) (zXC D (zTY cA) A (W_X5_standing cA h b_height b_count b_room b_account b_lines y_pageOf y_lineOf y_pages y_printedLots y_printedLines x_latestErrorOffset) E) args s 1 6 A) (F0 m 88 ls []) := by
        intro x4 x5 H locs ls Z hl hf
        rw [ej88_6] at hf
        refine lv_bipush (pc := 88) (v := (10 : Int32)) hx hb dX5_standing_88 (by decide) ?_
        refine lv_iload_n (pc := 90) hx hb dX5_standing_90 rfl (lv_at hl 0 rfl) ?_
        refine lv_imul (pc := 91) hx hb dX5_standing_91 ?_
        refine lv_iload (pc := 92) hx hb dX5_standing_92 (lv_at hl 1 rfl) ?_
        refine lv_iadd (pc := 94) hx hb dX5_standing_94 ?_
        cases hf
      have hL32 : ∀ (n0 : Nat) (x7 : Int32) (H : Heap) (locs : List Loc) (ls : Array Slot), zw D (zTY cA) s A (W_X5_standing cA h b_height b_count b_room b_account b_lines y_pageOf y_lineOf y_pages y_printedLots y_printedLines x_latestErrorOffset) H locs → lv_has ls 5 [(0, .ref (h 0)), (1, .int p1), (2, .int p2), (3, .int x7)] → fX5_standing_L32 b_count p2 y_lineOf y_pageOf p1 b_lines j88_6 n0 x7 = some (.inl E) → W p l e ({ frames := 7, cells := 1, slots := 6, locals := 111 } : Room) s m args below meth c H locs 0 0 (vx_MQ below (va_Qi (fun _ (_ : Unit) => False) (fun _ _ => True) A) (zXC D (zTY cA) A (W_X5_standing cA h b_height b_count b_room b_account b_lines y_pageOf y_lineOf y_pages y_printedLots y_printedLines x_latestErrorOffset) E) args s 1 6 A) (F0 m 32 ls []) := by
        intro n0
        induction n0 with
        | zero => intro x7 H locs ls Z hl hf; exact o_no hf
        | succ n0 ih0 =>
          intro x7 H locs ls Z hl hf
          refine lv_iload_n (pc := 32) hx hb dX5_standing_32 rfl (lv_at hl 3 rfl) ?_
          refine lv_aload_n (pc := 33) hx hb dX5_standing_33 rfl (lv_at hl 0 rfl) ?_
          refine z_get (pc := 34) (ref := "LotSheet") (ci := 5) (C := RX5) (T := TX5) (N := 7) hx hb hts iw_X5_standing_X5 hown Z 0 rfl rfl 1 (by decide) (List.mem_of_getElem? (i := 3) rfl) rfl rfl dX5_standing_34 ?_
          refine z_get (pc := 37) (ref := "LotSheet$Bill") (ci := 0) (C := RX0) (T := TX0) (N := 11) hx hb hts iw_X5_standing_X0 hown Z 1 rfl rfl 1 (by decide) (List.mem_of_getElem? (i := 5) rfl) rfl rfl dX5_standing_37 ?_
          refine lv_icmp_ge (pc := 40) (tgt := 102) hx hb dX5_standing_40 (by decide) (fun c8 => ?_) (fun c8 => ?_)
          · replace hf := o_pos c8 hf
            refine lv_iconst (pc := 102) (v := (-1 : Int32)) hx hb dX5_standing_102 (by decide) ?_
            cases hf
          · replace hf := o_neg c8 hf
            refine lv_iload_n (pc := 43) hx hb dX5_standing_43 rfl (lv_at hl 2 rfl) ?_
            refine lv_aload_n (pc := 44) hx hb dX5_standing_44 rfl (lv_at hl 0 rfl) ?_
            refine z_get (pc := 45) (ref := "LotSheet") (ci := 5) (C := RX5) (T := TX5) (N := 7) hx hb hts iw_X5_standing_X5 hown Z 0 rfl rfl 4 (by decide) (List.mem_of_getElem? (i := 6) rfl) rfl rfl dX5_standing_45 ?_
            refine z_get (pc := 48) (ref := "LotSheet$Layout") (ci := 3) (C := RX3) (T := TX3) (N := 9) hx hb hts iw_X5_standing_X3 hown Z 3 rfl rfl 2 (by decide) (List.mem_of_getElem? (i := 7) rfl) rfl rfl dX5_standing_48 ?_
            refine lv_iload_n (pc := 51) hx hb dX5_standing_51 rfl (lv_at hl 3 rfl) ?_
            obtain ⟨i9, hf⟩ := o_rdE hf
            refine z_iald (pc := 52) hx hb Z 5 0 rfl rfl i9 dX5_standing_52 ?_
            refine lv_isub (pc := 53) hx hb dX5_standing_53 ?_
            refine lv_topi (fun x10 ex10 => ?_)
            replace hf := o_letE ex10 hf
            refine lv_istore (pc := 54) (lv' := [(4, .int x10), (0, .ref (h 0)), (1, .int p1), (2, .int p2), (3, .int x7)]) hx hb dX5_standing_54 hl (by decide) rfl (fun ls hl => ?_)
            refine lv_aload_n (pc := 56) hx hb dX5_standing_56 rfl (lv_at hl 1 rfl) ?_
            refine z_get (pc := 57) (ref := "LotSheet") (ci := 5) (C := RX5) (T := TX5) (N := 7) hx hb hts iw_X5_standing_X5 hown Z 0 rfl rfl 4 (by decide) (List.mem_of_getElem? (i := 6) rfl) rfl rfl dX5_standing_57 ?_
            refine z_get (pc := 60) (ref := "LotSheet$Layout") (ci := 3) (C := RX3) (T := TX3) (N := 9) hx hb hts iw_X5_standing_X3 hown Z 3 rfl rfl 1 (by decide) (List.mem_of_getElem? (i := 8) rfl) rfl rfl dX5_standing_60 ?_
            refine lv_iload_n (pc := 63) hx hb dX5_standing_63 rfl (lv_at hl 4 rfl) ?_
            obtain ⟨i11, hf⟩ := o_rdE hf
            refine z_iald (pc := 64) hx hb Z 4 0 rfl rfl i11 dX5_standing_64 ?_
            refine lv_iload_n (pc := 65) hx hb dX5_standing_65 rfl (lv_at hl 2 rfl) ?_
            refine lv_icmp_ne (pc := 66) (tgt := 96) hx hb dX5_standing_66 (by decide) (fun c12 => ?_) (fun c12 => ?_)
            · replace hf := o_neg c12 hf
              obtain ⟨x13, ex13⟩ : ∃ y : Int32, y = (x7 + (1 : Int32)) := ⟨_, rfl⟩
              replace hf := o_letE ex13 hf
              refine lv_iinc (pc := 96) (v := x13) (lv' := [(3, .int x13), (4, .int x10), (0, .ref (h 0)), (1, .int p1), (2, .int p2)]) hx hb dX5_standing_96 hl (k := 4) rfl (by rw [ex13]; rfl) (by decide) rfl (fun ls hl => ?_)
              refine lv_goto (pc := 99) (tgt := 32) hx hb dX5_standing_99 (by decide) ?_
              exact ih0 x13 H locs ls Z (lv_sub hl [2, 3, 4, 0] rfl) hf
            · replace hf := o_pos c12 hf
              refine lv_iload (pc := 69) hx hb dX5_standing_69 (lv_at hl 0 rfl) ?_
              refine lv_if_lt (pc := 71) (tgt := 96) hx hb dX5_standing_71 (by decide) (fun c14 => ?_) (fun c14 => ?_)
              · replace hf := o_pos c14 hf
                obtain ⟨x15, ex15⟩ : ∃ y : Int32, y = (x7 + (1 : Int32)) := ⟨_, rfl⟩
                replace hf := o_letE ex15 hf
                refine lv_iinc (pc := 96) (v := x15) (lv' := [(3, .int x15), (4, .int x10), (0, .ref (h 0)), (1, .int p1), (2, .int p2)]) hx hb dX5_standing_96 hl (k := 4) rfl (by rw [ex15]; rfl) (by decide) rfl (fun ls hl => ?_)
                refine lv_goto (pc := 99) (tgt := 32) hx hb dX5_standing_99 (by decide) ?_
                exact ih0 x15 H locs ls Z (lv_sub hl [2, 3, 4, 0] rfl) hf
              · replace hf := o_neg c14 hf
                refine lv_iload (pc := 74) hx hb dX5_standing_74 (lv_at hl 0 rfl) ?_
                refine lv_aload_n (pc := 76) hx hb dX5_standing_76 rfl (lv_at hl 1 rfl) ?_
                refine z_get (pc := 77) (ref := "LotSheet") (ci := 5) (C := RX5) (T := TX5) (N := 7) hx hb hts iw_X5_standing_X5 hown Z 0 rfl rfl 1 (by decide) (List.mem_of_getElem? (i := 3) rfl) rfl rfl dX5_standing_77 ?_
                refine z_get (pc := 80) (ref := "LotSheet$Bill") (ci := 0) (C := RX0) (T := TX0) (N := 11) hx hb hts iw_X5_standing_X0 hown Z 1 rfl rfl 5 (by decide) (List.mem_of_getElem? (i := 9) rfl) rfl rfl dX5_standing_80 ?_
                refine lv_iload_n (pc := 83) hx hb dX5_standing_83 rfl (lv_at hl 4 rfl) ?_
                obtain ⟨i16, hf⟩ := o_rdE hf
                refine z_iald (pc := 84) hx hb Z 2 0 rfl rfl i16 dX5_standing_84 ?_
                refine lv_icmp_ge (pc := 85) (tgt := 96) hx hb dX5_standing_85 (by decide) (fun c17 => ?_) (fun c17 => ?_)
                · replace hf := o_pos c17 hf
                  obtain ⟨x18, ex18⟩ : ∃ y : Int32, y = (x7 + (1 : Int32)) := ⟨_, rfl⟩
                  replace hf := o_letE ex18 hf
                  refine lv_iinc (pc := 96) (v := x18) (lv' := [(3, .int x18), (4, .int x10), (0, .ref (h 0)), (1, .int p1), (2, .int p2)]) hx hb dX5_standing_96 hl (k := 4) rfl (by rw [ex18]; rfl) (by decide) rfl (fun ls hl => ?_)
                  refine lv_goto (pc := 99) (tgt := 32) hx hb dX5_standing_99 (by decide) ?_
                  exact ih0 x18 H locs ls Z (lv_sub hl [2, 3, 4, 0] rfl) hf
                · replace hf := o_neg c17 hf
                  exact hj88_6 x7 x10 H locs ls Z (lv_sub hl [4, 0] rfl) hf
      exact hL32 1024 (0 : Int32) H locs ls Z (lv_sub hl [1, 2, 3, 0] rfl) hf
    · replace hf := o_neg c3 hf
      cases hf
      exact z_throwE (pc := 20) hx hb hfl hown hts (by decide +kernel) (List.mem_of_getElem? (i := 1) rfl) (List.mem_of_getElem? (i := 2) rfl) z_inI (List.mem_of_getElem? (i := 4) rfl) hE Z (hl.1.trans hml.symm) dX5_standing_20 dX5_standing_23 dX5_standing_24 dX5_standing_26 dX5_standing_29 hxt (Nat.le_of_ble_eq_true rfl) (Nat.le_of_ble_eq_true rfl) (Nat.le_of_ble_eq_true rfl) (Nat.le_of_ble_eq_true rfl) hlocks
