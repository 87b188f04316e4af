def W_X1_findChangedLines (cA : Nat → ClassId) (h : Nat → Nat) (c_count : Int32) (v_numberOf : Nat → Int32) (v_pageOf : Nat → Int32) (v_lineOf : Nat → Int32) (v_usedOn : Nat → Int32) (v_pages : Int32) (v_printedLots : Int32) (v_printedLines : Int32) (c_changedOn : Nat → Int32) (c_priced : Int32) (b_height : Int32) (b_count : Int32) (b_room : Int32) (b_account : Int32) (b_lines : Nat → Int32) (y_numberOf : Nat → Int32) (y_pageOf : Nat → Int32) (y_lineOf : Nat → Int32) (y_usedOn : Nat → Int32) (y_pages : Int32) (y_printedLots : Int32) (y_printedLines : Int32) : va_W := [(h 0, .inr (1, [.ref (h 1), .ref (h 2), .int c_count, .ref (h 3), .ref (h 10), .ref (h 11), .ref (h 12), .int c_priced])), (h 3, .inr (3, [.ref (h 4), .ref (h 5), .ref (h 6), .ref (h 7), .ref (h 8), .ref (h 9), .int v_pages, .int v_printedLots, .int v_printedLines])), (h 4, .inl (cA 0, 24, .inl v_numberOf)), (h 5, .inl (cA 0, 24, .inl v_pageOf)), (h 6, .inl (cA 0, 24, .inl v_lineOf)), (h 7, .inl (cA 0, 24, .inl v_usedOn)), (h 11, .inl (cA 0, 24, .inl c_changedOn)), (h 13, .inr (0, [.int b_height, .int b_count, .int b_room, .int b_account, .ref (h 14), .ref (h 15), .ref (h 16), .ref (h 17), .ref (h 18), .ref (h 19), .ref (h 20)])), (h 15, .inl (cA 0, 24, .inl b_lines)), (h 21, .inr (3, [.ref (h 22), .ref (h 23), .ref (h 24), .ref (h 25), .ref (h 26), .ref (h 27), .int y_pages, .int y_printedLots, .int y_printedLines])), (h 22, .inl (cA 0, 24, .inl y_numberOf)), (h 23, .inl (cA 0, 24, .inl y_pageOf)), (h 24, .inl (cA 0, 24, .inl y_lineOf)), (h 25, .inl (cA 0, 24, .inl y_usedOn))]
def fX1_findChangedLines_L50 (b_count : Int32) (v_pageOf : Nat → Int32) (b_lines : Nat → Int32) (v_numberOf : Nat → Int32) (y_numberOf : Nat → Int32) (y_pageOf : Nat → Int32) (v_lineOf : Nat → Int32) (y_lineOf : Nat → Int32) : Nat → Int32 → (Nat → Int32) → Option ((Nat → Int32))
  | 0, _, _ => none
  | n0 + 1, x3, a4 => (if b_count ≤ x3 then some (a4) else o_rd 24 x3 (o_let (v_pageOf x3.toNatClampNeg) (fun x7 => o_rd 24 x3 (o_let (fun (x10 : Int32) => (if x10 = 0 then o_let (x3 + (1 : Int32)) (fun x13 => (fX1_findChangedLines_L50 b_count v_pageOf b_lines v_numberOf y_numberOf y_pageOf v_lineOf y_lineOf n0 x13 a4)) else (if x7 < 0 then o_let (x3 + (1 : Int32)) (fun x15 => (fX1_findChangedLines_L50 b_count v_pageOf b_lines v_numberOf y_numberOf y_pageOf v_lineOf y_lineOf n0 x15 a4)) else (if (24 : Int32) ≤ x7 then o_let (x3 + (1 : Int32)) (fun x17 => (fX1_findChangedLines_L50 b_count v_pageOf b_lines v_numberOf y_numberOf y_pageOf v_lineOf y_lineOf n0 x17 a4)) else o_rd 24 x3 (o_rd 24 x3 (o_let (fun (x21 : Int32) => o_rd 24 x7 (o_let (fun (x25 : Int32) => o_rd 24 x7 (o_let (upd a4 x7.toNatClampNeg ((a4 x7.toNatClampNeg) - x25)) (fun a28 => o_let (x3 + (1 : Int32)) (fun x29 => (fX1_findChangedLines_L50 b_count v_pageOf b_lines v_numberOf y_numberOf y_pageOf v_lineOf y_lineOf n0 x29 a28))))) (fun (j186_26 : Int32 → Option ((Nat → Int32))) => (if x21 = 0 then o_rd 24 x3 ((j186_26 ((b_lines x3.toNatClampNeg) - (1 : Int32)))) else o_rd 24 x3 ((j186_26 (b_lines x3.toNatClampNeg))))))) (fun (j152_22 : Int32 → Option ((Nat → Int32))) => (if (v_numberOf x3.toNatClampNeg) = (y_numberOf x3.toNatClampNeg) then (j152_22 (1 : Int32)) else (j152_22 (0 : Int32)))))))))) (fun (j108_11 : Int32 → Option ((Nat → Int32))) => (if x7 = (y_pageOf x3.toNatClampNeg) then o_rd 24 x3 (o_rd 24 x3 ((if (v_lineOf x3.toNatClampNeg) = (y_lineOf x3.toNatClampNeg) then (j108_11 (1 : Int32)) else (j108_11 (0 : Int32))))) else (j108_11 (0 : Int32))))))))
def fX1_findChangedLines_L3 (p3 : Int32) (j47_2 : (Nat → Int32) → Option ((Nat → Int32))) (y_usedOn : Nat → Int32) (y_pages : Int32) (v_usedOn : Nat → Int32) (v_pages : Int32) : Nat → Int32 → (Nat → Int32) → Option ((Nat → Int32))
  | 0, _, _ => none
  | n0 + 1, x35, a36 => (if p3 ≤ x35 then (j47_2 a36) else (if (24 : Int32) ≤ x35 then (j47_2 a36) else o_bind (fX3_linesUsedOn x35 y_usedOn y_pages) (fun x39 => o_bind (fX3_linesUsedOn x35 v_usedOn v_pages) (fun x41 => o_rd 24 x35 (o_let (upd a36 x35.toNatClampNeg (if x39 < x41 then x41 else x39)) (fun a44 => o_let (x35 + (1 : Int32)) (fun x45 => (fX1_findChangedLines_L3 p3 j47_2 y_usedOn y_pages v_usedOn v_pages n0 x45 a44))))))))
def fX1_findChangedLines (p3 : Int32) (v_numberOf : Nat → Int32) (v_pageOf : Nat → Int32) (v_lineOf : Nat → Int32) (v_usedOn : Nat → Int32) (v_pages : Int32) (c_changedOn : Nat → Int32) (b_count : Int32) (b_lines : Nat → Int32) (y_numberOf : Nat → Int32) (y_pageOf : Nat → Int32) (y_lineOf : Nat → Int32) (y_usedOn : Nat → Int32) (y_pages : Int32) : Option ((Nat → Int32)) := o_let (fun (a1 : Nat → Int32) => (fX1_findChangedLines_L50 b_count v_pageOf b_lines v_numberOf y_numberOf y_pageOf v_lineOf y_lineOf 1024 (0 : Int32) a1)) (fun (j47_2 : (Nat → Int32) → Option ((Nat → Int32))) => (fX1_findChangedLines_L3 p3 j47_2 y_usedOn y_pages v_usedOn v_pages 1024 (0 : Int32) c_changedOn))
theorem iw_X1_findChangedLines_X0 : ∀ w ∈ u_ws RX0 TX0 11, w ∈ wsX1_findChangedLines := z_inr [27, 28, 29, 30, 31, 32, 33, 34, 35, 36, 37] rfl
theorem iw_X1_findChangedLines_X1 : ∀ w ∈ u_ws RX1 TX1 8, w ∈ wsX1_findChangedLines := z_inr [19, 20, 21, 22, 23, 24, 25, 26] rfl
theorem iw_X1_findChangedLines_X3 : ∀ w ∈ u_ws RX3 TX3 9, w ∈ wsX1_findChangedLines := z_inr [38, 39, 40, 41, 42, 43, 44, 45, 46] rfl
set_option maxHeartbeats 4000000 in
set_option maxRecDepth 100000 in
theorem kX1_findChangedLines (l : Launch) (D : va_G) (cA : Nat → ClassId) (h : Nat → Nat) (p3 : Int32) (c_count : Int32) (v_numberOf : Nat → Int32) (v_pageOf : Nat → Int32) (v_lineOf : Nat → Int32) (v_usedOn : Nat → Int32) (v_pages : Int32) (v_printedLots : Int32) (v_printedLines : Int32) (c_changedOn : Nat → Int32) (c_priced : Int32) (b_height : Int32) (b_count : Int32) (b_room : Int32) (b_account : Int32) (b_lines : Nat → Int32) (y_numberOf : Nat → Int32) (y_pageOf : Nat → Int32) (y_lineOf : Nat → Int32) (y_usedOn : Nat → Int32) (y_pages : Int32) (y_printedLots : Int32) (y_printedLines : Int32) (u : (Nat → Int32)) (hf : fX1_findChangedLines p3 v_numberOf v_pageOf v_lineOf v_usedOn v_pages c_changedOn b_count b_lines y_numberOf y_pageOf y_lineOf y_usedOn y_pages = some u) : zMv l yX1_findChangedLines wsX1_findChangedLines ({ frames := 1, cells := 0, slots := 0, locals := 21 } : Room) D (zTY cA) [.ref (h 0), .ref (h 13), .ref (h 21), .int p3] (W_X1_findChangedLines cA h c_count v_numberOf v_pageOf v_lineOf v_usedOn v_pages v_printedLots v_printedLines c_changedOn c_priced b_height b_count b_room b_account b_lines y_numberOf y_pageOf y_lineOf y_usedOn y_pages y_printedLots y_printedLines) (W_X1_findChangedLines cA h c_count v_numberOf v_pageOf v_lineOf v_usedOn v_pages v_printedLots v_printedLines u c_priced b_height b_count b_room b_account b_lines y_numberOf y_pageOf y_lineOf y_usedOn y_pages y_printedLots y_printedLines) := by
  refine z_startv (cc := cX1_findChangedLines) (maxL := 8) (ret := none) (by decide) rfl (Nat.le_of_ble_eq_true rfl) ?_
  intro p e s m args below meth c A hx hb hr hts hown hlocks hml hA Z ls hl
  replace hown : s.vm.findClass RX1 = some m.cls := hown
  replace hl : lv_has ls 8 [(0, .ref (h 0)), (1, .ref (h 13)), (2, .ref (h 21)), (3, .int p3)] := hl
  obtain ⟨H, hH⟩ : ∃ H, H = s.heap := ⟨_, rfl⟩
  rw [← hH] at Z ⊢
  clear hH
  obtain ⟨locs, hlc⟩ : ∃ q : List Loc, q = [] := ⟨_, rfl⟩
  rw [← hlc] at Z ⊢
  clear hlc
  refine lv_iconst (pc := 0) (v := (0 : Int32)) hx hb dX1_findChangedLines_0 (by decide) ?_
  refine lv_istore (pc := 1) (lv' := [(4, .int (0 : Int32)), (0, .ref (h 0)), (1, .ref (h 13)), (2, .ref (h 21)), (3, .int p3)]) hx hb dX1_findChangedLines_1 hl (by decide) rfl (fun ls hl => ?_)
  obtain ⟨j47_2, ej47_2, hf⟩ := o_jnE hf
  have hj47_2 : ∀ (a1 : Nat → Int32) (H : Heap) (locs : List Loc) (ls : Array Slot), zw D (zTY cA) s A (W_X1_findChangedLines cA h c_count v_numberOf v_pageOf v_lineOf v_usedOn v_pages v_printedLots v_printedLines a1 c_priced b_height b_count b_room b_account b_lines y_numberOf y_pageOf y_lineOf y_usedOn y_pages y_printedLots y_printedLines) H locs → lv_has ls 8 [(0, .ref (h 0)), (1, .ref (h 13)), (2, .ref (h 21))] → j47_2 a1 = some u → W p l e ({ frames := 1, cells := 0, slots := 0, locals := 21 } : Room) s m args below meth c H locs 0 0 (MQ below (zQv D (zTY cA) A (W_X1_findChangedLines cA h c_count v_numberOf v_pageOf v_lineOf v_usedOn v_pages v_printedLots v_printedLines u c_priced b_height b_count b_room b_account b_lines y_numberOf y_pageOf y_lineOf y_usedOn y_pages y_printedLots y_printedLines)) args s 0 0 A) (F0 m 47 ls []) := by
    intro a1 H locs ls Z hl hf
    rw [ej47_2] at hf
    refine lv_iconst (pc := 47) (v := (0 : Int32)) hx hb dX1_findChangedLines_47 (by decide) ?_
    refine lv_istore (pc := 48) (lv' := [(4, .int (0 : Int32)), (0, .ref (h 0)), (1, .ref (h 13)), (2, .ref (h 21))]) hx hb dX1_findChangedLines_48 hl (by decide) rfl (fun ls hl => ?_)
    have hL50 : ∀ (n0 : Nat) (x3 : Int32) (a4 : Nat → Int32) (H : Heap) (locs : List Loc) (ls : Array Slot), zw D (zTY cA) s A (W_X1_findChangedLines cA h c_count v_numberOf v_pageOf v_lineOf v_usedOn v_pages v_printedLots v_printedLines a4 c_priced b_height b_count b_room b_account b_lines y_numberOf y_pageOf y_lineOf y_usedOn y_pages y_printedLots y_printedLines) H locs → lv_has ls 8 [(0, .ref (h 0)), (1, .ref (h 13)), (2, .ref (h 21)), (4, .int x3)] → fX1_findChangedLines_L50 b_count v_pageOf b_lines v_numberOf y_numberOf y_pageOf v_lineOf y_lineOf n0 x3 a4 = some u → W p l e ({ frames := 1, cells := 0, slots := 0, locals := 21 } : Room) s m args below meth c H locs 0 0 (MQ below (zQv D (zTY cA) A (W_X1_findChangedLines cA h c_count v_numberOf v_pageOf v_lineOf v_usedOn v_pages v_printedLots v_printedLines u c_priced b_height b_count b_room b_account b_lines y_numberOf y_pageOf y_lineOf y_usedOn y_pages y_printedLots y_printedLines)) args s 0 0 A) (F0 m 50 ls []) := by
      intro n0
      induction n0 with
      | zero => intro x3 a4 H locs ls Z hl hf; exact o_no hf
      | succ n0 ih0 =>
        intro x3 a4 H locs ls Z hl hf
        refine lv_iload (pc := 50) hx hb dX1_findChangedLines_50 (lv_at hl 3 rfl) ?_
        refine lv_aload_n (pc := 52) hx hb dX1_findChangedLines_52 rfl (lv_at hl 1 rfl) ?_
        refine z_get (pc := 53) (ref := "LotSheet$Bill") (ci := 0) (C := RX0) (T := TX0) (N := 11) hx hb hts iw_X1_findChangedLines_X0 hown Z 7 rfl rfl 1 (by decide) (List.mem_of_getElem? (i := 7) rfl) rfl rfl dX1_findChangedLines_53 ?_
        refine lv_icmp_ge (pc := 56) (tgt := 194) hx hb dX1_findChangedLines_56 (by decide) (fun c5 => ?_) (fun c5 => ?_)
        · replace hf := o_pos c5 hf
          cases hf
          exact z_vret (pc := 194) hx hb hr hlocks Z rfl dX1_findChangedLines_194
        · replace hf := o_neg c5 hf
          refine lv_aload_n (pc := 59) hx hb dX1_findChangedLines_59 rfl (lv_at hl 0 rfl) ?_
          refine z_get (pc := 60) (ref := "LotSheet$Choices") (ci := 1) (C := RX1) (T := TX1) (N := 8) hx hb hts iw_X1_findChangedLines_X1 hown Z 0 rfl rfl 3 (by decide) (List.mem_of_getElem? (i := 2) rfl) rfl rfl dX1_findChangedLines_60 ?_
          refine z_get (pc := 63) (ref := "LotSheet$Layout") (ci := 3) (C := RX3) (T := TX3) (N := 9) hx hb hts iw_X1_findChangedLines_X3 hown Z 1 rfl rfl 1 (by decide) (List.mem_of_getElem? (i := 8) rfl) rfl rfl dX1_findChangedLines_63 ?_
          refine lv_iload (pc := 66) hx hb dX1_findChangedLines_66 (lv_at hl 3 rfl) ?_
          obtain ⟨i6, hf⟩ := o_rdE hf
          refine z_iald (pc := 68) hx hb Z 3 0 rfl rfl i6 dX1_findChangedLines_68 ?_
          refine lv_topi (fun x7 ex7 => ?_)
          replace hf := o_letE ex7 hf
          refine lv_istore (pc := 69) (lv' := [(5, .int x7), (0, .ref (h 0)), (1, .ref (h 13)), (2, .ref (h 21)), (4, .int x3)]) hx hb dX1_findChangedLines_69 hl (by decide) rfl (fun ls hl => ?_)
          refine lv_iload (pc := 71) hx hb dX1_findChangedLines_71 (lv_at hl 0 rfl) ?_
          refine lv_aload_n (pc := 73) hx hb dX1_findChangedLines_73 rfl (lv_at hl 3 rfl) ?_
          refine z_get (pc := 74) (ref := "LotSheet$Layout") (ci := 3) (C := RX3) (T := TX3) (N := 9) hx hb hts iw_X1_findChangedLines_X3 hown Z 9 rfl rfl 1 (by decide) (List.mem_of_getElem? (i := 8) rfl) rfl rfl dX1_findChangedLines_74 ?_
          refine lv_iload (pc := 77) hx hb dX1_findChangedLines_77 (lv_at hl 4 rfl) ?_
          obtain ⟨i8, hf⟩ := o_rdE hf
          refine z_iald (pc := 79) hx hb Z 11 0 rfl rfl i8 dX1_findChangedLines_79 ?_
          obtain ⟨j108_11, ej108_11, hf⟩ := o_jnE hf
          have hj108_11 : ∀ (x10 : Int32) (H : Heap) (locs : List Loc) (ls : Array Slot), zw D (zTY cA) s A (W_X1_findChangedLines cA h c_count v_numberOf v_pageOf v_lineOf v_usedOn v_pages v_printedLots v_printedLines a4 c_priced b_height b_count b_room b_account b_lines y_numberOf y_pageOf y_lineOf y_usedOn y_pages y_printedLots y_printedLines) H locs → lv_has ls 8 [(0, .ref (h 0)), (1, .ref (h 13)), (2, .ref (h 21)), (4, .int x3), (5, .int x7)] → j108_11 x10 = some u → W p l e ({ frames := 1, cells := 0, slots := 0, locals := 21 } : Room) s m args below meth c H locs 0 0 (MQ below (zQv D (zTY cA) A (W_X1_findChangedLines cA h c_count v_numberOf v_pageOf v_lineOf v_usedOn v_pages v_printedLots v_printedLines u c_priced b_height b_count b_room b_account b_lines y_numberOf y_pageOf y_lineOf y_usedOn y_pages y_printedLots y_printedLines)) args s 0 0 A) (F0 m 108 ls [.int x10]) := by
            intro x10 H locs ls Z hl hf
            rw [ej108_11] at hf
            refine lv_istore (pc := 108) (lv' := [(6, .int x10), (0, .ref (h 0)), (1, .ref (h 13)), (2, .ref (h 21)), (4, .int x3), (5, .int x7)]) hx hb dX1_findChangedLines_108 hl (by decide) rfl (fun ls hl => ?_)
            refine lv_iload (pc := 110) hx hb dX1_findChangedLines_110 (lv_at hl 0 rfl) ?_
            refine lv_if_eq (pc := 112) (tgt := 188) hx hb dX1_findChangedLines_112 (by decide) (fun c12 => ?_) (fun c12 => ?_)
            · replace hf := o_pos c12 hf
              obtain ⟨x13, ex13⟩ : ∃ y : Int32, y = (x3 + (1 : Int32)) := ⟨_, rfl⟩
              replace hf := o_letE ex13 hf
              refine lv_iinc (pc := 188) (v := x13) (lv' := [(4, .int x13), (6, .int x10), (0, .ref (h 0)), (1, .ref (h 13)), (2, .ref (h 21)), (5, .int x7)]) hx hb dX1_findChangedLines_188 hl (k := 4) rfl (by rw [ex13]; rfl) (by decide) rfl (fun ls hl => ?_)
              refine lv_goto (pc := 191) (tgt := 50) hx hb dX1_findChangedLines_191 (by decide) ?_
              exact ih0 x13 a4 H locs ls Z (lv_sub hl [2, 3, 4, 0] rfl) hf
            · replace hf := o_neg c12 hf
              refine lv_iload (pc := 115) hx hb dX1_findChangedLines_115 (lv_at hl 5 rfl) ?_
              refine lv_if_lt (pc := 117) (tgt := 188) hx hb dX1_findChangedLines_117 (by decide) (fun c14 => ?_) (fun c14 => ?_)
              · replace hf := o_pos c14 hf
                obtain ⟨x15, ex15⟩ : ∃ y : Int32, y = (x3 + (1 : Int32)) := ⟨_, rfl⟩
                replace hf := o_letE ex15 hf
                refine lv_iinc (pc := 188) (v := x15) (lv' := [(4, .int x15), (6, .int x10), (0, .ref (h 0)), (1, .ref (h 13)), (2, .ref (h 21)), (5, .int x7)]) hx hb dX1_findChangedLines_188 hl (k := 4) rfl (by rw [ex15]; rfl) (by decide) rfl (fun ls hl => ?_)
                refine lv_goto (pc := 191) (tgt := 50) hx hb dX1_findChangedLines_191 (by decide) ?_
                exact ih0 x15 a4 H locs ls Z (lv_sub hl [2, 3, 4, 0] rfl) hf
              · replace hf := o_neg c14 hf
                refine lv_iload (pc := 120) hx hb dX1_findChangedLines_120 (lv_at hl 5 rfl) ?_
                refine lv_bipush (pc := 122) (v := (24 : Int32)) hx hb dX1_findChangedLines_122 (by decide) ?_
                refine lv_icmp_ge (pc := 124) (tgt := 188) hx hb dX1_findChangedLines_124 (by decide) (fun c16 => ?_) (fun c16 => ?_)
                · replace hf := o_pos c16 hf
                  obtain ⟨x17, ex17⟩ : ∃ y : Int32, y = (x3 + (1 : Int32)) := ⟨_, rfl⟩
                  replace hf := o_letE ex17 hf
                  refine lv_iinc (pc := 188) (v := x17) (lv' := [(4, .int x17), (6, .int x10), (0, .ref (h 0)), (1, .ref (h 13)), (2, .ref (h 21)), (5, .int x7)]) hx hb dX1_findChangedLines_188 hl (k := 4) rfl (by rw [ex17]; rfl) (by decide) rfl (fun ls hl => ?_)
                  refine lv_goto (pc := 191) (tgt := 50) hx hb dX1_findChangedLines_191 (by decide) ?_
                  exact ih0 x17 a4 H locs ls Z (lv_sub hl [2, 3, 4, 0] rfl) hf
                · replace hf := o_neg c16 hf
                  refine lv_aload_n (pc := 127) hx hb dX1_findChangedLines_127 rfl (lv_at hl 1 rfl) ?_
                  refine z_get (pc := 128) (ref := "LotSheet$Choices") (ci := 1) (C := RX1) (T := TX1) (N := 8) hx hb hts iw_X1_findChangedLines_X1 hown Z 0 rfl rfl 3 (by decide) (List.mem_of_getElem? (i := 2) rfl) rfl rfl dX1_findChangedLines_128 ?_
                  refine z_get (pc := 131) (ref := "LotSheet$Layout") (ci := 3) (C := RX3) (T := TX3) (N := 9) hx hb hts iw_X1_findChangedLines_X3 hown Z 1 rfl rfl 0 (by decide) (List.mem_of_getElem? (i := 10) rfl) rfl rfl dX1_findChangedLines_131 ?_
                  refine lv_iload (pc := 134) hx hb dX1_findChangedLines_134 (lv_at hl 4 rfl) ?_
                  obtain ⟨i18, hf⟩ := o_rdE hf
                  refine z_iald (pc := 136) hx hb Z 2 0 rfl rfl i18 dX1_findChangedLines_136 ?_
                  refine lv_aload_n (pc := 137) hx hb dX1_findChangedLines_137 rfl (lv_at hl 3 rfl) ?_
                  refine z_get (pc := 138) (ref := "LotSheet$Layout") (ci := 3) (C := RX3) (T := TX3) (N := 9) hx hb hts iw_X1_findChangedLines_X3 hown Z 9 rfl rfl 0 (by decide) (List.mem_of_getElem? (i := 10) rfl) rfl rfl dX1_findChangedLines_138 ?_
                  refine lv_iload (pc := 141) hx hb dX1_findChangedLines_141 (lv_at hl 4 rfl) ?_
                  obtain ⟨i19, hf⟩ := o_rdE hf
                  refine z_iald (pc := 143) hx hb Z 10 0 rfl rfl i19 dX1_findChangedLines_143 ?_
                  obtain ⟨j152_22, ej152_22, hf⟩ := o_jnE hf
                  have hj152_22 : ∀ (x21 : Int32) (H : Heap) (locs : List Loc) (ls : Array Slot), zw D (zTY cA) s A (W_X1_findChangedLines cA h c_count v_numberOf v_pageOf v_lineOf v_usedOn v_pages v_printedLots v_printedLines a4 c_priced b_height b_count b_room b_account b_lines y_numberOf y_pageOf y_lineOf y_usedOn y_pages y_printedLots y_printedLines) H locs → lv_has ls 8 [(0, .ref (h 0)), (1, .ref (h 13)), (2, .ref (h 21)), (4, .int x3), (5, .int x7)] → j152_22 x21 = some u → W p l e ({ frames := 1, cells := 0, slots := 0, locals := 21 } : Room) s m args below meth c H locs 0 0 (MQ below (zQv D (zTY cA) A (W_X1_findChangedLines cA h c_count v_numberOf v_pageOf v_lineOf v_usedOn v_pages v_printedLots v_printedLines u c_priced b_height b_count b_room b_account b_lines y_numberOf y_pageOf y_lineOf y_usedOn y_pages y_printedLots y_printedLines)) args s 0 0 A) (F0 m 152 ls [.int x21]) := by
                    intro x21 H locs ls Z hl hf
                    rw [ej152_22] at hf
                    refine lv_istore (pc := 152) (lv' := [(7, .int x21), (0, .ref (h 0)), (1, .ref (h 13)), (2, .ref (h 21)), (4, .int x3), (5, .int x7)]) hx hb dX1_findChangedLines_152 hl (by decide) rfl (fun ls hl => ?_)
                    refine lv_aload_n (pc := 154) hx hb dX1_findChangedLines_154 rfl (lv_at hl 1 rfl) ?_
                    refine z_get (pc := 155) (ref := "LotSheet$Choices") (ci := 1) (C := RX1) (T := TX1) (N := 8) hx hb hts iw_X1_findChangedLines_X1 hown Z 0 rfl rfl 5 (by decide) (List.mem_of_getElem? (i := 1) rfl) rfl rfl dX1_findChangedLines_155 ?_
                    refine lv_iload (pc := 158) hx hb dX1_findChangedLines_158 (lv_at hl 5 rfl) ?_
                    refine lv_dup2_11 (pc := 160) hx hb dX1_findChangedLines_160 rfl rfl ?_
                    obtain ⟨i23, hf⟩ := o_rdE hf
                    refine z_iald (pc := 161) hx hb Z 6 0 rfl rfl i23 dX1_findChangedLines_161 ?_
                    refine lv_iload (pc := 162) hx hb dX1_findChangedLines_162 (lv_at hl 0 rfl) ?_
                    obtain ⟨j186_26, ej186_26, hf⟩ := o_jnE hf
                    have hj186_26 : ∀ (x25 : Int32) (H : Heap) (locs : List Loc) (ls : Array Slot), zw D (zTY cA) s A (W_X1_findChangedLines cA h c_count v_numberOf v_pageOf v_lineOf v_usedOn v_pages v_printedLots v_printedLines a4 c_priced b_height b_count b_room b_account b_lines y_numberOf y_pageOf y_lineOf y_usedOn y_pages y_printedLots y_printedLines) H locs → lv_has ls 8 [(0, .ref (h 0)), (1, .ref (h 13)), (2, .ref (h 21)), (4, .int x3)] → j186_26 x25 = some u → W p l e ({ frames := 1, cells := 0, slots := 0, locals := 21 } : Room) s m args below meth c H locs 0 0 (MQ below (zQv D (zTY cA) A (W_X1_findChangedLines cA h c_count v_numberOf v_pageOf v_lineOf v_usedOn v_pages v_printedLots v_printedLines u c_priced b_height b_count b_room b_account b_lines y_numberOf y_pageOf y_lineOf y_usedOn y_pages y_printedLots y_printedLines)) args s 0 0 A) (F0 m 186 ls [.int x25, .int (a4 x7.toNatClampNeg), .int x7, .ref (h 11)]) := by
                      intro x25 H locs ls Z hl hf
                      rw [ej186_26] at hf
                      refine lv_isub (pc := 186) hx hb dX1_findChangedLines_186 ?_
                      obtain ⟨i27, hf⟩ := o_rdE hf
                      refine z_iast (pc := 187) hx hb Z 6 0 rfl rfl i27 dX1_findChangedLines_187 (fun g => (W_X1_findChangedLines cA h c_count v_numberOf v_pageOf v_lineOf v_usedOn v_pages v_printedLots v_printedLines g c_priced b_height b_count b_room b_account b_lines y_numberOf y_pageOf y_lineOf y_usedOn y_pages y_printedLots y_printedLines)) (fun _ => rfl) (fun a28 H locs ea28 Z => ?_)
                      replace hf := o_letE ea28 hf
                      obtain ⟨x29, ex29⟩ : ∃ y : Int32, y = (x3 + (1 : Int32)) := ⟨_, rfl⟩
                      replace hf := o_letE ex29 hf
                      refine lv_iinc (pc := 188) (v := x29) (lv' := [(4, .int x29), (0, .ref (h 0)), (1, .ref (h 13)), (2, .ref (h 21))]) hx hb dX1_findChangedLines_188 hl (k := 3) rfl (by rw [ex29]; rfl) (by decide) rfl (fun ls hl => ?_)
                      refine lv_goto (pc := 191) (tgt := 50) hx hb dX1_findChangedLines_191 (by decide) ?_
                      exact ih0 x29 a28 H locs ls Z (lv_sub hl [1, 2, 3, 0] rfl) hf
                    refine lv_if_eq (pc := 164) (tgt := 177) hx hb dX1_findChangedLines_164 (by decide) (fun c24 => ?_) (fun c24 => ?_)
                    · replace hf := o_pos c24 hf
                      refine lv_aload_n (pc := 177) hx hb dX1_findChangedLines_177 rfl (lv_at hl 2 rfl) ?_
                      refine z_get (pc := 178) (ref := "LotSheet$Bill") (ci := 0) (C := RX0) (T := TX0) (N := 11) hx hb hts iw_X1_findChangedLines_X0 hown Z 7 rfl rfl 5 (by decide) (List.mem_of_getElem? (i := 11) rfl) rfl rfl dX1_findChangedLines_178 ?_
                      refine lv_iload (pc := 181) hx hb dX1_findChangedLines_181 (lv_at hl 4 rfl) ?_
                      obtain ⟨i30, hf⟩ := o_rdE hf
                      refine z_iald (pc := 183) hx hb Z 8 0 rfl rfl i30 dX1_findChangedLines_183 ?_
                      refine lv_iconst (pc := 184) (v := (1 : Int32)) hx hb dX1_findChangedLines_184 (by decide) ?_
                      refine lv_isub (pc := 185) hx hb dX1_findChangedLines_185 ?_
                      exact hj186_26 ((b_lines x3.toNatClampNeg) - (1 : Int32)) H locs ls Z (lv_sub hl [1, 2, 3, 4] rfl) hf
                    · replace hf := o_neg c24 hf
                      refine lv_aload_n (pc := 167) hx hb dX1_findChangedLines_167 rfl (lv_at hl 2 rfl) ?_
                      refine z_get (pc := 168) (ref := "LotSheet$Bill") (ci := 0) (C := RX0) (T := TX0) (N := 11) hx hb hts iw_X1_findChangedLines_X0 hown Z 7 rfl rfl 5 (by decide) (List.mem_of_getElem? (i := 11) rfl) rfl rfl dX1_findChangedLines_168 ?_
                      refine lv_iload (pc := 171) hx hb dX1_findChangedLines_171 (lv_at hl 4 rfl) ?_
                      obtain ⟨i31, hf⟩ := o_rdE hf
                      refine z_iald (pc := 173) hx hb Z 8 0 rfl rfl i31 dX1_findChangedLines_173 ?_
                      refine lv_goto (pc := 174) (tgt := 186) hx hb dX1_findChangedLines_174 (by decide) ?_
                      exact hj186_26 (b_lines x3.toNatClampNeg) H locs ls Z (lv_sub hl [1, 2, 3, 4] rfl) hf
                  refine lv_icmp_ne (pc := 144) (tgt := 151) hx hb dX1_findChangedLines_144 (by decide) (fun c20 => ?_) (fun c20 => ?_)
                  · replace hf := o_neg c20 hf
                    refine lv_iconst (pc := 151) (v := (0 : Int32)) hx hb dX1_findChangedLines_151 (by decide) ?_
                    exact hj152_22 (0 : Int32) H locs ls Z (lv_sub hl [1, 2, 3, 4, 5] rfl) hf
                  · replace hf := o_pos c20 hf
                    refine lv_iconst (pc := 147) (v := (1 : Int32)) hx hb dX1_findChangedLines_147 (by decide) ?_
                    refine lv_goto (pc := 148) (tgt := 152) hx hb dX1_findChangedLines_148 (by decide) ?_
                    exact hj152_22 (1 : Int32) H locs ls Z (lv_sub hl [1, 2, 3, 4, 5] rfl) hf
          refine lv_icmp_ne (pc := 80) (tgt := 107) hx hb dX1_findChangedLines_80 (by decide) (fun c9 => ?_) (fun c9 => ?_)
          · replace hf := o_neg c9 hf
            refine lv_iconst (pc := 107) (v := (0 : Int32)) hx hb dX1_findChangedLines_107 (by decide) ?_
            exact hj108_11 (0 : Int32) H locs ls Z (lv_sub hl [1, 2, 3, 4, 0] rfl) hf
          · replace hf := o_pos c9 hf
            refine lv_aload_n (pc := 83) hx hb dX1_findChangedLines_83 rfl (lv_at hl 1 rfl) ?_
            refine z_get (pc := 84) (ref := "LotSheet$Choices") (ci := 1) (C := RX1) (T := TX1) (N := 8) hx hb hts iw_X1_findChangedLines_X1 hown Z 0 rfl rfl 3 (by decide) (List.mem_of_getElem? (i := 2) rfl) rfl rfl dX1_findChangedLines_84 ?_
            refine z_get (pc := 87) (ref := "LotSheet$Layout") (ci := 3) (C := RX3) (T := TX3) (N := 9) hx hb hts iw_X1_findChangedLines_X3 hown Z 1 rfl rfl 2 (by decide) (List.mem_of_getElem? (i := 9) rfl) rfl rfl dX1_findChangedLines_87 ?_
            refine lv_iload (pc := 90) hx hb dX1_findChangedLines_90 (lv_at hl 4 rfl) ?_
            obtain ⟨i32, hf⟩ := o_rdE hf
            refine z_iald (pc := 92) hx hb Z 4 0 rfl rfl i32 dX1_findChangedLines_92 ?_
            refine lv_aload_n (pc := 93) hx hb dX1_findChangedLines_93 rfl (lv_at hl 3 rfl) ?_
            refine z_get (pc := 94) (ref := "LotSheet$Layout") (ci := 3) (C := RX3) (T := TX3) (N := 9) hx hb hts iw_X1_findChangedLines_X3 hown Z 9 rfl rfl 2 (by decide) (List.mem_of_getElem? (i := 9) rfl) rfl rfl dX1_findChangedLines_94 ?_
            refine lv_iload (pc := 97) hx hb dX1_findChangedLines_97 (lv_at hl 4 rfl) ?_
            obtain ⟨i33, hf⟩ := o_rdE hf
            refine z_iald (pc := 99) hx hb Z 12 0 rfl rfl i33 dX1_findChangedLines_99 ?_
            refine lv_icmp_ne (pc := 100) (tgt := 107) hx hb dX1_findChangedLines_100 (by decide) (fun c34 => ?_) (fun c34 => ?_)
            · replace hf := o_neg c34 hf
              refine lv_iconst (pc := 107) (v := (0 : Int32)) hx hb dX1_findChangedLines_107 (by decide) ?_
              exact hj108_11 (0 : Int32) H locs ls Z (lv_sub hl [1, 2, 3, 4, 0] rfl) hf
            · replace hf := o_pos c34 hf
              refine lv_iconst (pc := 103) (v := (1 : Int32)) hx hb dX1_findChangedLines_103 (by decide) ?_
              refine lv_goto (pc := 104) (tgt := 108) hx hb dX1_findChangedLines_104 (by decide) ?_
              exact hj108_11 (1 : Int32) H locs ls Z (lv_sub hl [1, 2, 3, 4, 0] rfl) hf
    exact hL50 1024 (0 : Int32) a1 H locs ls Z (lv_sub hl [1, 2, 3, 0] rfl) hf
  have hL3 : ∀ (n0 : Nat) (x35 : Int32) (a36 : Nat → Int32) (H : Heap) (locs : List Loc) (ls : Array Slot), zw D (zTY cA) s A (W_X1_findChangedLines cA h c_count v_numberOf v_pageOf v_lineOf v_usedOn v_pages v_printedLots v_printedLines a36 c_priced b_height b_count b_room b_account b_lines y_numberOf y_pageOf y_lineOf y_usedOn y_pages y_printedLots y_printedLines) H locs → lv_has ls 8 [(0, .ref (h 0)), (1, .ref (h 13)), (2, .ref (h 21)), (3, .int p3), (4, .int x35)] → fX1_findChangedLines_L3 p3 j47_2 y_usedOn y_pages v_usedOn v_pages n0 x35 a36 = some u → W p l e ({ frames := 1, cells := 0, slots := 0, locals := 21 } : Room) s m args below meth c H locs 0 0 (MQ below (zQv D (zTY cA) A (W_X1_findChangedLines cA h c_count v_numberOf v_pageOf v_lineOf v_usedOn v_pages v_printedLots v_printedLines u c_priced b_height b_count b_room b_account b_lines y_numberOf y_pageOf y_lineOf y_usedOn y_pages y_printedLots y_printedLines)) args s 0 0 A) (F0 m 3 ls []) := by
    intro n0
    induction n0 with
    | zero => intro x35 a36 H locs ls Z hl hf; exact o_no hf
    | succ n0 ih0 =>
      intro x35 a36 H locs ls Z hl hf
      refine lv_iload (pc := 3) hx hb dX1_findChangedLines_3 (lv_at hl 4 rfl) ?_
      refine lv_iload_n (pc := 5) hx hb dX1_findChangedLines_5 rfl (lv_at hl 3 rfl) ?_
      refine lv_icmp_ge (pc := 6) (tgt := 47) hx hb dX1_findChangedLines_6 (by decide) (fun c37 => ?_) (fun c37 => ?_)
      · replace hf := o_pos c37 hf
        exact hj47_2 a36 H locs ls Z (lv_sub hl [0, 1, 2] rfl) hf
      · replace hf := o_neg c37 hf
        refine lv_iload (pc := 9) hx hb dX1_findChangedLines_9 (lv_at hl 4 rfl) ?_
        refine lv_bipush (pc := 11) (v := (24 : Int32)) hx hb dX1_findChangedLines_11 (by decide) ?_
        refine lv_icmp_ge (pc := 13) (tgt := 47) hx hb dX1_findChangedLines_13 (by decide) (fun c38 => ?_) (fun c38 => ?_)
        · replace hf := o_pos c38 hf
          exact hj47_2 a36 H locs ls Z (lv_sub hl [0, 1, 2] rfl) hf
        · replace hf := o_neg c38 hf
          refine lv_aload_n (pc := 16) hx hb dX1_findChangedLines_16 rfl (lv_at hl 0 rfl) ?_
          refine z_get (pc := 17) (ref := "LotSheet$Choices") (ci := 1) (C := RX1) (T := TX1) (N := 8) hx hb hts iw_X1_findChangedLines_X1 hown Z 0 rfl rfl 5 (by decide) (List.mem_of_getElem? (i := 1) rfl) rfl rfl dX1_findChangedLines_17 ?_
          refine lv_iload (pc := 20) hx hb dX1_findChangedLines_20 (lv_at hl 4 rfl) ?_
          refine lv_aload_n (pc := 22) hx hb dX1_findChangedLines_22 rfl (lv_at hl 2 rfl) ?_
          refine lv_iload (pc := 23) hx hb dX1_findChangedLines_23 (lv_at hl 4 rfl) ?_
          obtain ⟨x39, q40, hf⟩ := o_bindE hf
          refine z_callVi (pc := 25) (As := [.int x35]) (rest := [.int x35, .ref (h 11)]) (Wc := (W_X3_linesUsedOn cA (fun k => h ([21, 22, 23, 24, 25, 26, 27].getD k 0)) y_usedOn y_pages y_printedLots y_printedLines)) (W1 := (W_X3_linesUsedOn cA (fun k => h ([21, 22, 23, 24, 25, 26, 27].getD k 0)) y_usedOn y_pages y_printedLots y_printedLines)) (W2 := (W_X1_findChangedLines cA h c_count v_numberOf v_pageOf v_lineOf v_usedOn v_pages v_printedLots v_printedLines a36 c_priced b_height b_count b_room b_account b_lines y_numberOf y_pageOf y_lineOf y_usedOn y_pages y_printedLots y_printedLines)) ⟨hx, hb, hml, hown, hts⟩ (kX3_linesUsedOn l D cA (fun k => h ([21, 22, 23, 24, 25, 26, 27].getD k 0)) x35 y_usedOn y_pages y_printedLots y_printedLines _ q40) (cwV 1 hts gX1_findChangedLines_X3_linesUsedOn rfl rfl rfl (by decide +kernel) ⟨Nat.le_of_ble_eq_true rfl, Nat.le_of_ble_eq_true rfl⟩) Z hA [9, 13] rfl (by decide) rfl (ci := 3) rfl rfl rfl rfl hl.1 rfl (Nat.le_of_ble_eq_true rfl) dX1_findChangedLines_25 ⟨Nat.zero_le _, Nat.zero_le _⟩ [none, none, none, none, none, none, none, none, none, some 0, none, none, none, some 1] rfl ⟨rfl, rfl, rfl, rfl, rfl, rfl, rfl, rfl, rfl, rfl, rfl, rfl, rfl, rfl, rfl⟩ (fun H locs Z => ?_)
          refine lv_aload_n (pc := 28) hx hb dX1_findChangedLines_28 rfl (lv_at hl 0 rfl) ?_
          refine z_get (pc := 29) (ref := "LotSheet$Choices") (ci := 1) (C := RX1) (T := TX1) (N := 8) hx hb hts iw_X1_findChangedLines_X1 hown Z 0 rfl rfl 3 (by decide) (List.mem_of_getElem? (i := 2) rfl) rfl rfl dX1_findChangedLines_29 ?_
          refine lv_iload (pc := 32) hx hb dX1_findChangedLines_32 (lv_at hl 4 rfl) ?_
          obtain ⟨x41, q42, hf⟩ := o_bindE hf
          refine z_callVi (pc := 34) (As := [.int x35]) (rest := [.int x39, .int x35, .ref (h 11)]) (Wc := (W_X3_linesUsedOn cA (fun k => h ([3, 4, 5, 6, 7, 8, 9].getD k 0)) v_usedOn v_pages v_printedLots v_printedLines)) (W1 := (W_X3_linesUsedOn cA (fun k => h ([3, 4, 5, 6, 7, 8, 9].getD k 0)) v_usedOn v_pages v_printedLots v_printedLines)) (W2 := (W_X1_findChangedLines cA h c_count v_numberOf v_pageOf v_lineOf v_usedOn v_pages v_printedLots v_printedLines a36 c_priced b_height b_count b_room b_account b_lines y_numberOf y_pageOf y_lineOf y_usedOn y_pages y_printedLots y_printedLines)) ⟨hx, hb, hml, hown, hts⟩ (kX3_linesUsedOn l D cA (fun k => h ([3, 4, 5, 6, 7, 8, 9].getD k 0)) x35 v_usedOn v_pages v_printedLots v_printedLines _ q42) (cwV 1 hts gX1_findChangedLines_X3_linesUsedOn rfl rfl rfl (by decide +kernel) ⟨Nat.le_of_ble_eq_true rfl, Nat.le_of_ble_eq_true rfl⟩) Z hA [1, 5] rfl (by decide) rfl (ci := 3) rfl rfl rfl rfl hl.1 rfl (Nat.le_of_ble_eq_true rfl) dX1_findChangedLines_34 ⟨Nat.zero_le _, Nat.zero_le _⟩ [none, some 0, none, none, none, some 1, none, none, none, none, none, none, none, none] rfl ⟨rfl, rfl, rfl, rfl, rfl, rfl, rfl, rfl, rfl, rfl, rfl, rfl, rfl, rfl, rfl⟩ (fun H locs Z => ?_)
          refine va_mmax (pc := 37) hx hb (hml.trans hl.1.symm) hown (hts _ (List.mem_of_getElem? (i := 3) rfl)) (hts _ (List.mem_of_getElem? (i := 4) rfl)) (hts _ (List.mem_of_getElem? (i := 5) rfl)) (hts _ (List.mem_of_getElem? (i := 6) rfl)) (Nat.le_of_ble_eq_true rfl) (Nat.le_of_ble_eq_true rfl) (Nat.zero_le _) (Nat.zero_le _) dX1_findChangedLines_37 ?_
          obtain ⟨i43, hf⟩ := o_rdE hf
          refine z_iast (pc := 40) hx hb Z 6 0 rfl rfl i43 dX1_findChangedLines_40 (fun g => (W_X1_findChangedLines cA h c_count v_numberOf v_pageOf v_lineOf v_usedOn v_pages v_printedLots v_printedLines g c_priced b_height b_count b_room b_account b_lines y_numberOf y_pageOf y_lineOf y_usedOn y_pages y_printedLots y_printedLines)) (fun _ => rfl) (fun a44 H locs ea44 Z => ?_)
          replace hf := o_letE ea44 hf
          obtain ⟨x45, ex45⟩ : ∃ y : Int32, y = (x35 + (1 : Int32)) := ⟨_, rfl⟩
          replace hf := o_letE ex45 hf
          refine lv_iinc (pc := 41) (v := x45) (lv' := [(4, .int x45), (0, .ref (h 0)), (1, .ref (h 13)), (2, .ref (h 21)), (3, .int p3)]) hx hb dX1_findChangedLines_41 hl (k := 4) rfl (by rw [ex45]; rfl) (by decide) rfl (fun ls hl => ?_)
          refine lv_goto (pc := 44) (tgt := 3) hx hb dX1_findChangedLines_44 (by decide) ?_
          exact ih0 x45 a44 H locs ls Z (lv_sub hl [1, 2, 3, 4, 0] rfl) hf
  exact hL3 1024 (0 : Int32) c_changedOn H locs ls Z (lv_sub hl [1, 2, 3, 4, 0] rfl) hf
