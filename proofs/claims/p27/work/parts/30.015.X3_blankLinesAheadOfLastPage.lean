def W_X3_blankLinesAheadOfLastPage (cA : Nat → ClassId) (h : Nat → Nat) (y_usedOn : Nat → Int32) (y_pages : Int32) (y_printedLots : Int32) (y_printedLines : Int32) : va_W := [(h 0, .inr (3, [.ref (h 1), .ref (h 2), .ref (h 3), .ref (h 4), .ref (h 5), .ref (h 6), .int y_pages, .int y_printedLots, .int y_printedLines])), (h 4, .inl (cA 0, 24, .inl y_usedOn))]
def fX3_blankLinesAheadOfLastPage_L4 (y_pages : Int32) (p1 : Int32) (y_usedOn : Nat → Int32) : Nat → Int32 → Int32 → Option (Int32)
  | 0, _, _ => none
  | n0 + 1, x1, x2 => (if (y_pages - (1 : Int32)) ≤ x2 then some (x1) else o_rd 24 x2 (o_let (x1 + (p1 - (y_usedOn x2.toNatClampNeg))) (fun x5 => o_let (x2 + (1 : Int32)) (fun x6 => (fX3_blankLinesAheadOfLastPage_L4 y_pages p1 y_usedOn n0 x5 x6)))))
def fX3_blankLinesAheadOfLastPage (p1 : Int32) (y_usedOn : Nat → Int32) (y_pages : Int32) : Option (Int32) := (fX3_blankLinesAheadOfLastPage_L4 y_pages p1 y_usedOn 1024 (0 : Int32) (0 : Int32))
theorem iw_X3_blankLinesAheadOfLastPage_X3 : ∀ w ∈ u_ws RX3 TX3 9, w ∈ wsX3_blankLinesAheadOfLastPage := z_inr [3, 4, 5, 6, 7, 8, 9, 10, 11] rfl
set_option maxHeartbeats 4000000 in
set_option maxRecDepth 100000 in
theorem kX3_blankLinesAheadOfLastPage (l : Launch) (D : va_G) (cA : Nat → ClassId) (h : Nat → Nat) (p1 : Int32) (y_usedOn : Nat → Int32) (y_pages : Int32) (y_printedLots : Int32) (y_printedLines : Int32) (u : Int32) (hf : fX3_blankLinesAheadOfLastPage p1 y_usedOn y_pages = some u) : zMi l yX3_blankLinesAheadOfLastPage wsX3_blankLinesAheadOfLastPage ({ frames := 0, cells := 0, slots := 0, locals := 0 } : Room) D (zTY cA) [.ref (h 0), .int p1] (W_X3_blankLinesAheadOfLastPage cA h y_usedOn y_pages y_printedLots y_printedLines) (W_X3_blankLinesAheadOfLastPage cA h y_usedOn y_pages y_printedLots y_printedLines) u := by
  refine z_starti (cc := cX3_blankLinesAheadOfLastPage) (maxL := 4) (ret := (some .int)) (by decide) rfl (Nat.le_of_ble_eq_true rfl) ?_
  intro p e s m args below meth c A hx hb hr hts hown hlocks hml hA Z ls hl
  replace hown : s.vm.findClass RX3 = some m.cls := hown
  replace hl : lv_has ls 4 [(0, .ref (h 0)), (1, .int p1)] := hl
  obtain ⟨H, hH⟩ : ∃ H, H = s.heap := ⟨_, rfl⟩
  rw [← hH] at Z ⊢
  clear hH
  obtain ⟨locs, hlc⟩ : ∃ q : List Loc, q = [] := ⟨_, rfl⟩
  rw [← hlc] at Z ⊢
  clear hlc
  refine lv_iconst (pc := 0) (v := (0 : Int32)) hx hb dX3_blankLinesAheadOfLastPage_0 (by decide) ?_
  refine lv_istore_n (pc := 1) (lv' := [(2, .int (0 : Int32)), (0, .ref (h 0)), (1, .int p1)]) hx hb dX3_blankLinesAheadOfLastPage_1 rfl hl (by decide) rfl (fun ls hl => ?_)
  refine lv_iconst (pc := 2) (v := (0 : Int32)) hx hb dX3_blankLinesAheadOfLastPage_2 (by decide) ?_
  refine lv_istore_n (pc := 3) (lv' := [(3, .int (0 : Int32)), (2, .int (0 : Int32)), (0, .ref (h 0)), (1, .int p1)]) hx hb dX3_blankLinesAheadOfLastPage_3 rfl hl (by decide) rfl (fun ls hl => ?_)
  have hL4 : ∀ (n0 : Nat) (x1 : Int32) (x2 : Int32) (H : Heap) (locs : List Loc) (ls : Array Slot), zw D (zTY cA) s A (W_X3_blankLinesAheadOfLastPage cA h y_usedOn y_pages y_printedLots y_printedLines) H locs → lv_has ls 4 [(0, .ref (h 0)), (1, .int p1), (2, .int x1), (3, .int x2)] → fX3_blankLinesAheadOfLastPage_L4 y_pages p1 y_usedOn n0 x1 x2 = some u → W p l e ({ frames := 0, cells := 0, slots := 0, locals := 0 } : Room) s m args below meth c H locs 0 0 (MQ below (zQi D (zTY cA) A (W_X3_blankLinesAheadOfLastPage cA h y_usedOn y_pages y_printedLots y_printedLines) u) args s 0 0 A) (F0 m 4 ls []) := by
    intro n0
    induction n0 with
    | zero => intro x1 x2 H locs ls Z hl hf; exact o_no hf
    | succ n0 ih0 =>
      intro x1 x2 H locs ls Z hl hf
      refine lv_iload_n (pc := 4) hx hb dX3_blankLinesAheadOfLastPage_4 rfl (lv_at hl 3 rfl) ?_
      refine lv_aload_n (pc := 5) hx hb dX3_blankLinesAheadOfLastPage_5 rfl (lv_at hl 0 rfl) ?_
      refine z_get (pc := 6) (ref := "LotSheet$Layout") (ci := 3) (C := RX3) (T := TX3) (N := 9) hx hb hts iw_X3_blankLinesAheadOfLastPage_X3 hown Z 0 rfl rfl 6 (by decide) (List.mem_of_getElem? (i := 1) rfl) rfl rfl dX3_blankLinesAheadOfLastPage_6 ?_
      refine lv_iconst (pc := 9) (v := (1 : Int32)) hx hb dX3_blankLinesAheadOfLastPage_9 (by decide) ?_
      refine lv_isub (pc := 10) hx hb dX3_blankLinesAheadOfLastPage_10 ?_
      refine lv_icmp_ge (pc := 11) (tgt := 31) hx hb dX3_blankLinesAheadOfLastPage_11 (by decide) (fun c3 => ?_) (fun c3 => ?_)
      · replace hf := o_pos c3 hf
        refine lv_iload_n (pc := 31) hx hb dX3_blankLinesAheadOfLastPage_31 rfl (lv_at hl 2 rfl) ?_
        cases hf
        exact z_iret (pc := 32) hx hb hr hlocks Z rfl rfl dX3_blankLinesAheadOfLastPage_32
      · replace hf := o_neg c3 hf
        refine lv_iload_n (pc := 14) hx hb dX3_blankLinesAheadOfLastPage_14 rfl (lv_at hl 2 rfl) ?_
        refine lv_iload_n (pc := 15) hx hb dX3_blankLinesAheadOfLastPage_15 rfl (lv_at hl 1 rfl) ?_
        refine lv_aload_n (pc := 16) hx hb dX3_blankLinesAheadOfLastPage_16 rfl (lv_at hl 0 rfl) ?_
        refine z_get (pc := 17) (ref := "LotSheet$Layout") (ci := 3) (C := RX3) (T := TX3) (N := 9) hx hb hts iw_X3_blankLinesAheadOfLastPage_X3 hown Z 0 rfl rfl 3 (by decide) (List.mem_of_getElem? (i := 2) rfl) rfl rfl dX3_blankLinesAheadOfLastPage_17 ?_
        refine lv_iload_n (pc := 20) hx hb dX3_blankLinesAheadOfLastPage_20 rfl (lv_at hl 3 rfl) ?_
        obtain ⟨i4, hf⟩ := o_rdE hf
        refine z_iald (pc := 21) hx hb Z 1 0 rfl rfl i4 dX3_blankLinesAheadOfLastPage_21 ?_
        refine lv_isub (pc := 22) hx hb dX3_blankLinesAheadOfLastPage_22 ?_
        refine lv_iadd (pc := 23) hx hb dX3_blankLinesAheadOfLastPage_23 ?_
        refine lv_topi (fun x5 ex5 => ?_)
        replace hf := o_letE ex5 hf
        refine lv_istore_n (pc := 24) (lv' := [(2, .int x5), (0, .ref (h 0)), (1, .int p1), (3, .int x2)]) hx hb dX3_blankLinesAheadOfLastPage_24 rfl hl (by decide) rfl (fun ls hl => ?_)
        obtain ⟨x6, ex6⟩ : ∃ y : Int32, y = (x2 + (1 : Int32)) := ⟨_, rfl⟩
        replace hf := o_letE ex6 hf
        refine lv_iinc (pc := 25) (v := x6) (lv' := [(3, .int x6), (2, .int x5), (0, .ref (h 0)), (1, .int p1)]) hx hb dX3_blankLinesAheadOfLastPage_25 hl (k := 3) rfl (by rw [ex6]; rfl) (by decide) rfl (fun ls hl => ?_)
        refine lv_goto (pc := 28) (tgt := 4) hx hb dX3_blankLinesAheadOfLastPage_28 (by decide) ?_
        exact ih0 x5 x6 H locs ls Z (lv_sub hl [2, 3, 1, 0] rfl) hf
  exact hL4 1024 (0 : Int32) (0 : Int32) H locs ls Z (lv_sub hl [2, 3, 1, 0] rfl) hf
