def W_X3_place (cA : Nat → ClassId) (h : Nat → Nat) (y_numberOf : Nat → Int32) (y_pageOf : Nat → Int32) (y_lineOf : Nat → Int32) (y_usedOn : Nat → Int32) (y_lotsOn : Nat → Int32) (y_firstOn : Nat → Int32) (y_pages : Int32) (y_printedLots : Int32) (y_printedLines : Int32) : va_W := [(h 0, .inr (3, [.ref (h 1), .ref (h 2), .ref (h 3), .ref (h 4), .ref (h 5), .ref (h 6), .int y_pages, .int y_printedLots, .int y_printedLines])), (h 1, .inl (cA 0, 24, .inl y_numberOf)), (h 2, .inl (cA 0, 24, .inl y_pageOf)), (h 3, .inl (cA 0, 24, .inl y_lineOf)), (h 4, .inl (cA 0, 24, .inl y_usedOn)), (h 5, .inl (cA 0, 24, .inl y_lotsOn)), (h 6, .inl (cA 0, 24, .inl y_firstOn))]
def fX3_place (p1 : Int32) (p2 : Int32) (p3 : Int32) (y_numberOf : Nat → Int32) (y_pageOf : Nat → Int32) (y_lineOf : Nat → Int32) (y_usedOn : Nat → Int32) (y_lotsOn : Nat → Int32) (y_firstOn : Nat → Int32) (y_pages : Int32) (y_printedLots : Int32) (y_printedLines : Int32) : Option ((Nat → Int32) × (Nat → Int32) × (Nat → Int32) × (Nat → Int32) × (Nat → Int32) × (Nat → Int32) × Int32 × Int32 × Int32) := o_let (fun (x2 : Int32) => o_let (fun (a5 : Nat → Int32) (a6 : Nat → Int32) (a7 : Nat → Int32) (x8 : Int32) => o_let (x8 - (1 : Int32)) (fun x10 => o_let (y_printedLots + (1 : Int32)) (fun x11 => o_let (y_printedLines + p2) (fun x12 => o_rd 24 p1 (o_let (upd y_numberOf p1.toNatClampNeg x11) (fun a14 => o_rd 24 p1 (o_let (upd y_pageOf p1.toNatClampNeg x10) (fun a16 => o_rd 24 x10 (o_rd 24 p1 (o_let (upd y_lineOf p1.toNatClampNeg (a5 x10.toNatClampNeg)) (fun a19 => o_rd 24 x10 (o_rd 24 x10 (o_let (upd a5 x10.toNatClampNeg ((a5 x10.toNatClampNeg) + p2)) (fun a22 => o_rd 24 x10 (o_rd 24 x10 (o_let (upd a6 x10.toNatClampNeg ((a6 x10.toNatClampNeg) + (1 : Int32))) (fun a25 => some (a14, a16, a19, a22, a25, a7, x8, x11, x12)))))))))))))))))) (fun (j85_9 : (Nat → Int32) → (Nat → Int32) → (Nat → Int32) → Int32 → Option ((Nat → Int32) × (Nat → Int32) × (Nat → Int32) × (Nat → Int32) × (Nat → Int32) × (Nat → Int32) × Int32 × Int32 × Int32)) => (if x2 = 0 then (if (24 : Int32) ≤ y_pages then (j85_9 y_usedOn y_lotsOn y_firstOn y_pages) else o_rd 24 y_pages (o_let (upd y_usedOn y_pages.toNatClampNeg (0 : Int32)) (fun a28 => o_rd 24 y_pages (o_let (upd y_lotsOn y_pages.toNatClampNeg (0 : Int32)) (fun a30 => o_rd 24 y_pages (o_let (upd y_firstOn y_pages.toNatClampNeg p1) (fun a32 => o_let (y_pages + (1 : Int32)) (fun x33 => (j85_9 a28 a30 a32 x33))))))))) else (j85_9 y_usedOn y_lotsOn y_firstOn y_pages)))) (fun (j29_3 : Int32 → Option ((Nat → Int32) × (Nat → Int32) × (Nat → Int32) × (Nat → Int32) × (Nat → Int32) × (Nat → Int32) × Int32 × Int32 × Int32)) => (if y_pages ≤ 0 then (j29_3 (0 : Int32)) else o_rd 24 (y_pages - (1 : Int32)) ((if p3 < ((y_usedOn (y_pages - (1 : Int32)).toNatClampNeg) + p2) then (j29_3 (0 : Int32)) else (j29_3 (1 : Int32))))))
theorem iw_X3_place_X3 : ∀ w ∈ u_ws RX3 TX3 9, w ∈ wsX3_place := z_inr [10, 11, 12, 13, 14, 15, 16, 17, 18] rfl
set_option maxHeartbeats 4000000 in
set_option maxRecDepth 100000 in
theorem kX3_place (l : Launch) (D : va_G) (cA : Nat → ClassId) (h : Nat → Nat) (p1 : Int32) (p2 : Int32) (p3 : Int32) (y_numberOf : Nat → Int32) (y_pageOf : Nat → Int32) (y_lineOf : Nat → Int32) (y_usedOn : Nat → Int32) (y_lotsOn : Nat → Int32) (y_firstOn : Nat → Int32) (y_pages : Int32) (y_printedLots : Int32) (y_printedLines : Int32) (u : (Nat → Int32) × (Nat → Int32) × (Nat → Int32) × (Nat → Int32) × (Nat → Int32) × (Nat → Int32) × Int32 × Int32 × Int32) (hf : fX3_place p1 p2 p3 y_numberOf y_pageOf y_lineOf y_usedOn y_lotsOn y_firstOn y_pages y_printedLots y_printedLines = some u) : zMv l yX3_place wsX3_place ({ frames := 0, cells := 0, slots := 0, locals := 0 } : Room) D (zTY cA) [.ref (h 0), .int p1, .int p2, .int p3] (W_X3_place cA h y_numberOf y_pageOf y_lineOf y_usedOn y_lotsOn y_firstOn y_pages y_printedLots y_printedLines) (W_X3_place cA h (u.1) (u.2.1) (u.2.2.1) (u.2.2.2.1) (u.2.2.2.2.1) (u.2.2.2.2.2.1) (u.2.2.2.2.2.2.1) (u.2.2.2.2.2.2.2.1) (u.2.2.2.2.2.2.2.2)) := by
  refine z_startv (cc := cX3_place) (maxL := 6) (ret := none) (by decide) rfl (Nat.le_of_ble_eq_true rfl) ?_
  intro p e s m args below meth c A hx hb hr hts hown hlocks hml hA Z ls hl
  replace hown : s.vm.findClass RX3 = some m.cls := hown
  replace hl : lv_has ls 6 [(0, .ref (h 0)), (1, .int p1), (2, .int p2), (3, .int p3)] := hl
  obtain ⟨H, hH⟩ : ∃ H, H = s.heap := ⟨_, rfl⟩
  rw [← hH] at Z ⊢
  clear hH
  obtain ⟨locs, hlc⟩ : ∃ q : List Loc, q = [] := ⟨_, rfl⟩
  rw [← hlc] at Z ⊢
  clear hlc
  refine lv_aload_n (pc := 0) hx hb dX3_place_0 rfl (lv_at hl 0 rfl) ?_
  refine z_get (pc := 1) (ref := "LotSheet$Layout") (ci := 3) (C := RX3) (T := TX3) (N := 9) hx hb hts iw_X3_place_X3 hown Z 0 rfl rfl 6 (by decide) (List.mem_of_getElem? (i := 1) rfl) rfl rfl dX3_place_1 ?_
  obtain ⟨j29_3, ej29_3, hf⟩ := o_jnE hf
  have hj29_3 : ∀ (x2 : Int32) (H : Heap) (locs : List Loc) (ls : Array Slot), zw D (zTY cA) s A (W_X3_place cA h y_numberOf y_pageOf y_lineOf y_usedOn y_lotsOn y_firstOn y_pages y_printedLots y_printedLines) H locs → lv_has ls 6 [(0, .ref (h 0)), (1, .int p1), (2, .int p2)] → j29_3 x2 = some u → W p l e ({ frames := 0, cells := 0, slots := 0, locals := 0 } : Room) s m args below meth c H locs 0 0 (MQ below (zQv D (zTY cA) A (W_X3_place cA h (u.1) (u.2.1) (u.2.2.1) (u.2.2.2.1) (u.2.2.2.2.1) (u.2.2.2.2.2.1) (u.2.2.2.2.2.2.1) (u.2.2.2.2.2.2.2.1) (u.2.2.2.2.2.2.2.2))) args s 0 0 A) (F0 m 29 ls [.int x2]) := by
    intro x2 H locs ls Z hl hf
    rw [ej29_3] at hf
    refine lv_istore (pc := 29) (lv' := [(4, .int x2), (0, .ref (h 0)), (1, .int p1), (2, .int p2)]) hx hb dX3_place_29 hl (by decide) rfl (fun ls hl => ?_)
    refine lv_iload (pc := 31) hx hb dX3_place_31 (lv_at hl 0 rfl) ?_
    obtain ⟨j85_9, ej85_9, hf⟩ := o_jnE hf
    have hj85_9 : ∀ (a5 : Nat → Int32) (a6 : Nat → Int32) (a7 : Nat → Int32) (x8 : Int32) (H : Heap) (locs : List Loc) (ls : Array Slot), zw D (zTY cA) s A (W_X3_place cA h y_numberOf y_pageOf y_lineOf a5 a6 a7 x8 y_printedLots y_printedLines) H locs → lv_has ls 6 [(0, .ref (h 0)), (1, .int p1), (2, .int p2)] → j85_9 a5 a6 a7 x8 = some u → W p l e ({ frames := 0, cells := 0, slots := 0, locals := 0 } : Room) s m args below meth c H locs 0 0 (MQ below (zQv D (zTY cA) A (W_X3_place cA h (u.1) (u.2.1) (u.2.2.1) (u.2.2.2.1) (u.2.2.2.2.1) (u.2.2.2.2.2.1) (u.2.2.2.2.2.2.1) (u.2.2.2.2.2.2.2.1) (u.2.2.2.2.2.2.2.2))) args s 0 0 A) (F0 m 85 ls []) := by
      intro a5 a6 a7 x8 H locs ls Z hl hf
      rw [ej85_9] at hf
      refine lv_aload_n (pc := 85) hx hb dX3_place_85 rfl (lv_at hl 0 rfl) ?_
      refine z_get (pc := 86) (ref := "LotSheet$Layout") (ci := 3) (C := RX3) (T := TX3) (N := 9) hx hb hts iw_X3_place_X3 hown Z 0 rfl rfl 6 (by decide) (List.mem_of_getElem? (i := 1) rfl) rfl rfl dX3_place_86 ?_
      refine lv_iconst (pc := 89) (v := (1 : Int32)) hx hb dX3_place_89 (by decide) ?_
      refine lv_isub (pc := 90) hx hb dX3_place_90 ?_
      refine lv_topi (fun x10 ex10 => ?_)
      replace hf := o_letE ex10 hf
      refine lv_istore (pc := 91) (lv' := [(5, .int x10), (0, .ref (h 0)), (1, .int p1), (2, .int p2)]) hx hb dX3_place_91 hl (by decide) rfl (fun ls hl => ?_)
      refine lv_aload_n (pc := 93) hx hb dX3_place_93 rfl (lv_at hl 1 rfl) ?_
      refine lv_dup (pc := 94) hx hb dX3_place_94 rfl ?_
      refine z_get (pc := 95) (ref := "LotSheet$Layout") (ci := 3) (C := RX3) (T := TX3) (N := 9) hx hb hts iw_X3_place_X3 hown Z 0 rfl rfl 7 (by decide) (List.mem_of_getElem? (i := 5) rfl) rfl rfl dX3_place_95 ?_
      refine lv_iconst (pc := 98) (v := (1 : Int32)) hx hb dX3_place_98 (by decide) ?_
      refine lv_iadd (pc := 99) hx hb dX3_place_99 ?_
      refine lv_topi (fun x11 ex11 => ?_)
      replace hf := o_letE ex11 hf
      refine z_put (pc := 100) (ref := "LotSheet$Layout") (ci := 3) (C := RX3) (T := TX3) (N := 9) (W1 := (W_X3_place cA h y_numberOf y_pageOf y_lineOf a5 a6 a7 x8 x11 y_printedLines)) hx hb hts iw_X3_place_X3 tyX3 tyX3_ok nmX3 hown Z 0 rfl rfl 7 (by decide) (List.mem_of_getElem? (i := 5) rfl) rfl rfl rfl rfl (Nat.le_of_ble_eq_true rfl) dX3_place_100 rfl (fun H locs Z => ?_)
      refine lv_aload_n (pc := 103) hx hb dX3_place_103 rfl (lv_at hl 1 rfl) ?_
      refine lv_dup (pc := 104) hx hb dX3_place_104 rfl ?_
      refine z_get (pc := 105) (ref := "LotSheet$Layout") (ci := 3) (C := RX3) (T := TX3) (N := 9) hx hb hts iw_X3_place_X3 hown Z 0 rfl rfl 8 (by decide) (List.mem_of_getElem? (i := 6) rfl) rfl rfl dX3_place_105 ?_
      refine lv_iload_n (pc := 108) hx hb dX3_place_108 rfl (lv_at hl 3 rfl) ?_
      refine lv_iadd (pc := 109) hx hb dX3_place_109 ?_
      refine lv_topi (fun x12 ex12 => ?_)
      replace hf := o_letE ex12 hf
      refine z_put (pc := 110) (ref := "LotSheet$Layout") (ci := 3) (C := RX3) (T := TX3) (N := 9) (W1 := (W_X3_place cA h y_numberOf y_pageOf y_lineOf a5 a6 a7 x8 x11 x12)) hx hb hts iw_X3_place_X3 tyX3 tyX3_ok nmX3 hown Z 0 rfl rfl 8 (by decide) (List.mem_of_getElem? (i := 6) rfl) rfl rfl rfl rfl (Nat.le_of_ble_eq_true rfl) dX3_place_110 rfl (fun H locs Z => ?_)
      refine lv_aload_n (pc := 113) hx hb dX3_place_113 rfl (lv_at hl 1 rfl) ?_
      refine z_get (pc := 114) (ref := "LotSheet$Layout") (ci := 3) (C := RX3) (T := TX3) (N := 9) hx hb hts iw_X3_place_X3 hown Z 0 rfl rfl 0 (by decide) (List.mem_of_getElem? (i := 7) rfl) rfl rfl dX3_place_114 ?_
      refine lv_iload_n (pc := 117) hx hb dX3_place_117 rfl (lv_at hl 2 rfl) ?_
      refine lv_aload_n (pc := 118) hx hb dX3_place_118 rfl (lv_at hl 1 rfl) ?_
      refine z_get (pc := 119) (ref := "LotSheet$Layout") (ci := 3) (C := RX3) (T := TX3) (N := 9) hx hb hts iw_X3_place_X3 hown Z 0 rfl rfl 7 (by decide) (List.mem_of_getElem? (i := 5) rfl) rfl rfl dX3_place_119 ?_
      obtain ⟨i13, hf⟩ := o_rdE hf
      refine z_iast (pc := 122) hx hb Z 1 0 rfl rfl i13 dX3_place_122 (fun g => (W_X3_place cA h g y_pageOf y_lineOf a5 a6 a7 x8 x11 x12)) (fun _ => rfl) (fun a14 H locs ea14 Z => ?_)
      replace hf := o_letE ea14 hf
      refine lv_aload_n (pc := 123) hx hb dX3_place_123 rfl (lv_at hl 1 rfl) ?_
      refine z_get (pc := 124) (ref := "LotSheet$Layout") (ci := 3) (C := RX3) (T := TX3) (N := 9) hx hb hts iw_X3_place_X3 hown Z 0 rfl rfl 1 (by decide) (List.mem_of_getElem? (i := 8) rfl) rfl rfl dX3_place_124 ?_
      refine lv_iload_n (pc := 127) hx hb dX3_place_127 rfl (lv_at hl 2 rfl) ?_
      refine lv_iload (pc := 128) hx hb dX3_place_128 (lv_at hl 0 rfl) ?_
      obtain ⟨i15, hf⟩ := o_rdE hf
      refine z_iast (pc := 130) hx hb Z 2 0 rfl rfl i15 dX3_place_130 (fun g => (W_X3_place cA h a14 g y_lineOf a5 a6 a7 x8 x11 x12)) (fun _ => rfl) (fun a16 H locs ea16 Z => ?_)
      replace hf := o_letE ea16 hf
      refine lv_aload_n (pc := 131) hx hb dX3_place_131 rfl (lv_at hl 1 rfl) ?_
      refine z_get (pc := 132) (ref := "LotSheet$Layout") (ci := 3) (C := RX3) (T := TX3) (N := 9) hx hb hts iw_X3_place_X3 hown Z 0 rfl rfl 2 (by decide) (List.mem_of_getElem? (i := 9) rfl) rfl rfl dX3_place_132 ?_
      refine lv_iload_n (pc := 135) hx hb dX3_place_135 rfl (lv_at hl 2 rfl) ?_
      refine lv_aload_n (pc := 136) hx hb dX3_place_136 rfl (lv_at hl 1 rfl) ?_
      refine z_get (pc := 137) (ref := "LotSheet$Layout") (ci := 3) (C := RX3) (T := TX3) (N := 9) hx hb hts iw_X3_place_X3 hown Z 0 rfl rfl 3 (by decide) (List.mem_of_getElem? (i := 2) rfl) rfl rfl dX3_place_137 ?_
      refine lv_iload (pc := 140) hx hb dX3_place_140 (lv_at hl 0 rfl) ?_
      obtain ⟨i17, hf⟩ := o_rdE hf
      refine z_iald (pc := 142) hx hb Z 4 0 rfl rfl i17 dX3_place_142 ?_
      obtain ⟨i18, hf⟩ := o_rdE hf
      refine z_iast (pc := 143) hx hb Z 3 0 rfl rfl i18 dX3_place_143 (fun g => (W_X3_place cA h a14 a16 g a5 a6 a7 x8 x11 x12)) (fun _ => rfl) (fun a19 H locs ea19 Z => ?_)
      replace hf := o_letE ea19 hf
      refine lv_aload_n (pc := 144) hx hb dX3_place_144 rfl (lv_at hl 1 rfl) ?_
      refine z_get (pc := 145) (ref := "LotSheet$Layout") (ci := 3) (C := RX3) (T := TX3) (N := 9) hx hb hts iw_X3_place_X3 hown Z 0 rfl rfl 3 (by decide) (List.mem_of_getElem? (i := 2) rfl) rfl rfl dX3_place_145 ?_
      refine lv_iload (pc := 148) hx hb dX3_place_148 (lv_at hl 0 rfl) ?_
      refine lv_dup2_11 (pc := 150) hx hb dX3_place_150 rfl rfl ?_
      obtain ⟨i20, hf⟩ := o_rdE hf
      refine z_iald (pc := 151) hx hb Z 4 0 rfl rfl i20 dX3_place_151 ?_
      refine lv_iload_n (pc := 152) hx hb dX3_place_152 rfl (lv_at hl 3 rfl) ?_
      refine lv_iadd (pc := 153) hx hb dX3_place_153 ?_
      obtain ⟨i21, hf⟩ := o_rdE hf
      refine z_iast (pc := 154) hx hb Z 4 0 rfl rfl i21 dX3_place_154 (fun g => (W_X3_place cA h a14 a16 a19 g a6 a7 x8 x11 x12)) (fun _ => rfl) (fun a22 H locs ea22 Z => ?_)
      replace hf := o_letE ea22 hf
      refine lv_aload_n (pc := 155) hx hb dX3_place_155 rfl (lv_at hl 1 rfl) ?_
      refine z_get (pc := 156) (ref := "LotSheet$Layout") (ci := 3) (C := RX3) (T := TX3) (N := 9) hx hb hts iw_X3_place_X3 hown Z 0 rfl rfl 4 (by decide) (List.mem_of_getElem? (i := 3) rfl) rfl rfl dX3_place_156 ?_
      refine lv_iload (pc := 159) hx hb dX3_place_159 (lv_at hl 0 rfl) ?_
      refine lv_dup2_11 (pc := 161) hx hb dX3_place_161 rfl rfl ?_
      obtain ⟨i23, hf⟩ := o_rdE hf
      refine z_iald (pc := 162) hx hb Z 5 0 rfl rfl i23 dX3_place_162 ?_
      refine lv_iconst (pc := 163) (v := (1 : Int32)) hx hb dX3_place_163 (by decide) ?_
      refine lv_iadd (pc := 164) hx hb dX3_place_164 ?_
      obtain ⟨i24, hf⟩ := o_rdE hf
      refine z_iast (pc := 165) hx hb Z 5 0 rfl rfl i24 dX3_place_165 (fun g => (W_X3_place cA h a14 a16 a19 a22 g a7 x8 x11 x12)) (fun _ => rfl) (fun a25 H locs ea25 Z => ?_)
      replace hf := o_letE ea25 hf
      cases hf
      exact z_vret (pc := 166) hx hb hr hlocks Z rfl dX3_place_166
    refine lv_if_ne (pc := 33) (tgt := 85) hx hb dX3_place_33 (by decide) (fun c4 => ?_) (fun c4 => ?_)
    · replace hf := o_neg c4 hf
      exact hj85_9 y_usedOn y_lotsOn y_firstOn y_pages H locs ls Z (lv_sub hl [1, 2, 3] rfl) hf
    · replace hf := o_pos c4 hf
      refine lv_aload_n (pc := 36) hx hb dX3_place_36 rfl (lv_at hl 1 rfl) ?_
      refine z_get (pc := 37) (ref := "LotSheet$Layout") (ci := 3) (C := RX3) (T := TX3) (N := 9) hx hb hts iw_X3_place_X3 hown Z 0 rfl rfl 6 (by decide) (List.mem_of_getElem? (i := 1) rfl) rfl rfl dX3_place_37 ?_
      refine lv_bipush (pc := 40) (v := (24 : Int32)) hx hb dX3_place_40 (by decide) ?_
      refine lv_icmp_ge (pc := 42) (tgt := 85) hx hb dX3_place_42 (by decide) (fun c26 => ?_) (fun c26 => ?_)
      · replace hf := o_pos c26 hf
        exact hj85_9 y_usedOn y_lotsOn y_firstOn y_pages H locs ls Z (lv_sub hl [1, 2, 3] rfl) hf
      · replace hf := o_neg c26 hf
        refine lv_aload_n (pc := 45) hx hb dX3_place_45 rfl (lv_at hl 1 rfl) ?_
        refine z_get (pc := 46) (ref := "LotSheet$Layout") (ci := 3) (C := RX3) (T := TX3) (N := 9) hx hb hts iw_X3_place_X3 hown Z 0 rfl rfl 3 (by decide) (List.mem_of_getElem? (i := 2) rfl) rfl rfl dX3_place_46 ?_
        refine lv_aload_n (pc := 49) hx hb dX3_place_49 rfl (lv_at hl 1 rfl) ?_
        refine z_get (pc := 50) (ref := "LotSheet$Layout") (ci := 3) (C := RX3) (T := TX3) (N := 9) hx hb hts iw_X3_place_X3 hown Z 0 rfl rfl 6 (by decide) (List.mem_of_getElem? (i := 1) rfl) rfl rfl dX3_place_50 ?_
        refine lv_iconst (pc := 53) (v := (0 : Int32)) hx hb dX3_place_53 (by decide) ?_
        obtain ⟨i27, hf⟩ := o_rdE hf
        refine z_iast (pc := 54) hx hb Z 4 0 rfl rfl i27 dX3_place_54 (fun g => (W_X3_place cA h y_numberOf y_pageOf y_lineOf g y_lotsOn y_firstOn y_pages y_printedLots y_printedLines)) (fun _ => rfl) (fun a28 H locs ea28 Z => ?_)
        replace hf := o_letE ea28 hf
        refine lv_aload_n (pc := 55) hx hb dX3_place_55 rfl (lv_at hl 1 rfl) ?_
        refine z_get (pc := 56) (ref := "LotSheet$Layout") (ci := 3) (C := RX3) (T := TX3) (N := 9) hx hb hts iw_X3_place_X3 hown Z 0 rfl rfl 4 (by decide) (List.mem_of_getElem? (i := 3) rfl) rfl rfl dX3_place_56 ?_
        refine lv_aload_n (pc := 59) hx hb dX3_place_59 rfl (lv_at hl 1 rfl) ?_
        refine z_get (pc := 60) (ref := "LotSheet$Layout") (ci := 3) (C := RX3) (T := TX3) (N := 9) hx hb hts iw_X3_place_X3 hown Z 0 rfl rfl 6 (by decide) (List.mem_of_getElem? (i := 1) rfl) rfl rfl dX3_place_60 ?_
        refine lv_iconst (pc := 63) (v := (0 : Int32)) hx hb dX3_place_63 (by decide) ?_
        obtain ⟨i29, hf⟩ := o_rdE hf
        refine z_iast (pc := 64) hx hb Z 5 0 rfl rfl i29 dX3_place_64 (fun g => (W_X3_place cA h y_numberOf y_pageOf y_lineOf a28 g y_firstOn y_pages y_printedLots y_printedLines)) (fun _ => rfl) (fun a30 H locs ea30 Z => ?_)
        replace hf := o_letE ea30 hf
        refine lv_aload_n (pc := 65) hx hb dX3_place_65 rfl (lv_at hl 1 rfl) ?_
        refine z_get (pc := 66) (ref := "LotSheet$Layout") (ci := 3) (C := RX3) (T := TX3) (N := 9) hx hb hts iw_X3_place_X3 hown Z 0 rfl rfl 5 (by decide) (List.mem_of_getElem? (i := 4) rfl) rfl rfl dX3_place_66 ?_
        refine lv_aload_n (pc := 69) hx hb dX3_place_69 rfl (lv_at hl 1 rfl) ?_
        refine z_get (pc := 70) (ref := "LotSheet$Layout") (ci := 3) (C := RX3) (T := TX3) (N := 9) hx hb hts iw_X3_place_X3 hown Z 0 rfl rfl 6 (by decide) (List.mem_of_getElem? (i := 1) rfl) rfl rfl dX3_place_70 ?_
        refine lv_iload_n (pc := 73) hx hb dX3_place_73 rfl (lv_at hl 2 rfl) ?_
        obtain ⟨i31, hf⟩ := o_rdE hf
        refine z_iast (pc := 74) hx hb Z 6 0 rfl rfl i31 dX3_place_74 (fun g => (W_X3_place cA h y_numberOf y_pageOf y_lineOf a28 a30 g y_pages y_printedLots y_printedLines)) (fun _ => rfl) (fun a32 H locs ea32 Z => ?_)
        replace hf := o_letE ea32 hf
        refine lv_aload_n (pc := 75) hx hb dX3_place_75 rfl (lv_at hl 1 rfl) ?_
        refine lv_dup (pc := 76) hx hb dX3_place_76 rfl ?_
        refine z_get (pc := 77) (ref := "LotSheet$Layout") (ci := 3) (C := RX3) (T := TX3) (N := 9) hx hb hts iw_X3_place_X3 hown Z 0 rfl rfl 6 (by decide) (List.mem_of_getElem? (i := 1) rfl) rfl rfl dX3_place_77 ?_
        refine lv_iconst (pc := 80) (v := (1 : Int32)) hx hb dX3_place_80 (by decide) ?_
        refine lv_iadd (pc := 81) hx hb dX3_place_81 ?_
        refine lv_topi (fun x33 ex33 => ?_)
        replace hf := o_letE ex33 hf
        refine z_put (pc := 82) (ref := "LotSheet$Layout") (ci := 3) (C := RX3) (T := TX3) (N := 9) (W1 := (W_X3_place cA h y_numberOf y_pageOf y_lineOf a28 a30 a32 x33 y_printedLots y_printedLines)) hx hb hts iw_X3_place_X3 tyX3 tyX3_ok nmX3 hown Z 0 rfl rfl 6 (by decide) (List.mem_of_getElem? (i := 1) rfl) rfl rfl rfl rfl (Nat.le_of_ble_eq_true rfl) dX3_place_82 rfl (fun H locs Z => ?_)
        exact hj85_9 a28 a30 a32 x33 H locs ls Z (lv_sub hl [1, 2, 3] rfl) hf
  refine lv_if_le (pc := 4) (tgt := 28) hx hb dX3_place_4 (by decide) (fun c1 => ?_) (fun c1 => ?_)
  · replace hf := o_pos c1 hf
    refine lv_iconst (pc := 28) (v := (0 : Int32)) hx hb dX3_place_28 (by decide) ?_
    exact hj29_3 (0 : Int32) H locs ls Z (lv_sub hl [0, 1, 2] rfl) hf
  · replace hf := o_neg c1 hf
    refine lv_aload_n (pc := 7) hx hb dX3_place_7 rfl (lv_at hl 0 rfl) ?_
    refine z_get (pc := 8) (ref := "LotSheet$Layout") (ci := 3) (C := RX3) (T := TX3) (N := 9) hx hb hts iw_X3_place_X3 hown Z 0 rfl rfl 3 (by decide) (List.mem_of_getElem? (i := 2) rfl) rfl rfl dX3_place_8 ?_
    refine lv_aload_n (pc := 11) hx hb dX3_place_11 rfl (lv_at hl 0 rfl) ?_
    refine z_get (pc := 12) (ref := "LotSheet$Layout") (ci := 3) (C := RX3) (T := TX3) (N := 9) hx hb hts iw_X3_place_X3 hown Z 0 rfl rfl 6 (by decide) (List.mem_of_getElem? (i := 1) rfl) rfl rfl dX3_place_12 ?_
    refine lv_iconst (pc := 15) (v := (1 : Int32)) hx hb dX3_place_15 (by decide) ?_
    refine lv_isub (pc := 16) hx hb dX3_place_16 ?_
    obtain ⟨i34, hf⟩ := o_rdE hf
    refine z_iald (pc := 17) hx hb Z 4 0 rfl rfl i34 dX3_place_17 ?_
    refine lv_iload_n (pc := 18) hx hb dX3_place_18 rfl (lv_at hl 2 rfl) ?_
    refine lv_iadd (pc := 19) hx hb dX3_place_19 ?_
    refine lv_iload_n (pc := 20) hx hb dX3_place_20 rfl (lv_at hl 3 rfl) ?_
    refine lv_icmp_gt (pc := 21) (tgt := 28) hx hb dX3_place_21 (by decide) (fun c35 => ?_) (fun c35 => ?_)
    · replace hf := o_pos c35 hf
      refine lv_iconst (pc := 28) (v := (0 : Int32)) hx hb dX3_place_28 (by decide) ?_
      exact hj29_3 (0 : Int32) H locs ls Z (lv_sub hl [0, 1, 2] rfl) hf
    · replace hf := o_neg c35 hf
      refine lv_iconst (pc := 24) (v := (1 : Int32)) hx hb dX3_place_24 (by decide) ?_
      refine lv_goto (pc := 25) (tgt := 29) hx hb dX3_place_25 (by decide) ?_
      exact hj29_3 (1 : Int32) H locs ls Z (lv_sub hl [0, 1, 2] rfl) hf
