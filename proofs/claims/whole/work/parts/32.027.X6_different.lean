def W_X6_different (cA : Nat → ClassId) (h : Nat → Nat) (r : Nat → Int32) : va_W := [(h 0, .inl (cA 0, 153, .inl r))]
def fX6_different_L4 (r : Nat → Int32) : Nat → Int32 → Int32 → Option (Int32)
  | 0, _, _ => none
  | n0 + 1, x1, x2 => (if (r (1 : Int32).toNatClampNeg) ≤ x2 then some (x1) else o_bind (fX6_differs x2 r) (fun x4 => (if x4 = 0 then o_let (x1 + (0 : Int32)) (fun x7 => o_let (x2 + (1 : Int32)) (fun x8 => (fX6_different_L4 r n0 x7 x8))) else o_let (x1 + (1 : Int32)) (fun x9 => o_let (x2 + (1 : Int32)) (fun x10 => (fX6_different_L4 r n0 x9 x10))))))
def fX6_different (r : Nat → Int32) : Option (Int32) := (fX6_different_L4 r 1024 (0 : Int32) (0 : Int32))
set_option maxHeartbeats 4000000 in
set_option maxRecDepth 100000 in
theorem kX6_different (l : Launch) (D : va_G) (cA : Nat → ClassId) (h : Nat → Nat) (r : Nat → Int32) (u : Int32) (hf : fX6_different r = some u) : zMi l yX6_different wsX6_different ({ frames := 2, cells := 0, slots := 0, locals := 41 } : Room) D (zTY cA) [.ref (h 0)] (W_X6_different cA h r) (W_X6_different cA h r) u := by
  refine z_starti (cc := cX6_different) (maxL := 3) (ret := (some .int)) (by decide) rfl (Nat.le_of_ble_eq_true rfl) ?_
  intro p e s m args below meth c A hx hb hr hts hown hlocks hml hA Z ls hl
  replace hown : s.vm.findClass RX6 = some m.cls := hown
  replace hl : lv_has ls 3 [(0, .ref (h 0))] := hl
  obtain ⟨H, hH⟩ : ∃ H, H = s.heap := ⟨_, rfl⟩
  rw [← hH] at Z ⊢
  clear hH
  obtain ⟨locs, hlc⟩ : ∃ q : List Loc, q = [] := ⟨_, rfl⟩
  rw [← hlc] at Z ⊢
  clear hlc
  refine lv_iconst (pc := 0) (v := (0 : Int32)) hx hb dX6_different_0 (by decide) ?_
  refine lv_istore_n (pc := 1) (lv' := [(1, .int (0 : Int32)), (0, .ref (h 0))]) hx hb dX6_different_1 rfl hl (by decide) rfl (fun ls hl => ?_)
  refine lv_iconst (pc := 2) (v := (0 : Int32)) hx hb dX6_different_2 (by decide) ?_
  refine lv_istore_n (pc := 3) (lv' := [(2, .int (0 : Int32)), (1, .int (0 : Int32)), (0, .ref (h 0))]) hx hb dX6_different_3 rfl hl (by decide) rfl (fun ls hl => ?_)
  have hL4 : ∀ (n0 : Nat) (x1 : Int32) (x2 : Int32) (H : Heap) (locs : List Loc) (ls : Array Slot), zw D (zTY cA) s A (W_X6_different cA h r) H locs → lv_has ls 3 [(0, .ref (h 0)), (1, .int x1), (2, .int x2)] → fX6_different_L4 r n0 x1 x2 = some u → W p l e ({ frames := 2, cells := 0, slots := 0, locals := 41 } : Room) s m args below meth c H locs 0 0 (MQ below (zQi D (zTY cA) A (W_X6_different cA h r) u) args s 0 0 A) (F0 m 4 ls []) := by
    intro n0
    induction n0 with
    | zero => intro x1 x2 H locs ls Z hl hf; exact o_no hf
    | succ n0 ih0 =>
      intro x1 x2 H locs ls Z hl hf
      refine lv_iload_n (pc := 4) hx hb dX6_different_4 rfl (lv_at hl 2 rfl) ?_
      refine lv_aload_n (pc := 5) hx hb dX6_different_5 rfl (lv_at hl 0 rfl) ?_
      refine lv_iconst (pc := 6) (v := (1 : Int32)) hx hb dX6_different_6 (by decide) ?_
      refine z_iald (pc := 7) hx hb Z 0 0 rfl rfl (show ¬ ((1 : Int32) < 0 ∨ 153 ≤ (1 : Int32).toNatClampNeg) by decide) dX6_different_7 ?_
      refine lv_icmp_ge (pc := 8) (tgt := 33) hx hb dX6_different_8 (by decide) (fun c3 => ?_) (fun c3 => ?_)
      · replace hf := o_pos c3 hf
        refine lv_iload_n (pc := 33) hx hb dX6_different_33 rfl (lv_at hl 1 rfl) ?_
        cases hf
        exact z_iret (pc := 34) hx hb hr hlocks Z rfl rfl dX6_different_34
      · replace hf := o_neg c3 hf
        refine lv_iload_n (pc := 11) hx hb dX6_different_11 rfl (lv_at hl 1 rfl) ?_
        refine lv_aload_n (pc := 12) hx hb dX6_different_12 rfl (lv_at hl 0 rfl) ?_
        refine lv_iload_n (pc := 13) hx hb dX6_different_13 rfl (lv_at hl 2 rfl) ?_
        obtain ⟨x4, q5, hf⟩ := o_bindE hf
        refine z_callSi (pc := 14) (As := [.ref (h 0), .int x2]) (rest := [.int x1]) (Wc := (W_X6_differs cA (fun k => h ([0].getD k 0)) r)) (W1 := (W_X6_differs cA (fun k => h ([0].getD k 0)) r)) (W2 := (W_X6_different cA h r)) ⟨hx, hb, hml, hown, hts⟩ (kX6_differs l D cA (fun k => h ([0].getD k 0)) x2 r _ q5) (va_cwS 2 hts gX6_different_X6_differs rfl rfl rfl (by decide +kernel) ⟨Nat.le_of_ble_eq_true rfl, Nat.le_of_ble_eq_true rfl⟩) Z hA [0] rfl (by decide) rfl rfl hl.1 rfl (Nat.le_of_ble_eq_true rfl) dX6_different_14 ⟨Nat.zero_le _, Nat.zero_le _⟩ [some 0] rfl ⟨rfl, rfl⟩ (fun H locs Z => ?_)
        refine lv_if_eq (pc := 17) (tgt := 24) hx hb dX6_different_17 (by decide) (fun c6 => ?_) (fun c6 => ?_)
        · replace hf := o_pos c6 hf
          refine lv_iconst (pc := 24) (v := (0 : Int32)) hx hb dX6_different_24 (by decide) ?_
          refine lv_iadd (pc := 25) hx hb dX6_different_25 ?_
          refine lv_topi (fun x7 ex7 => ?_)
          replace hf := o_letE ex7 hf
          refine lv_istore_n (pc := 26) (lv' := [(1, .int x7), (0, .ref (h 0)), (2, .int x2)]) hx hb dX6_different_26 rfl hl (by decide) rfl (fun ls hl => ?_)
          obtain ⟨x8, ex8⟩ : ∃ y : Int32, y = (x2 + (1 : Int32)) := ⟨_, rfl⟩
          replace hf := o_letE ex8 hf
          refine lv_iinc (pc := 27) (v := x8) (lv' := [(2, .int x8), (1, .int x7), (0, .ref (h 0))]) hx hb dX6_different_27 hl (k := 2) rfl (by rw [ex8]; rfl) (by decide) rfl (fun ls hl => ?_)
          refine lv_goto (pc := 30) (tgt := 4) hx hb dX6_different_30 (by decide) ?_
          exact ih0 x7 x8 H locs ls Z (lv_sub hl [2, 1, 0] rfl) hf
        · replace hf := o_neg c6 hf
          refine lv_iconst (pc := 20) (v := (1 : Int32)) hx hb dX6_different_20 (by decide) ?_
          refine lv_goto (pc := 21) (tgt := 25) hx hb dX6_different_21 (by decide) ?_
          refine lv_iadd (pc := 25) hx hb dX6_different_25 ?_
          refine lv_topi (fun x9 ex9 => ?_)
          replace hf := o_letE ex9 hf
          refine lv_istore_n (pc := 26) (lv' := [(1, .int x9), (0, .ref (h 0)), (2, .int x2)]) hx hb dX6_different_26 rfl hl (by decide) rfl (fun ls hl => ?_)
          obtain ⟨x10, ex10⟩ : ∃ y : Int32, y = (x2 + (1 : Int32)) := ⟨_, rfl⟩
          replace hf := o_letE ex10 hf
          refine lv_iinc (pc := 27) (v := x10) (lv' := [(2, .int x10), (1, .int x9), (0, .ref (h 0))]) hx hb dX6_different_27 hl (k := 2) rfl (by rw [ex10]; rfl) (by decide) rfl (fun ls hl => ?_)
          refine lv_goto (pc := 30) (tgt := 4) hx hb dX6_different_30 (by decide) ?_
          exact ih0 x9 x10 H locs ls Z (lv_sub hl [2, 1, 0] rfl) hf
  exact hL4 1024 (0 : Int32) (0 : Int32) H locs ls Z (lv_sub hl [2, 1, 0] rfl) hf
