def W_X6_layBill (cA : Nat → ClassId) (h : Nat → Nat) (r : Nat → Int32) : va_W := [(h 0, .inl (cA 0, 153, .inl r))]
def fX6_layBill_L2 (j19_2 : (Nat → Int32) → Option ((Nat → Int32))) : Nat → Int32 → (Nat → Int32) → Option ((Nat → Int32))
  | 0, _, _ => none
  | n0 + 1, x10, a11 => (if (153 : Int32) ≤ x10 then (j19_2 a11) else o_rd 153 x10 (o_let (upd a11 x10.toNatClampNeg (0 : Int32)) (fun a14 => o_let (x10 + (1 : Int32)) (fun x15 => (fX6_layBill_L2 j19_2 n0 x15 a14)))))
def fX6_layBill (p1 : Int32) (r : Nat → Int32) : Option ((Nat → Int32)) := o_let (fun (a1 : Nat → Int32) => o_let (upd a1 (0 : Int32).toNatClampNeg p1) (fun a3 => o_let (upd a3 (3 : Int32).toNatClampNeg (3 : Int32)) (fun a4 => o_let (upd a4 (4 : Int32).toNatClampNeg (1 : Int32)) (fun a5 => o_let (upd a5 (5 : Int32).toNatClampNeg (5 : Int32)) (fun a6 => o_let (upd a6 (6 : Int32).toNatClampNeg (10 : Int32)) (fun a7 => o_let (upd a7 (7 : Int32).toNatClampNeg (8 : Int32)) (fun a8 => o_let (upd a8 (8 : Int32).toNatClampNeg (2 : Int32)) (fun a9 => some (a9))))))))) (fun (j19_2 : (Nat → Int32) → Option ((Nat → Int32))) => (fX6_layBill_L2 j19_2 1024 (0 : Int32) r))
set_option maxHeartbeats 4000000 in
set_option maxRecDepth 100000 in
theorem kX6_layBill (l : Launch) (D : va_G) (cA : Nat → ClassId) (h : Nat → Nat) (p1 : Int32) (r : Nat → Int32) (u : (Nat → Int32)) (hf : fX6_layBill p1 r = some u) : zMv l yX6_layBill wsX6_layBill ({ frames := 0, cells := 0, slots := 0, locals := 0 } : Room) D (zTY cA) [.ref (h 0), .int p1] (W_X6_layBill cA h r) (W_X6_layBill cA h u) := by
  refine z_startv (cc := cX6_layBill) (maxL := 3) (ret := none) (by decide) rfl (Nat.le_of_ble_eq_true rfl) ?_
  intro p e s m args below meth c A hx hb hr hts hown hlocks hml hA Z ls hl
  replace hown : s.vm.findClass RX6 = some m.cls := hown
  replace hl : lv_has ls 3 [(0, .ref (h 0)), (1, .int p1)] := hl
  obtain ⟨H, hH⟩ : ∃ H, H = s.heap := ⟨_, rfl⟩
  rw [← hH] at Z ⊢
  clear hH
  obtain ⟨locs, hlc⟩ : ∃ q : List Loc, q = [] := ⟨_, rfl⟩
  rw [← hlc] at Z ⊢
  clear hlc
  refine lv_iconst (pc := 0) (v := (0 : Int32)) hx hb dX6_layBill_0 (by decide) ?_
  refine lv_istore_n (pc := 1) (lv' := [(2, .int (0 : Int32)), (0, .ref (h 0)), (1, .int p1)]) hx hb dX6_layBill_1 rfl hl (by decide) rfl (fun ls hl => ?_)
  obtain ⟨j19_2, ej19_2, hf⟩ := o_jnE hf
  have hj19_2 : ∀ (a1 : Nat → Int32) (H : Heap) (locs : List Loc) (ls : Array Slot), zw D (zTY cA) s A (W_X6_layBill cA h a1) H locs → lv_has ls 3 [(0, .ref (h 0)), (1, .int p1)] → j19_2 a1 = some u → W p l e ({ frames := 0, cells := 0, slots := 0, locals := 0 } : Room) s m args below meth c H locs 0 0 (MQ below (zQv D (zTY cA) A (W_X6_layBill cA h u)) args s 0 0 A) (F0 m 19 ls []) := by
    intro a1 H locs ls Z hl hf
    rw [ej19_2] at hf
    refine lv_aload_n (pc := 19) hx hb dX6_layBill_19 rfl (lv_at hl 0 rfl) ?_
    refine lv_iconst (pc := 20) (v := (0 : Int32)) hx hb dX6_layBill_20 (by decide) ?_
    refine lv_iload_n (pc := 21) hx hb dX6_layBill_21 rfl (lv_at hl 1 rfl) ?_
    refine z_iast (pc := 22) hx hb Z 0 0 rfl rfl (show ¬ ((0 : Int32) < 0 ∨ 153 ≤ (0 : Int32).toNatClampNeg) by decide) dX6_layBill_22 (fun g => (W_X6_layBill cA h g)) (fun _ => rfl) (fun a3 H locs ea3 Z => ?_)
    replace hf := o_letE ea3 hf
    refine lv_aload_n (pc := 23) hx hb dX6_layBill_23 rfl (lv_at hl 0 rfl) ?_
    refine lv_iconst (pc := 24) (v := (3 : Int32)) hx hb dX6_layBill_24 (by decide) ?_
    refine lv_iconst (pc := 25) (v := (3 : Int32)) hx hb dX6_layBill_25 (by decide) ?_
    refine z_iast (pc := 26) hx hb Z 0 0 rfl rfl (show ¬ ((3 : Int32) < 0 ∨ 153 ≤ (3 : Int32).toNatClampNeg) by decide) dX6_layBill_26 (fun g => (W_X6_layBill cA h g)) (fun _ => rfl) (fun a4 H locs ea4 Z => ?_)
    replace hf := o_letE ea4 hf
    refine lv_aload_n (pc := 27) hx hb dX6_layBill_27 rfl (lv_at hl 0 rfl) ?_
    refine lv_iconst (pc := 28) (v := (4 : Int32)) hx hb dX6_layBill_28 (by decide) ?_
    refine lv_iconst (pc := 29) (v := (1 : Int32)) hx hb dX6_layBill_29 (by decide) ?_
    refine z_iast (pc := 30) hx hb Z 0 0 rfl rfl (show ¬ ((4 : Int32) < 0 ∨ 153 ≤ (4 : Int32).toNatClampNeg) by decide) dX6_layBill_30 (fun g => (W_X6_layBill cA h g)) (fun _ => rfl) (fun a5 H locs ea5 Z => ?_)
    replace hf := o_letE ea5 hf
    refine lv_aload_n (pc := 31) hx hb dX6_layBill_31 rfl (lv_at hl 0 rfl) ?_
    refine lv_iconst (pc := 32) (v := (5 : Int32)) hx hb dX6_layBill_32 (by decide) ?_
    refine lv_iconst (pc := 33) (v := (5 : Int32)) hx hb dX6_layBill_33 (by decide) ?_
    refine z_iast (pc := 34) hx hb Z 0 0 rfl rfl (show ¬ ((5 : Int32) < 0 ∨ 153 ≤ (5 : Int32).toNatClampNeg) by decide) dX6_layBill_34 (fun g => (W_X6_layBill cA h g)) (fun _ => rfl) (fun a6 H locs ea6 Z => ?_)
    replace hf := o_letE ea6 hf
    refine lv_aload_n (pc := 35) hx hb dX6_layBill_35 rfl (lv_at hl 0 rfl) ?_
    refine lv_bipush (pc := 36) (v := (6 : Int32)) hx hb dX6_layBill_36 (by decide) ?_
    refine lv_bipush (pc := 38) (v := (10 : Int32)) hx hb dX6_layBill_38 (by decide) ?_
    refine z_iast (pc := 40) hx hb Z 0 0 rfl rfl (show ¬ ((6 : Int32) < 0 ∨ 153 ≤ (6 : Int32).toNatClampNeg) by decide) dX6_layBill_40 (fun g => (W_X6_layBill cA h g)) (fun _ => rfl) (fun a7 H locs ea7 Z => ?_)
    replace hf := o_letE ea7 hf
    refine lv_aload_n (pc := 41) hx hb dX6_layBill_41 rfl (lv_at hl 0 rfl) ?_
    refine lv_bipush (pc := 42) (v := (7 : Int32)) hx hb dX6_layBill_42 (by decide) ?_
    refine lv_bipush (pc := 44) (v := (8 : Int32)) hx hb dX6_layBill_44 (by decide) ?_
    refine z_iast (pc := 46) hx hb Z 0 0 rfl rfl (show ¬ ((7 : Int32) < 0 ∨ 153 ≤ (7 : Int32).toNatClampNeg) by decide) dX6_layBill_46 (fun g => (W_X6_layBill cA h g)) (fun _ => rfl) (fun a8 H locs ea8 Z => ?_)
    replace hf := o_letE ea8 hf
    refine lv_aload_n (pc := 47) hx hb dX6_layBill_47 rfl (lv_at hl 0 rfl) ?_
    refine lv_bipush (pc := 48) (v := (8 : Int32)) hx hb dX6_layBill_48 (by decide) ?_
    refine lv_iconst (pc := 50) (v := (2 : Int32)) hx hb dX6_layBill_50 (by decide) ?_
    refine z_iast (pc := 51) hx hb Z 0 0 rfl rfl (show ¬ ((8 : Int32) < 0 ∨ 153 ≤ (8 : Int32).toNatClampNeg) by decide) dX6_layBill_51 (fun g => (W_X6_layBill cA h g)) (fun _ => rfl) (fun a9 H locs ea9 Z => ?_)
    replace hf := o_letE ea9 hf
    cases hf
    exact z_vret (pc := 52) hx hb hr hlocks Z rfl dX6_layBill_52
  have hL2 : ∀ (n0 : Nat) (x10 : Int32) (a11 : Nat → Int32) (H : Heap) (locs : List Loc) (ls : Array Slot), zw D (zTY cA) s A (W_X6_layBill cA h a11) H locs → lv_has ls 3 [(0, .ref (h 0)), (1, .int p1), (2, .int x10)] → fX6_layBill_L2 j19_2 n0 x10 a11 = some u → W p l e ({ frames := 0, cells := 0, slots := 0, locals := 0 } : Room) s m args below meth c H locs 0 0 (MQ below (zQv D (zTY cA) A (W_X6_layBill cA h u)) args s 0 0 A) (F0 m 2 ls []) := by
    intro n0
    induction n0 with
    | zero => intro x10 a11 H locs ls Z hl hf; exact o_no hf
    | succ n0 ih0 =>
      intro x10 a11 H locs ls Z hl hf
      refine lv_iload_n (pc := 2) hx hb dX6_layBill_2 rfl (lv_at hl 2 rfl) ?_
      refine lv_sipush (pc := 3) (v := (153 : Int32)) hx hb dX6_layBill_3 (by decide) ?_
      refine lv_icmp_ge (pc := 6) (tgt := 19) hx hb dX6_layBill_6 (by decide) (fun c12 => ?_) (fun c12 => ?_)
      · replace hf := o_pos c12 hf
        exact hj19_2 a11 H locs ls Z (lv_sub hl [0, 1] rfl) hf
      · replace hf := o_neg c12 hf
        refine lv_aload_n (pc := 9) hx hb dX6_layBill_9 rfl (lv_at hl 0 rfl) ?_
        refine lv_iload_n (pc := 10) hx hb dX6_layBill_10 rfl (lv_at hl 2 rfl) ?_
        refine lv_iconst (pc := 11) (v := (0 : Int32)) hx hb dX6_layBill_11 (by decide) ?_
        obtain ⟨i13, hf⟩ := o_rdE hf
        refine z_iast (pc := 12) hx hb Z 0 0 rfl rfl i13 dX6_layBill_12 (fun g => (W_X6_layBill cA h g)) (fun _ => rfl) (fun a14 H locs ea14 Z => ?_)
        replace hf := o_letE ea14 hf
        obtain ⟨x15, ex15⟩ : ∃ y : Int32, y = (x10 + (1 : Int32)) := ⟨_, rfl⟩
        replace hf := o_letE ex15 hf
        refine lv_iinc (pc := 13) (v := x15) (lv' := [(2, .int x15), (0, .ref (h 0)), (1, .int p1)]) hx hb dX6_layBill_13 hl (k := 2) rfl (by rw [ex15]; rfl) (by decide) rfl (fun ls hl => ?_)
        refine lv_goto (pc := 16) (tgt := 2) hx hb dX6_layBill_16 (by decide) ?_
        exact ih0 x15 a14 H locs ls Z (lv_sub hl [1, 2, 0] rfl) hf
  exact hL2 1024 (0 : Int32) r H locs ls Z (lv_sub hl [1, 2, 0] rfl) hf
