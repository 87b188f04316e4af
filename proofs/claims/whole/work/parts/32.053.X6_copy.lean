def W_X6_copy (cA : Nat → ClassId) (h : Nat → Nat) (r : Nat → Int32) (q : Nat → Int32) : va_W := [(h 0, .inl (cA 0, 153, .inl r)), (h 1, .inl (cA 0, 153, .inl q))]
def fX6_copy_L2 (r : Nat → Int32) : Nat → Int32 → (Nat → Int32) → Option ((Nat → Int32))
  | 0, _, _ => none
  | n0 + 1, x1, a2 => (if (153 : Int32) ≤ x1 then some (a2) else o_rd 153 x1 (o_rd 153 x1 (o_let (upd a2 x1.toNatClampNeg (r x1.toNatClampNeg)) (fun a6 => o_let (x1 + (1 : Int32)) (fun x7 => (fX6_copy_L2 r n0 x7 a6))))))
def fX6_copy (r : Nat → Int32) (q : Nat → Int32) : Option ((Nat → Int32)) := (fX6_copy_L2 r 1024 (0 : Int32) q)
set_option maxHeartbeats 4000000 in
set_option maxRecDepth 100000 in
theorem kX6_copy (l : Launch) (D : va_G) (cA : Nat → ClassId) (h : Nat → Nat) (r : Nat → Int32) (q : Nat → Int32) (u : (Nat → Int32)) (hf : fX6_copy r q = some u) : zMv l yX6_copy wsX6_copy ({ frames := 0, cells := 0, slots := 0, locals := 0 } : Room) D (zTY cA) [.ref (h 0), .ref (h 1)] (W_X6_copy cA h r q) (W_X6_copy cA h r u) := by
  refine z_startv (cc := cX6_copy) (maxL := 3) (ret := none) (by decide) rfl (Nat.le_of_ble_eq_true rfl) ?_
  intro p e s m args below meth c A hx hb hr hts hown hlocks hml hA Z ls hl
  replace hown : s.vm.findClass RX6 = some m.cls := hown
  replace hl : lv_has ls 3 [(0, .ref (h 0)), (1, .ref (h 1))] := hl
  obtain ⟨H, hH⟩ : ∃ H, H = s.heap := ⟨_, rfl⟩
  rw [← hH] at Z ⊢
  clear hH
  obtain ⟨locs, hlc⟩ : ∃ q : List Loc, q = [] := ⟨_, rfl⟩
  rw [← hlc] at Z ⊢
  clear hlc
  refine lv_iconst (pc := 0) (v := (0 : Int32)) hx hb dX6_copy_0 (by decide) ?_
  refine lv_istore_n (pc := 1) (lv' := [(2, .int (0 : Int32)), (0, .ref (h 0)), (1, .ref (h 1))]) hx hb dX6_copy_1 rfl hl (by decide) rfl (fun ls hl => ?_)
  have hL2 : ∀ (n0 : Nat) (x1 : Int32) (a2 : Nat → Int32) (H : Heap) (locs : List Loc) (ls : Array Slot), zw D (zTY cA) s A (W_X6_copy cA h r a2) H locs → lv_has ls 3 [(0, .ref (h 0)), (1, .ref (h 1)), (2, .int x1)] → fX6_copy_L2 r n0 x1 a2 = some u → W p l e ({ frames := 0, cells := 0, slots := 0, locals := 0 } : Room) s m args below meth c H locs 0 0 (MQ below (zQv D (zTY cA) A (W_X6_copy cA h r u)) args s 0 0 A) (F0 m 2 ls []) := by
    intro n0
    induction n0 with
    | zero => intro x1 a2 H locs ls Z hl hf; exact o_no hf
    | succ n0 ih0 =>
      intro x1 a2 H locs ls Z hl hf
      refine lv_iload_n (pc := 2) hx hb dX6_copy_2 rfl (lv_at hl 2 rfl) ?_
      refine lv_sipush (pc := 3) (v := (153 : Int32)) hx hb dX6_copy_3 (by decide) ?_
      refine lv_icmp_ge (pc := 6) (tgt := 21) hx hb dX6_copy_6 (by decide) (fun c3 => ?_) (fun c3 => ?_)
      · replace hf := o_pos c3 hf
        cases hf
        exact z_vret (pc := 21) hx hb hr hlocks Z rfl dX6_copy_21
      · replace hf := o_neg c3 hf
        refine lv_aload_n (pc := 9) hx hb dX6_copy_9 rfl (lv_at hl 1 rfl) ?_
        refine lv_iload_n (pc := 10) hx hb dX6_copy_10 rfl (lv_at hl 2 rfl) ?_
        refine lv_aload_n (pc := 11) hx hb dX6_copy_11 rfl (lv_at hl 0 rfl) ?_
        refine lv_iload_n (pc := 12) hx hb dX6_copy_12 rfl (lv_at hl 2 rfl) ?_
        obtain ⟨i4, hf⟩ := o_rdE hf
        refine z_iald (pc := 13) hx hb Z 0 0 rfl rfl i4 dX6_copy_13 ?_
        obtain ⟨i5, hf⟩ := o_rdE hf
        refine z_iast (pc := 14) hx hb Z 1 0 rfl rfl i5 dX6_copy_14 (fun g => (W_X6_copy cA h r g)) (fun _ => rfl) (fun a6 H locs ea6 Z => ?_)
        replace hf := o_letE ea6 hf
        obtain ⟨x7, ex7⟩ : ∃ y : Int32, y = (x1 + (1 : Int32)) := ⟨_, rfl⟩
        replace hf := o_letE ex7 hf
        refine lv_iinc (pc := 15) (v := x7) (lv' := [(2, .int x7), (0, .ref (h 0)), (1, .ref (h 1))]) hx hb dX6_copy_15 hl (k := 2) rfl (by rw [ex7]; rfl) (by decide) rfl (fun ls hl => ?_)
        refine lv_goto (pc := 18) (tgt := 2) hx hb dX6_copy_18 (by decide) ?_
        exact ih0 x7 a6 H locs ls Z (lv_sub hl [1, 2, 0] rfl) hf
  exact hL2 1024 (0 : Int32) q H locs ls Z (lv_sub hl [1, 2, 0] rfl) hf
