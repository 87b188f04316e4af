def fX6_number_L13 (p2 : Int32) (m_p1 : Nat) (p1_f : Nat → Int32) : Nat → Int32 → Int32 → Option (Int32)
  | 0, _, _ => none
  | n0 + 1, x3, x4 => (if p2 < x4 then some (x3) else o_rd m_p1 x4 ((if (p1_f x4.toNatClampNeg) < 0 then o_let (x4 + (1 : Int32)) (fun x8 => (fX6_number_L13 p2 m_p1 p1_f n0 x3 x8)) else o_let (x3 + (1 : Int32)) (fun x9 => o_let (x4 + (1 : Int32)) (fun x10 => (fX6_number_L13 p2 m_p1 p1_f n0 x9 x10))))))
def fX6_number (p2 : Int32) (m_p1 : Nat) (p1_f : Nat → Int32) : Option (Int32) := o_rd m_p1 p2 ((if 0 ≤ (p1_f p2.toNatClampNeg) then (fX6_number_L13 p2 m_p1 p1_f 1024 (0 : Int32) (0 : Int32)) else some ((0 : Int32))))
set_option maxHeartbeats 8000000 in
set_option maxRecDepth 100000 in
theorem kX6_number (l : Launch) (D : va_G) (cA : Nat → ClassId) (a_B : Nat) (c_B : Nat) (l_B : Nat) (g_B : Nat → Nat) (a_p1 : Nat) (p2 : Int32) (B_height : Int32) (B_room : Int32) (B_account : Int32) (B_costs : Nat → Int32) (B_n : Nat) (B_v : Nat → ZL) (m_p1 : Nat) (p1_f : Nat → Int32) (u : Int32) (hf : fX6_number p2 m_p1 p1_f = some u) : zG zJ l yX6_number wsX6_number ({ frames := 0, cells := 0, slots := 0, locals := 0 } : Room) D (zTY cA) [.ref a_B, .ref a_p1, .int p2] (zU [[(a_B, .inr (6, [.int B_height, .int B_room, .int B_account, .ref c_B, .ref l_B]))], [(c_B, .inl (cA 0, 5, .inl B_costs))], [(l_B, .inl (cA 4, B_n, .inr (.inr (.inr (.inr (fun i => some (g_B i)))))))], (zLs g_B B_n B_v), [(a_p1, .inl (cA 0, m_p1, .inl p1_f))]]) (fun v _ => v = some (.int u)) (fun h9 => zU [[(a_B, .inr (6, [.int B_height, .int B_room, .int B_account, .ref c_B, .ref l_B]))], [(c_B, .inl (cA 0, 5, .inl B_costs))], [(l_B, .inl (cA 4, B_n, .inr (.inr (.inr (.inr (fun i => some (g_B i)))))))], (zLs g_B B_n B_v), [(a_p1, .inl (cA 0, m_p1, .inl p1_f))]]) := by
  refine z_startG (cc := cX6_number) (maxL := 5) (ret := (some .int)) (by decide) rfl (Nat.le_of_ble_eq_true rfl) ?_
  intro p e s m args below meth c A hx hb hr hts hown hlocks hml hA hmn hJ Z ls hl
  replace hown : s.vm.findClass RX6 = some m.cls := hown
  replace hl : lv_has ls 5 [(0, .ref a_B), (1, .ref a_p1), (2, .int p2)] := hl
  obtain ⟨Q9, hQ9⟩ : ∃ Q9 : State → Prop, Q9 = MQ below (zQG D (zTY cA) A (fun v _ => v = some (.int u)) (fun h9 => zU [[(a_B, .inr (6, [.int B_height, .int B_room, .int B_account, .ref c_B, .ref l_B]))], [(c_B, .inl (cA 0, 5, .inl B_costs))], [(l_B, .inl (cA 4, B_n, .inr (.inr (.inr (.inr (fun i => some (g_B i)))))))], (zLs g_B B_n B_v), [(a_p1, .inl (cA 0, m_p1, .inl p1_f))]])) args s 0 0 A := ⟨_, rfl⟩
  show W p l e ({ frames := 0, cells := 0, slots := 0, locals := 0 } : Room) s m args below meth c s.heap [] 0 0 (MQ below (zQG D (zTY cA) A (fun v _ => v = some (.int u)) (fun h9 => zU [[(a_B, .inr (6, [.int B_height, .int B_room, .int B_account, .ref c_B, .ref l_B]))], [(c_B, .inl (cA 0, 5, .inl B_costs))], [(l_B, .inl (cA 4, B_n, .inr (.inr (.inr (.inr (fun i => some (g_B i)))))))], (zLs g_B B_n B_v), [(a_p1, .inl (cA 0, m_p1, .inl p1_f))]])) args s 0 0 A) (F0 m 0 ls [])
  rw [← hQ9]
  obtain ⟨H, hH⟩ : ∃ H, H = s.heap := ⟨_, rfl⟩
  rw [← hH] at Z ⊢
  clear hH
  obtain ⟨locs, hlc⟩ : ∃ q : List Loc, q = [] := ⟨_, rfl⟩
  rw [← hlc] at Z ⊢
  clear hlc
  refine lv_iconst (v := (0 : Int32)) (pc := 0) hx hb dX6_number_0 (by decide) ?_
  refine lv_istore_n (lv' := [(3, .int (0 : Int32)), (0, .ref a_B), (1, .ref a_p1), (2, .int p2)]) (pc := 1) hx hb dX6_number_1 rfl hl (by decide) rfl (fun ls hl => ?_)
  refine lv_aload_n (pc := 2) hx hb dX6_number_2 rfl (lv_at hl 2 rfl) ?_
  refine lv_iload_n (pc := 3) hx hb dX6_number_3 rfl (lv_at hl 3 rfl) ?_
  obtain ⟨i1, hf⟩ := o_rdE hf
  refine zu_iald (pc := 4) hx hb Z 4 0 rfl rfl i1 dX6_number_4 ?_
  refine lv_if_ge (tgt := 10) (pc := 5) hx hb dX6_number_5 (by decide) (fun c2 => ?_) (fun c2 => ?_)
  · replace hf := o_pos c2 hf
    refine lv_iconst (v := (0 : Int32)) (pc := 10) hx hb dX6_number_10 (by decide) ?_
    refine lv_istore (lv' := [(4, .int (0 : Int32)), (3, .int (0 : Int32)), (0, .ref a_B), (1, .ref a_p1), (2, .int p2)]) (pc := 11) hx hb dX6_number_11 hl (by decide) rfl (fun ls hl => ?_)
    have hL13 : ∀ (n0 : Nat) (x3 : Int32) (x4 : Int32) (H : Heap) (locs : List Loc) (ls : Array Slot), zw D (zTY cA) s A (zU [[(a_B, .inr (6, [.int B_height, .int B_room, .int B_account, .ref c_B, .ref l_B]))], [(c_B, .inl (cA 0, 5, .inl B_costs))], [(l_B, .inl (cA 4, B_n, .inr (.inr (.inr (.inr (fun i => some (g_B i)))))))], (zLs g_B B_n B_v), [(a_p1, .inl (cA 0, m_p1, .inl p1_f))]]) H locs → lv_has ls 5 [(1, .ref a_p1), (2, .int p2), (3, .int x3), (4, .int x4)] → fX6_number_L13 p2 m_p1 p1_f n0 x3 x4 = some u → W p l e ({ frames := 0, cells := 0, slots := 0, locals := 0 } : Room) s m args below meth c H locs 0 0 Q9 (F0 m 13 ls []) := by
      intro n0
      induction n0 with
      | zero => intro x3 x4 H locs ls Z hl hf; exact o_no hf
      | succ n0 ih0 =>
        intro x3 x4 H locs ls Z hl hf
        refine lv_iload (pc := 13) hx hb dX6_number_13 (lv_at hl 3 rfl) ?_
        refine lv_iload_n (pc := 15) hx hb dX6_number_15 rfl (lv_at hl 1 rfl) ?_
        refine lv_icmp_gt (tgt := 35) (pc := 16) hx hb dX6_number_16 (by decide) (fun c5 => ?_) (fun c5 => ?_)
        · replace hf := o_pos c5 hf
          refine lv_iload_n (pc := 35) hx hb dX6_number_35 rfl (lv_at hl 2 rfl) ?_
          have hu9 := Option.some.inj hf
          subst hu9
          rw [hQ9]
          exact zg_iret (pc := 36) (L' := [[(a_B, .inr (6, [.int B_height, .int B_room, .int B_account, .ref c_B, .ref l_B]))], [(c_B, .inl (cA 0, 5, .inl B_costs))], [(l_B, .inl (cA 4, B_n, .inr (.inr (.inr (.inr (fun i => some (g_B i)))))))], (zLs g_B B_n B_v), [(a_p1, .inl (cA 0, m_p1, .inl p1_f))]]) (fun _ => 0) (by show 0 ≤ 0; omega) (by show 0 ≤ 0; omega) hx hb hr hlocks Z [0, 1, 2, 3, 4] rfl (by decide) rfl rfl dX6_number_36
        · replace hf := o_neg c5 hf
          refine lv_aload_n (pc := 19) hx hb dX6_number_19 rfl (lv_at hl 0 rfl) ?_
          refine lv_iload (pc := 20) hx hb dX6_number_20 (lv_at hl 3 rfl) ?_
          obtain ⟨i6, hf⟩ := o_rdE hf
          refine zu_iald (pc := 22) hx hb Z 4 0 rfl rfl i6 dX6_number_22 ?_
          refine lv_if_lt (tgt := 29) (pc := 23) hx hb dX6_number_23 (by decide) (fun c7 => ?_) (fun c7 => ?_)
          · replace hf := o_pos c7 hf
            obtain ⟨x8, ex8⟩ : ∃ y : Int32, y = (x4 + (1 : Int32)) := ⟨_, rfl⟩
            replace hf := o_letE ex8 hf
            refine lv_iinc (v := x8) (lv' := [(4, .int x8), (1, .ref a_p1), (2, .int p2), (3, .int x3)]) (pc := 29) hx hb dX6_number_29 hl (k := 3) rfl (by rw [ex8]; rfl) (by decide) rfl (fun ls hl => ?_)
            refine lv_goto (tgt := 13) (pc := 32) hx hb dX6_number_32 (by decide) ?_
            exact ih0 x3 x8 H locs ls Z (lv_sub hl [1, 2, 3, 0] rfl) hf
          · replace hf := o_neg c7 hf
            obtain ⟨x9, ex9⟩ : ∃ y : Int32, y = (x3 + (1 : Int32)) := ⟨_, rfl⟩
            replace hf := o_letE ex9 hf
            refine lv_iinc (v := x9) (lv' := [(3, .int x9), (1, .ref a_p1), (2, .int p2), (4, .int x4)]) (pc := 26) hx hb dX6_number_26 hl (k := 2) rfl (by rw [ex9]; rfl) (by decide) rfl (fun ls hl => ?_)
            obtain ⟨x10, ex10⟩ : ∃ y : Int32, y = (x4 + (1 : Int32)) := ⟨_, rfl⟩
            replace hf := o_letE ex10 hf
            refine lv_iinc (v := x10) (lv' := [(4, .int x10), (3, .int x9), (1, .ref a_p1), (2, .int p2)]) (pc := 29) hx hb dX6_number_29 hl (k := 3) rfl (by rw [ex10]; rfl) (by decide) rfl (fun ls hl => ?_)
            refine lv_goto (tgt := 13) (pc := 32) hx hb dX6_number_32 (by decide) ?_
            exact ih0 x9 x10 H locs ls Z (lv_sub hl [2, 3, 1, 0] rfl) hf
    exact hL13 1024 (0 : Int32) (0 : Int32) H locs ls Z (lv_sub hl [3, 4, 1, 0] rfl) hf
  · replace hf := o_neg c2 hf
    refine lv_iconst (v := (0 : Int32)) (pc := 8) hx hb dX6_number_8 (by decide) ?_
    cases hf
    rw [hQ9]
    exact zg_iret (pc := 9) (L' := [[(a_B, .inr (6, [.int B_height, .int B_room, .int B_account, .ref c_B, .ref l_B]))], [(c_B, .inl (cA 0, 5, .inl B_costs))], [(l_B, .inl (cA 4, B_n, .inr (.inr (.inr (.inr (fun i => some (g_B i)))))))], (zLs g_B B_n B_v), [(a_p1, .inl (cA 0, m_p1, .inl p1_f))]]) (fun _ => 0) (by show 0 ≤ 0; omega) (by show 0 ≤ 0; omega) hx hb hr hlocks Z [0, 1, 2, 3, 4] rfl (by decide) rfl rfl dX6_number_9
