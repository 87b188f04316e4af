def fX6_pages_L11 (x1 : Int32) (m_p1 : Nat) (p1_f : Nat → Int32) (B_height : Int32) : Nat → Int32 → Int32 → Option (Int32)
  | 0, _, _ => none
  | n0 + 1, x2, x3 => (if x1 ≤ x3 then some (x2) else o_rd m_p1 x3 (o_let (p1_f x3.toNatClampNeg) (fun x6 => o_let (fun (x8 : Int32) => o_let (if x2 < x8 then x8 else x2) (fun x10 => o_let (x3 + (1 : Int32)) (fun x11 => (fX6_pages_L11 x1 m_p1 p1_f B_height n0 x10 x11)))) (fun (j43_9 : Int32 → Option (Int32)) => (if 0 ≤ x6 then o_as (¬ B_height = 0) ((j43_9 ((x6 / B_height) + (1 : Int32)))) else (j43_9 (0 : Int32)))))))
def fX6_pages (B_height : Int32) (m_p1 : Nat) (p1_f : Nat → Int32) : Option (Int32) := o_let (Int32.ofNat m_p1) (fun x1 => (fX6_pages_L11 x1 m_p1 p1_f B_height 1024 (0 : Int32) (0 : Int32)))
theorem iw_X6_pages_X6 : ∀ w ∈ u_ws RX6 TX6 5, w ∈ wsX6_pages := z_inr [6, 7, 8, 9, 10] rfl
set_option maxHeartbeats 8000000 in
set_option maxRecDepth 100000 in
theorem kX6_pages (l : Launch) (D : va_G) (cA : Nat → ClassId) (a_B : Nat) (c_B : Nat) (l_B : Nat) (g_B : Nat → Nat) (a_p1 : Nat) (B_height : Int32) (B_room : Int32) (B_account : Int32) (B_costs : Nat → Int32) (B_n : Nat) (B_v : Nat → ZL) (m_p1 : Nat) (p1_f : Nat → Int32) (u : Int32) (hf : fX6_pages B_height m_p1 p1_f = some u) : zG zJ l yX6_pages wsX6_pages ({ frames := 1, cells := 0, slots := 0, locals := 21 } : Room) D (zTY cA) [.ref a_B, .ref a_p1] (zU [[(a_B, .inr (6, [.int B_height, .int B_room, .int B_account, .ref c_B, .ref l_B]))], [(c_B, .inl (cA 0, 5, .inl B_costs))], [(l_B, .inl (cA 4, B_n, .inr (.inr (.inr (.inr (fun i => some (g_B i)))))))], (zLs g_B B_n B_v), [(a_p1, .inl (cA 0, m_p1, .inl p1_f))]]) (fun v _ => v = some (.int u)) (fun h9 => zU [[(a_B, .inr (6, [.int B_height, .int B_room, .int B_account, .ref c_B, .ref l_B]))], [(c_B, .inl (cA 0, 5, .inl B_costs))], [(l_B, .inl (cA 4, B_n, .inr (.inr (.inr (.inr (fun i => some (g_B i)))))))], (zLs g_B B_n B_v), [(a_p1, .inl (cA 0, m_p1, .inl p1_f))]]) := by
  refine z_startG (cc := cX6_pages) (maxL := 7) (ret := (some .int)) (by decide) rfl (Nat.le_of_ble_eq_true rfl) ?_
  intro p e s m args below meth c A hx hb hr hts hown hlocks hml hA hmn hJ Z ls hl
  replace hown : s.vm.findClass RX6 = some m.cls := hown
  replace hl : lv_has ls 7 [(0, .ref a_B), (1, .ref a_p1)] := hl
  obtain ⟨Q9, hQ9⟩ : ∃ Q9 : State → Prop, Q9 = MQ below (zQG D (zTY cA) A (fun v _ => v = some (.int u)) (fun h9 => zU [[(a_B, .inr (6, [.int B_height, .int B_room, .int B_account, .ref c_B, .ref l_B]))], [(c_B, .inl (cA 0, 5, .inl B_costs))], [(l_B, .inl (cA 4, B_n, .inr (.inr (.inr (.inr (fun i => some (g_B i)))))))], (zLs g_B B_n B_v), [(a_p1, .inl (cA 0, m_p1, .inl p1_f))]])) args s 0 0 A := ⟨_, rfl⟩
  show W p l e ({ frames := 1, cells := 0, slots := 0, locals := 21 } : Room) s m args below meth c s.heap [] 0 0 (MQ below (zQG D (zTY cA) A (fun v _ => v = some (.int u)) (fun h9 => zU [[(a_B, .inr (6, [.int B_height, .int B_room, .int B_account, .ref c_B, .ref l_B]))], [(c_B, .inl (cA 0, 5, .inl B_costs))], [(l_B, .inl (cA 4, B_n, .inr (.inr (.inr (.inr (fun i => some (g_B i)))))))], (zLs g_B B_n B_v), [(a_p1, .inl (cA 0, m_p1, .inl p1_f))]])) args s 0 0 A) (F0 m 0 ls [])
  rw [← hQ9]
  obtain ⟨H, hH⟩ : ∃ H, H = s.heap := ⟨_, rfl⟩
  rw [← hH] at Z ⊢
  clear hH
  obtain ⟨locs, hlc⟩ : ∃ q : List Loc, q = [] := ⟨_, rfl⟩
  rw [← hlc] at Z ⊢
  clear hlc
  refine lv_iconst (v := (0 : Int32)) (pc := 0) hx hb dX6_pages_0 (by decide) ?_
  refine lv_istore_n (lv' := [(2, .int (0 : Int32)), (0, .ref a_B), (1, .ref a_p1)]) (pc := 1) hx hb dX6_pages_1 rfl hl (by decide) rfl (fun ls hl => ?_)
  refine lv_aload_n (pc := 2) hx hb dX6_pages_2 rfl (lv_at hl 2 rfl) ?_
  refine lv_astore_n (lv' := [(3, .ref a_p1), (2, .int (0 : Int32)), (0, .ref a_B), (1, .ref a_p1)]) (pc := 3) hx hb dX6_pages_3 rfl hl (by decide) rfl (fun ls hl => ?_)
  refine lv_aload_n (pc := 4) hx hb dX6_pages_4 rfl (lv_at hl 0 rfl) ?_
  refine zu_alen (v := (Int32.ofNat m_p1)) (pc := 5) hx hb Z 4 0 rfl rfl rfl dX6_pages_5 ?_
  refine lv_topi (fun x1 ex1 => ?_)
  replace hf := o_letE ex1 hf
  refine lv_istore (lv' := [(4, .int x1), (3, .ref a_p1), (2, .int (0 : Int32)), (0, .ref a_B), (1, .ref a_p1)]) (pc := 6) hx hb dX6_pages_6 hl (by decide) rfl (fun ls hl => ?_)
  refine lv_iconst (v := (0 : Int32)) (pc := 8) hx hb dX6_pages_8 (by decide) ?_
  refine lv_istore (lv' := [(5, .int (0 : Int32)), (4, .int x1), (3, .ref a_p1), (2, .int (0 : Int32)), (0, .ref a_B), (1, .ref a_p1)]) (pc := 9) hx hb dX6_pages_9 hl (by decide) rfl (fun ls hl => ?_)
  have hL11 : ∀ (n0 : Nat) (x2 : Int32) (x3 : Int32) (H : Heap) (locs : List Loc) (ls : Array Slot), zw D (zTY cA) s A (zU [[(a_B, .inr (6, [.int B_height, .int B_room, .int B_account, .ref c_B, .ref l_B]))], [(c_B, .inl (cA 0, 5, .inl B_costs))], [(l_B, .inl (cA 4, B_n, .inr (.inr (.inr (.inr (fun i => some (g_B i)))))))], (zLs g_B B_n B_v), [(a_p1, .inl (cA 0, m_p1, .inl p1_f))]]) H locs → lv_has ls 7 [(0, .ref a_B), (2, .int x2), (3, .ref a_p1), (4, .int x1), (5, .int x3)] → fX6_pages_L11 x1 m_p1 p1_f B_height n0 x2 x3 = some u → W p l e ({ frames := 1, cells := 0, slots := 0, locals := 21 } : Room) s m args below meth c H locs 0 0 Q9 (F0 m 11 ls []) := by
    intro n0
    induction n0 with
    | zero => intro x2 x3 H locs ls Z hl hf; exact o_no hf
    | succ n0 ih0 =>
      intro x2 x3 H locs ls Z hl hf
      refine lv_iload (pc := 11) hx hb dX6_pages_11 (lv_at hl 4 rfl) ?_
      refine lv_iload (pc := 13) hx hb dX6_pages_13 (lv_at hl 3 rfl) ?_
      refine lv_icmp_ge (tgt := 53) (pc := 15) hx hb dX6_pages_15 (by decide) (fun c4 => ?_) (fun c4 => ?_)
      · replace hf := o_pos c4 hf
        refine lv_iload_n (pc := 53) hx hb dX6_pages_53 rfl (lv_at hl 1 rfl) ?_
        have hu9 := Option.some.inj hf
        subst hu9
        rw [hQ9]
        exact zg_iret (pc := 54) (L' := [[(a_B, .inr (6, [.int B_height, .int B_room, .int B_account, .ref c_B, .ref l_B]))], [(c_B, .inl (cA 0, 5, .inl B_costs))], [(l_B, .inl (cA 4, B_n, .inr (.inr (.inr (.inr (fun i => some (g_B i)))))))], (zLs g_B B_n B_v), [(a_p1, .inl (cA 0, m_p1, .inl p1_f))]]) (fun _ => 0) (by show 0 ≤ 0; omega) (by show 0 ≤ 0; omega) hx hb hr hlocks Z [0, 1, 2, 3, 4] rfl (by decide) rfl rfl dX6_pages_54
      · replace hf := o_neg c4 hf
        refine lv_aload_n (pc := 18) hx hb dX6_pages_18 rfl (lv_at hl 2 rfl) ?_
        refine lv_iload (pc := 19) hx hb dX6_pages_19 (lv_at hl 4 rfl) ?_
        obtain ⟨i5, hf⟩ := o_rdE hf
        refine zu_iald (pc := 21) hx hb Z 4 0 rfl rfl i5 dX6_pages_21 ?_
        refine lv_topi (fun x6 ex6 => ?_)
        replace hf := o_letE ex6 hf
        refine lv_istore (lv' := [(6, .int x6), (0, .ref a_B), (2, .int x2), (3, .ref a_p1), (4, .int x1), (5, .int x3)]) (pc := 22) hx hb dX6_pages_22 hl (by decide) rfl (fun ls hl => ?_)
        refine lv_iload_n (pc := 24) hx hb dX6_pages_24 rfl (lv_at hl 2 rfl) ?_
        refine lv_iload (pc := 25) hx hb dX6_pages_25 (lv_at hl 0 rfl) ?_
        obtain ⟨j43_9, ej43_9, hf⟩ := o_jnE hf
        have hj43_9 : ∀ (x8 : Int32) (H : Heap) (locs : List Loc) (ls : Array Slot), zw D (zTY cA) s A (zU [[(a_B, .inr (6, [.int B_height, .int B_room, .int B_account, .ref c_B, .ref l_B]))], [(c_B, .inl (cA 0, 5, .inl B_costs))], [(l_B, .inl (cA 4, B_n, .inr (.inr (.inr (.inr (fun i => some (g_B i)))))))], (zLs g_B B_n B_v), [(a_p1, .inl (cA 0, m_p1, .inl p1_f))]]) H locs → lv_has ls 7 [(0, .ref a_B), (3, .ref a_p1), (4, .int x1), (5, .int x3)] → j43_9 x8 = some u → W p l e ({ frames := 1, cells := 0, slots := 0, locals := 21 } : Room) s m args below meth c H locs 0 0 Q9 (F0 m 43 ls [.int x8, .int x2]) := by
          intro x8 H locs ls Z hl hf
          rw [ej43_9] at hf
          refine va_mmax (pc := 43) hx hb (hml.trans hl.1.symm) hown (hts _ (List.mem_of_getElem? (i := 2) rfl)) (hts _ (List.mem_of_getElem? (i := 3) rfl)) (hts _ (List.mem_of_getElem? (i := 4) rfl)) (hts _ (List.mem_of_getElem? (i := 5) rfl)) (Nat.le_of_ble_eq_true rfl) (Nat.le_of_ble_eq_true rfl) (by show 0 ≤ 0; omega) (by show 0 ≤ 0; omega) dX6_pages_43 ?_
          refine lv_topi (fun x10 ex10 => ?_)
          replace hf := o_letE ex10 hf
          refine lv_istore_n (lv' := [(2, .int x10), (0, .ref a_B), (3, .ref a_p1), (4, .int x1), (5, .int x3)]) (pc := 46) hx hb dX6_pages_46 rfl hl (by decide) rfl (fun ls hl => ?_)
          obtain ⟨x11, ex11⟩ : ∃ y : Int32, y = (x3 + (1 : Int32)) := ⟨_, rfl⟩
          replace hf := o_letE ex11 hf
          refine lv_iinc (v := x11) (lv' := [(5, .int x11), (2, .int x10), (0, .ref a_B), (3, .ref a_p1), (4, .int x1)]) (pc := 47) hx hb dX6_pages_47 hl (k := 4) rfl (by rw [ex11]; rfl) (by decide) rfl (fun ls hl => ?_)
          refine lv_goto (tgt := 11) (pc := 50) hx hb dX6_pages_50 (by decide) ?_
          exact ih0 x10 x11 H locs ls Z (lv_sub hl [2, 1, 3, 4, 0] rfl) hf
        refine lv_if_ge (tgt := 34) (pc := 27) hx hb dX6_pages_27 (by decide) (fun c7 => ?_) (fun c7 => ?_)
        · replace hf := o_pos c7 hf
          refine lv_iload (pc := 34) hx hb dX6_pages_34 (lv_at hl 0 rfl) ?_
          refine lv_aload_n (pc := 36) hx hb dX6_pages_36 rfl (lv_at hl 1 rfl) ?_
          refine zu_get (ref := "LotSheetLaw$Bill") (ci := 6) (C := RX6) (T := TX6) (N := 5) (pc := 37) hx hb hts iw_X6_pages_X6 hown Z 0 rfl rfl 0 (by decide) (List.mem_of_getElem? (i := 1) rfl) rfl rfl dX6_pages_37 ?_
          obtain ⟨nz12, hf⟩ := o_asE hf
          refine lv_idiv (pc := 40) hx hb dX6_pages_40 nz12 ?_
          refine lv_iconst (v := (1 : Int32)) (pc := 41) hx hb dX6_pages_41 (by decide) ?_
          refine lv_iadd (pc := 42) hx hb dX6_pages_42 ?_
          exact hj43_9 ((x6 / B_height) + (1 : Int32)) H locs ls Z (lv_sub hl [1, 3, 4, 5] rfl) hf
        · replace hf := o_neg c7 hf
          refine lv_iconst (v := (0 : Int32)) (pc := 30) hx hb dX6_pages_30 (by decide) ?_
          refine lv_goto (tgt := 43) (pc := 31) hx hb dX6_pages_31 (by decide) ?_
          exact hj43_9 (0 : Int32) H locs ls Z (lv_sub hl [1, 3, 4, 5] rfl) hf
  exact hL11 1024 (0 : Int32) (0 : Int32) H locs ls Z (lv_sub hl [4, 3, 2, 1, 0] rfl) hf
