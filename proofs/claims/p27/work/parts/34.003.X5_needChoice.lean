def W_X5_needChoice (cA : Nat → ClassId) (h : Nat → Nat) (c_count : Int32) (c_priced : Int32) (x_latestErrorOffset : Int32) : va_W := [(h 0, .inr (5, [.ref (h 1), .ref (h 3), .ref (h 11), .ref (h 19), .ref (h 85), .ref (h 92), .int x_latestErrorOffset])), (h 92, .inr (1, [.ref (h 93), .ref (h 94), .int c_count, .ref (h 95), .ref (h 102), .ref (h 103), .ref (h 104), .int c_priced]))]
def fX5_needChoice (p1 : Int32) (c_count : Int32) : Option (String ⊕ (Unit)) := o_bind (fX1_has p1 c_count) (fun x1 => (if x1 = 0 then some (.inl "java/lang/IllegalArgumentException") else some (.inr ())))
theorem iw_X5_needChoice_X5 : ∀ w ∈ u_ws RX5 TX5 7, w ∈ zsX5_needChoice := z_inr [10, 11, 12, 13, 14, 15, 16] rfl
set_option maxHeartbeats 4000000 in
set_option maxRecDepth 100000 in
theorem kX5_needChoice (l : Launch) (D : va_G) (cA : Nat → ClassId) (h : Nat → Nat) (p1 : Int32) (c_count : Int32) (c_priced : Int32) (x_latestErrorOffset : Int32) (u : Unit) (hf : fX5_needChoice p1 c_count = some (.inr u)) : zMv l yX5_needChoice zsX5_needChoice ({ frames := 6, cells := 0, slots := 0, locals := 90 } : Room) D (zTY cA) [.ref (h 0), .int p1] (W_X5_needChoice cA h c_count c_priced x_latestErrorOffset) (W_X5_needChoice cA h c_count c_priced x_latestErrorOffset) := by
  refine z_startv (cc := cX5_needChoice) (maxL := 2) (ret := none) (by decide) rfl (Nat.le_of_ble_eq_true rfl) ?_
  intro p e s m args below meth c A hx hb hr hts hown hlocks hml hA Z ls hl
  replace hown : s.vm.findClass RX5 = some m.cls := hown
  replace hl : lv_has ls 2 [(0, .ref (h 0)), (1, .int p1)] := hl
  obtain ⟨H, hH⟩ : ∃ H, H = s.heap := ⟨_, rfl⟩
  rw [← hH] at Z ⊢
  clear hH
  obtain ⟨locs, hlc⟩ : ∃ q : List Loc, q = [] := ⟨_, rfl⟩
  rw [← hlc] at Z ⊢
  clear hlc
  refine lv_aload_n (pc := 0) hx hb dX5_needChoice_0 rfl (lv_at hl 0 rfl) ?_
  refine z_get (pc := 1) (ref := "LotSheet") (ci := 5) (C := RX5) (T := TX5) (N := 7) hx hb hts iw_X5_needChoice_X5 hown Z 0 rfl rfl 5 (by decide) (List.mem_of_getElem? (i := 3) rfl) rfl rfl dX5_needChoice_1 ?_
  refine lv_iload_n (pc := 4) hx hb dX5_needChoice_4 rfl (lv_at hl 1 rfl) ?_
  obtain ⟨x1, q2, hf⟩ := o_bindE hf
  refine z_callVi (pc := 5) (As := [.int p1]) (rest := []) (Wc := (W_X1_has cA (fun k => h ([92, 93, 94, 95, 96, 97, 98, 99, 100, 101, 102, 103, 104].getD k 0)) c_count c_priced)) (W1 := (W_X1_has cA (fun k => h ([92, 93, 94, 95, 96, 97, 98, 99, 100, 101, 102, 103, 104].getD k 0)) c_count c_priced)) (W2 := (W_X5_needChoice cA h c_count c_priced x_latestErrorOffset)) ⟨hx, hb, hml, hown, hts⟩ (kX1_has l D cA (fun k => h ([92, 93, 94, 95, 96, 97, 98, 99, 100, 101, 102, 103, 104].getD k 0)) p1 c_count c_priced _ q2) (cwV 1 hts zgX5_needChoice_X1_has_289 rfl rfl rfl (by decide +kernel) ⟨Nat.le_of_ble_eq_true rfl, Nat.le_of_ble_eq_true rfl⟩) Z hA [1] rfl (by decide) rfl (ci := 1) rfl rfl rfl rfl hl.1 rfl (Nat.le_of_ble_eq_true rfl) dX5_needChoice_5 ⟨Nat.zero_le _, Nat.zero_le _⟩ [none, some 0] rfl ⟨rfl, rfl, rfl⟩ (fun H locs Z => ?_)
  refine lv_if_ne (pc := 8) (tgt := 22) hx hb dX5_needChoice_8 (by decide) (fun c3 => ?_) (fun c3 => ?_)
  · replace hf := o_neg c3 hf
    cases hf
    exact z_vret (pc := 22) hx hb hr hlocks Z rfl dX5_needChoice_22
  · replace hf := o_pos c3 hf
    cases hf
set_option maxHeartbeats 4000000 in
set_option maxRecDepth 100000 in
theorem tX5_needChoice (l : Launch) (D : va_G) (cA : Nat → ClassId) (h : Nat → Nat) (p1 : Int32) (c_count : Int32) (c_priced : Int32) (x_latestErrorOffset : Int32) (E : String) (hf : fX5_needChoice p1 c_count = some (.inl E)) (hfl : l.stackTraces = false) : zMvT l yX5_needChoice zsX5_needChoice ({ frames := 6, cells := 1, slots := 6, locals := 90 } : Room) D (zTY cA) [.ref (h 0), .int p1] (W_X5_needChoice cA h c_count c_priced x_latestErrorOffset) E := by
  refine z_startvT (cc := cX5_needChoice) (maxL := 2) (ret := none) (by decide) rfl (Nat.le_of_ble_eq_true rfl) ?_
  intro p e s m args below meth c A hx hb hr hts hown hlocks hml hA hE hxt Z ls hl
  replace hown : s.vm.findClass RX5 = some m.cls := hown
  replace hl : lv_has ls 2 [(0, .ref (h 0)), (1, .int p1)] := hl
  obtain ⟨H, hH⟩ : ∃ H, H = s.heap := ⟨_, rfl⟩
  rw [← hH] at Z ⊢
  clear hH
  obtain ⟨locs, hlc⟩ : ∃ q : List Loc, q = [] := ⟨_, rfl⟩
  rw [← hlc] at Z ⊢
  clear hlc
  refine lv_aload_n (pc := 0) hx hb dX5_needChoice_0 rfl (lv_at hl 0 rfl) ?_
  refine z_get (pc := 1) (ref := "LotSheet") (ci := 5) (C := RX5) (T := TX5) (N := 7) hx hb hts iw_X5_needChoice_X5 hown Z 0 rfl rfl 5 (by decide) (List.mem_of_getElem? (i := 3) rfl) rfl rfl dX5_needChoice_1 ?_
  refine lv_iload_n (pc := 4) hx hb dX5_needChoice_4 rfl (lv_at hl 1 rfl) ?_
  obtain ⟨x1, q2, hf⟩ := o_bindE hf
  refine z_callVi (pc := 5) (As := [.int p1]) (rest := []) (Wc := (W_X1_has cA (fun k => h ([92, 93, 94, 95, 96, 97, 98, 99, 100, 101, 102, 103, 104].getD k 0)) c_count c_priced)) (W1 := (W_X1_has cA (fun k => h ([92, 93, 94, 95, 96, 97, 98, 99, 100, 101, 102, 103, 104].getD k 0)) c_count c_priced)) (W2 := (W_X5_needChoice cA h c_count c_priced x_latestErrorOffset)) ⟨hx, hb, hml, hown, hts⟩ (kX1_has l D cA (fun k => h ([92, 93, 94, 95, 96, 97, 98, 99, 100, 101, 102, 103, 104].getD k 0)) p1 c_count c_priced _ q2) (cwV 1 hts zgX5_needChoice_X1_has_289 rfl rfl rfl (by decide +kernel) ⟨Nat.le_of_ble_eq_true rfl, Nat.le_of_ble_eq_true rfl⟩) Z hA [1] rfl (by decide) rfl (ci := 1) rfl rfl rfl rfl hl.1 rfl (Nat.le_of_ble_eq_true rfl) dX5_needChoice_5 ⟨Nat.zero_le _, Nat.zero_le _⟩ [none, some 0] rfl ⟨rfl, rfl, rfl⟩ (fun H locs Z => ?_)
  refine lv_if_ne (pc := 8) (tgt := 22) hx hb dX5_needChoice_8 (by decide) (fun c3 => ?_) (fun c3 => ?_)
  · replace hf := o_neg c3 hf
    cases hf
  · replace hf := o_pos c3 hf
    cases hf
    exact z_throwEW (pc := 11) hx hb hfl hown hts (by decide +kernel) (List.mem_of_getElem? (i := 1) rfl) (List.mem_of_getElem? (i := 2) rfl) z_inI (List.mem_of_getElem? (i := 20) rfl) hE Z (hl.1.trans hml.symm) dX5_needChoice_11 dX5_needChoice_14 dX5_needChoice_15 dX5_needChoice_18 dX5_needChoice_21 hxt (Nat.le_of_ble_eq_true rfl) (Nat.le_of_ble_eq_true rfl) (Nat.le_of_ble_eq_true rfl) (Nat.le_of_ble_eq_true rfl) hlocks
