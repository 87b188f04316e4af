def W_X6_differs (cA : Nat → ClassId) (h : Nat → Nat) (r : Nat → Int32) : va_W := [(h 0, .inl (cA 0, 153, .inl r))]
def fX6_differs (p1 : Int32) (r : Nat → Int32) : Option (Int32) := o_bind (fX6_lotAt p1) (fun x1 => o_rd 153 (x1 + (3 : Int32)) (o_bind (fX6_lotAt p1) (fun x4 => o_rd 153 (x4 + (4 : Int32)) ((if (r (x1 + (3 : Int32)).toNatClampNeg) = (r (x4 + (4 : Int32)).toNatClampNeg) then some ((0 : Int32)) else some ((1 : Int32)))))))
set_option maxHeartbeats 4000000 in
set_option maxRecDepth 100000 in
theorem kX6_differs (l : Launch) (D : va_G) (cA : Nat → ClassId) (h : Nat → Nat) (p1 : Int32) (r : Nat → Int32) (u : Int32) (hf : fX6_differs p1 r = some u) : zMi l yX6_differs wsX6_differs ({ frames := 1, cells := 0, slots := 0, locals := 20 } : Room) D (zTY cA) [.ref (h 0), .int p1] (W_X6_differs cA h r) (W_X6_differs cA h r) u := by
  refine z_starti (cc := cX6_differs) (maxL := 2) (ret := (some .boolean)) (by decide) rfl (Nat.le_of_ble_eq_true rfl) ?_
  intro p e s m args below meth c A hx hb hr hts hown hlocks hml hA Z ls hl
  replace hown : s.vm.findClass RX6 = some m.cls := hown
  replace hl : lv_has ls 2 [(0, .ref (h 0)), (1, .int p1)] := hl
  obtain ⟨H, hH⟩ : ∃ H, H = s.heap := ⟨_, rfl⟩
  rw [← hH] at Z ⊢
  clear hH
  obtain ⟨locs, hlc⟩ : ∃ q : List Loc, q = [] := ⟨_, rfl⟩
  rw [← hlc] at Z ⊢
  clear hlc
  refine lv_aload_n (pc := 0) hx hb dX6_differs_0 rfl (lv_at hl 0 rfl) ?_
  refine lv_iload_n (pc := 1) hx hb dX6_differs_1 rfl (lv_at hl 1 rfl) ?_
  obtain ⟨x1, q2, hf⟩ := o_bindE hf
  refine z_callSi (pc := 2) (As := [.int p1]) (rest := [.ref (h 0)]) (Wc := (W_X6_lotAt cA (fun k => h ([0].getD k 0)))) (W1 := (W_X6_lotAt cA (fun k => h ([0].getD k 0)))) (W2 := (W_X6_differs cA h r)) ⟨hx, hb, hml, hown, hts⟩ (kX6_lotAt l D cA (fun k => h ([0].getD k 0)) p1 _ q2) (va_cwS 1 hts gX6_differs_X6_lotAt rfl rfl rfl (by decide +kernel) ⟨Nat.le_of_ble_eq_true rfl, Nat.le_of_ble_eq_true rfl⟩) Z hA [] rfl (by decide) rfl rfl hl.1 rfl (Nat.le_of_ble_eq_true rfl) dX6_differs_2 ⟨Nat.zero_le _, Nat.zero_le _⟩ [none] rfl ⟨rfl, rfl⟩ (fun H locs Z => ?_)
  refine lv_iconst (pc := 5) (v := (3 : Int32)) hx hb dX6_differs_5 (by decide) ?_
  refine lv_iadd (pc := 6) hx hb dX6_differs_6 ?_
  obtain ⟨i3, hf⟩ := o_rdE hf
  refine z_iald (pc := 7) hx hb Z 0 0 rfl rfl i3 dX6_differs_7 ?_
  refine lv_aload_n (pc := 8) hx hb dX6_differs_8 rfl (lv_at hl 0 rfl) ?_
  refine lv_iload_n (pc := 9) hx hb dX6_differs_9 rfl (lv_at hl 1 rfl) ?_
  obtain ⟨x4, q5, hf⟩ := o_bindE hf
  refine z_callSi (pc := 10) (As := [.int p1]) (rest := [.ref (h 0), .int (r (x1 + (3 : Int32)).toNatClampNeg)]) (Wc := (W_X6_lotAt cA (fun k => h ([0].getD k 0)))) (W1 := (W_X6_lotAt cA (fun k => h ([0].getD k 0)))) (W2 := (W_X6_differs cA h r)) ⟨hx, hb, hml, hown, hts⟩ (kX6_lotAt l D cA (fun k => h ([0].getD k 0)) p1 _ q5) (va_cwS 1 hts gX6_differs_X6_lotAt rfl rfl rfl (by decide +kernel) ⟨Nat.le_of_ble_eq_true rfl, Nat.le_of_ble_eq_true rfl⟩) Z hA [] rfl (by decide) rfl rfl hl.1 rfl (Nat.le_of_ble_eq_true rfl) dX6_differs_10 ⟨Nat.zero_le _, Nat.zero_le _⟩ [none] rfl ⟨rfl, rfl⟩ (fun H locs Z => ?_)
  refine lv_iconst (pc := 13) (v := (4 : Int32)) hx hb dX6_differs_13 (by decide) ?_
  refine lv_iadd (pc := 14) hx hb dX6_differs_14 ?_
  obtain ⟨i6, hf⟩ := o_rdE hf
  refine z_iald (pc := 15) hx hb Z 0 0 rfl rfl i6 dX6_differs_15 ?_
  refine lv_icmp_eq (pc := 16) (tgt := 23) hx hb dX6_differs_16 (by decide) (fun c7 => ?_) (fun c7 => ?_)
  · replace hf := o_pos c7 hf
    refine lv_iconst (pc := 23) (v := (0 : Int32)) hx hb dX6_differs_23 (by decide) ?_
    cases hf
    exact z_zret (pc := 24) hx hb hr hlocks Z rfl rfl (by decide) dX6_differs_24
  · replace hf := o_neg c7 hf
    refine lv_iconst (pc := 19) (v := (1 : Int32)) hx hb dX6_differs_19 (by decide) ?_
    refine lv_goto (pc := 20) (tgt := 24) hx hb dX6_differs_20 (by decide) ?_
    cases hf
    exact z_zret (pc := 24) hx hb hr hlocks Z rfl rfl (by decide) dX6_differs_24
