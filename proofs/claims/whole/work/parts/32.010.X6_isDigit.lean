def W_X6_isDigit (cA : Nat → ClassId) (h : Nat → Nat) : va_W := []
def fX6_isDigit (p0 : Int32) : Option (Int32) := o_bind (fX6_in p0 (48 : Int32) (57 : Int32)) (fun x1 => o_as (x1 &&& 1 = x1) (some (x1)))
set_option maxHeartbeats 4000000 in
set_option maxRecDepth 100000 in
theorem kX6_isDigit (l : Launch) (D : va_G) (cA : Nat → ClassId) (h : Nat → Nat) (p0 : Int32) (u : Int32) (hf : fX6_isDigit p0 = some u) : zMi l yX6_isDigit wsX6_isDigit ({ frames := 1, cells := 0, slots := 0, locals := 22 } : Room) D (zTY cA) [.int p0] (W_X6_isDigit cA h) (W_X6_isDigit cA h) u := by
  refine z_starti (cc := cX6_isDigit) (maxL := 1) (ret := (some .boolean)) (by decide) rfl (Nat.le_of_ble_eq_true rfl) ?_
  intro p e s m args below meth c A hx hb hr hts hown hlocks hml hA Z ls hl
  replace hown : s.vm.findClass RX6 = some m.cls := hown
  replace hl : lv_has ls 1 [(0, .int p0)] := hl
  obtain ⟨H, hH⟩ : ∃ H, H = s.heap := ⟨_, rfl⟩
  rw [← hH] at Z ⊢
  clear hH
  obtain ⟨locs, hlc⟩ : ∃ q : List Loc, q = [] := ⟨_, rfl⟩
  rw [← hlc] at Z ⊢
  clear hlc
  refine lv_iload_n (pc := 0) hx hb dX6_isDigit_0 rfl (lv_at hl 0 rfl) ?_
  refine lv_bipush (pc := 1) (v := (48 : Int32)) hx hb dX6_isDigit_1 (by decide) ?_
  refine lv_bipush (pc := 3) (v := (57 : Int32)) hx hb dX6_isDigit_3 (by decide) ?_
  obtain ⟨x1, q2, hf⟩ := o_bindE hf
  refine z_callSi (pc := 5) (As := [.int p0, .int (48 : Int32), .int (57 : Int32)]) (rest := []) (Wc := (W_X6_in cA (fun k => h ([0].getD k 0)))) (W1 := (W_X6_in cA (fun k => h ([0].getD k 0)))) (W2 := (W_X6_isDigit cA h)) ⟨hx, hb, hml, hown, hts⟩ (kX6_in l D cA (fun k => h ([0].getD k 0)) p0 (48 : Int32) (57 : Int32) _ q2) (va_cwS 3 hts gX6_isDigit_X6_in rfl rfl rfl (by decide +kernel) ⟨Nat.le_of_ble_eq_true rfl, Nat.le_of_ble_eq_true rfl⟩) Z hA [] rfl (by decide) rfl rfl hl.1 rfl (Nat.le_of_ble_eq_true rfl) dX6_isDigit_5 ⟨Nat.zero_le _, Nat.zero_le _⟩ [] rfl rfl (fun H locs Z => ?_)
  obtain ⟨bz3, hf⟩ := o_asE hf
  cases hf
  exact z_zret (pc := 8) hx hb hr hlocks Z rfl rfl (congrArg Value.int bz3) dX6_isDigit_8
