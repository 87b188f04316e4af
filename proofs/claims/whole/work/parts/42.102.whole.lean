theorem zFlags (l : Launch) (h : l.flags = flags0) : l.stackTraces = false := by
  unfold Launch.stackTraces
  rw [h]
  decide +kernel
def zB0 : TB := (20, 0, 3, 0, zCosts, (fun _ => 0), (fun _ => 0), (fun _ => 0), (fun _ => 0), (fun _ => 0), (fun _ => 0))
/-- the first state: m_data is what the model's constructor lays -/
def zS0 (u : Nat → Int32) : ZS := (((0 : Int32), (-1 : Int32), (fun _ => 0), (0 : Int32), (0 : Int32), (0 : Int32), (0 : Int32), (0 : Int32)), ((20 : Int32), (0 : Int32), (3 : Int32), (0 : Int32), zCosts, (fun _ => 0), (fun _ => 0), (fun _ => 0), (fun _ => 0), (fun _ => 0), (fun _ => 0)), ((20 : Int32), (0 : Int32), (3 : Int32), (0 : Int32), zCosts, (fun _ => 0), (fun _ => 0), (fun _ => 0), (fun _ => 0), (fun _ => 0), (fun _ => 0)), ((fun _ => zB0), (0 : Int32), (0 : Int32)), ((fun _ => 0), (fun _ => 0), (fun _ => 0), (fun _ => 0), (fun _ => 0), (fun _ => 0), (0 : Int32), (0 : Int32), (0 : Int32)), ((fun _ => 0), (fun _ => 0), (0 : Int32), ((fun _ => 0), (fun _ => 0), (fun _ => 0), (fun _ => 0), (fun _ => 0), (fun _ => 0), (0 : Int32), (0 : Int32), (0 : Int32)), (fun _ => 0), (fun _ => 0), (fun _ => 0), (0 : Int32)), (-1 : Int32), ((0 : Int32), (fun _ => 0), (0 : Int32), (0 : Int32), (0 : Int32), (0 : Int32), (0 : Int32), (-1 : Int32), u, (fun _ => 0), (fun _ => fun _ => 0), (0 : Int32), (0 : Int32), (0 : Int32), (fun _ => 0), (fun _ => 0), (fun _ => 0), (fun _ => 0), (0 : Int32), (fun _ => 0), (fun _ => 0), (fun _ => 0)), (fun _ => 0))
def zHs (h5 h6 : Nat → Nat) (q7 : Nat) : Nat → Nat := fun k => if k < 105 then h5 k else if k < 125 then h6 (k - 105) else q7
set_option maxHeartbeats 4000000 in
set_option maxRecDepth 100000 in
theorem zW0 (cA : Nat → ClassId) (h5 h6 : Nat → Nat) (q7 : Nat) (u : Nat → Int32) : (([] ++ V_X5 cA h5) ++ V_X6 cA h6 u) ++ [zTold cA q7 (fun _ => 0)] = WS cA (zHs h5 h6 q7) (zS0 u) := rfl
set_option maxHeartbeats 8000000 in
set_option maxRecDepth 100000 in
theorem z_whole (Inv : ZS → Prop) (u : Nat → Int32) (hu : fX6_layBill 20 (fun _ => 0) = some u) (h0 : Inv (zS0 u)) (hstep : ∀ (x0 x1 x2 x3 x4 x5 : Int32) (S : ZS), Inv S → ∃ S1, fStep x0 x1 x2 x3 x4 x5 S = some S1 ∧ Inv S1) {p : Program} {e : Env} {s : State} {m : MethodId} {below : List Frame} {meth : Method} {c : Code} (l : Launch) (hflags : l.flags = flags0) {b L : Nat} {xs : Nat → Int32} (hL : L ≤ 3072) (C0 : lw_At p s m meth c b L xs) : W p l e room_1 s m #[Value.ref b] below meth c s.heap [] 0 0 (lw_Z below #[Value.ref b] s) (entryFrame m ([Value.ref b] : List Value).toArray 9) := by
  obtain ⟨hx, hb, hr, hml, hown0, hts, hX, hbl, hlocks, hgv⟩ := id C0
  have hb2 : c.code = cL_law := hb
  have hown : s.vm.findClass RL = some m.cls := hown0
  have hfl : l.stackTraces = false := zFlags l hflags
  have hn := flat_of_before _ hgv
  have hA : ∀ q : Nat, s.heap.size ≤ q → (fun q : Nat => s.heap.size ≤ q) q := fun _ h => h
  have hnA : ∀ a : Nat, a < s.heap.size → ¬ (fun q : Nat => s.heap.size ≤ q) a := fun _ h => Nat.not_le.mpr h
  have hF : zLX (fun q : Nat => s.heap.size ≤ q) s s.heap := zf_LX hts hn hnA
  have hXA : zXA (fun q : Nat => s.heap.size ≤ q) s s.heap := zf_XA hts
  obtain ⟨D, cA, hK⟩ := zf_K hts
  have Z : zw D (zTY cA) s (fun q : Nat => s.heap.size ≤ q) [] s.heap [] := ⟨hK, fun k q h => by simp at h, ⟨fun i j p q h => by simp at h, fun k q h => by simp at h⟩, va_S.rf⟩
  have hl := lv_entry ([.ref b]) (n := 9) (Nat.le_of_ble_eq_true rfl)
  rw [lg_entry_eq]
  generalize (lg_sl ([.ref b]) ++ List.replicate (9 - (lg_sl ([.ref b])).length) Slot.unset).toArray = ls at hl ⊢
  have hl : lv_has ls 9 [(0, .ref b)] := hl
  refine z_new (ci := 5) (fs := [.null, .null, .null, .null, .null, .null, .int 0]) (C := RX5) (T := TX5) (N := 7) (pc := 0) hx hb2 hts (fun w h => (tu_X5 w h).1) tyX5 tyX5_ok hown (zPiece_in 1 _ (List.mem_of_getElem? (i := 21) (by decide +kernel))) (zPiece_in 1 _ (List.mem_of_getElem? (i := 22) (by decide +kernel))) (zPiece_in 1 _ (List.mem_of_getElem? (i := 1) (by decide +kernel))) Z hA rfl (by decide +kernel) (Nat.le_of_ble_eq_true rfl) (Nat.le_of_ble_eq_true rfl) dL_law_0 (fun q5 H Z => ?_)
  refine lv_dup (pc := 3) hx hb2 dL_law_3 rfl ?_
  refine z_callI (pc := 4) (Wp := []) hXA ⟨hx, hb2, hml, hown, hts⟩ (nX5 l D cA q5) (cwI 0 hts tg_X5_init rfl rfl rfl (hts _ (zPiece_in 1 _ (List.mem_of_getElem? (i := 1) (by decide +kernel)))) (hts _ (zPiece_in 1 _ (List.mem_of_getElem? (i := 23) (by decide +kernel)))) (hts _ (zPiece_in 1 _ (List.mem_of_getElem? (i := 24) (by decide +kernel)))) rfl (by decide +kernel) ⟨(Nat.le_of_ble_eq_true rfl), (Nat.le_of_ble_eq_true rfl)⟩) Z hA hl.1 (Nat.le_of_ble_eq_true rfl) dL_law_4 ⟨(Nat.le_of_ble_eq_true rfl), (Nat.le_of_ble_eq_true rfl)⟩ (fun h5 H locs eh5 Z => ?_)
  refine lv_astore_n (lv' := [(1, .ref q5), (0, .ref b)]) (pc := 7) hx hb2 dL_law_7 rfl hl (by decide) rfl (fun ls hl => ?_)
  refine z_new (ci := 6) (fs := [.int 0, .null, .int 0, .int 0, .int 0, .int 0, .int 0, .int 0, .null, .null, .null, .int 0, .int 0, .int 0, .null, .null, .null, .null, .int 0, .null, .null, .null]) (C := RX6) (T := TX6) (N := 22) (pc := 8) hx hb2 hts (fun w h => (tu_X6 w h).1) tyX6 tyX6_ok hown (zPiece_in 4 _ (List.mem_of_getElem? (i := 130) (by decide +kernel))) (zPiece_in 4 _ (List.mem_of_getElem? (i := 131) (by decide +kernel))) (zPiece_in 1 _ (List.mem_of_getElem? (i := 7) (by decide +kernel))) Z hA rfl (by decide +kernel) (Nat.le_of_ble_eq_true rfl) (Nat.le_of_ble_eq_true rfl) dL_law_8 (fun q6 H Z => ?_)
  refine lv_dup (pc := 11) hx hb2 dL_law_11 rfl ?_
  refine z_callI (pc := 12) (Wp := ([] ++ V_X5 cA h5)) hXA ⟨hx, hb2, hml, hown, hts⟩ (nX6 l D cA u hu q6) (cwI 0 hts tg_X6_init rfl rfl rfl (hts _ (zPiece_in 1 _ (List.mem_of_getElem? (i := 7) (by decide +kernel)))) (hts _ (zPiece_in 4 _ (List.mem_of_getElem? (i := 132) (by decide +kernel)))) (hts _ (zPiece_in 4 _ (List.mem_of_getElem? (i := 133) (by decide +kernel)))) rfl (by decide +kernel) ⟨(Nat.le_of_ble_eq_true rfl), (Nat.le_of_ble_eq_true rfl)⟩) Z hA hl.1 (Nat.le_of_ble_eq_true rfl) dL_law_12 ⟨(Nat.le_of_ble_eq_true rfl), (Nat.le_of_ble_eq_true rfl)⟩ (fun h6 H locs eh6 Z => ?_)
  refine lv_astore_n (lv' := [(2, .ref q6), (1, .ref q5), (0, .ref b)]) (pc := 15) hx hb2 dL_law_15 rfl hl (by decide) rfl (fun ls hl => ?_)
  refine lv_iconst (v := (1 : Int32)) (pc := 16) hx hb2 dL_law_16 (by decide) ?_
  refine z_newa (atype := .long) (ty := .long) (a0 := (1, .inr (.inl (fun _ => 0)))) 5 (pc := 17) hx hb2 hts (zPiece_in 6 _ (List.mem_of_getElem? (i := 3) (by decide +kernel))) rfl (fun _ => rfl) rfl Z hA (fun _ => rfl) (by decide +kernel) (by decide +kernel) (Nat.le_of_ble_eq_true rfl) (Nat.le_of_ble_eq_true rfl) (Nat.le_of_ble_eq_true rfl) dL_law_17 (fun q7 H Z => ?_)
  refine lv_astore_n (lv' := [(3, .ref q7), (2, .ref q6), (1, .ref q5), (0, .ref b)]) (pc := 19) hx hb2 dL_law_19 rfl hl (by decide) rfl (fun ls hl => ?_)
  refine lv_iconst (v := (0 : Int32)) (pc := 20) hx hb2 dL_law_20 (by decide) ?_
  refine lv_istore (lv' := [(4, .int (0 : Int32)), (3, .ref q7), (2, .ref q6), (1, .ref q5), (0, .ref b)]) (pc := 21) hx hb2 dL_law_21 hl (by decide) rfl (fun ls hl => ?_)
  rw [← eh5, ← eh6] at hl
  replace Z : zw D (zTY cA) s (fun q : Nat => s.heap.size ≤ q) (WS cA (zHs h5 h6 q7) (zS0 u)) H locs := by rw [← zW0]; exact Z
  exact z_loop Inv hstep D cA (zHs h5 h6 q7) hr hlocks hL hx hb hml hown hts hfl hF hX hbl 513 0 (zS0 u) (by omega) (by omega) h0 H locs ls Z (lv_sub hl [4, 3, 2, 1, 0] rfl)
