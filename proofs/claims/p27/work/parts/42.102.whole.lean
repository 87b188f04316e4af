theorem zFlags (l : Launch) (h : l.flags = flags0) : l.stackTraces = false := by
  unfold Launch.stackTraces
  rw [h]
  decide +kernel
theorem z_vpin0 {L : Nat} (hL : L ≤ 260) (h : ¬ Int32.ofNat L ≤ (0 : Int32)) : vp_in 0 L := by
  rintro (h3 | h3)
  · exact absurd h3 (by decide)
  · have e : (0 : Int32).toNatClampNeg = 0 := rfl
    rw [e] at h3
    have : L = 0 := by omega
    subst this
    exact h (by decide)
set_option maxHeartbeats 8000000 in
set_option maxRecDepth 100000 in
theorem z_whole (hlaw : ∀ (L : Nat) (sd : Int32), L ≤ 260 → fL_law L sd = some ()) {p : Program} {e : Env} {s : State} {m : MethodId} {below : List Frame} {meth : Method} {c : Code} (l : Launch) (hflags : l.flags = flags0) {b L : Nat} {xs : Nat → Int32} (hL : L ≤ 260) (C0 : lw_At p s m meth c b L xs) : W p l e room_1 s m #[Value.ref b] below meth c s.heap [] 0 0 (lw_Z below #[Value.ref b] s) (entryFrame m ([Value.ref b] : List Value).toArray 21) := by
  obtain ⟨hx, hb, hr, hml, hown0, hts, hX, hbl, hlocks, hgv⟩ := id C0
  have hown : s.vm.findClass RL = some m.cls := hown0
  have hfl : l.stackTraces = false := zFlags l hflags
  have hn := flat_of_before _ hgv
  have hA : ∀ q : Nat, s.heap.size ≤ q → (fun q : Nat => s.heap.size ≤ q) q := fun _ h => h
  have hnA : ∀ a : Nat, a < s.heap.size → ¬ (fun q : Nat => s.heap.size ≤ q) a := fun _ h => Nat.not_le.mpr h
  have hF : zLX (fun q : Nat => s.heap.size ≤ q) s s.heap := zf_LX hts hn hnA
  have hXA : zXA (fun q : Nat => s.heap.size ≤ q) s s.heap := zf_XA hts
  obtain ⟨D, cA, hK⟩ := zf_K hts
  have Z : zw D (zTY cA) s (fun q : Nat => s.heap.size ≤ q) (zU []) s.heap [] := ⟨hK, fun k q h => by simp [zU] at h, ⟨fun i j p q h => by simp [zU] at h, fun k q h => by simp [zU] at h⟩, va_S.rf⟩
  have hl := lv_entry ([.ref b]) (n := 21) (Nat.le_of_ble_eq_true rfl)
  rw [lg_entry_eq]
  generalize (lg_sl ([.ref b]) ++ List.replicate (21 - (lg_sl ([.ref b])).length) Slot.unset).toArray = ls at hl ⊢
  have hl : lv_has ls 21 [(0, .ref b)] := hl
  exact zl_law l hfl D cA (hlaw L (xs (0 : Int32).toNatClampNeg) hL) (z_vpin0 hL) rfl hx hb hr hml hown hts hX hbl hlocks _ rfl ⟨hF, hXA⟩ Z hl
