set_option maxRecDepth 100000 in
theorem z_first : Inv (zS0 (zlb 20 (fun _ => 0))) := by
  have hbo : BO (fun _ => 0) (fun _ => 0) (fun _ => 0) := ⟨fun _ => false, fun _ => false, fun _ => false, fun _ _ => rfl, fun _ _ => rfl, fun _ _ => rfl⟩
  obtain ⟨H, n, m, ln, pr, wa, sl, h1, h2, h3, h4⟩ := lb_PB (H := 20) (by omega) (by omega) (fun _ => 0) (fun _ => 0) (fun _ => 0) (fun _ => 0) (fun _ => 0) (fun _ => 0) (fun _ => 0) (fun _ => 0) hbo
  have hn : n = 0 := by
    have h5 : Int32.ofNat n = 0 := h2.2.1.symm
    have := h1.2.2.1
    exact (n_eq (b := 0) (by omega) (by omega)).mp h5
  subst hn
  refine ⟨⟨0, by omega, rfl, rfl, fun i hi => absurd hi (Nat.not_lt_zero _)⟩, hbo, ⟨0, 0, by omega, by omega, rfl, rfl, rfl, fun e he => absurd he (Nat.not_lt_zero _)⟩, ?_, rfl⟩
  refine SV_intro (H := H) (n := 0) (m := m) (ln := ln) (pr := pr) (wa := wa) (sl := sl) h1 h2 h3 ?_ ?_ (Or.inl rfl)
  · exact ⟨fun i hi => absurd hi (Nat.not_lt_zero _), fun p hp => absurd hp (Nat.not_lt_zero _), fun h => absurd h (Nat.not_lt_zero _), rfl, rfl, rfl⟩
  · exact ⟨rfl, fun i hi => absurd hi (Nat.not_lt_zero _)⟩
theorem whole_start {p : Program} {e : Env} {s : State} {m : MethodId} {below : List Frame} {meth : Method} {c : Code} (l : Launch) (hflags : l.flags = flags0) {b L : Nat} {xs : Nat → Int32} (hL : L ≤ 3072) (C0 : lw_At p s m meth c b L xs) : W p l e room_1 s m #[Value.ref b] below meth c s.heap [] 0 0 (lw_Z below #[Value.ref b] s) (entryFrame m ([Value.ref b] : List Value).toArray 9) :=
  z_whole Inv (zlb 20 (fun _ => 0)) (m_layBill 20 (fun _ => 0)) z_first z_hstep l hflags hL C0
