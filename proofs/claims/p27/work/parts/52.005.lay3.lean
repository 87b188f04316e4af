section ZL3
variable {H n : Nat} {ln : Nat → Nat} {pr : Nat → Bool} {r lines : Nat → Int32}
theorem n_leLine {U l H : Nat} (hU : U ≤ 40) (hl : l ≤ 40) (hH : H ≤ 40) : (Int32.ofNat H < Int32.ofNat U + Int32.ofNat l) ↔ H < U + l := by
  rw [← Int32.ofNat_add, n_lt (by omega) (by omega)]
theorem e_place {k : Nat} {no pg li us lo fi : Nat → Int32} {P K T : Int32} (hH : H ≤ 40) (hk : k < 24) (hp : pr k = true) (hl : ln k ≤ H) (hU : zUs H ln pr k ≤ H) (h : YOK H ln pr k (no, pg, li, us, lo, fi, P, K, T)) :
    ∃ a b c d e f g x y, fX3_place (Int32.ofNat k) (Int32.ofNat (ln k)) (Int32.ofNat H) no pg li us lo fi P K T = some (a, b, c, d, e, f, g, x, y) ∧ YOK H ln pr (k + 1) (a, b, c, d, e, f, g, x, y) := by
  have h0 := h
  obtain ⟨h1, h2, h3, h4, h5, h6⟩ := h
  have hP := (zP_le H ln pr k).1
  have h4' : P = Int32.ofNat (zP H ln pr k) := h4
  by_cases hc : zP H ln pr k = 0 ∨ H < zUs H ln pr k + ln k
  · refine ⟨_, _, _, _, _, _, _, _, _, ?_, yok_new hk hp hc h0⟩
    rw [h4']
    refine e_placeNew hk (by omega) _ _ no pg li us lo fi K T ?_
    rcases hc with hc | hc
    · exact Or.inl hc
    · by_cases hz : zP H ln pr k = 0
      · exact Or.inl hz
      · refine Or.inr ?_
        have := h3 (by omega)
        rw [show us (zP H ln pr k - 1) = Int32.ofNat (zUs H ln pr k) from this]
        exact (n_leLine (by omega) (by omega) hH).mpr hc
  · obtain ⟨Q, hQ⟩ : ∃ Q, zP H ln pr k = Q + 1 := ⟨zP H ln pr k - 1, by omega⟩
    refine ⟨_, _, _, _, _, _, _, _, _, ?_, yok_go hk hp hQ (by omega) h0⟩
    rw [h4', hQ]
    refine e_placeGo hk (by omega) _ _ no pg li us lo fi K T ?_
    have := h3 (by omega)
    rw [hQ] at this
    rw [show us Q = Int32.ofNat (zUs H ln pr k) from this, n_leLine (by omega) (by omega) hH]
    omega
theorem e_lay3 (hH : H ≤ 40) (hn : n ≤ 24) (hl : ∀ i, i < n → lines i = Int32.ofNat (ln i) ∧ ln i ≤ H) (hr : ∀ i, i < n → (r i = 0 ↔ pr i = false)) (no pg li us lo fi : Nat → Int32) (P K T : Int32) :
    ∃ Y, YOK H ln pr n Y ∧ fX3_lay no pg li us lo fi P K T (Int32.ofNat H) (Int32.ofNat n) lines r = some Y := by
  refine n_inv (fun f k (s : ZY) => fX3_lay_L17 (Int32.ofNat n) r lines (Int32.ofNat H) f (Int32.ofNat k) s.1 s.2.1 s.2.2.1 s.2.2.2.1 s.2.2.2.2.1 s.2.2.2.2.2.1 s.2.2.2.2.2.2.1 s.2.2.2.2.2.2.2.1 s.2.2.2.2.2.2.2.2) n some (YOK H ln pr) (fun f s hs => ?_) (fun f k s hk hs => ?_) n 0 1024 (no, pg, li, us, lo, fi, 0, 0, 0) (by omega) (by omega) ?_
  · simp only [fX3_lay_L17, Int32.le_refl, if_true]
  · obtain ⟨no, pg, li, us, lo, fi, P, K, T⟩ := s
    obtain ⟨e1, e2⟩ := hl k hk
    cases hp : pr k with
    | false =>
      refine ⟨_, yok_no (by omega) hp hs, ?_⟩
      simp (disch := omega) only [fX3_lay_L17, n_le, n_rd, n_cl, n_let, n_s, n_bind, n_24, e_leaveOut, show ¬ n ≤ k from by omega, if_false, if_true, (hr k hk).mpr hp]
    | true =>
      have hr1 : ¬ r k = 0 := fun h => by rw [(hr k hk).mp h] at hp; cases hp
      obtain ⟨a, b, c, d, e, f', g, x, y, q1, q2⟩ := e_place hH (by omega) hp e2 (zUs_le H ln pr k (fun j hj => (hl j (by omega)).2)) hs
      refine ⟨_, q2, ?_⟩
      simp (disch := omega) only [fX3_lay_L17, n_le, n_rd, n_cl, n_let, n_s, n_bind, n_24, e1, q1, show ¬ n ≤ k from by omega, if_false, if_true, hr1]
  · exact ⟨fun i hi => absurd hi (Nat.not_lt_zero _), fun p hp => absurd hp (Nat.not_lt_zero _), fun h => absurd h (Nat.not_lt_zero _), rfl, rfl, rfl⟩
theorem e_lay3z (hH : H ≤ 40) (hn : n ≤ 24) (hl : ∀ i, i < n → lines i = Int32.ofNat (ln i) ∧ ln i ≤ H) (hr : ∀ i, i < n → (r i = 0 ↔ pr i = false)) (no pg li us lo fi : Nat → Int32) (P K T : Int32) :
    ∃ Y, YOK H ln pr n Y ∧ fX3_lay_z no pg li us lo fi P K T (Int32.ofNat H) (Int32.ofNat n) lines r = some Y := by
  refine n_inv (fun f k (s : ZY) => fX3_lay_z_L17 (Int32.ofNat n) r lines (Int32.ofNat H) f (Int32.ofNat k) s.1 s.2.1 s.2.2.1 s.2.2.2.1 s.2.2.2.2.1 s.2.2.2.2.2.1 s.2.2.2.2.2.2.1 s.2.2.2.2.2.2.2.1 s.2.2.2.2.2.2.2.2) n some (YOK H ln pr) (fun f s hs => ?_) (fun f k s hk hs => ?_) n 0 1024 (no, pg, li, us, lo, fi, 0, 0, 0) (by omega) (by omega) ?_
  · simp only [fX3_lay_z_L17, Int32.le_refl, if_true]
  · obtain ⟨no, pg, li, us, lo, fi, P, K, T⟩ := s
    obtain ⟨e1, e2⟩ := hl k hk
    cases hp : pr k with
    | false =>
      refine ⟨_, yok_no (by omega) hp hs, ?_⟩
      simp (disch := omega) only [fX3_lay_z_L17, n_le, n_rd, n_cl, n_let, n_s, n_bind, n_24, e_leaveOut, show ¬ n ≤ k from by omega, if_false, if_true, (hr k hk).mpr hp]
    | true =>
      have hr1 : ¬ r k = 0 := fun h => by rw [(hr k hk).mp h] at hp; cases hp
      obtain ⟨a, b, c, d, e, f', g, x, y, q1, q2⟩ := e_place hH (by omega) hp e2 (zUs_le H ln pr k (fun j hj => (hl j (by omega)).2)) hs
      refine ⟨_, q2, ?_⟩
      simp (disch := omega) only [fX3_lay_z_L17, n_le, n_rd, n_cl, n_let, n_s, n_bind, n_24, e1, q1, show ¬ n ≤ k from by omega, if_false, if_true, hr1]
  · exact ⟨fun i hi => absurd hi (Nat.not_lt_zero _), fun p hp => absurd hp (Nat.not_lt_zero _), fun h => absurd h (Nat.not_lt_zero _), rfl, rfl, rfl⟩
end ZL3
