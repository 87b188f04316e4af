section ZWT
variable {H n m : Nat} {ln : Nat → Nat} {pr wa sl : Nat → Bool} {hh cc rr ac dc : Int32} {co es se d li p w s lots : Nat → Int32}
theorem c_turn_no (hw : NW H n m ln pr wa) (hb : BV H n m ln pr wa sl hh cc rr li p w s) (hc : CV n pr wa lots dc) {i : Nat} (hi : i < n) (hd : ¬ (zdfb pr wa i = true ∨ zct (zdfb pr wa) n < 8)) {past : Nat → TB} {next kept : Int32} {no pg l us lo fi : Nat → Int32} {P K T z : Int32} :
    fX5_turnWanted (Int32.ofNat i) hh cc rr ac co li es se p w s past next kept no pg l us lo fi P K T lots dc z = some (.inl "java/lang/IllegalStateException") := by
  have hn := hw.2.2.1
  have hD := hw.2.2.2.2.2.2
  obtain ⟨b1, b2, b3, b4, b5, b6, b7⟩ := id hb
  have e1 : fX0_isDifferent (Int32.ofNat i) p w = some (zbi (zdfb pr wa i)) := by
    rw [e_isDifferent (by omega), b5 i (by omega), b6 i (by omega)]
    unfold zdfb
    cases pr i <;> cases wa i <;> rfl
  have hz : zdfb pr wa i = false := by
    cases hz : zdfb pr wa i
    · rfl
    · exact absurd (Or.inl hz) hd
  have h9 : ¬ dc < 8 := by
    rw [hc.1]
    exact fun h => hd (Or.inr ((n_lt (b := 8) (by omega) (by omega)).mp h))
  unfold fX5_turnWanted
  rw [e1, n_bind, n_let, hz, zbF, if_pos rfl, if_neg h9]
theorem m_want_ok (hn : n ≤ 24) (hD : zct (zdfb pr wa) n ≤ 8) (hm : MV H n m ln pr wa sl ac co es se d) {i : Nat} (hi : i < n) {v : Bool} (hv : wa i = !v) (hd : zdfb pr wa i = true ∨ zct (zdfb pr wa) n < 8) {x : Int32} (hx : x = zbi v) {hist hist' : Nat → Nat → Int32} {depth depth' : Int32} (hr : fX6_remember d hist depth = some (hist', depth')) :
    fX6_want (Int32.ofNat i) x 0 d hist depth = o_bind (fX6_different (upd (upd d (9 + 6 * i + 4) (zbi (!wa i))) (9 + 6 * i + 5) 0)) (fun x17 => some (x17, 0, upd (upd d (9 + 6 * i + 4) (zbi (!wa i))) (9 + 6 * i + 5) 0, hist', depth')) := by
  obtain ⟨d0, d1, d2, d3, d4, d5⟩ := hm.2.2.2.2.2 i hi
  subst hx
  have e1 : ¬ zbi (wa i) = zbi v := by rw [zbi_eq, hv]; cases v <;> simp
  have e2 : zbi v = zbi (!wa i) := by rw [hv, Bool.not_not]
  unfold fX6_want
  rw [e_of4 (by omega), n_bind, n_let, d4, if_neg e1, e_of3 (by omega), n_bind, d3]
  by_cases hp : zbi (pr i) = zbi v
  · rw [if_pos hp]
    show o_bind (fX6_remember d hist depth) _ = _
    rw [hr, n_bind]
    show o_bind (fX6_set (Int32.ofNat i) 4 (zbi v) d) _ = _
    rw [e_set4 (by omega), n_bind, e_set5 (by omega), n_bind, e2]
  · have h8 : zct (zdfb pr wa) n < 8 := by
      refine hd.resolve_left (fun h => hp ?_)
      rw [zbi_eq]
      unfold zdfb at h
      rw [hv] at h
      cases hpi : pr i <;> cases v <;> rw [hpi] at h <;> simp at h ⊢
    rw [if_neg hp, m_different hn hm, n_bind, if_neg (fun h => by
      have := (n_eq (b := 8) (by omega) (by omega)).mp h
      omega)]
    show o_bind (fX6_remember d hist depth) _ = _
    rw [hr, n_bind]
    show o_bind (fX6_set (Int32.ofNat i) 4 (zbi v) d) _ = _
    rw [e_set4 (by omega), n_bind, e_set5 (by omega), n_bind, e2]
theorem m_want_no (hn : n ≤ 24) (hD : zct (zdfb pr wa) n ≤ 8) (hm : MV H n m ln pr wa sl ac co es se d) {i : Nat} (hi : i < n) {v : Bool} (hd : ¬ (wa i = !v ∧ (zdfb pr wa i = true ∨ zct (zdfb pr wa) n < 8))) {x : Int32} (hx : x = zbi v) {hist : Nat → Nat → Int32} {depth : Int32} :
    fX6_want (Int32.ofNat i) x 0 d hist depth = some (0, 2, d, hist, depth) := by
  obtain ⟨d0, d1, d2, d3, d4, d5⟩ := hm.2.2.2.2.2 i hi
  subst hx
  unfold fX6_want
  rw [e_of4 (by omega), n_bind, n_let, d4]
  by_cases k1 : wa i = !v
  · have e1 : ¬ zbi (wa i) = zbi v := by rw [zbi_eq, k1]; cases v <;> simp
    have k2 : ¬ (zdfb pr wa i = true ∨ zct (zdfb pr wa) n < 8) := fun h => hd ⟨k1, h⟩
    have hp : ¬ zbi (pr i) = zbi v := fun hp => k2 (Or.inl (by
      rw [zbi_eq] at hp
      unfold zdfb
      rw [k1, hp]
      cases v <;> rfl))
    have h8 : zct (zdfb pr wa) n = 8 := by
      have : ¬ zct (zdfb pr wa) n < 8 := fun h => k2 (Or.inr h)
      omega
    rw [if_neg e1, e_of3 (by omega), n_bind, d3, if_neg hp, m_different hn hm, n_bind, h8]
    rfl
  · have e1 : zbi (wa i) = zbi v := by
      rw [zbi_eq]
      cases hz : wa i <;> cases v <;> rw [hz] at k1 <;> simp at k1 ⊢
    rw [if_pos e1]
    rfl
end ZWT
theorem s_16 (x th : Int32) {hh cc rr ac : Int32} {co li es se p w s d lots prices : Nat → Int32} {dc priced : Int32} {no pg l us lo fi : Nat → Int32} {P K T : Int32} {past : Nat → TB} {next kept : Int32} {hist : Nat → Nat → Int32} {depth : Int32} (h : SV (hh, cc, rr, ac, co, li, es, se, p, w, s) d (no, pg, l, us, lo, fi, P, K, T) lots dc prices priced) (hv : HV past next kept hist depth) (told : Nat → Int64) :
    ∃ w' s' past' next' kept' no' pg' l' us' lo' fi' P' K' T' lots' dc' priced' th' d' hist' depth' told', fS16 x hh cc rr ac co li es se p w s past next kept no pg l us lo fi P K T lots dc priced th d hist depth told = some (w', s', past', next', kept', no', pg', l', us', lo', fi', P', K', T', lots', dc', priced', th', d', hist', depth', told') ∧ SV (hh, cc, rr, ac, co, li, es, se, p, w', s') d' (no', pg', l', us', lo', fi', P', K', T') lots' dc' prices priced' ∧ HV past' next' kept' hist' depth' := by
  have hq := SV_QB h
  have h0 := h
  obtain ⟨H, n, m, ln, pr, wa, sl, hw, hb, hm, hy, hc, hp⟩ := h
  have hn := hw.2.2.1
  have hD := hw.2.2.2.2.2.2
  obtain ⟨b1, b2, b3, b4, b5, b6, b7⟩ := id hb
  have b2 : cc = Int32.ofNat n := b2
  have b6 : ∀ i, i < 24 → w i = zbi (wa i) := b6
  rcases n_range (show n < 2147483648 by omega) x with hx | ⟨i, hi, rfl⟩
  · refine ⟨w, s, past, next, kept, no, pg, l, us, lo, fi, P, K, T, lots, dc, priced, 1, d, hist, depth, told, ?_, h0, hv⟩
    have h5 : fX5_withdraw x hh cc rr ac co li es se p w s past next kept no pg l us lo fi P K T lots dc priced = some (.inl "java/lang/IndexOutOfBoundsException") := by
      unfold fX5_withdraw
      rw [b2, needLot_f (by omega) hx, o_tryL]
    have h6 : fX6_withdraw x th d hist depth = some (0, 1, d, hist, depth) := by
      unfold fX6_withdraw
      rw [m_noLot_f hn hm hx]
      rfl
    unfold fS16 fL_withdraw
    rw [h5, h6]
    rfl
  · by_cases hok : wa i = !false ∧ (zdfb pr wa i = true ∨ zct (zdfb pr wa) n < 8)
    · obtain ⟨k1, k2⟩ := hok
      obtain ⟨q1, q2, q3⟩ := turn_QB hw hb hm hi k2
      obtain ⟨past', next', kept', hist', depth', r1, r2, r3⟩ := h_remember hv hq
      obtain ⟨no', pg', l', us', lo', fi', P', K', T', lots', dc', t1, t2⟩ := h_settle q1 no pg l us lo fi P K T lots dc priced prices
      have t3 := c_turn hw hb hc hi k2 r1 t1
      have hdc : dc' = Int32.ofNat (zct (zdfb pr (zwa wa i)) n) := by
        obtain ⟨H2, n2, m2, ln2, pr2, wa2, sl2, u1, u2, u3, u4, u5, -⟩ := t2
        rw [u5.1]
        have e1 := m_different u1.2.2.1 u3
        rw [m_different hn q3] at e1
        exact (Option.some.inj e1).symm
      have h5 : fX5_withdraw (Int32.ofNat i) hh cc rr ac co li es se p w s past next kept no pg l us lo fi P K T lots dc priced = some (.inr (dc', upd w i (zbi (!wa i)), upd s i (zbi false), past', next', kept', no', pg', l', us', lo', fi', P', K', T', lots', dc', 0)) := by
        unfold fX5_withdraw
        rw [b2, needLot_t (by omega) hi, o_tryR, n_rd (by omega) (by omega), n_cl (by omega), b6 i (by omega), ← b2, t3, o_tryR, k1]
        rfl
      have h6 : fX6_withdraw (Int32.ofNat i) th d hist depth = some (dc', 0, upd (upd d (9 + 6 * i + 4) (zbi (!wa i))) (9 + 6 * i + 5) 0, hist', depth') := by
        unfold fX6_withdraw
        rw [m_noLot_t hn hm hi, n_bind]
        show o_bind (fX6_want (Int32.ofNat i) 0 0 d hist depth) _ = _
        rw [m_want_ok hn hD hm hi (v := false) k1 k2 (x := 0) rfl r2, m_different hn q3, hdc]
        rfl
      refine ⟨_, _, past', next', kept', no', pg', l', us', lo', fi', P', K', T', lots', dc', 0, 0, _, hist', depth', vp_updL told (0 : Int32).toNatClampNeg dc'.toInt64, ?_, t2, r3⟩
      unfold fS16 fL_withdraw
      rw [h5, h6]
      simp only [o_hlp, n_bind, if_true, fX6_thrown, g_fin]
    · refine ⟨w, s, past, next, kept, no, pg, l, us, lo, fi, P, K, T, lots, dc, priced, 2, d, hist, depth, told, ?_, h0, hv⟩
      have h5 : fX5_withdraw (Int32.ofNat i) hh cc rr ac co li es se p w s past next kept no pg l us lo fi P K T lots dc priced = some (.inl "java/lang/IllegalStateException") := by
        unfold fX5_withdraw
        rw [b2, needLot_t (by omega) hi, o_tryR, n_rd (by omega) (by omega), n_cl (by omega), b6 i (by omega), ← b2]
        by_cases k1 : wa i = !false
        · rw [c_turn_no hw hb hc hi (fun hh => hok ⟨k1, hh⟩), o_tryL, k1]
          rfl
        · have k2 : wa i = false := by
            revert k1
            cases wa i <;> simp
          rw [k2]
          rfl
      have h6 : fX6_withdraw (Int32.ofNat i) th d hist depth = some (0, 2, d, hist, depth) := by
        unfold fX6_withdraw
        rw [m_noLot_t hn hm hi, n_bind]
        show o_bind (fX6_want (Int32.ofNat i) 0 0 d hist depth) _ = _
        rw [m_want_no hn hD hm hi (v := false) hok (x := 0) rfl, n_bind]
      unfold fS16 fL_withdraw
      rw [h5, h6]
      rfl
theorem s_17 (x th : Int32) {hh cc rr ac : Int32} {co li es se p w s d lots prices : Nat → Int32} {dc priced : Int32} {no pg l us lo fi : Nat → Int32} {P K T : Int32} {past : Nat → TB} {next kept : Int32} {hist : Nat → Nat → Int32} {depth : Int32} (h : SV (hh, cc, rr, ac, co, li, es, se, p, w, s) d (no, pg, l, us, lo, fi, P, K, T) lots dc prices priced) (hv : HV past next kept hist depth) (told : Nat → Int64) :
    ∃ w' s' past' next' kept' no' pg' l' us' lo' fi' P' K' T' lots' dc' priced' th' d' hist' depth' told', fS17 x hh cc rr ac co li es se p w s past next kept no pg l us lo fi P K T lots dc priced th d hist depth told = some (w', s', past', next', kept', no', pg', l', us', lo', fi', P', K', T', lots', dc', priced', th', d', hist', depth', told') ∧ SV (hh, cc, rr, ac, co, li, es, se, p, w', s') d' (no', pg', l', us', lo', fi', P', K', T') lots' dc' prices priced' ∧ HV past' next' kept' hist' depth' := by
  have hq := SV_QB h
  have h0 := h
  obtain ⟨H, n, m, ln, pr, wa, sl, hw, hb, hm, hy, hc, hp⟩ := h
  have hn := hw.2.2.1
  have hD := hw.2.2.2.2.2.2
  obtain ⟨b1, b2, b3, b4, b5, b6, b7⟩ := id hb
  have b2 : cc = Int32.ofNat n := b2
  have b6 : ∀ i, i < 24 → w i = zbi (wa i) := b6
  rcases n_range (show n < 2147483648 by omega) x with hx | ⟨i, hi, rfl⟩
  · refine ⟨w, s, past, next, kept, no, pg, l, us, lo, fi, P, K, T, lots, dc, priced, 1, d, hist, depth, told, ?_, h0, hv⟩
    have h5 : fX5_restore x hh cc rr ac co li es se p w s past next kept no pg l us lo fi P K T lots dc priced = some (.inl "java/lang/IndexOutOfBoundsException") := by
      unfold fX5_restore
      rw [b2, needLot_f (by omega) hx, o_tryL]
    have h6 : fX6_restore x th d hist depth = some (0, 1, d, hist, depth) := by
      unfold fX6_restore
      rw [m_noLot_f hn hm hx]
      rfl
    unfold fS17 fL_restore
    rw [h5, h6]
    rfl
  · by_cases hok : wa i = !true ∧ (zdfb pr wa i = true ∨ zct (zdfb pr wa) n < 8)
    · obtain ⟨k1, k2⟩ := hok
      obtain ⟨q1, q2, q3⟩ := turn_QB hw hb hm hi k2
      obtain ⟨past', next', kept', hist', depth', r1, r2, r3⟩ := h_remember hv hq
      obtain ⟨no', pg', l', us', lo', fi', P', K', T', lots', dc', t1, t2⟩ := h_settle q1 no pg l us lo fi P K T lots dc priced prices
      have t3 := c_turn hw hb hc hi k2 r1 t1
      have hdc : dc' = Int32.ofNat (zct (zdfb pr (zwa wa i)) n) := by
        obtain ⟨H2, n2, m2, ln2, pr2, wa2, sl2, u1, u2, u3, u4, u5, -⟩ := t2
        rw [u5.1]
        have e1 := m_different u1.2.2.1 u3
        rw [m_different hn q3] at e1
        exact (Option.some.inj e1).symm
      have h5 : fX5_restore (Int32.ofNat i) hh cc rr ac co li es se p w s past next kept no pg l us lo fi P K T lots dc priced = some (.inr (dc', upd w i (zbi (!wa i)), upd s i (zbi false), past', next', kept', no', pg', l', us', lo', fi', P', K', T', lots', dc', 0)) := by
        unfold fX5_restore
        rw [b2, needLot_t (by omega) hi, o_tryR, n_rd (by omega) (by omega), n_cl (by omega), b6 i (by omega), ← b2, t3, o_tryR, k1]
        rfl
      have h6 : fX6_restore (Int32.ofNat i) th d hist depth = some (dc', 0, upd (upd d (9 + 6 * i + 4) (zbi (!wa i))) (9 + 6 * i + 5) 0, hist', depth') := by
        unfold fX6_restore
        rw [m_noLot_t hn hm hi, n_bind]
        show o_bind (fX6_want (Int32.ofNat i) 1 0 d hist depth) _ = _
        rw [m_want_ok hn hD hm hi (v := true) k1 k2 (x := 1) rfl r2, m_different hn q3, hdc]
        rfl
      refine ⟨_, _, past', next', kept', no', pg', l', us', lo', fi', P', K', T', lots', dc', 0, 0, _, hist', depth', vp_updL told (0 : Int32).toNatClampNeg dc'.toInt64, ?_, t2, r3⟩
      unfold fS17 fL_restore
      rw [h5, h6]
      simp only [o_hlp, n_bind, if_true, fX6_thrown, g_fin]
    · refine ⟨w, s, past, next, kept, no, pg, l, us, lo, fi, P, K, T, lots, dc, priced, 2, d, hist, depth, told, ?_, h0, hv⟩
      have h5 : fX5_restore (Int32.ofNat i) hh cc rr ac co li es se p w s past next kept no pg l us lo fi P K T lots dc priced = some (.inl "java/lang/IllegalStateException") := by
        unfold fX5_restore
        rw [b2, needLot_t (by omega) hi, o_tryR, n_rd (by omega) (by omega), n_cl (by omega), b6 i (by omega), ← b2]
        by_cases k1 : wa i = !true
        · rw [c_turn_no hw hb hc hi (fun hh => hok ⟨k1, hh⟩), o_tryL, k1]
          rfl
        · have k2 : wa i = true := by
            revert k1
            cases wa i <;> simp
          rw [k2]
          rfl
      have h6 : fX6_restore (Int32.ofNat i) th d hist depth = some (0, 2, d, hist, depth) := by
        unfold fX6_restore
        rw [m_noLot_t hn hm hi, n_bind]
        show o_bind (fX6_want (Int32.ofNat i) 1 0 d hist depth) _ = _
        rw [m_want_no hn hD hm hi (v := true) hok (x := 1) rfl, n_bind]
      unfold fS17 fL_restore
      rw [h5, h6]
      rfl
