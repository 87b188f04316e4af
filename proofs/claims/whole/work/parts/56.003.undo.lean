theorem c_bring0 (past : Nat → TB) {nx : Nat} (hx : nx < 8) (hh cc rr ac : Int32) (co li es se p w s : Nat → Int32) :
    fX2_bringBack past (Int32.ofNat nx) (Int32.ofNat 0) hh cc rr ac co li es se p w s = some (-1, Int32.ofNat nx, Int32.ofNat 0, hh, cc, rr, ac, co, li, es, se, p, w, s) := by
  rcases n_8 hx with rfl | rfl | rfl | rfl | rfl | rfl | rfl | rfl
  · show fX2_bringBack_at0 past (Int32.ofNat 0) hh cc rr ac co li es se p w s = _
    unfold fX2_bringBack_at0
    rw [if_pos (show Int32.ofNat 0 ≤ 0 from by decide)]
    rfl
  · show fX2_bringBack_at1 past (Int32.ofNat 0) hh cc rr ac co li es se p w s = _
    unfold fX2_bringBack_at1
    rw [if_pos (show Int32.ofNat 0 ≤ 0 from by decide)]
    rfl
  · show fX2_bringBack_at2 past (Int32.ofNat 0) hh cc rr ac co li es se p w s = _
    unfold fX2_bringBack_at2
    rw [if_pos (show Int32.ofNat 0 ≤ 0 from by decide)]
    rfl
  · show fX2_bringBack_at3 past (Int32.ofNat 0) hh cc rr ac co li es se p w s = _
    unfold fX2_bringBack_at3
    rw [if_pos (show Int32.ofNat 0 ≤ 0 from by decide)]
    rfl
  · show fX2_bringBack_at4 past (Int32.ofNat 0) hh cc rr ac co li es se p w s = _
    unfold fX2_bringBack_at4
    rw [if_pos (show Int32.ofNat 0 ≤ 0 from by decide)]
    rfl
  · show fX2_bringBack_at5 past (Int32.ofNat 0) hh cc rr ac co li es se p w s = _
    unfold fX2_bringBack_at5
    rw [if_pos (show Int32.ofNat 0 ≤ 0 from by decide)]
    rfl
  · show fX2_bringBack_at6 past (Int32.ofNat 0) hh cc rr ac co li es se p w s = _
    unfold fX2_bringBack_at6
    rw [if_pos (show Int32.ofNat 0 ≤ 0 from by decide)]
    rfl
  · show fX2_bringBack_at7 past (Int32.ofNat 0) hh cc rr ac co li es se p w s = _
    unfold fX2_bringBack_at7
    rw [if_pos (show Int32.ofNat 0 ≤ 0 from by decide)]
    rfl
theorem s_22 (th : Int32) {hh cc rr ac : Int32} {co li es se p w s d lots prices : Nat → Int32} {dc priced : Int32} {no pg l us lo fi : Nat → Int32} {P K T : Int32} {past : Nat → TB} {next kept : Int32} {hist : Nat → Nat → Int32} {depth : Int32} (h : SV (hh, cc, rr, ac, co, li, es, se, p, w, s) d (no, pg, l, us, lo, fi, P, K, T) lots dc prices priced) (hv : HV past next kept hist depth) :
    ∃ hh' cc' rr' ac' co' li' es' se' p' w' s' next' kept' no' pg' l' us' lo' fi' P' K' T' lots' dc' priced' th' d' depth', fS22 hh cc rr ac co li es se p w s past next kept no pg l us lo fi P K T lots dc priced th d hist depth = some (hh', cc', rr', ac', co', li', es', se', p', w', s', next', kept', no', pg', l', us', lo', fi', P', K', T', lots', dc', priced', th', d', depth') ∧ SV (hh', cc', rr', ac', co', li', es', se', p', w', s') d' (no', pg', l', us', lo', fi', P', K', T') lots' dc' prices priced' ∧ HV past next' kept' hist depth' := by
  have hv0 := hv
  obtain ⟨nx, kp, h1, h2, h3, h4, h5, h6⟩ := hv
  subst h3 h4 h5
  by_cases hk : kp = 0
  · subst hk
    refine ⟨hh, cc, rr, ac, co, li, es, se, p, w, s, Int32.ofNat nx, Int32.ofNat 0, no, pg, l, us, lo, fi, P, K, T, lots, dc, priced, 0, d, 0, ?_, h, hv0⟩
    unfold fS22 fX5_undo
    rw [c_bring0 past h1, n_bind]
    rfl
  · obtain ⟨kq, rfl⟩ : ∃ kq, kp = kq + 1 := ⟨kp - 1, by omega⟩
    have hqb := h6 0 (by omega)
    rw [Nat.sub_zero, Nat.sub_zero, Nat.add_sub_cancel] at hqb
    have hbo := hqb
    obtain ⟨H, n, m, ln, pr, wa, sl, hw, ⟨b1, b2, b3, b4, b5, b6, b7⟩, -⟩ := hbo
    obtain ⟨d', u1, u2⟩ := m_undo (show kq < 8 by omega) th d hist
    have r1 := c_bringBack past h1 (show kq < 8 by omega) hh cc rr ac co li es se p w s ⟨o_bo_of b5, o_bo_of b6, o_bo_of b7⟩
    generalize hq : past ((nx + 7) % 8) = q at *
    have hq2 := QB_ext hqb (QE_copy q (hh, cc, rr, ac, co, li, es, se, p, w, s)) u2
    obtain ⟨no', pg', l', us', lo', fi', P', K', T', lots', dc', t1, t2⟩ := h_settle hq2 no pg l us lo fi P K T lots dc priced prices
    refine ⟨_, _, _, _, _, _, _, _, _, _, _, Int32.ofNat ((nx + 7) % 8), Int32.ofNat kq, no', pg', l', us', lo', fi', P', K', T', lots', dc', 0, 0, d', Int32.ofNat kq, ?_, t2, ⟨(nx + 7) % 8, kq, by omega, by omega, rfl, rfl, rfl, fun e he => ?_⟩⟩
    · unfold fS22 fX5_undo
      rw [r1, n_bind]
      show o_bind (if Int32.ofNat kq < 0 then _ else o_bind (fX5_settle q.1 q.2.1 (va_cpy q.2.2.2.2.2.1 li 0 0 24) (va_cpy q.2.2.2.2.2.2.2.2.1 p 0 0 24) (va_cpy q.2.2.2.2.2.2.2.2.2.1 w 0 0 24) no pg l us lo fi P K T lots dc priced) _) _ = _
      rw [if_neg (n_lt0 (by omega)), t1, n_bind, n_bind]
      show o_bind (fX6_undo th d hist (Int32.ofNat (kq + 1))) _ = _
      rw [u1, n_bind]
      exact if_pos rfl
    · have h7 := h6 (e + 1) (by omega)
      rw [show ((nx + 7) % 8 + 7 - e) % 8 = (nx + 7 - (e + 1)) % 8 by omega, show kq - 1 - e = kq + 1 - 1 - (e + 1) by omega]
      exact h7
section ZSC
variable {H n m : Nat} {ln : Nat → Nat} {pr wa sl : Nat → Bool} {hh cc rr ac dc : Int32} {co es se d li p w s lots : Nat → Int32}
theorem cost_QB {j : Nat} (hj : j < 5) (v : Int32) (h : QB (hh, cc, rr, ac, co, li, es, se, p, w, s) d) : QB (hh, cc, rr, ac, upd co j v, li, es, se, p, w, s) (upd d (4 + j) v) := by
  obtain ⟨H, n, m, ln, pr, wa, sl, hw, hb, ⟨m1, m2, m3, m4, m5, m6⟩⟩ := h
  refine ⟨H, n, m, ln, pr, wa, sl, hw, hb, ⟨(upd_ne (by omega)).trans m1, (upd_ne (by omega)).trans m2, (upd_ne (by omega)).trans m3, (upd_ne (by omega)).trans m4, fun k hk => ?_, fun i hi => ?_⟩⟩
  · show upd d (4 + j) v (4 + k) = upd co j v k
    by_cases e : k = j
    · subst e; exact upd_same.trans upd_same.symm
    · rw [upd_ne e, upd_ne (by omega)]; exact m5 k hk
  · obtain ⟨d0, d1, d2, d3, d4, d5⟩ := m6 i hi
    exact ⟨(upd_ne (by omega)).trans d0, (upd_ne (by omega)).trans d1, (upd_ne (by omega)).trans d2, (upd_ne (by omega)).trans d3, (upd_ne (by omega)).trans d4, (upd_ne (by omega)).trans d5⟩
end ZSC
theorem s_21 (x x2 th : Int32) {hh cc rr ac : Int32} {co li es se p w s d lots prices : Nat → Int32} {dc priced : Int32} {no pg l us lo fi : Nat → Int32} {P K T : Int32} {past : Nat → TB} {next kept : Int32} {hist : Nat → Nat → Int32} {depth : Int32} (h : SV (hh, cc, rr, ac, co, li, es, se, p, w, s) d (no, pg, l, us, lo, fi, P, K, T) lots dc prices priced) (hv : HV past next kept hist depth) (told : Nat → Int64) :
    ∃ co' past' next' kept' no' pg' l' us' lo' fi' P' K' T' lots' dc' priced' th' d' hist' depth' told', fS21 x x2 hh cc rr ac co li es se p w s past next kept no pg l us lo fi P K T lots dc priced th d hist depth told = some (co', past', next', kept', no', pg', l', us', lo', fi', P', K', T', lots', dc', priced', th', d', hist', depth', told') ∧ SV (hh, cc, rr, ac, co', li, es, se, p, w, s) d' (no', pg', l', us', lo', fi', P', K', T') lots' dc' prices priced' ∧ HV past' next' kept' hist' depth' := by
  have hq := SV_QB h
  have bad : fX5_setCost x x2 hh cc rr ac co li es se p w s past next kept no pg l us lo fi P K T lots dc priced = some (.inl "java/lang/IllegalArgumentException") → fX6_setCost x x2 th d hist depth = some (0, 1, d, hist, depth) → ∃ co' past' next' kept' no' pg' l' us' lo' fi' P' K' T' lots' dc' priced' th' d' hist' depth' told', fS21 x x2 hh cc rr ac co li es se p w s past next kept no pg l us lo fi P K T lots dc priced th d hist depth told = some (co', past', next', kept', no', pg', l', us', lo', fi', P', K', T', lots', dc', priced', th', d', hist', depth', told') ∧ SV (hh, cc, rr, ac, co', li, es, se, p, w, s) d' (no', pg', l', us', lo', fi', P', K', T') lots' dc' prices priced' ∧ HV past' next' kept' hist' depth' := fun h5 h6 => by
    refine ⟨co, past, next, kept, no, pg, l, us, lo, fi, P, K, T, lots, dc, priced, 1, d, hist, depth, told, ?_, h, hv⟩
    unfold fS21 fL_setCost
    rw [h5, h6]
    rfl
  rcases n_range (show 5 < 2147483648 by omega) x with hx | ⟨j, hj, rfl⟩
  · refine bad ?_ ?_
    · unfold fX5_setCost
      by_cases h1 : x < 0
      · rw [if_pos h1]
      · rw [if_neg h1, if_pos (show (5 : Int32) ≤ x from hx.resolve_left h1)]
    · unfold fX6_setCost
      rw [inL_f (n := 5) (by omega) (by decide) hx, n_bind]
      rfl
  · have hj5 : ¬ (5 : Int32) ≤ Int32.ofNat j := fun h => by
      have := (n_le (a := 5) (by omega) (by omega)).mp h
      omega
    rcases n_range (show 100 < 2147483648 by omega) x2 with hx | ⟨v, hv2, rfl⟩
    · refine bad ?_ ?_
      · unfold fX5_setCost
        rw [if_neg (n_lt0 (by omega)), if_neg hj5]
        by_cases h1 : x2 < 0
        · rw [if_pos h1]
        · rw [if_neg h1, if_neg (fun h => by
            have h2 : Int32.ofNat 100 ≤ x2 := hx.resolve_left h1
            rw [Int32.le_iff_toInt_le] at h h2
            have e1 : (99 : Int32).toInt = 99 := rfl
            have e2 : (Int32.ofNat 100).toInt = 100 := rfl
            omega)]
      · unfold fX6_setCost
        rw [inL_t (n := 5) (by omega) (by decide) hj, n_bind, n_let, if_neg (by decide), inL_f (n := 100) (by omega) (by decide) hx, n_bind]
        rfl
    · obtain ⟨past', next', kept', hist', depth', r1, r2, r3⟩ := h_remember hv hq
      obtain ⟨no', pg', l', us', lo', fi', P', K', T', lots', dc', t1, t2⟩ := h_settle (cost_QB hj (Int32.ofNat v) hq) no pg l us lo fi P K T lots dc priced prices
      have hd : d (4 + j) = co j := by
        obtain ⟨H, n, m, ln, pr, wa, sl, hw, hb, ⟨m1, m2, m3, m4, m5, m6⟩⟩ := hq
        exact m5 j hj
      have e4 : (4 : Int32) + Int32.ofNat j = Int32.ofNat (4 + j) := (Int32.ofNat_add 4 j).symm
      have h5 : fX5_setCost (Int32.ofNat j) (Int32.ofNat v) hh cc rr ac co li es se p w s past next kept no pg l us lo fi P K T lots dc priced = some (.inr (co j, upd co j (Int32.ofNat v), past', next', kept', no', pg', l', us', lo', fi', P', K', T', lots', dc', 0)) := by
        unfold fX5_setCost
        rw [if_neg (n_lt0 (by omega)), if_neg hj5, if_neg (n_lt0 (by omega)), if_pos (show Int32.ofNat v ≤ 99 from (n_le (b := 99) (by omega) (by omega)).mpr (by omega)), r1, n_bind]
        show o_rd 5 (Int32.ofNat j) _ = _
        rw [n_rd (by omega) (by omega), n_let, n_rd (by omega) (by omega), n_let, t1, n_bind, n_cl (by omega)]
      have h6 : fX6_setCost (Int32.ofNat j) (Int32.ofNat v) th d hist depth = some (co j, 0, upd d (4 + j) (Int32.ofNat v), hist', depth') := by
        unfold fX6_setCost
        rw [inL_t (n := 5) (by omega) (by decide) hj, n_bind, n_let, if_neg (by decide), inL_t (n := 100) (by omega) (by decide) hv2, n_bind, if_neg (by decide)]
        show o_bind (fX6_remember d hist depth) _ = _
        rw [r2, n_bind]
        show o_rd 153 (4 + Int32.ofNat j) _ = _
        rw [e4, n_rd (by omega) (by omega), n_let, n_rd (by omega) (by omega), n_let, n_cl (by omega), hd]
      refine ⟨_, past', next', kept', no', pg', l', us', lo', fi', P', K', T', lots', dc', 0, 0, _, hist', depth', vp_updL told (0 : Int32).toNatClampNeg (co j).toInt64, ?_, t2, r3⟩
      unfold fS21 fL_setCost
      rw [h5, h6]
      simp only [o_hlp, n_bind, if_true, fX6_thrown, g_fin]
