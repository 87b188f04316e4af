theorem h_carry (x : Int32) {hh cc rr ac : Int32} {co li es se p w s d lots prices : Nat → Int32} {dc priced : Int32} {no pg l us lo fi : Nat → Int32} {P K T : Int32} {past : Nat → TB} {next kept : Int32} {hist : Nat → Nat → Int32} {depth : Int32} (h : SV (hh, cc, rr, ac, co, li, es, se, p, w, s) d (no, pg, l, us, lo, fi, P, K, T) lots dc prices priced) (hv : HV past next kept hist depth) (fg vno vpg vl vus vlo vfi : Nat → Int32) (vP vK vT : Int32) (pb ch : Nat → Int32) (z : Int32) (prices' : Nat → Int32) (a b c e : Nat → Int32) (f : Int32) (be to wp : Nat → Int32) :
    ∃ cost ac' p' s' past' next' kept' no' pg' l' us' lo' fi' P' K' T' lots' fg' dc' v1 v2 v3 v4 v5 v6 v7 v8 v9 pb' ch' d' hist' depth' a' b' c' e' f' be' to' wp', fX5_carryOut x hh cc rr ac co li es se p w s past next kept no pg l us lo fi P K T lots fg dc vno vpg vl vus vlo vfi vP vK vT pb ch z = some (cost, ac', p', s', past', next', kept', no', pg', l', us', lo', fi', P', K', T', lots', fg', dc', v1, v2, v3, v4, v5, v6, v7, v8, v9, pb', ch', 0) ∧ fX6_remember d hist depth = some (hist', depth') ∧ fX6_carryNow x d a b c e f be to wp = some (cost, d', a', b', c', e', f', be', to', wp') ∧ SV (hh, cc, rr, ac', co, li, es, se, p', w, s') d' (no', pg', l', us', lo', fi', P', K', T') lots' dc' prices' 0 ∧ HV past' next' kept' hist' depth' := by
  have hq := SV_QB h
  obtain ⟨H, n, m, ln, pr, wa, sl, hw, hb, hm, hy, hc, hp⟩ := h
  have hb' : BV H n m ln pr wa sl hh cc rr li p w s := hb
  have hm' : MV H n m ln pr wa sl ac co es se d := hm
  obtain ⟨past', next', kept', hist', depth', r1, r2, r3⟩ := h_remember hv hq
  obtain ⟨f1, v1, v2, v3, v4, v5, v6, v7, v8, v9, pb', ch', h1, h2⟩ := c_measure (co := co) hw hb' hc hy x fg vno vpg vl vus vlo vfi vP vK vT pb ch
  obtain ⟨a', b', c', e', f', be', to', wp', h3⟩ := m_carryNow hw hm' x a b c e f be to wp
  have hP52 := (m_L52 hw.2.2.1 hm' x _ (zv68_bit hw.2.2.1 x) (fun _ => none)).2
  obtain ⟨g1, g2⟩ := zg39_end hw hb' hc x
  have hq2 := carry_QB hw hb' hm' x g1 g2 hP52 (zcost H n m ln pr wa sl co x)
  obtain ⟨no', pg', l', us', lo', fi', P', K', T', lots', dc', t1, t2⟩ := h_settle hq2 no pg l us lo fi P K T lots dc z prices'
  refine ⟨zcost H n m ln pr wa sl co x, _, _, _, past', next', kept', no', pg', l', us', lo', fi', P', K', T', lots', f1, dc', v1, v2, v3, v4, v5, v6, v7, v8, v9, pb', ch', _, hist', depth', a', b', c', e', f', be', to', wp', ?_, r2, h3, t2, r3⟩
  unfold fX5_carryOut
  rw [h1, n_bind]
  show o_let (f1 (0 : Int32).toNatClampNeg) _ = _
  rw [n_let, show f1 (0 : Int32).toNatClampNeg = zcost H n m ln pr wa sl co x from h2 0 (by omega), r1, n_bind]
  show o_let _ _ = _
  rw [n_let, c_L39 hw hc x, n_let, t1, n_bind]
theorem s_19 (x th : Int32) {hh cc rr ac : Int32} {co li es se p w s d lots prices : Nat → Int32} {dc priced : Int32} {no pg l us lo fi : Nat → Int32} {P K T : Int32} {past : Nat → TB} {next kept : Int32} {hist : Nat → Nat → Int32} {depth : Int32} (h : SV (hh, cc, rr, ac, co, li, es, se, p, w, s) d (no, pg, l, us, lo, fi, P, K, T) lots dc prices priced) (hv : HV past next kept hist depth) (fg vno vpg vl vus vlo vfi : Nat → Int32) (vP vK vT : Int32) (pb ch : Nat → Int32) (a b c e : Nat → Int32) (f : Int32) (be to wp : Nat → Int32) (told : Nat → Int64) :
    ∃ ac' p' s' past' next' kept' no' pg' l' us' lo' fi' P' K' T' lots' fg' dc' v1 v2 v3 v4 v5 v6 v7 v8 v9 pb' ch' priced' th' d' hist' depth' a' b' c' e' f' be' to' wp' told', fS19 x hh cc rr ac co li es se p w s past next kept no pg l us lo fi P K T lots fg dc vno vpg vl vus vlo vfi vP vK vT pb ch priced th d hist depth a b c e f be to wp told = some (ac', p', s', past', next', kept', no', pg', l', us', lo', fi', P', K', T', lots', fg', dc', v1, v2, v3, v4, v5, v6, v7, v8, v9, pb', ch', priced', th', d', hist', depth', a', b', c', e', f', be', to', wp', told') ∧ SV (hh, cc, rr, ac', co, li, es, se, p', w, s') d' (no', pg', l', us', lo', fi', P', K', T') lots' dc' prices priced' ∧ HV past' next' kept' hist' depth' := by
  have h0 := h
  obtain ⟨H, n, m, ln, pr, wa, sl, hw, hb, hm, hy, hc, hp⟩ := h
  have hn := hw.2.2.1
  have hD := hw.2.2.2.2.2.2
  have pw := (n_pow2 hD).1
  rcases n_range (show 2 ^ zct (zdfb pr wa) n < 2147483648 by omega) x with hx | ⟨k, hk, rfl⟩
  · refine ⟨ac, p, s, past, next, kept, no, pg, l, us, lo, fi, P, K, T, lots, fg, dc, vno, vpg, vl, vus, vlo, vfi, vP, vK, vT, pb, ch, priced, 1, d, hist, depth, a, b, c, e, f, be, to, wp, told, ?_, h0, hv⟩
    have h5 : fX5_carry x hh cc rr ac co li es se p w s past next kept no pg l us lo fi P K T lots fg dc vno vpg vl vus vlo vfi vP vK vT pb ch priced = some (.inl "java/lang/IllegalArgumentException") := by
      unfold fX5_carry
      rw [c_needChoice_f hD hc hx, o_tryL]
    have h6 : fX6_carry x th d hist depth a b c e f be to wp = some (0, 1, d, hist, depth, a, b, c, e, f, be, to, wp) := by
      unfold fX6_carry
      rw [m_noChoice_f hn hD hm hx]
      rfl
    unfold fS19 fL_carry
    rw [h5, h6]
    rfl
  · obtain ⟨cost, ac', p', s', past', next', kept', no', pg', l', us', lo', fi', P', K', T', lots', fg', dc', v1, v2, v3, v4, v5, v6, v7, v8, v9, pb', ch', d', hist', depth', a', b', c', e', f', be', to', wp', k1, k2, k3, k4, k5⟩ := h_carry (Int32.ofNat k) h0 hv fg vno vpg vl vus vlo vfi vP vK vT pb ch priced prices a b c e f be to wp
    have h5 : fX5_carry (Int32.ofNat k) hh cc rr ac co li es se p w s past next kept no pg l us lo fi P K T lots fg dc vno vpg vl vus vlo vfi vP vK vT pb ch priced = some (.inr (cost, ac', p', s', past', next', kept', no', pg', l', us', lo', fi', P', K', T', lots', fg', dc', v1, v2, v3, v4, v5, v6, v7, v8, v9, pb', ch', 0)) := by
      unfold fX5_carry
      rw [c_needChoice_t hD hc hk, o_tryR, k1, n_bind]
    have h6 : fX6_carry (Int32.ofNat k) th d hist depth a b c e f be to wp = some (cost, 0, d', hist', depth', a', b', c', e', f', be', to', wp') := by
      unfold fX6_carry
      rw [m_noChoice_t hn hD hm hk, n_bind]
      show o_bind (fX6_remember d hist depth) _ = _
      rw [k2, n_bind]
      show o_bind (fX6_carryNow _ _ _ _ _ _ _ _ _ _) _ = _
      rw [k3, n_bind]
    refine ⟨ac', p', s', past', next', kept', no', pg', l', us', lo', fi', P', K', T', lots', fg', dc', v1, v2, v3, v4, v5, v6, v7, v8, v9, pb', ch', 0, 0, d', hist', depth', a', b', c', e', f', be', to', wp', vp_updL told (0 : Int32).toNatClampNeg cost.toInt64, ?_, k4, k5⟩
    unfold fS19 fL_carry
    rw [h5, h6]
    simp only [o_hlp, n_bind, if_true, fX6_thrown, g_fin]
theorem s_20 (th : Int32) {hh cc rr ac : Int32} {co li es se p w s d lots prices : Nat → Int32} {dc priced : Int32} {no pg l us lo fi : Nat → Int32} {P K T : Int32} {past : Nat → TB} {next kept : Int32} {hist : Nat → Nat → Int32} {depth : Int32} (h : SV (hh, cc, rr, ac, co, li, es, se, p, w, s) d (no, pg, l, us, lo, fi, P, K, T) lots dc prices priced) (hv : HV past next kept hist depth) (fg vno vpg vl vus vlo vfi : Nat → Int32) (vP vK vT : Int32) (pb ch : Nat → Int32) (a b c e : Nat → Int32) (f : Int32) (be to wp : Nat → Int32) :
    ∃ ac' p' s' past' next' kept' no' pg' l' us' lo' fi' P' K' T' lots' fg' dc' v1 v2 v3 v4 v5 v6 v7 v8 v9 pb' ch' prices' priced' th' d' hist' depth' a' b' c' e' f' be' to' wp', fS20 hh cc rr ac co li es se p w s past next kept no pg l us lo fi P K T lots fg dc vno vpg vl vus vlo vfi vP vK vT pb ch prices priced th d hist depth a b c e f be to wp = some (ac', p', s', past', next', kept', no', pg', l', us', lo', fi', P', K', T', lots', fg', dc', v1, v2, v3, v4, v5, v6, v7, v8, v9, pb', ch', prices', priced', th', d', hist', depth', a', b', c', e', f', be', to', wp') ∧ SV (hh, cc, rr, ac', co, li, es, se, p', w, s') d' (no', pg', l', us', lo', fi', P', K', T') lots' dc' prices' priced' ∧ HV past' next' kept' hist' depth' := by
  have h0 := h
  obtain ⟨H, n, m, ln, pr, wa, sl, hw, hb, hm, hy, hc, hp⟩ := h
  have hb' : BV H n m ln pr wa sl hh cc rr li p w s := hb
  have hm' : MV H n m ln pr wa sl ac co es se d := hm
  have hp' : PV H n m ln pr wa sl co prices priced := hp
  obtain ⟨u1, u2, u3, u4, u5, u6, u7, u8, u9, u10, u11, u12, o, z, h1, h2⟩ := c_cheapest hw hb' hc hy 0 0 fg vno vpg vl vus vlo vfi vP vK vT pb ch prices priced hp'
  obtain ⟨a2, b2, c2, e2, f2, be2, to2, wp2, h3⟩ := m_bestOf hw hm' 0 0 a b c e f be to wp
  rw [← zbst_best] at h3
  generalize zob (zbst (fun c => decide (Int32.ofNat c &&& 0 = 0)) (fun c => zcost H n m ln pr wa sl co (Int32.ofNat c)) (2 ^ zct (zdfb pr wa) n)) = x at h1 h3
  obtain ⟨cost, ac', p', s', past', next', kept', no', pg', l', us', lo', fi', P', K', T', lots', fg', dc', v1, v2, v3, v4, v5, v6, v7, v8, v9, pb', ch', d', hist', depth', a', b', c', e', f', be', to', wp', k1, k2, k3, k4, k5⟩ := h_carry x h0 hv u1 u2 u3 u4 u5 u6 u7 u8 u9 u10 u11 u12 z o a2 b2 c2 e2 f2 be2 to2 wp2
  have h5 : fX5_press hh cc rr ac co li es se p w s past next kept no pg l us lo fi P K T lots fg dc vno vpg vl vus vlo vfi vP vK vT pb ch prices priced = some (cost, ac', p', s', past', next', kept', no', pg', l', us', lo', fi', P', K', T', lots', fg', dc', v1, v2, v3, v4, v5, v6, v7, v8, v9, pb', ch', o, 0) := by
    unfold fX5_press fX5_best
    rw [h1, n_bind]
    show o_bind (some _) _ = _
    rw [n_bind]
    show o_bind (fX5_carryOut x hh cc rr ac co li es se p w s past next kept no pg l us lo fi P K T lots u1 dc u2 u3 u4 u5 u6 u7 u8 u9 u10 u11 u12 z) _ = _
    rw [k1, n_bind]
  have h6 : fX6_press th d hist depth a b c e f be to wp = some (cost, 0, d', hist', depth', a', b', c', e', f', be', to', wp') := by
    unfold fX6_press
    rw [k2, n_bind]
    show o_bind (fX6_bestOf 0 0 d a b c e f be to wp) _ = _
    rw [h3, n_bind]
    show o_bind (fX6_carryNow x d a2 b2 c2 e2 f2 be2 to2 wp2) _ = _
    rw [k3, n_bind]
  refine ⟨ac', p', s', past', next', kept', no', pg', l', us', lo', fi', P', K', T', lots', fg', dc', v1, v2, v3, v4, v5, v6, v7, v8, v9, pb', ch', o, 0, 0, d', hist', depth', a', b', c', e', f', be', to', wp', ?_, k4, k5⟩
  unfold fS20
  rw [h5, h6]
  simp only [n_bind, if_true]
