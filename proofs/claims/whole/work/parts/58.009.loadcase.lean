set_option maxRecDepth 100000 in
theorem s_1 (x th : Int32) {size eA len0 at0 er0 cr0 sr0 : Int32} {bytes buf : Nat → Int32} {blen : Int32} {hh cc rr ac : Int32} {co li es se p w s d lots prices : Nat → Int32} {dc priced : Int32} {oh oc orr oa : Int32} {oco oli oes ose op ow os : Nat → Int32} {no pg l us lo fi : Nat → Int32} {P K T : Int32} {past : Nat → TB} {next kept : Int32} {hist : Nat → Nat → Int32} {depth : Int32} (h : SV (hh, cc, rr, ac, co, li, es, se, p, w, s) d (no, pg, l, us, lo, fi, P, K, T) lots dc prices priced) (hv : HV past next kept hist depth) (ht : TV size bytes buf blen) (hbo : BO op ow os) {eo meo : Int32} (he : eo = meo) (mtl mpos mer mea : Int32) (draft : Nat → Int32) (ns seen : Int32) (told : Nat → Int64) :
    ∃ (size' eA' len' at' er' cr' sr' hh' cc' rr' ac' : Int32) (co' li' es' se' p' w' s' : Nat → Int32) (oh' oc' orr' oa' : Int32) (oco' oli' oes' ose' op' ow' os' : Nat → Int32) (past' : Nat → TB) (next' kept' : Int32) (no' pg' l' us' lo' fi' : Nat → Int32) (P' K' T' : Int32) (lots' : Nat → Int32) (dc' priced' eo' th' blen' mtl' mpos' mer' mea' meo' : Int32) (d' draft' : Nat → Int32) (hist' : Nat → Nat → Int32) (depth' ns' seen' : Int32) (told' : Nat → Int64), fS1 x size eA bytes len0 at0 er0 cr0 sr0 hh cc rr ac co li es se p w s oh oc orr oa oco oli oes ose op ow os past next kept no pg l us lo fi P K T lots dc priced eo th buf blen mtl mpos mer mea meo d draft hist depth ns seen told = some (size', eA', len', at', er', cr', sr', hh', cc', rr', ac', co', li', es', se', p', w', s', oh', oc', orr', oa', oco', oli', oes', ose', op', ow', os', past', next', kept', no', pg', l', us', lo', fi', P', K', T', lots', dc', priced', eo', th', blen', mtl', mpos', mer', mea', meo', d', draft', hist', depth', ns', seen', told') ∧ SV (hh', cc', rr', ac', co', li', es', se', p', w', s') d' (no', pg', l', us', lo', fi', P', K', T') lots' dc' prices priced' ∧ HV past' next' kept' hist' depth' ∧ TV size' bytes buf blen' ∧ BO op' ow' os' ∧ eo' = meo' := by
  obtain ⟨z, z1, z2, z3, z4⟩ := id ht
  subst z2 z3
  have hq := SV_QB h
  have bad : fX5_load x (Int32.ofNat z) eA bytes len0 at0 er0 cr0 sr0 hh cc rr ac co li es se p w s oh oc orr oa oco oli oes ose op ow os past next kept no pg l us lo fi P K T lots dc priced eo = some (.inl "java/lang/IllegalArgumentException") → fX6_load x th buf (Int32.ofNat z) mtl mpos mer mea meo d draft hist depth ns seen = some (0, 1, Int32.ofNat z, mtl, mpos, mer, mea, meo, d, draft, hist, depth, ns, seen) → ∃ (size' eA' len' at' er' cr' sr' hh' cc' rr' ac' : Int32) (co' li' es' se' p' w' s' : Nat → Int32) (oh' oc' orr' oa' : Int32) (oco' oli' oes' ose' op' ow' os' : Nat → Int32) (past' : Nat → TB) (next' kept' : Int32) (no' pg' l' us' lo' fi' : Nat → Int32) (P' K' T' : Int32) (lots' : Nat → Int32) (dc' priced' eo' th' blen' mtl' mpos' mer' mea' meo' : Int32) (d' draft' : Nat → Int32) (hist' : Nat → Nat → Int32) (depth' ns' seen' : Int32) (told' : Nat → Int64), fS1 x (Int32.ofNat z) eA bytes len0 at0 er0 cr0 sr0 hh cc rr ac co li es se p w s oh oc orr oa oco oli oes ose op ow os past next kept no pg l us lo fi P K T lots dc priced eo th buf (Int32.ofNat z) mtl mpos mer mea meo d draft hist depth ns seen told = some (size', eA', len', at', er', cr', sr', hh', cc', rr', ac', co', li', es', se', p', w', s', oh', oc', orr', oa', oco', oli', oes', ose', op', ow', os', past', next', kept', no', pg', l', us', lo', fi', P', K', T', lots', dc', priced', eo', th', blen', mtl', mpos', mer', mea', meo', d', draft', hist', depth', ns', seen', told') ∧ SV (hh', cc', rr', ac', co', li', es', se', p', w', s') d' (no', pg', l', us', lo', fi', P', K', T') lots' dc' prices priced' ∧ HV past' next' kept' hist' depth' ∧ TV size' bytes buf blen' ∧ BO op' ow' os' ∧ eo' = meo' := fun h5 h6 => by
    refine ⟨Int32.ofNat z, eA, len0, at0, er0, cr0, sr0, hh, cc, rr, ac, co, li, es, se, p, w, s, oh, oc, orr, oa, oco, oli, oes, ose, op, ow, os, past, next, kept, no, pg, l, us, lo, fi, P, K, T, lots, dc, priced, eo, 1, Int32.ofNat z, mtl, mpos, mer, mea, meo, d, draft, hist, depth, ns, seen, told, ?_, h, hv, ht, hbo, he⟩
    unfold fS1 fL_load
    rw [h5, h6]
    rfl
  by_cases c1 : x < 0
  · refine bad ?_ ?_
    · unfold fX5_load; rw [if_pos c1]
    · unfold fX6_load; rw [in_f (Or.inl c1), n_bind]; rfl
  by_cases c2 : Int32.ofNat z < x
  · refine bad ?_ ?_
    · unfold fX5_load; rw [if_neg c1, if_neg (Int32.not_le.mpr c2)]
    · unfold fX6_load; rw [in_f (Or.inr c2), n_bind]; rfl
  have c2' : x ≤ Int32.ofNat z := Int32.not_lt.mp c2
  obtain ⟨L, hL0, rfl⟩ := n_of c1
  have hLz : L ≤ z := (n_le hL0 (by omega)).mp c2'
  obtain ⟨er, ea, at', cr, sr, hvv, cc1, rr1, pos, ea', ns1, seen1, hm, w0, p0, e0, x0, p2, er2, x2, ns2, co1, li1, es1, se1, pp1, wa1, s1, d1, k1, k2, k3, k4, k5, k6, k7⟩ := r_into (L := L) (bytes := bytes) (buf := buf) (by omega) (fun i hi => z4 i (by omega)) hLz z1 eA len0 at0 er0 cr0 sr0 oh oc orr oa oco oli oes ose op ow os draft hbo ns
  -- the model, up to the end of the text
  have M : ∀ r, o_bind (fX6_isGood er) (fun x37 => (if x37 = 0 then some (er, (0 : Int32), (0 : Int32), Int32.ofNat L, pos, er, ea', ea', d, d1, hist, depth, ns1, seen1) else o_bind (fX6_remember d hist depth) (fun (a40, x41) => o_bind (fX6_copy d1 d) (fun a43 => some ((a43 (1 : Int32).toNatClampNeg), (0 : Int32), (0 : Int32), Int32.ofNat L, pos, er, ea', ea', a43, d1, a40, x41, ns1, seen1))))) = r → fX6_load (Int32.ofNat L) th buf (Int32.ofNat z) mtl mpos mer mea meo d draft hist depth ns seen = r := fun r hr => by
    obtain ⟨p3, e3, x3, g1, g2⟩ := k5 (fun (x30 : Int32) (x31 : Int32) (x32 : Int32) (a33 : Nat → Int32) (x34 : Int32) (x35 : Int32) => o_bind (fX6_isGood x31) (fun x37 => (if x37 = 0 then some (x31, (0 : Int32), (0 : Int32), Int32.ofNat L, x30, x31, x32, x32, d, a33, hist, depth, x34, x35) else o_bind (fX6_remember d hist depth) (fun (a40, x41) => o_bind (fX6_copy a33 d) (fun a43 => some ((a43 (1 : Int32).toNatClampNeg), (0 : Int32), (0 : Int32), Int32.ofNat L, x30, x31, x32, x32, a43, a33, a40, x41, x34, x35))))))
    unfold fX6_load
    rw [in_t c1 c2, n_bind, n_let, if_neg (by decide)]
    show o_bind (fX6_takeWord [98, 105, 108, 108] buf (Int32.ofNat L) 0 0) _ = _
    rw [k2, n_bind]
    show o_let _ _ = _
    rw [n_let]
    have tail : o_bind (fX6_number 4 40 buf (Int32.ofNat L) p0 e0 x0 ns) (fun (x18, x19, x20, x21, x22) => o_bind (fX6_layBill x18 draft) (fun a24 => o_bind (fX6_expect (59 : Int32) buf (Int32.ofNat L) x19 x20 x21) (fun (x26, x27, x28) => fX6_load_L103 (fun (x30 : Int32) (x31 : Int32) (x32 : Int32) (a33 : Nat → Int32) (x34 : Int32) (x35 : Int32) => o_bind (fX6_isGood x31) (fun x37 => (if x37 = 0 then some (x31, (0 : Int32), (0 : Int32), Int32.ofNat L, x30, x31, x32, x32, d, a33, hist, depth, x34, x35) else o_bind (fX6_remember d hist depth) (fun (a40, x41) => o_bind (fX6_copy a33 d) (fun a43 => some ((a43 (1 : Int32).toNatClampNeg), (0 : Int32), (0 : Int32), Int32.ofNat L, x30, x31, x32, x32, a43, a33, a40, x41, x34, x35)))))) buf (Int32.ofNat L) 1024 x26 x27 x28 a24 x22 (0 : Int32)))) = r := by
      rw [k4, n_bind]
      show o_bind (fX6_layBill hm draft) _ = _
      rw [m_layBill, n_bind]
      show o_bind (fX6_expect 59 buf (Int32.ofNat L) p2 er2 x2) _ = _
      rw [g1, n_bind]
      show fX6_load_L103 _ buf (Int32.ofNat L) 1024 p3 e3 x3 (zlb hm draft) ns2 0 = _
      rw [g2]
      exact hr
    rcases k3 with ⟨rfl, rfl, rfl⟩ | ⟨rfl, rfl, rfl⟩
    · rw [if_pos rfl, m_rep0, n_bind]
      exact tail
    · rw [if_neg (by decide)]
      exact tail
  by_cases her : er = 0
  · rcases k7 with ⟨-, rfl, rfl, hx⟩ | ⟨q, -⟩
    · subst her
      obtain ⟨past', next', kept', hist', depth', r1, r2, r3⟩ := h_remember hv hq
      have hxq := PX_QB hx
      have hq2 := QB_ext hxq (QE_copy (hvv, cc1, rr1, 0, co1, li1, es1, se1, pp1, wa1, s1) (hh, cc, rr, ac, co, li, es, se, p, w, s)) (d' := fun g => if g < 153 then d1 g else d g) (fun k hk => if_pos hk)
      obtain ⟨no', pg', l', us', lo', fi', P', K', T', lots', dc', t1, t2⟩ := h_settle hq2 no pg l us lo fi P K T lots dc priced prices
      obtain ⟨prx, wax, slx, o1, o2, o3⟩ := k6
      have hcp := c_copyFrom hh cc rr ac co li es se p w s hvv cc1 rr1 0 co1 li1 es1 se1 pp1 wa1 s1 (o_bo_of o1) (o_bo_of o2) (o_bo_of o3)
      have h5 : fX5_load (Int32.ofNat L) (Int32.ofNat z) eA bytes len0 at0 er0 cr0 sr0 hh cc rr ac co li es se p w s oh oc orr oa oco oli oes ose op ow os past next kept no pg l us lo fi P K T lots dc priced eo = some (.inr (cc1, 0, -1, Int32.ofNat L, at', 0, cr, sr, hvv, cc1, rr1, 0, va_cpy co1 co 0 0 5, va_cpy li1 li 0 0 24, va_cpy es1 es 0 0 24, va_cpy se1 se 0 0 24, va_cpy pp1 p 0 0 24, va_cpy wa1 w 0 0 24, va_cpy s1 s 0 0 24, hvv, cc1, rr1, 0, co1, li1, es1, se1, pp1, wa1, s1, past', next', kept', no', pg', l', us', lo', fi', P', K', T', lots', dc', 0, -1)) := by
        unfold fX5_load
        rw [if_neg c1, if_pos c2', k1, n_bind]
        show (if (0 : Int32) = 0 then _ else _) = _
        rw [if_pos rfl, r1, n_bind]
        show o_bind (fX0_copyFrom hh cc rr ac co li es se p w s hvv cc1 rr1 0 co1 li1 es1 se1 pp1 wa1 s1) _ = _
        rw [hcp, n_bind]
        show o_bind (fX5_settle hvv cc1 (va_cpy li1 li 0 0 24) (va_cpy pp1 p 0 0 24) (va_cpy wa1 w 0 0 24) no pg l us lo fi P K T lots dc priced) _ = _
        rw [t1, n_bind]
      have hcnt : d1 1 = cc1 := by
        obtain ⟨H, n, mm, ln, pr, wa, sl, u1, u2, u3, -⟩ := hx
        rw [u3.2.1, u2.2.1]
      have h6 : fX6_load (Int32.ofNat L) th buf (Int32.ofNat z) mtl mpos mer mea meo d draft hist depth ns seen = some (cc1, 0, 0, Int32.ofNat L, pos, 0, -1, -1, (fun g => if g < 153 then d1 g else d g), d1, hist', depth', ns1, seen1) := M _ (by
        rw [m_good0, n_bind, if_neg (by decide), r2, n_bind]
        show o_bind (fX6_copy d1 d) _ = _
        rw [m_copy, n_bind]
        show some (d1 1, _) = _
        rw [hcnt])
      refine ⟨0, -1, Int32.ofNat L, at', 0, cr, sr, hvv, cc1, rr1, 0, _, _, _, _, _, _, _, hvv, cc1, rr1, 0, co1, li1, es1, se1, pp1, wa1, s1, past', next', kept', no', pg', l', us', lo', fi', P', K', T', lots', dc', 0, -1, 0, 0, Int32.ofNat L, pos, 0, -1, -1, _, d1, hist', depth', ns1, seen1, vp_updL told (0 : Int32).toNatClampNeg cc1.toInt64, ?_, t2, r3, ⟨0, by omega, rfl, rfl, fun i hi => absurd hi (Nat.not_lt_zero _)⟩, ⟨prx, wax, slx, o1, o2, o3⟩, rfl⟩
      unfold fS1 fL_load
      rw [h5, h6]
      simp only [o_hlp, n_bind, if_true, fX6_thrown, g_fin]
    · exact absurd her q
  · have hee : ea' = ea := by
      rcases k7 with ⟨h, -⟩ | ⟨-, h⟩
      · exact absurd h her
      · exact h
    have h5 : fX5_load (Int32.ofNat L) (Int32.ofNat z) eA bytes len0 at0 er0 cr0 sr0 hh cc rr ac co li es se p w s oh oc orr oa oco oli oes ose op ow os past next kept no pg l us lo fi P K T lots dc priced eo = some (.inr (er, 0, ea, Int32.ofNat L, at', er, cr, sr, hh, cc, rr, ac, co, li, es, se, p, w, s, hvv, cc1, rr1, 0, co1, li1, es1, se1, pp1, wa1, s1, past, next, kept, no, pg, l, us, lo, fi, P, K, T, lots, dc, priced, ea)) := by
      unfold fX5_load
      rw [if_neg c1, if_pos c2', k1, n_bind]
      show (if er = 0 then _ else _) = _
      rw [if_neg her]
    have h6 : fX6_load (Int32.ofNat L) th buf (Int32.ofNat z) mtl mpos mer mea meo d draft hist depth ns seen = some (er, 0, 0, Int32.ofNat L, pos, er, ea', ea', d, d1, hist, depth, ns1, seen1) := M _ (by
      rw [m_good1 her, n_bind, if_pos rfl])
    refine ⟨0, ea, Int32.ofNat L, at', er, cr, sr, hh, cc, rr, ac, co, li, es, se, p, w, s, hvv, cc1, rr1, 0, co1, li1, es1, se1, pp1, wa1, s1, past, next, kept, no, pg, l, us, lo, fi, P, K, T, lots, dc, priced, ea, 0, 0, Int32.ofNat L, pos, er, ea', ea', d, d1, hist, depth, ns1, seen1, vp_updL told (0 : Int32).toNatClampNeg er.toInt64, ?_, h, hv, ⟨0, by omega, rfl, rfl, fun i hi => absurd hi (Nat.not_lt_zero _)⟩, k6, hee.symm⟩
    unfold fS1 fL_load
    rw [h5, h6]
    simp only [o_hlp, n_bind, if_true, fX6_thrown, g_fin]
