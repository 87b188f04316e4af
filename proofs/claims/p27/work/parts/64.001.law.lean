/-! ===== the law, from its first row to its last ===== -/
theorem sv_start : SV (20, 0, 3, 0, zCosts, (fun _ => 0), (fun _ => 0), (fun _ => 0), (fun _ => 0), (fun _ => 0), (fun _ => 0)) (20, 3, 0, zCosts, 0, (fun _ => ((0 : Int32), (0 : Int32), (0 : Int32), (0 : Int32), (0 : Int32), (0 : Int32)))) ((fun _ => 0), (fun _ => 0), (fun _ => 0), (fun _ => 0), (fun _ => 0), (fun _ => 0), 0, 0, 0) (fun _ => 0) 0 (fun _ => 0) 0 := by
  refine ⟨20, 0, 3, (fun _ => 1), (fun _ => false), (fun _ => false), (fun _ => false), ⟨by decide, by decide, by decide, by decide, by decide, fun i hi => absurd hi (Nat.not_lt_zero _), Nat.zero_le _⟩, ⟨by decide, Nat.zero_le _⟩, ⟨rfl, rfl, rfl, fun i hi => absurd hi (Nat.not_lt_zero _), fun _ _ => rfl, fun _ _ => rfl, fun _ _ => rfl⟩, ⟨rfl, rfl, rfl, fun _ _ => rfl, rfl, fun i hi => absurd hi (Nat.not_lt_zero _)⟩, ?_, ⟨rfl, fun i hi => absurd hi (Nat.not_lt_zero _)⟩, Or.inl rfl⟩
  exact ⟨fun i hi => absurd hi (Nat.not_lt_zero _), fun p hp => absurd hp (Nat.not_lt_zero _), fun h => absurd h (Nat.not_lt_zero _), rfl, rfl, rfl⟩
theorem hv_start (past : Nat → TB) (old : Nat → ZB) : HV past 0 0 old 0 := ⟨0, 0, by decide, by decide, rfl, rfl, Nat.le_refl _, fun e he => absurd he (Nat.not_lt_zero _)⟩
theorem rb_start : RB [] 0 (fun _ => 0) (fun _ => 0) (fun _ => 0) (fun _ => 0) (fun _ => 0) (fun _ => 0) := ⟨rfl, ⟨fun _ => false, fun _ => false, fun _ => false, fun _ _ => rfl, fun _ _ => rfl, fun _ _ => rfl, fun i hi => absurd hi (Nat.not_lt_zero _)⟩, fun i hi => absurd hi (Nat.not_lt_zero _)⟩
theorem h_undo0 {hh cc rr ac dc priced P K T : Int32} {co li es se p w s lots no pg l us lo fi : Nat → Int32} (past : Nat → TB) : fX5_undo hh cc rr ac co li es se p w s past 0 0 no pg l us lo fi P K T lots dc priced = some (-1, hh, cc, rr, ac, co, li, es, se, p, w, s, 0, 0, no, pg, l, us, lo, fi, P, K, T, lots, dc, priced) := by
  have r1 : fX2_bringBack past 0 0 hh cc rr ac co li es se p w s = some (-1, 0, 0, hh, cc, rr, ac, co, li, es, se, p, w, s) := c_bring0 past (nx := 0) (by decide) hh cc rr ac co li es se p w s
  unfold fX5_undo
  refine w_bind r1 ?_
  exact w_pos (by decide) rfl
section ZEND
variable {hh cc rr ac dc priced P K T : Int32} {co li es se p w s lots prices no pg l us lo fi : Nat → Int32} {B : ZB}
/-- the refusals at the end -/
theorem q_standing (h : SV (hh, cc, rr, ac, co, li, es, se, p, w, s) B (no, pg, l, us, lo, fi, P, K, T) lots dc prices priced) : fL_standing (-1) 0 hh cc li pg l P = some (-2000000097) := by
  obtain ⟨H, n, m, ln, pr, wa, sl, hw, hnl, hb, hm, hy, hc, hp⟩ := h
  have hP : P = Int32.ofNat (zP H ln pr n) := hy.2.2.2.1
  have hz := (zP_le H ln pr n).1
  have hn := hnl.1
  unfold fL_standing fX5_standing
  rw [hP, needPage_f (by omega) (Or.inl (by decide)), o_tryL]
  rfl
theorem q_pays (h : SV (hh, cc, rr, ac, co, li, es, se, p, w, s) B (no, pg, l, us, lo, fi, P, K, T) lots dc prices priced) (fg vno vpg vl vus vlo vfi : Nat → Int32) (vP vK vT : Int32) (pb ch : Nat → Int32) : fL_pays 24 hh cc rr co li p w s no pg l us P lots fg dc vno vpg vl vus vlo vfi vP vK vT pb ch prices priced = some (-2000000097, fg, vno, vpg, vl, vus, vlo, vfi, vP, vK, vT, pb, ch, prices, priced) := by
  obtain ⟨H, n, m, ln, pr, wa, sl, hw, hnl, hb, hm, hy, hc, hp⟩ := h
  have hcc : cc = Int32.ofNat n := hb.2.1
  have hn := hnl.1
  unfold fL_pays fX5_pays
  rw [hcc, needLot_f (by omega) (Or.inr (by rw [show (24 : Int32) = Int32.ofNat 24 from rfl, n_le (by omega) (by omega)]; omega)), o_tryL]
  rfl
theorem q_choice (h : SV (hh, cc, rr, ac, co, li, es, se, p, w, s) B (no, pg, l, us, lo, fi, P, K, T) lots dc prices priced) (fg vno vpg vl vus vlo vfi : Nat → Int32) (vP vK vT : Int32) (pb ch : Nat → Int32) : fL_choice (-1) 0 hh cc rr co li p w s no pg l us P lots fg dc vno vpg vl vus vlo vfi vP vK vT pb ch = some (-2000000098, fg, vno, vpg, vl, vus, vlo, vfi, vP, vK, vT, pb, ch) := by
  obtain ⟨H, n, m, ln, pr, wa, sl, hw, hnl, hb, hm, hy, hc, hp⟩ := h
  unfold fL_choice fX5_choice
  rw [c_needChoice_f hw.2.2.2.2.2.2 hc (Or.inl (by decide)), o_tryL]
  rfl
end ZEND
/-- what the law does to a new sheet, ahead of its random bill -/
theorem c_state4 {hh cc rr ac P K dc : Int32} {es w s us : Nat → Int32} : fL_state 4 hh cc rr ac es w s us P K dc = some dc := rfl
theorem q_numbered {cc : Int32} {no : Nat → Int32} : fL_numbered 0 cc no = some (-2000000100) := rfl
theorem q_dearest {cc : Int32} {es w : Nat → Int32} : fL_dearest (-1) cc es w = some (-2000000100) := rfl
theorem q_seller {cc : Int32} {li es se p w : Nat → Int32} : fL_seller 10 0 cc li es se p w = some (-2000000098) := rfl
theorem q_through {cc : Int32} {li p : Nat → Int32} : fL_through (-1) cc li p = some (-2000000100) := rfl
theorem q_setCost {hh cc rr ac next kept P K T dc z : Int32} {co li es se p w s no pg l us lo fi lots : Nat → Int32} {past : Nat → TB} : fL_setCost 5 0 hh cc rr ac co li es se p w s past next kept no pg l us lo fi P K T lots dc z = some (-2000000098, co, past, next, kept, no, pg, l, us, lo, fi, P, K, T, lots, dc, z) := rfl
theorem q_add1 {hh rr ac next kept P K T dc z : Int32} {co li es se p w s no pg l us lo fi lots : Nat → Int32} {past : Nat → TB} : fL_add 1 1 0 0 hh 0 rr ac co li es se p w s past next kept no pg l us lo fi P K T lots dc z = some (-2000000098, 0, li, es, se, p, w, s, past, next, kept, no, pg, l, us, lo, fi, P, K, T, lots, dc, z) := rfl
theorem h_load1 (e1 l1 a1 r1 c1 s1 hh cc rr ac oh oc orr oa next kept P K T dc priced le : Int32) (bytes co li es se p w s oco oli oes ose op ow os no pg l us lo fi lots : Nat → Int32) (past : Nat → TB) : fL_load 1 0 e1 bytes l1 a1 r1 c1 s1 hh cc rr ac co li es se p w s oh oc orr oa oco oli oes ose op ow os past next kept no pg l us lo fi P K T lots dc priced le = some (-2000000098, 0, e1, l1, a1, r1, c1, s1, hh, cc, rr, ac, co, li, es, se, p, w, s, oh, oc, orr, oa, oco, oli, oes, ose, op, ow, os, past, next, kept, no, pg, l, us, lo, fi, P, K, T, lots, dc, priced, le) := rfl
theorem law_all (L : Nat) (sd : Int32) (hL : L ≤ 260) : fL_law L sd = some () := by
  unfold fL_law
  by_cases h0 : Int32.ofNat L ≤ 0
  · exact w_pos h0 rfl
  refine w_neg h0 ?_
  refine w_bind (show fX8_init sd = some sd from rfl) ?_
  refine w_bind (show fX6_init = some zCosts from rfl) ?_
  obtain ⟨v1, v2, v3, v4, v5, v6, v7, v8, v9, v10, v11, v12, o, z, a1, a2⟩ := l_agrees sv_start (fun _ => 0) (fun _ => 0) (fun _ => 0) (fun _ => 0) (fun _ => 0) (fun _ => 0) (fun _ => 0) 0 0 0 (fun _ => 0) (fun _ => 0)
  refine w_bind a1 ?_
  refine w_join (fun j => ∀ {hh cc rr ac next kept P K T dc vP vK vT priced : Int32} {co li es se p w s no pg l us lo fi lots fg vno vpg vl vus vlo vfi pb ch prices : Nat → Int32} {past : Nat → TB} {B : ZB} {old : Nat → ZB} {r : Nat}, SV (hh, cc, rr, ac, co, li, es, se, p, w, s) B (no, pg, l, us, lo, fi, P, K, T) lots dc prices priced → HV past next kept old r → j 1 hh cc rr ac co li es se p w s past next kept no pg l us lo fi P K T lots fg dc vno vpg vl vus vlo vfi vP vK vT pb ch prices priced = some ()) ?_ (fun j hj => ?_)
  · intro hh cc rr ac next kept P K T dc vP vK vT priced co li es se p w s no pg l us lo fi lots fg vno vpg vl vus vlo vfi pb ch prices past B old r hs hv
    obtain ⟨t2, bytes', t3, t4, t5, t6, t7, hh', cc', rr', co', li', es', se', p', w', s', oh', oc', or', oa', oco', oli', oes', ose', op', ow', os', past', next', kept', no', pg', l', us', lo', fi', P', K', T', lots', dc', U', sd', bc, nn, vv, u1, u2, u3⟩ := l_randomBill (old := fun _ => zB00) hs (HV_none hv (fun _ => zB00)) (-1) 0 0 0 0 0 20 0 3 0 (-1) sd (fun _ => 0) zCosts (fun _ => 0) (fun _ => 0) (fun _ => 0) (fun _ => 0) (fun _ => 0) (fun _ => 0) rb_start
    refine w_bind u1 ?_
    obtain ⟨x1, x2, x3, x4, x5, x6, x7, x8, x9, x10, x11, x12, xo, xz, b1, b2⟩ := l_agrees u2 fg vno vpg vl vus vlo vfi vP vK vT pb ch
    refine w_join (fun j => j 1 x1 x2 x3 x4 x5 x6 x7 x8 x9 x10 x11 x12 xo xz = some ()) ?_ (fun j hj => w_neg (by decide) (w_bind b1 (w_neg (by decide) hj)))
    refine w_join (fun (j : Int32 → Int32 → Int32 → Int32 → (Nat → Int32) → (Nat → Int32) → (Nat → Int32) → (Nat → Int32) → (Nat → Int32) → (Nat → Int32) → (Nat → Int32) → (Nat → TB) → Int32 → Int32 → (Nat → Int32) → (Nat → Int32) → (Nat → Int32) → (Nat → Int32) → (Nat → Int32) → (Nat → Int32) → Int32 → Int32 → Int32 → (Nat → Int32) → (Nat → Int32) → Int32 → (Nat → Int32) → (Nat → Int32) → (Nat → Int32) → (Nat → Int32) → (Nat → Int32) → (Nat → Int32) → Int32 → Int32 → Int32 → (Nat → Int32) → (Nat → Int32) → (Nat → Int32) → Int32 → Nat → (Nat → ZB) → Option Unit) => ∀ (dn : Nat) (old : Nat → ZB), dn ≤ 18 → ∀ {cc ac next kept P K T dc vP vK vT priced : Int32} {co li es se p w s no pg l us lo fi lots fg vno vpg vl vus vlo vfi pb ch prices : Nat → Int32} {past : Nat → TB} {acc : Int32} {bc : Nat → Int32} {nn : Nat} {vv : Nat → ZL}, SV (hh', cc, rr', ac, co, li, es, se, p, w, s) (hh', rr', acc, bc, nn, vv) (no, pg, l, us, lo, fi, P, K, T) lots dc prices priced → HV past next kept old (if 8 < dn then 8 else dn) → j 1 (Int32.ofNat dn) cc ac co li es se p w s past next kept no pg l us lo fi P K T lots fg dc vno vpg vl vus vlo vfi vP vK vT pb ch prices priced dn old = some ()) ?_ (fun j hj => ?_)
    · intro dn old hdn cc ac next kept P K T dc vP vK vT priced co li es se p w s no pg l us lo fi lots fg vno vpg vl vus vlo vfi pb ch prices past acc bc nn vv hs hv
      refine w_join (fun j => ∀ {hh cc rr ac next kept P K T dc vP vK vT priced : Int32} {co li es se p w s no pg l us lo fi lots fg vno vpg vl vus vlo vfi pb ch prices : Nat → Int32} {B : ZB}, SV (hh, cc, rr, ac, co, li, es, se, p, w, s) B (no, pg, l, us, lo, fi, P, K, T) lots dc prices priced → HV past next kept old 0 → j 1 hh cc rr ac co li es se p w s next kept no pg l us lo fi P K T lots fg dc vno vpg vl vus vlo vfi vP vK vT pb ch prices priced = some ()) ?_ (fun j hj => ?_)
      · intro hh cc rr ac next kept P K T dc vP vK vT priced co li es se p w s no pg l us lo fi lots fg vno vpg vl vus vlo vfi pb ch prices B hs hv
        refine w_join (fun j => ∀ (u1 : Int32) (u2 : Int32) (u3 : Int32) (u4 : Int32) (u5 : Int32) (u6 : Int32) (u7 : Int32) (hh : Int32) (cc : Int32) (rr : Int32) (ac : Int32) (co : Nat → Int32) (li : Nat → Int32) (es : Nat → Int32) (se : Nat → Int32) (p : Nat → Int32) (w : Nat → Int32) (s : Nat → Int32) (oh : Int32) (oc : Int32) (orr : Int32) (oa : Int32) (oco : Nat → Int32) (oli : Nat → Int32) (oes : Nat → Int32) (ose : Nat → Int32) (op : Nat → Int32) (ow : Nat → Int32) (os : Nat → Int32) (past : Nat → TB) (next : Int32) (kept : Int32) (no : Nat → Int32) (pg : Nat → Int32) (l : Nat → Int32) (us : Nat → Int32) (lo : Nat → Int32) (fi : Nat → Int32) (P : Int32) (K : Int32) (T : Int32) (lots : Nat → Int32) (fg : Nat → Int32) (dc : Int32) (vno : Nat → Int32) (vpg : Nat → Int32) (vl : Nat → Int32) (vus : Nat → Int32) (vlo : Nat → Int32) (vfi : Nat → Int32) (vP : Int32) (vK : Int32) (vT : Int32) (pb : Nat → Int32) (ch : Nat → Int32) (prices : Nat → Int32) (priced : Int32) (le : Int32), j 1 u1 u2 u3 u4 u5 u6 u7 hh cc rr ac co li es se p w s oh oc orr oa oco oli oes ose op ow os past next kept no pg l us lo fi P K T lots fg dc vno vpg vl vus vlo vfi vP vK vT pb ch prices priced le = some ()) (fun u1 u2 u3 u4 u5 u6 u7 hh cc rr ac co li es se p w s oh oc orr oa oco oli oes ose op ow os past next kept no pg l us lo fi P K T lots fg dc vno vpg vl vus vlo vfi vP vK vT pb ch prices priced le => ?_) (fun j hj => ?_)
        · by_cases h1 : Int32.ofNat L ≤ 1
          · exact w_pos h1 (w_as rfl rfl)
          · exact w_neg h1 (w_as rfl rfl)
        · refine w_neg (by decide) ?_
          refine w_bind (h_load1 ..) ?_
          refine w_pos rfl ?_
          refine w_bind (q_standing hs) ?_
          refine w_pos rfl ?_
          refine w_bind q_numbered ?_
          refine w_pos rfl ?_
          refine w_bind (q_pays hs fg vno vpg vl vus vlo vfi vP vK vT pb ch) ?_
          refine w_pos rfl ?_
          refine w_bind q_dearest ?_
          refine w_pos rfl ?_
          refine w_bind q_seller ?_
          refine w_pos rfl ?_
          refine w_bind q_through ?_
          refine w_pos rfl ?_
          refine w_bind (q_choice hs fg vno vpg vl vus vlo vfi vP vK vT pb ch) ?_
          refine w_pos rfl ?_
          exact hj _ _ _ _ _ _ _ _ _ _ _ _ _ _ _ _ _ _ _ _ _ _ _ _ _ _ _ _ _ _ _ _ _ _ _ _ _ _ _ _ _ _ _ _ _ _ _ _ _ _ _ _ _ _ _ _ _ _
      · exact law_undo hdn hj (if 8 < dn then 8 else dn) 0 10 _ _ _ _ _ _ _ _ _ _ _ _ _ _ _ _ _ _ _ _ _ _ _ _ _ _ _ _ _ _ _ _ _ _ _ _ _ _ _ (by omega) (by split <;> omega) hs hv
    · exact law_loop hj 18 0 20 0 (fun _ => zB00) _ _ _ _ _ _ _ _ _ _ _ _ _ _ _ _ _ _ _ _ _ _ _ _ _ _ _ _ _ _ _ _ _ _ _ _ _ sd' 0 bc nn vv (by omega) (by omega) (by omega) b2 u3
  · -- the rows ahead of the random bill
    obtain ⟨H, n, m, ln, pr, wa, sl, hw, hnl, hb, hm, hy, hc, hp⟩ := a2
    have hn0 : n = 0 := hm.2.2.2.2.1.symm
    subst hn0
    have hv0 := hv_start (fun _ => zB0) (fun _ => zB00)
    refine w_neg (by decide) ?_
    refine w_bind (show fX5_errorOffset (-1) = some (-1) from rfl) ?_
    refine w_pos rfl ?_
    refine w_bind (h_undo0 (fun _ => zB0)) ?_
    refine w_pos rfl ?_
    refine w_bind (h_withdrawN hw hb (fun _ => zB0) 0 0 (fun _ => 0) (fun _ => 0) (fun _ => 0) (fun _ => 0) (fun _ => 0) (fun _ => 0) 0 0 0 z) ?_
    refine w_pos rfl ?_
    refine w_bind (h_restoreN hw hb (fun _ => zB0) 0 0 (fun _ => 0) (fun _ => 0) (fun _ => 0) (fun _ => 0) (fun _ => 0) (fun _ => 0) 0 0 0 z) ?_
    refine w_pos rfl ?_
    refine w_bind (h_carryX hw hc (fun _ => zB0) 0 0 (fun _ => 0) (fun _ => 0) (fun _ => 0) (fun _ => 0) (fun _ => 0) (fun _ => 0) v1 v2 v3 v4 v5 v6 v7 v11 v12 0 0 0 v8 v9 v10 z) ?_
    refine w_pos rfl ?_
    obtain ⟨ac1, p1, s1, past1, next1, kept1, no1, pg1, l1, us1, lo1, fi1, P1, K1, T1, lots1, fg1, dc1, b1, b2, b3, b4, b5, b6, b7, b8, b9, pb1, ch1, V1, c1, c2, c3, c4, c5⟩ := h_carryOk (k := 0) hw hnl hb hm hy hc hv0 (Nat.pow_pos (by decide)) v1 v2 v3 v4 v5 v6 v7 v8 v9 v10 v11 v12 z o
    have hk1 := c5 0 (by decide) rfl
    refine w_bind c1 ?_
    refine w_pos (zcost0 hw _) ?_
    obtain ⟨H1, n1, m1, ln1, pr1, wa1, sl1, hw1, hnl1, hb1, hm1, hy1, hc1, hp1⟩ := c3
    have hn1 : n1 = 0 := hm1.2.2.2.2.1.symm
    subst hn1
    obtain ⟨k2, ac2, p2, s2, past2, next2, kept2, no2, pg2, l2, us2, lo2, fi2, P2, K2, T2, lots2, fg2, dc2, d1, d2, d3, d4, d5, d6, d7, d8, d9, pb2, ch2, o2, V2, e1, e2, e3, e4, e5, e6⟩ := h_press hw1 hnl1 hb1 hm1 hy1 hc1 hp1 c4 fg1 b1 b2 b3 b4 b5 b6 b7 b8 b9 pb1 ch1
    have hk2 := e6 1 (by decide) hk1
    refine w_bind e1 ?_
    refine w_pos (zcost0 hw1 _) ?_
    obtain ⟨H2, n2, m2, ln2, pr2, wa2, sl2, hw2, hnl2, hb2, hm2, hy2, hc2, hp2⟩ := e4
    have hn2 : n2 = 0 := hm2.2.2.2.2.1.symm
    subst hn2
    refine w_bind q_setCost ?_
    refine w_pos rfl ?_
    refine w_bind q_add1 ?_
    refine w_pos rfl ?_
    refine w_bind (h_addX hw2 hb2 (Nat.le_refl 0) (lw := 10) (by decide) (Or.inr (by decide)) 0 0 past2 next2 kept2 no2 pg2 l2 us2 lo2 fi2 P2 K2 T2 0) ?_
    refine w_pos rfl ?_
    obtain ⟨li3, es3, se3, p3, w3, s3, past3, next3, kept3, no3, pg3, l3, us3, lo3, fi3, P3, K3, T3, lots3, dc3, g1, g2, g3', g4⟩ := h_add hw2 hnl2 hb2 hm2 hc2 e5 (by decide) (show 0 < 4 from by decide) (a := 0) (lw := 3) (e3 := 7) (e4 := 9) (Nat.le_refl 0) ⟨by decide, by decide, by have := hw2.1; omega⟩ (by decide) (by decide) no2 pg2 l2 us2 lo2 fi2 P2 K2 T2 0 o2
    have hk3 := g4 2 (by decide) hk2
    refine w_bind g1 ?_
    refine w_pos rfl ?_
    refine w_bind c_state4 ?_
    have hdc : dc3 = 1 := by
      have h1 := sv_diff g2
      have h2 := l_different (n := 0 + 1) (by decide) (vv_add hm2.2.2.2.2.2 (Nat.le_refl 0) 3 7 9)
      have h3 : zct (zdfb (zin pr2 0 0 false) (zin wa2 0 0 true)) (0 + 1) = 1 := by
        rw [zdfb_zin, zct_zin _ _ 0 (Nat.le_refl 0)]
        rfl
      rw [h3] at h2
      have h4 : some dc3 = some (Int32.ofNat 1) := h1.symm.trans h2
      exact Option.some.inj h4
    refine w_pos hdc ?_
    obtain ⟨q4, hh4, cc4, rr4, ac4, co4, li4, es4, se4, p4, w4, s4, next4, kept4, no4, pg4, l4, us4, lo4, fi4, P4, K4, T4, lots4, dc4, y1, y2, y3, y4, y5, y6⟩ := h_undo g2 (r := 2) g3'
    have hq4 : q4 = 2 := by
      rw [hk3] at y3
      have := (n_eq (by omega) (by omega)).mp y3
      omega
    subst hq4
    refine w_bind y1 ?_
    refine w_pos rfl ?_
    obtain ⟨q5, hh5, cc5, rr5, ac5, co5, li5, es5, se5, p5, w5, s5, next5, kept5, no5, pg5, l5, us5, lo5, fi5, P5, K5, T5, lots5, dc5, t1, t2, t3, t4, t5, t6⟩ := h_undo y5 (r := 1) y6
    have hq5 : q5 = 1 := by
      rw [y4] at t3
      have := (n_eq (by omega) (by omega)).mp t3
      omega
    subst hq5
    refine w_bind t1 ?_
    refine w_pos rfl ?_
    obtain ⟨q6, hh6, cc6, rr6, ac6, co6, li6, es6, se6, p6, w6, s6, next6, kept6, no6, pg6, l6, us6, lo6, fi6, P6, K6, T6, lots6, dc6, r1, r2, r3, r4, r5, r6⟩ := h_undo t5 (r := 0) t6
    have hq6 : q6 = 0 := by
      rw [t4] at r3
      have := (n_eq (by omega) (by omega)).mp r3
      omega
    subst hq6
    refine w_bind r1 ?_
    refine w_pos rfl ?_
    exact hj r5 r6
