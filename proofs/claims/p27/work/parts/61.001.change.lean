/-! ===== changes, and the bills ahead of them ===== -/
theorem QB_ext {q q' : TB} {B : ZB} (h : QB q B) (hq : QE q q') : QB q' B := by
  obtain ⟨H, n, m, ln, pr, wa, sl, hw, hl, ⟨b1, b2, b3, b4, b5, b6, b7⟩, ⟨m1, m2, m3, m4, m5, m6⟩⟩ := h
  obtain ⟨q1, q2, q3, q4, q5, q6, q7, q8, q9, q10, q11⟩ := hq
  have hn := hw.2.2.1
  refine ⟨H, n, m, ln, pr, wa, sl, hw, hl, ⟨q1.trans b1, q2.trans b2, q3.trans b3, fun i hi => (q6 i (by omega)).trans (b4 i hi), fun i hi => (q9 i hi).trans (b5 i hi), fun i hi => (q10 i hi).trans (b6 i hi), fun i hi => (q11 i hi).trans (b7 i hi)⟩, ⟨m1, m2, m3.trans q4.symm, fun k hk => (m4 k hk).trans (q5 k hk).symm, m5, fun i hi => ?_⟩⟩
  rw [m6 i hi, q7 i (by omega), q8 i (by omega)]
def HV (past : Nat → TB) (next kept : Int32) (old : Nat → ZB) (r : Nat) : Prop := ∃ nx kp : Nat, nx < 8 ∧ kp ≤ 8 ∧ next = Int32.ofNat nx ∧ kept = Int32.ofNat kp ∧ r ≤ kp ∧ ∀ e, e < r → QB (past ((nx + 7 - e) % 8)) (old e)
theorem HV_none {past : Nat → TB} {next kept : Int32} {old : Nat → ZB} {r : Nat} (h : HV past next kept old r) (old' : Nat → ZB) : HV past next kept old' 0 := by
  obtain ⟨nx, kp, h1, h2, h3, h4, h5, h6⟩ := h
  exact ⟨nx, kp, h1, h2, h3, h4, Nat.zero_le _, fun e he => absurd he (Nat.not_lt_zero _)⟩
theorem h_remember {past : Nat → TB} {next kept : Int32} {old : Nat → ZB} {r : Nat} (h : HV past next kept old r) {hh cc rr ac : Int32} {co li es se p w s : Nat → Int32} {B : ZB} (hq : QB (hh, cc, rr, ac, co, li, es, se, p, w, s) B) :
    ∃ past' next' kept', fX2_remember past next kept hh cc rr ac co li es se p w s = some (past', next', kept') ∧ HV past' next' kept' (zcons B old) (if 8 < r + 1 then 8 else r + 1) ∧ ∀ q, q < 8 → kept = Int32.ofNat q → kept' = Int32.ofNat (q + 1) := by
  obtain ⟨nx, kp, h1, h2, h3, h4, h5, h6⟩ := h
  subst h3 h4
  have hb := hq
  obtain ⟨H, n, m, ln, pr, wa, sl, hw, hl, ⟨b1, b2, b3, b4, b5, b6, b7⟩, -⟩ := hb
  refine ⟨_, _, _, c_remember past h1 h2 hh cc rr ac co li es se p w s (o_bo_of b5) (o_bo_of b6) (o_bo_of b7), ⟨(nx + 1) % 8, if 8 < kp + 1 then 8 else kp + 1, Nat.mod_lt _ (by omega), by split <;> omega, rfl, rfl, by split <;> split <;> omega, fun e he => ?_⟩, fun q hq8 hkq => ?_⟩
  · by_cases e0 : e = 0
    · subst e0
      rw [show ((nx + 1) % 8 + 7 - 0) % 8 = nx by omega]
      have e1 : va_up past nx (zcpy hh cc rr ac co li es se p w s (past nx)) nx = zcpy hh cc rr ac co li es se p w s (past nx) := if_pos rfl
      rw [e1]
      exact QB_ext hq (QE_copy (hh, cc, rr, ac, co, li, es, se, p, w, s) (past nx))
    · obtain ⟨e', rfl⟩ : ∃ e', e = e' + 1 := ⟨e - 1, by omega⟩
      have he2 : e' < r ∧ e' < 7 := by
        split at he <;> omega
      rw [show ((nx + 1) % 8 + 7 - (e' + 1)) % 8 = (nx + 7 - e') % 8 by omega]
      have e1 : va_up past nx (zcpy hh cc rr ac co li es se p w s (past nx)) ((nx + 7 - e') % 8) = past ((nx + 7 - e') % 8) := if_neg (by omega)
      rw [e1]
      exact h6 e' he2.1
  · have := (n_eq (by omega) (by omega)).mp hkq
    rw [if_neg (by omega), this]
theorem h_settle {hh cc rr ac : Int32} {co li es se p w s : Nat → Int32} {B : ZB} (hq : QB (hh, cc, rr, ac, co, li, es, se, p, w, s) B) (no pg l us lo fi : Nat → Int32) (P K T : Int32) (lots : Nat → Int32) (dc z : Int32) (prices : Nat → Int32) :
    ∃ no' pg' l' us' lo' fi' P' K' T' lots' dc', fX5_settle hh cc li p w no pg l us lo fi P K T lots dc z = some (no', pg', l', us', lo', fi', P', K', T', lots', dc', 0) ∧ SV (hh, cc, rr, ac, co, li, es, se, p, w, s) B (no', pg', l', us', lo', fi', P', K', T') lots' dc' prices 0 := by
  obtain ⟨H, n, m, ln, pr, wa, sl, hw, hl, hb, hm⟩ := hq
  obtain ⟨b1, b2, b3, b4, b5, b6, b7⟩ := id hb
  have b1 : hh = _ := b1
  have b2 : cc = _ := b2
  obtain ⟨lots', dc', c1, c2⟩ := c_listFor hw hb lots dc z
  have c1 : fX1_listFor lots dc z cc p w = some (lots', dc', 0) := c1
  obtain ⟨⟨no', pg', l', us', lo', fi', P', K', T'⟩, y1, y2⟩ := e_lay3z (H := H) (n := n) (ln := ln) (pr := pr) (r := p) (lines := li) hw.2.1 hw.2.2.1 (fun i hi => ⟨b4 i hi, (hw.2.2.2.2.2.1 i hi).2.2⟩) (fun i hi => by rw [show p i = zbi (pr i) from b5 i (by have := hw.2.2.1; omega), zbi_0]) no pg l us lo fi P K T
  refine ⟨no', pg', l', us', lo', fi', P', K', T', lots', dc', ?_, ⟨H, n, m, ln, pr, wa, sl, hw, hl, hb, hm, y1, c2, Or.inl rfl⟩⟩
  unfold fX5_settle
  rw [b1, b2, y2, n_bind]
  show o_bind (fX1_listFor lots dc z (Int32.ofNat n) p w) _ = _
  rw [← b2, c1, n_bind]
section ZCH5
variable {hh cc rr ac dc priced P K T next kept : Int32} {co li es se p w s lots prices no pg l us lo fi : Nat → Int32} {past : Nat → TB} {old : Nat → ZB} {B : ZB} {r : Nat}
/-- undo: the bill of before stands again -/
theorem h_undo (h : SV (hh, cc, rr, ac, co, li, es, se, p, w, s) B (no, pg, l, us, lo, fi, P, K, T) lots dc prices priced) (hv : HV past next kept old (r + 1)) :
    ∃ kq hh' cc' rr' ac' co' li' es' se' p' w' s' next' kept' no' pg' l' us' lo' fi' P' K' T' lots' dc', fX5_undo hh cc rr ac co li es se p w s past next kept no pg l us lo fi P K T lots dc priced = some (Int32.ofNat kq, hh', cc', rr', ac', co', li', es', se', p', w', s', next', kept', no', pg', l', us', lo', fi', P', K', T', lots', dc', 0) ∧ kq < 8 ∧ kept = Int32.ofNat (kq + 1) ∧ kept' = Int32.ofNat kq ∧ SV (hh', cc', rr', ac', co', li', es', se', p', w', s') (old 0) (no', pg', l', us', lo', fi', P', K', T') lots' dc' prices 0 ∧ HV past next' kept' (fun e => old (e + 1)) r := by
  obtain ⟨nx, kp, h1, h2, h3, h4, h5, h6⟩ := hv
  subst h3 h4
  obtain ⟨kq, rfl⟩ : ∃ kq, kp = kq + 1 := ⟨kp - 1, by omega⟩
  have hqb := h6 0 (by omega)
  rw [Nat.sub_zero] at hqb
  have hbo := hqb
  obtain ⟨H, n, m, ln, pr, wa, sl, hw, hl, ⟨b1, b2, b3, b4, b5, b6, b7⟩, -⟩ := hbo
  have r1 := c_bringBack past h1 (show kq < 8 by omega) hh cc rr ac co li es se p w s ⟨o_bo_of b5, o_bo_of b6, o_bo_of b7⟩
  generalize hq : past ((nx + 7) % 8) = q at *
  have hq2 := QB_ext hqb (QE_copy q (hh, cc, rr, ac, co, li, es, se, p, w, s))
  obtain ⟨no', pg', l', us', lo', fi', P', K', T', lots', dc', t1, t2⟩ := h_settle hq2 no pg l us lo fi P K T lots dc priced prices
  refine ⟨kq, _, _, _, _, _, _, _, _, _, _, _, Int32.ofNat ((nx + 7) % 8), Int32.ofNat kq, no', pg', l', us', lo', fi', P', K', T', lots', dc', ?_, by omega, rfl, rfl, t2, ⟨(nx + 7) % 8, kq, by omega, by omega, rfl, rfl, by omega, fun e he => ?_⟩⟩
  · unfold fX5_undo
    rw [r1, n_bind]
    show (if Int32.ofNat kq < 0 then _ else o_bind (fX5_settle q.1 q.2.1 (va_cpy q.2.2.2.2.2.1 li 0 0 24) (va_cpy q.2.2.2.2.2.2.2.2.1 p 0 0 24) (va_cpy q.2.2.2.2.2.2.2.2.2.1 w 0 0 24) no pg l us lo fi P K T lots dc priced) _) = _
    rw [if_neg (n_lt0 (by omega)), t1, n_bind]
  · have h7 := h6 (e + 1) (by omega)
    rw [show ((nx + 7) % 8 + 7 - e) % 8 = (nx + 7 - (e + 1)) % 8 by omega]
    exact h7
/-- a cost set -/
theorem cost_QB {j : Nat} (hj : j < 5) (v : Int32) (h : QB (hh, cc, rr, ac, co, li, es, se, p, w, s) B) : QB (hh, cc, rr, ac, upd co j v, li, es, se, p, w, s) (B.1, B.2.1, B.2.2.1, upd B.2.2.2.1 j v, B.2.2.2.2.1, B.2.2.2.2.2) := by
  obtain ⟨H, n, m, ln, pr, wa, sl, hw, hl, hb, ⟨m1, m2, m3, m4, m5, m6⟩⟩ := h
  refine ⟨H, n, m, ln, pr, wa, sl, hw, hl, hb, ⟨m1, m2, m3, fun k hk => ?_, m5, m6⟩⟩
  show upd B.2.2.2.1 j v k = upd co j v k
  by_cases e : k = j
  · subst e; exact upd_same.trans upd_same.symm
  · rw [upd_ne e, upd_ne e]; exact m4 k hk
theorem h_setCost (h : SV (hh, cc, rr, ac, co, li, es, se, p, w, s) B (no, pg, l, us, lo, fi, P, K, T) lots dc prices priced) (hv : HV past next kept old r) {j v : Nat} (hj : j < 5) (hv9 : v ≤ 99) :
    ∃ past' next' kept' no' pg' l' us' lo' fi' P' K' T' lots' dc', fL_setCost (Int32.ofNat j) (Int32.ofNat v) hh cc rr ac co li es se p w s past next kept no pg l us lo fi P K T lots dc priced = some (B.2.2.2.1 j, upd co j (Int32.ofNat v), past', next', kept', no', pg', l', us', lo', fi', P', K', T', lots', dc', 0) ∧ SV (hh, cc, rr, ac, upd co j (Int32.ofNat v), li, es, se, p, w, s) (B.1, B.2.1, B.2.2.1, upd B.2.2.2.1 j (Int32.ofNat v), B.2.2.2.2.1, B.2.2.2.2.2) (no', pg', l', us', lo', fi', P', K', T') lots' dc' prices 0 ∧ HV past' next' kept' (zcons B old) (if 8 < r + 1 then 8 else r + 1) := by
  have hq := SV_QB h
  obtain ⟨past', next', kept', r1, r2, -⟩ := h_remember hv hq
  have hq2 := cost_QB hj (Int32.ofNat v) hq
  obtain ⟨no', pg', l', us', lo', fi', P', K', T', lots', dc', t1, t2⟩ := h_settle hq2 no pg l us lo fi P K T lots dc priced prices
  refine ⟨past', next', kept', no', pg', l', us', lo', fi', P', K', T', lots', dc', ?_, t2, r2⟩
  obtain ⟨H, n, m, ln, pr, wa, sl, hw, hl, hb, ⟨m1, m2, m3, m4, m5, m6⟩⟩ := hq
  have m4 : ∀ k, k < 5 → B.2.2.2.1 k = co k := m4
  have e : fX5_setCost (Int32.ofNat j) (Int32.ofNat v) hh cc rr ac co li es se p w s past next kept no pg l us lo fi P K T lots dc priced = some (.inr (B.2.2.2.1 j, upd co j (Int32.ofNat v), past', next', kept', no', pg', l', us', lo', fi', P', K', T', lots', dc', 0)) := by
    unfold fX5_setCost
    rw [if_neg (n_lt0 (by omega)), if_neg (by rw [show (5 : Int32) = Int32.ofNat 5 from rfl, n_le (by omega) (by omega)]; omega), if_neg (n_lt0 (by omega)), if_pos (show Int32.ofNat v ≤ (99 : Int32) from (n_le (b := 99) (by omega) (by omega)).mpr hv9), r1, n_bind]
    show o_rd 5 (Int32.ofNat j) (o_let (co (Int32.ofNat j).toNatClampNeg) (fun x10 => o_rd 5 (Int32.ofNat j) (o_let (upd co (Int32.ofNat j).toNatClampNeg (Int32.ofNat v)) _))) = _
    rw [n_rd hj (by omega), n_let, n_rd hj (by omega), n_let, n_cl (by omega)]
    rw [t1, n_bind, ← m4 j hj]
  unfold fL_setCost
  rw [e]
  rfl
end ZCH5
section ZTW5
variable {H n m : Nat} {ln : Nat → Nat} {pr wa sl : Nat → Bool} {hh cc rr ac dc : Int32} {co es se li p w s lots : Nat → Int32} {v v' : Nat → ZL}
theorem turn_ct {i : Nat} (hi : i < n) : zct (zdfb pr (zwa wa i)) n ≤ (if zdfb pr wa i = true then zct (zdfb pr wa) n else zct (zdfb pr wa) n + 1) := by
  have hdi : zdfb pr (zwa wa i) i = !zdfb pr wa i := by
    unfold zdfb zwa
    rw [if_pos rfl]
    cases pr i <;> cases wa i <;> rfl
  have hdj : ∀ j, j ≠ i → zdfb pr (zwa wa i) j = zdfb pr wa j := fun j hj => by
    unfold zdfb zwa
    rw [if_neg hj]
  cases hz : zdfb pr wa i
  · rw [hz] at hdi
    have := zct_ins (f := zdfb pr wa) (g := zdfb pr (zwa wa i)) hi hz (fun j hj => by
      by_cases e : j = i
      · subst e; rw [hdi]; simp
      · rw [hdj j e]; simp [e])
    rw [if_neg (by simp)]
    omega
  · rw [hz] at hdi
    have := zct_ins (f := zdfb pr (zwa wa i)) (g := zdfb pr wa) hi hdi (fun j hj => by
      by_cases e : j = i
      · subst e; rw [hz]; simp
      · rw [hdj j e]; simp [e])
    rw [if_pos rfl]
    omega
/-- the law turns wanted -/
theorem vv_turn (h : VV n ln pr wa sl es se v) {i : Nat} (hi : i < n) : VV n ln pr (zwa wa i) (zsl0 sl i) es se (va_up (va_up v i ((v i).1, (v i).2.1, (v i).2.2.1, (v i).2.2.2.1, zbi (!wa i), (v i).2.2.2.2.2)) i (((va_up v i ((v i).1, (v i).2.1, (v i).2.2.1, (v i).2.2.2.1, zbi (!wa i), (v i).2.2.2.2.2)) i).1, ((va_up v i ((v i).1, (v i).2.1, (v i).2.2.1, (v i).2.2.2.1, zbi (!wa i), (v i).2.2.2.2.2)) i).2.1, ((va_up v i ((v i).1, (v i).2.1, (v i).2.2.1, (v i).2.2.2.1, zbi (!wa i), (v i).2.2.2.2.2)) i).2.2.1, ((va_up v i ((v i).1, (v i).2.1, (v i).2.2.1, (v i).2.2.2.1, zbi (!wa i), (v i).2.2.2.2.2)) i).2.2.2.1, ((va_up v i ((v i).1, (v i).2.1, (v i).2.2.1, (v i).2.2.2.1, zbi (!wa i), (v i).2.2.2.2.2)) i).2.2.2.2.1, (0 : Int32))) := fun j hj => by
  unfold zwa zsl0
  by_cases e : j = i
  · subst e
    rw [if_pos rfl, if_pos rfl]
    refine (if_pos rfl).trans ?_
    have e1 : va_up v j ((v j).1, (v j).2.1, (v j).2.2.1, (v j).2.2.2.1, zbi (!wa j), (v j).2.2.2.2.2) j = ((v j).1, (v j).2.1, (v j).2.2.1, (v j).2.2.2.1, zbi (!wa j), (v j).2.2.2.2.2) := if_pos rfl
    rw [e1, h j hj]
    rfl
  · rw [if_neg e, if_neg e]
    exact (if_neg e).trans ((if_neg e).trans (h j hj))
theorem turn_QB (hw : NW H n m ln pr wa) (hb : BV H n m ln pr wa sl hh cc rr li p w s) {bc : Nat → Int32} (hco : ∀ k, k < 5 → bc k = co k) {i : Nat} (hi : i < n) (hnl : NL n pr wa) (hd : zdfb pr wa i = true ∨ zct (zdfb pr wa) n < 4) (hv : VV n ln pr (zwa wa i) (zsl0 sl i) es se v') :
    QB (hh, cc, rr, ac, co, li, es, se, p, upd w i (zbi (!wa i)), upd s i (zbi false)) (Int32.ofNat H, Int32.ofNat m, ac, bc, n, v') := by
  obtain ⟨w1, w2, w3, w4, w5, w6, w7⟩ := hw
  obtain ⟨b1, b2, b3, b4, b5, b6, b7⟩ := hb
  have hct := turn_ct (pr := pr) (wa := wa) hi
  have hD : zct (zdfb pr (zwa wa i)) n ≤ 4 := by
    rcases hd with h | h
    · rw [if_pos h] at hct; have := hnl.2; omega
    · split at hct <;> omega
  refine ⟨H, n, m, ln, pr, zwa wa i, zsl0 sl i, ⟨w1, w2, w3, w4, w5, w6, by omega⟩, ⟨hnl.1, hD⟩, ⟨b1, b2, b3, b4, b5, fun j hj => ?_, fun j hj => ?_⟩, ⟨rfl, rfl, rfl, hco, rfl, hv⟩⟩
  · show upd w i (zbi (!wa i)) j = zbi (zwa wa i j)
    unfold zwa
    by_cases e : j = i
    · subst e; rw [if_pos rfl]; exact upd_same
    · rw [if_neg e]; exact (upd_ne e).trans (b6 j hj)
  · show upd s i (zbi false) j = zbi (zsl0 sl i j)
    unfold zsl0
    by_cases e : j = i
    · subst e; rw [if_pos rfl]; exact upd_same
    · rw [if_neg e]; exact (upd_ne e).trans (b7 j hj)
end ZTW5
