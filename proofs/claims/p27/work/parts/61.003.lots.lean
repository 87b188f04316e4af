/-! ===== lots withdrawn, restored, added; choices carried out; refusals ===== -/
theorem sv_diff {q : TB} {B : ZB} {y : ZY} {lots prices : Nat → Int32} {dc priced : Int32} (h : SV q B y lots dc prices priced) : fX6_different B.2.2.2.2.1 B.2.2.2.2.2 = some dc := by
  obtain ⟨H, n, m, ln, pr, wa, sl, hw, hnl, hb, ⟨m1, m2, m3, m4, m5, m6⟩, hy, hc, hp⟩ := h
  have := hnl.1
  rw [m5, hc.1]
  exact l_different (by omega) m6
section ZLT
variable {H n m : Nat} {ln : Nat → Nat} {pr wa sl : Nat → Bool} {hh cc rr ac dc priced P K T next kept : Int32} {co li es se p w s lots prices no pg l us lo fi : Nat → Int32} {past : Nat → TB} {old : Nat → ZB} {B : ZB} {r : Nat}
theorem h_turn (hw : NW H n m ln pr wa) (hnl : NL n pr wa) (hb : BV H n m ln pr wa sl hh cc rr li p w s) (hm : LV H n m ln pr wa sl ac co es se B) (hc : CV n pr wa lots dc) (hv : HV past next kept old r) {i : Nat} (hi : i < n) (hd : zdfb pr wa i = true ∨ zct (zdfb pr wa) n < 4) {V' : Nat → ZL} (hV : VV n ln pr (zwa wa i) (zsl0 sl i) es se V') (no pg l us lo fi : Nat → Int32) (P K T z : Int32) (prices : Nat → Int32) :
    ∃ past' next' kept' no' pg' l' us' lo' fi' P' K' T' lots' dc', fX5_turnWanted (Int32.ofNat i) hh cc rr ac co li es se p w s past next kept no pg l us lo fi P K T lots dc z = some (.inr (upd w i (zbi (!wa i)), upd s i (zbi false), past', next', kept', no', pg', l', us', lo', fi', P', K', T', lots', dc', 0)) ∧ SV (hh, cc, rr, ac, co, li, es, se, p, upd w i (zbi (!wa i)), upd s i (zbi false)) (B.1, B.2.1, B.2.2.1, B.2.2.2.1, B.2.2.2.2.1, V') (no', pg', l', us', lo', fi', P', K', T') lots' dc' prices 0 ∧ HV past' next' kept' (zcons B old) (if 8 < r + 1 then 8 else r + 1) := by
  obtain ⟨m1, m2, m3, m4, m5, m6⟩ := id hm
  have hq : QB (hh, cc, rr, ac, co, li, es, se, p, w, s) B := ⟨H, n, m, ln, pr, wa, sl, hw, hnl, hb, hm⟩
  obtain ⟨past', next', kept', r1, r3, -⟩ := h_remember hv hq
  have hq2 := turn_QB (ac := ac) hw hb m4 hi hnl hd hV
  obtain ⟨no', pg', l', us', lo', fi', P', K', T', lots', dc', t1, t2⟩ := h_settle hq2 no pg l us lo fi P K T lots dc z prices
  refine ⟨past', next', kept', no', pg', l', us', lo', fi', P', K', T', lots', dc', c_turn hw hb hc hi (hd.imp id (fun h => by omega)) r1 t1, ?_, r3⟩
  rw [m1, m2, m3, m5]
  exact t2
theorem h_withdraw (hw : NW H n m ln pr wa) (hnl : NL n pr wa) (hb : BV H n m ln pr wa sl hh cc rr li p w s) (hm : LV H n m ln pr wa sl ac co es se B) (hc : CV n pr wa lots dc) (hv : HV past next kept old r) {i : Nat} (hi : i < n) (hwa : wa i = true) (hd : zdfb pr wa i = true ∨ zct (zdfb pr wa) n < 4) {V' : Nat → ZL} (hV : VV n ln pr (zwa wa i) (zsl0 sl i) es se V') (no pg l us lo fi : Nat → Int32) (P K T z : Int32) (prices : Nat → Int32) :
    ∃ w' s' past' next' kept' no' pg' l' us' lo' fi' P' K' T' lots' dc', fL_withdraw (Int32.ofNat i) hh cc rr ac co li es se p w s past next kept no pg l us lo fi P K T lots dc z = some (dc', w', s', past', next', kept', no', pg', l', us', lo', fi', P', K', T', lots', dc', 0) ∧ SV (hh, cc, rr, ac, co, li, es, se, p, w', s') (B.1, B.2.1, B.2.2.1, B.2.2.2.1, B.2.2.2.2.1, V') (no', pg', l', us', lo', fi', P', K', T') lots' dc' prices 0 ∧ HV past' next' kept' (zcons B old) (if 8 < r + 1 then 8 else r + 1) := by
  have hn := hw.2.2.1
  obtain ⟨past', next', kept', no', pg', l', us', lo', fi', P', K', T', lots', dc', e1, e2, e3⟩ := h_turn hw hnl hb hm hc hv hi hd hV no pg l us lo fi P K T z prices
  refine ⟨_, _, past', next', kept', no', pg', l', us', lo', fi', P', K', T', lots', dc', ?_, e2, e3⟩
  have e : fX5_withdraw (Int32.ofNat i) hh cc rr ac co li es se p w s past next kept no pg l us lo fi P K T lots dc z = some (.inr (dc', upd w i (zbi (!wa i)), upd s i (zbi false), past', next', kept', no', pg', l', us', lo', fi', P', K', T', lots', dc', 0)) := by
    unfold fX5_withdraw
    rw [hb.2.1, needLot_t (by omega) hi, o_tryR, n_rd (by omega) (by omega), n_cl (by omega), hb.2.2.2.2.2.1 i (by omega), hwa, if_neg (by decide), ← hwa, ← hb.2.1, e1, o_tryR]
  unfold fL_withdraw
  rw [e]
  rfl
theorem h_withdrawX (hw : NW H n m ln pr wa) (hb : BV H n m ln pr wa sl hh cc rr li p w s) {i : Nat} (hi : i < n) (hwa : wa i = false) (past : Nat → TB) (next kept : Int32) (no pg l us lo fi : Nat → Int32) (P K T z : Int32) :
    fL_withdraw (Int32.ofNat i) hh cc rr ac co li es se p w s past next kept no pg l us lo fi P K T lots dc z = some (-2000000099, w, s, past, next, kept, no, pg, l, us, lo, fi, P, K, T, lots, dc, z) := by
  have hn := hw.2.2.1
  have e : fX5_withdraw (Int32.ofNat i) hh cc rr ac co li es se p w s past next kept no pg l us lo fi P K T lots dc z = some (.inl "java/lang/IllegalStateException") := by
    unfold fX5_withdraw
    rw [hb.2.1, needLot_t (by omega) hi, o_tryR, n_rd (by omega) (by omega), n_cl (by omega), hb.2.2.2.2.2.1 i (by omega), hwa, if_pos (show zbi false = 0 from rfl)]
  unfold fL_withdraw
  rw [e]
  rfl
theorem h_withdrawN (hw : NW H n m ln pr wa) (hb : BV H n m ln pr wa sl hh cc rr li p w s) (past : Nat → TB) (next kept : Int32) (no pg l us lo fi : Nat → Int32) (P K T z : Int32) :
    fL_withdraw (Int32.ofNat n) hh cc rr ac co li es se p w s past next kept no pg l us lo fi P K T lots dc z = some (-2000000097, w, s, past, next, kept, no, pg, l, us, lo, fi, P, K, T, lots, dc, z) := by
  have hn := hw.2.2.1
  have e : fX5_withdraw (Int32.ofNat n) hh cc rr ac co li es se p w s past next kept no pg l us lo fi P K T lots dc z = some (.inl "java/lang/IndexOutOfBoundsException") := by
    unfold fX5_withdraw
    rw [hb.2.1, needLot_f (by omega) (Or.inr (Int32.le_refl _)), o_tryL]
  unfold fL_withdraw
  rw [e]
  rfl
theorem h_restore (hw : NW H n m ln pr wa) (hnl : NL n pr wa) (hb : BV H n m ln pr wa sl hh cc rr li p w s) (hm : LV H n m ln pr wa sl ac co es se B) (hc : CV n pr wa lots dc) (hv : HV past next kept old r) {i : Nat} (hi : i < n) (hwa : wa i = false) (hd : zdfb pr wa i = true ∨ zct (zdfb pr wa) n < 4) {V' : Nat → ZL} (hV : VV n ln pr (zwa wa i) (zsl0 sl i) es se V') (no pg l us lo fi : Nat → Int32) (P K T z : Int32) (prices : Nat → Int32) :
    ∃ w' s' past' next' kept' no' pg' l' us' lo' fi' P' K' T' lots' dc', fL_restore (Int32.ofNat i) hh cc rr ac co li es se p w s past next kept no pg l us lo fi P K T lots dc z = some (dc', w', s', past', next', kept', no', pg', l', us', lo', fi', P', K', T', lots', dc', 0) ∧ SV (hh, cc, rr, ac, co, li, es, se, p, w', s') (B.1, B.2.1, B.2.2.1, B.2.2.2.1, B.2.2.2.2.1, V') (no', pg', l', us', lo', fi', P', K', T') lots' dc' prices 0 ∧ HV past' next' kept' (zcons B old) (if 8 < r + 1 then 8 else r + 1) := by
  have hn := hw.2.2.1
  obtain ⟨past', next', kept', no', pg', l', us', lo', fi', P', K', T', lots', dc', e1, e2, e3⟩ := h_turn hw hnl hb hm hc hv hi hd hV no pg l us lo fi P K T z prices
  refine ⟨_, _, past', next', kept', no', pg', l', us', lo', fi', P', K', T', lots', dc', ?_, e2, e3⟩
  have e : fX5_restore (Int32.ofNat i) hh cc rr ac co li es se p w s past next kept no pg l us lo fi P K T lots dc z = some (.inr (dc', upd w i (zbi (!wa i)), upd s i (zbi false), past', next', kept', no', pg', l', us', lo', fi', P', K', T', lots', dc', 0)) := by
    unfold fX5_restore
    rw [hb.2.1, needLot_t (by omega) hi, o_tryR, n_rd (by omega) (by omega), n_cl (by omega), hb.2.2.2.2.2.1 i (by omega), if_pos (show zbi (wa i) = 0 from by rw [hwa]; rfl), ← hb.2.1, e1, o_tryR]
  unfold fL_restore
  rw [e]
  rfl
theorem h_restoreX (hw : NW H n m ln pr wa) (hb : BV H n m ln pr wa sl hh cc rr li p w s) {i : Nat} (hi : i < n) (hwa : wa i = true) (past : Nat → TB) (next kept : Int32) (no pg l us lo fi : Nat → Int32) (P K T z : Int32) :
    fL_restore (Int32.ofNat i) hh cc rr ac co li es se p w s past next kept no pg l us lo fi P K T lots dc z = some (-2000000099, w, s, past, next, kept, no, pg, l, us, lo, fi, P, K, T, lots, dc, z) := by
  have hn := hw.2.2.1
  have e : fX5_restore (Int32.ofNat i) hh cc rr ac co li es se p w s past next kept no pg l us lo fi P K T lots dc z = some (.inl "java/lang/IllegalStateException") := by
    unfold fX5_restore
    rw [hb.2.1, needLot_t (by omega) hi, o_tryR, n_rd (by omega) (by omega), n_cl (by omega), hb.2.2.2.2.2.1 i (by omega), hwa, if_neg (by decide)]
  unfold fL_restore
  rw [e]
  rfl
theorem h_restoreN (hw : NW H n m ln pr wa) (hb : BV H n m ln pr wa sl hh cc rr li p w s) (past : Nat → TB) (next kept : Int32) (no pg l us lo fi : Nat → Int32) (P K T z : Int32) :
    fL_restore (Int32.ofNat n) hh cc rr ac co li es se p w s past next kept no pg l us lo fi P K T lots dc z = some (-2000000097, w, s, past, next, kept, no, pg, l, us, lo, fi, P, K, T, lots, dc, z) := by
  have hn := hw.2.2.1
  have e : fX5_restore (Int32.ofNat n) hh cc rr ac co li es se p w s past next kept no pg l us lo fi P K T lots dc z = some (.inl "java/lang/IndexOutOfBoundsException") := by
    unfold fX5_restore
    rw [hb.2.1, needLot_f (by omega) (Or.inr (Int32.le_refl _)), o_tryL]
  unfold fL_restore
  rw [e]
  rfl
theorem c_mostLines {H : Nat} (h2 : H ≤ 40) : fX0_mostLines (Int32.ofNat H) = some (Int32.ofNat (if H < 9 then H else 9)) := by
  unfold fX0_mostLines
  have e9 : (9 : Int32) = Int32.ofNat 9 := rfl
  rw [e9]
  by_cases h : H < 9
  · rw [if_pos ((n_lt (by omega) (by omega)).mpr h), if_pos h]
  · rw [if_neg (fun hh => h ((n_lt (by omega) (by omega)).mp hh)), if_neg h]
theorem vv_add {v : Nat → ZL} (h : VV n ln pr wa sl es se v) {a : Nat} (ha : a ≤ n) (lw : Nat) (v2 v3 : Int32) : VV (n + 1) (zin ln n a lw) (zin pr n a false) (zin wa n a true) (zin sl n a false) (zin es n a v2) (zin se n a v3) (zins v a (Int32.ofNat lw, v2, v3, 0, 1, 0)) := fun i hi => by
  unfold zins zin
  by_cases e : i = a
  · subst e
    rw [if_neg (Nat.lt_irrefl _), if_pos rfl, if_pos rfl, if_pos rfl, if_pos rfl, if_pos rfl, if_pos rfl, if_pos rfl]
    rfl
  · rw [if_neg e, if_neg e, if_neg e, if_neg e, if_neg e, if_neg e]
    by_cases e2 : a < i ∧ i ≤ n
    · rw [if_neg (by omega), if_neg e, if_pos e2, if_pos e2, if_pos e2, if_pos e2, if_pos e2, if_pos e2]
      exact h _ (by omega)
    · rw [if_pos (by omega), if_neg e, if_neg e2, if_neg e2, if_neg e2, if_neg e2, if_neg e2, if_neg e2]
      exact h i (by omega)
theorem zdfb_zin {a : Nat} (b c : Bool) : zdfb (zin pr n a b) (zin wa n a c) = zin (zdfb pr wa) n a (b != c) := by
  funext i
  unfold zdfb zin
  by_cases e : i = a
  · rw [if_pos e, if_pos e, if_pos e]
  · rw [if_neg e, if_neg e, if_neg e]
    by_cases e2 : a < i ∧ i ≤ n
    · rw [if_pos e2, if_pos e2, if_pos e2]
    · rw [if_neg e2, if_neg e2, if_neg e2]
theorem zin_bool {f : Nat → Int32} {g : Nat → Bool} {a : Nat} {v : Int32} {b : Bool} (hn : n < 24) (hf : ∀ i, i < 24 → f i = zbi (g i)) (hv : v = zbi b) : ∀ i, i < 24 → zin f n a v i = zbi (zin g n a b i) := fun i hi => by
  unfold zin
  by_cases e : i = a
  · rw [if_pos e, if_pos e, hv]
  · rw [if_neg e, if_neg e]
    by_cases e2 : a < i ∧ i ≤ n
    · rw [if_pos e2, if_pos e2]; exact hf _ (by omega)
    · rw [if_neg e2, if_neg e2]; exact hf _ hi
theorem add_QB (hw : NW H n m ln pr wa) (hnl : NL n pr wa) (hb : BV H n m ln pr wa sl hh cc rr li p w s) (hm : LV H n m ln pr wa sl ac co es se B) (hn : n < 10) (hD : zct (zdfb pr wa) n < 4) {a lw : Nat} (ha : a ≤ n) (hl : 1 ≤ lw ∧ lw ≤ 9 ∧ lw ≤ H) (v2 v3 : Int32) :
    QB (hh, Int32.ofNat (n + 1), rr, ac, co, zin li n a (Int32.ofNat lw), zin es n a v2, zin se n a v3, zin p n a 0, zin w n a 1, zin s n a 0) (B.1, B.2.1, B.2.2.1, B.2.2.2.1, n + 1, zins B.2.2.2.2.2 a (Int32.ofNat lw, v2, v3, 0, 1, 0)) := by
  obtain ⟨w1, w2, w3, w4, w5, w6, w7⟩ := hw
  obtain ⟨b1, b2, b3, b4, b5, b6, b7⟩ := hb
  obtain ⟨m1, m2, m3, m4, m5, m6⟩ := hm
  have hz : zct (zdfb (zin pr n a false) (zin wa n a true)) (n + 1) ≤ 4 := by
    rw [zdfb_zin, zct_zin _ _ n ha]
    split <;> omega
  refine ⟨H, n + 1, m, zin ln n a lw, zin pr n a false, zin wa n a true, zin sl n a false, ⟨w1, w2, by omega, w4, w5, fun i hi => ?_, by omega⟩, ⟨by omega, hz⟩, ⟨b1, rfl, b3, fun i hi => ?_, zin_bool (by omega) b5 rfl, zin_bool (by omega) b6 rfl, zin_bool (by omega) b7 rfl⟩, ⟨m1, m2, m3, m4, rfl, vv_add m6 ha lw v2 v3⟩⟩
  · unfold zin
    by_cases e : i = a
    · rw [if_pos e]; exact hl
    · rw [if_neg e]
      by_cases e2 : a < i ∧ i ≤ n
      · rw [if_pos e2]; exact w6 _ (by omega)
      · rw [if_neg e2]; exact w6 i (by omega)
  · show zin li n a (Int32.ofNat lw) i = Int32.ofNat (zin ln n a lw i)
    unfold zin
    by_cases e : i = a
    · rw [if_pos e, if_pos e]
    · rw [if_neg e, if_neg e]
      by_cases e2 : a < i ∧ i ≤ n
      · rw [if_pos e2, if_pos e2]; exact b4 _ (by omega)
      · rw [if_neg e2, if_neg e2]; exact b4 i (by omega)
theorem h_add (hw : NW H n m ln pr wa) (hnl : NL n pr wa) (hb : BV H n m ln pr wa sl hh cc rr li p w s) (hm : LV H n m ln pr wa sl ac co es se B) (hc : CV n pr wa lots dc) (hv : HV past next kept old r) (hn : n < 10) (hD : zct (zdfb pr wa) n < 4) {a lw e3 e4 : Nat} (ha : a ≤ n) (hl : 1 ≤ lw ∧ lw ≤ 9 ∧ lw ≤ H) (he3 : e3 ≤ 9999) (he4 : e4 ≤ 9) (no pg l us lo fi : Nat → Int32) (P K T z : Int32) (prices : Nat → Int32) :
    ∃ li' es' se' p' w' s' past' next' kept' no' pg' l' us' lo' fi' P' K' T' lots' dc', fL_add (Int32.ofNat a) (Int32.ofNat lw) (Int32.ofNat e3) (Int32.ofNat e4) hh cc rr ac co li es se p w s past next kept no pg l us lo fi P K T lots dc z = some (Int32.ofNat (n + 1), Int32.ofNat (n + 1), li', es', se', p', w', s', past', next', kept', no', pg', l', us', lo', fi', P', K', T', lots', dc', 0) ∧ SV (hh, Int32.ofNat (n + 1), rr, ac, co, li', es', se', p', w', s') (B.1, B.2.1, B.2.2.1, B.2.2.2.1, n + 1, zins B.2.2.2.2.2 a (Int32.ofNat lw, Int32.ofNat e3, Int32.ofNat e4, 0, 1, 0)) (no', pg', l', us', lo', fi', P', K', T') lots' dc' prices 0 ∧ HV past' next' kept' (zcons B old) (if 8 < r + 1 then 8 else r + 1) ∧ ∀ q, q < 8 → kept = Int32.ofNat q → kept' = Int32.ofNat (q + 1) := by
  obtain ⟨w1, w2, w3, w4, w5, w6, w7⟩ := id hw
  obtain ⟨b1, b2, b3, b4, b5, b6, b7⟩ := id hb
  have hq : QB (hh, cc, rr, ac, co, li, es, se, p, w, s) B := ⟨H, n, m, ln, pr, wa, sl, hw, hnl, hb, hm⟩
  obtain ⟨past', next', kept', r1, r3, r4⟩ := h_remember hv hq
  have hq2 := add_QB hw hnl hb hm hn hD ha hl (Int32.ofNat e3) (Int32.ofNat e4)
  obtain ⟨no', pg', l', us', lo', fi', P', K', T', lots', dc', t1, t2⟩ := h_settle hq2 no pg l us lo fi P K T lots dc z prices
  have hins := c_insert (li := li) (es := es) (se := se) (show n < 24 by omega) b5 b6 b7 ha (Int32.ofNat lw) (Int32.ofNat e3) (Int32.ofNat e4)
  have hdc : dc < 8 := by
    rw [hc.1]
    exact (n_lt (b := 8) (by omega) (by omega)).mpr (by omega)
  have e1 : vp_nar .boolean (1 : Int32) = 1 := vp_narB true
  have eU : upd (zin w n a 0) a 1 = zin w n a 1 := by
    funext j
    by_cases e : j = a
    · subst e; refine upd_same.trans ?_; unfold zin; rw [if_pos rfl]
    · refine (upd_ne e).trans ?_; unfold zin; rw [if_neg e, if_neg e]
  have ml := c_mostLines w2
  refine ⟨_, _, _, _, _, _, past', next', kept', no', pg', l', us', lo', fi', P', K', T', lots', dc', ?_, t2, r3, r4⟩
  have h5 : fX5_add (Int32.ofNat a) (Int32.ofNat lw) (Int32.ofNat e3) (Int32.ofNat e4) hh cc rr ac co li es se p w s past next kept no pg l us lo fi P K T lots dc z = some (.inr (Int32.ofNat (n + 1), Int32.ofNat (n + 1), zin li n a (Int32.ofNat lw), zin es n a (Int32.ofNat e3), zin se n a (Int32.ofNat e4), zin p n a 0, zin w n a 1, zin s n a 0, past', next', kept', no', pg', l', us', lo', fi', P', K', T', lots', dc', 0)) := by
    unfold fX5_add
    rw [if_neg (n_lt0 (by omega)), b2, if_neg (by rw [n_lt (by omega) (by omega)]; omega), if_neg (by rw [show (1 : Int32) = Int32.ofNat 1 from rfl, n_lt (by omega) (by omega)]; omega), b1, ml, n_bind, if_neg (by rw [n_lt (by split <;> omega) (by omega)]; split <;> omega), if_neg (n_lt0 (by omega)), if_neg (by rw [show (9999 : Int32) = Int32.ofNat 9999 from rfl, n_lt (by omega) (by omega)]; omega), if_neg (n_lt0 (by omega)), if_pos (show Int32.ofNat e4 ≤ (9 : Int32) from (n_le (b := 9) (by omega) (by omega)).mpr he4), if_neg (n_24 (by omega)), if_pos hdc, ← b1, ← b2, r1, n_bind]
    show o_bind (fX0_insert (Int32.ofNat a) (Int32.ofNat lw) (Int32.ofNat e3) (Int32.ofNat e4) cc li es se p w s) _ = _
    rw [b2, hins, n_bind]
    show o_rd 24 (Int32.ofNat a) (o_let (upd (zin w n a 0) (Int32.ofNat a).toNatClampNeg (vp_nar .boolean (1 : Int32))) _) = _
    rw [n_rd (by omega) (by omega), n_let, n_cl (by omega), e1, eU, t1, n_bind]
  unfold fL_add
  rw [h5]
  rfl
/-- a lot of too many lines -/
theorem h_addX (hw : NW H n m ln pr wa) (hb : BV H n m ln pr wa sl hh cc rr li p w s) {a lw : Nat} (ha : a ≤ n) (hlw : lw < 1000) (hl : H < lw ∨ 9 < lw) (x3 x4 : Int32) (past : Nat → TB) (next kept : Int32) (no pg l us lo fi : Nat → Int32) (P K T z : Int32) :
    fL_add (Int32.ofNat a) (Int32.ofNat lw) x3 x4 hh cc rr ac co li es se p w s past next kept no pg l us lo fi P K T lots dc z = some (-2000000098, cc, li, es, se, p, w, s, past, next, kept, no, pg, l, us, lo, fi, P, K, T, lots, dc, z) := by
  obtain ⟨w1, w2, w3, w4, w5, w6, w7⟩ := id hw
  obtain ⟨b1, b2, b3, b4, b5, b6, b7⟩ := id hb
  have ml := c_mostLines w2
  have e : fX5_add (Int32.ofNat a) (Int32.ofNat lw) x3 x4 hh cc rr ac co li es se p w s past next kept no pg l us lo fi P K T lots dc z = some (.inl "java/lang/IllegalArgumentException") := by
    unfold fX5_add
    rw [if_neg (n_lt0 (by omega)), b2, if_neg (by rw [n_lt (by omega) (by omega)]; omega), if_neg (by rw [show (1 : Int32) = Int32.ofNat 1 from rfl, n_lt (by omega) (by omega)]; omega), b1, ml, n_bind, if_pos (by rw [n_lt (by split <;> omega) (by omega)]; split <;> omega)]
  unfold fL_add
  rw [e]
  rfl
/-- the choice that isn't one -/
theorem h_carryX (hw : NW H n m ln pr wa) (hc : CV n pr wa lots dc) (past : Nat → TB) (next kept : Int32) (no pg l us lo fi fg vno vpg vl vus vlo vfi pb ch : Nat → Int32) (P K T vP vK vT z : Int32) :
    fL_carry (Int32.ofNat (2 ^ zct (zdfb pr wa) n)) hh cc rr ac co li es se p w s past next kept no pg l us lo fi P K T lots fg dc vno vpg vl vus vlo vfi vP vK vT pb ch z = some (-2000000098, ac, p, s, past, next, kept, no, pg, l, us, lo, fi, P, K, T, lots, fg, dc, vno, vpg, vl, vus, vlo, vfi, vP, vK, vT, pb, ch, z) := by
  have e : fX5_carry (Int32.ofNat (2 ^ zct (zdfb pr wa) n)) hh cc rr ac co li es se p w s past next kept no pg l us lo fi P K T lots fg dc vno vpg vl vus vlo vfi vP vK vT pb ch z = some (.inl "java/lang/IllegalArgumentException") := by
    unfold fX5_carry
    rw [c_needChoice_f hw.2.2.2.2.2.2 hc (Or.inr (Int32.le_refl _)), o_tryL]
  unfold fL_carry
  rw [e]
  rfl
end ZLT
