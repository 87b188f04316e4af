section ZAD
variable {H n m : Nat} {ln : Nat → Nat} {pr wa sl : Nat → Bool} {hh cc rr ac dc : Int32} {co es se d li p w s lots : Nat → Int32}
def zad (d : Nat → Int32) (n a : Nat) (v1 v2 v3 : Int32) : Nat → Int32 := upd (upd (upd (upd (upd (upd (upd (fun y => if 9 + 6 * a + 6 ≤ y ∧ y < 9 + 6 * n + 6 then d (y - 6) else d y) 1 (Int32.ofNat n + 1)) (9 + 6 * a + 0) v1) (9 + 6 * a + 1) v2) (9 + 6 * a + 2) v3) (9 + 6 * a + 3) 0) (9 + 6 * a + 4) 1) (9 + 6 * a + 5) 0
theorem zad_lo {a y : Nat} (v1 v2 v3 : Int32) (h : y < 9 + 6 * a) (h1 : y ≠ 1) : zad d n a v1 v2 v3 y = d y := by
  unfold zad
  simp (disch := omega) only [upd_ne]
  exact if_neg (by omega)
theorem zad_hi {a y : Nat} (v1 v2 v3 : Int32) (h : 9 + 6 * a + 6 ≤ y + 6) (h2 : y + 6 < 9 + 6 * n + 6) : zad d n a v1 v2 v3 (y + 6) = d y := by
  unfold zad
  simp (disch := omega) only [upd_ne]
  exact (if_pos ⟨h, h2⟩).trans (by rw [Nat.add_sub_cancel])
theorem add_QB (hw : NW H n m ln pr wa) (hb : BV H n m ln pr wa sl hh cc rr li p w s) (hm : MV H n m ln pr wa sl ac co es se d) (hn : n < 24) (hD : zct (zdfb pr wa) n < 8) {a l : Nat} (ha : a ≤ n) (hl : 1 ≤ l ∧ l ≤ 9 ∧ l ≤ H) (v2 v3 : Int32) :
    QB (hh, Int32.ofNat (n + 1), rr, ac, co, zin li n a (Int32.ofNat l), zin es n a v2, zin se n a v3, zin p n a 0, zin w n a 1, zin s n a 0) (zad d n a (Int32.ofNat l) v2 v3) := by
  obtain ⟨w1, w2, w3, w4, w5, w6, w7⟩ := hw
  obtain ⟨b1, b2, b3, b4, b5, b6, b7⟩ := hb
  obtain ⟨m1, m2, m3, m4, m5, m6⟩ := hm
  have zz : ∀ (f : Nat → Int32) (g : Nat → Bool) (v : Int32) (b : Bool), (∀ i, i < 24 → f i = zbi (g i)) → v = zbi b → ∀ i, i < 24 → zin f n a v i = zbi (zin g n a b i) := fun f g v b hf hv i hi => by
    unfold zin
    by_cases e : i = a
    · rw [if_pos e, if_pos e, hv]
    · rw [if_neg e, if_neg e]
      by_cases e2 : a < i ∧ i ≤ n
      · rw [if_pos e2, if_pos e2]; exact hf _ (by omega)
      · rw [if_neg e2, if_neg e2]; exact hf _ hi
  have hdf : zdfb (zin pr n a false) (zin wa n a true) = zin (zdfb pr wa) n a true := by
    funext i
    unfold zdfb zin
    by_cases e : i = a
    · rw [if_pos e, if_pos e, if_pos e]; rfl
    · rw [if_neg e, if_neg e, if_neg e]
      by_cases e2 : a < i ∧ i ≤ n
      · rw [if_pos e2, if_pos e2, if_pos e2]
      · rw [if_neg e2, if_neg e2, if_neg e2]
  refine ⟨H, n + 1, m, zin ln n a l, zin pr n a false, zin wa n a true, zin sl n a false, ⟨w1, w2, by omega, w4, w5, fun i hi => ?_, ?_⟩, ⟨b1, rfl, b3, fun i hi => ?_, zz p pr 0 false b5 rfl, zz w wa 1 true b6 rfl, zz s sl 0 false b7 rfl⟩, ⟨(zad_lo _ _ _ (by omega) (by omega)).trans m1, ?_, (zad_lo _ _ _ (by omega) (by omega)).trans m3, (zad_lo _ _ _ (by omega) (by omega)).trans m4, fun k hk => (zad_lo _ _ _ (by omega) (by omega)).trans (m5 k hk), fun i hi => ?_⟩⟩
  · unfold zin
    by_cases e : i = a
    · rw [if_pos e]; exact hl
    · rw [if_neg e]
      by_cases e2 : a < i ∧ i ≤ n
      · rw [if_pos e2]; exact w6 _ (by omega)
      · rw [if_neg e2]; exact w6 i (by omega)
  · rw [hdf, zct_zin _ true n ha]
    simp
    omega
  · show zin li n a (Int32.ofNat l) i = Int32.ofNat (zin ln n a l i)
    unfold zin
    by_cases e : i = a
    · rw [if_pos e, if_pos e]
    · rw [if_neg e, if_neg e]
      by_cases e2 : a < i ∧ i ≤ n
      · rw [if_pos e2, if_pos e2]; exact b4 _ (by omega)
      · rw [if_neg e2, if_neg e2]; exact b4 i (by omega)
  · unfold zad
    simp (disch := omega) only [upd_ne]
    exact upd_same.trans (n_s n)
  · show _ = Int32.ofNat (zin ln n a l i) ∧ _ = zin es n a v2 i ∧ _ = zin se n a v3 i ∧ _ = zbi (zin pr n a false i) ∧ _ = zbi (zin wa n a true i) ∧ _ = zbi (zin sl n a false i)
    unfold zin
    by_cases e : i = a
    · subst e
      rw [if_pos rfl, if_pos rfl, if_pos rfl, if_pos rfl, if_pos rfl, if_pos rfl]
      unfold zad
      refine ⟨?_, ?_, ?_, ?_, ?_, ?_⟩ <;> simp (disch := omega) only [upd_ne, upd_same] <;> rfl
    · rw [if_neg e, if_neg e, if_neg e, if_neg e, if_neg e, if_neg e]
      by_cases e2 : a < i ∧ i ≤ n
      · rw [if_pos e2, if_pos e2, if_pos e2, if_pos e2, if_pos e2, if_pos e2]
        obtain ⟨j, rfl⟩ : ∃ j, i = j + 1 := ⟨i - 1, by omega⟩
        rw [Nat.add_sub_cancel]
        obtain ⟨d0, d1, d2, d3, d4, d5⟩ := m6 j (by omega)
        refine ⟨?_, ?_, ?_, ?_, ?_, ?_⟩
        · rw [show 9 + 6 * (j + 1) + 0 = 9 + 6 * j + 0 + 6 by omega, zad_hi _ _ _ (by omega) (by omega)]; exact d0
        · rw [show 9 + 6 * (j + 1) + 1 = 9 + 6 * j + 1 + 6 by omega, zad_hi _ _ _ (by omega) (by omega)]; exact d1
        · rw [show 9 + 6 * (j + 1) + 2 = 9 + 6 * j + 2 + 6 by omega, zad_hi _ _ _ (by omega) (by omega)]; exact d2
        · rw [show 9 + 6 * (j + 1) + 3 = 9 + 6 * j + 3 + 6 by omega, zad_hi _ _ _ (by omega) (by omega)]; exact d3
        · rw [show 9 + 6 * (j + 1) + 4 = 9 + 6 * j + 4 + 6 by omega, zad_hi _ _ _ (by omega) (by omega)]; exact d4
        · rw [show 9 + 6 * (j + 1) + 5 = 9 + 6 * j + 5 + 6 by omega, zad_hi _ _ _ (by omega) (by omega)]; exact d5
      · rw [if_neg e2, if_neg e2, if_neg e2, if_neg e2, if_neg e2, if_neg e2]
        obtain ⟨d0, d1, d2, d3, d4, d5⟩ := m6 i (by omega)
        exact ⟨(zad_lo _ _ _ (by omega) (by omega)).trans d0, (zad_lo _ _ _ (by omega) (by omega)).trans d1, (zad_lo _ _ _ (by omega) (by omega)).trans d2, (zad_lo _ _ _ (by omega) (by omega)).trans d3, (zad_lo _ _ _ (by omega) (by omega)).trans d4, (zad_lo _ _ _ (by omega) (by omega)).trans d5⟩
theorem c_mostLines {H : Nat} (h2 : H ≤ 40) : fX0_mostLines (Int32.ofNat H) = some (Int32.ofNat (if H < 9 then H else 9)) ∧ fX6_min 9 (Int32.ofNat H) = some (Int32.ofNat (if H < 9 then H else 9)) := by
  unfold fX0_mostLines fX6_min
  have e9 : (9 : Int32) = Int32.ofNat 9 := rfl
  rw [e9]
  by_cases h : H < 9
  · rw [if_pos ((n_lt (by omega) (by omega)).mpr h), if_pos h, if_pos ((n_le (by omega) (by omega)).mpr (by omega))]
    exact ⟨rfl, rfl⟩
  · rw [if_neg (fun hh => h ((n_lt (by omega) (by omega)).mp hh)), if_neg h]
    by_cases h3 : H ≤ 9
    · have : H = 9 := by omega
      subst this
      exact ⟨rfl, rfl⟩
    · rw [if_neg (fun hh => h3 ((n_le (by omega) (by omega)).mp hh))]
      exact ⟨rfl, rfl⟩
end ZAD
theorem s_18 (x x2 x3 x4 th : Int32) {hh cc rr ac : Int32} {co li es se p w s d lots prices : Nat → Int32} {dc priced : Int32} {no pg l us lo fi : Nat → Int32} {P K T : Int32} {past : Nat → TB} {next kept : Int32} {hist : Nat → Nat → Int32} {depth : Int32} (h : SV (hh, cc, rr, ac, co, li, es, se, p, w, s) d (no, pg, l, us, lo, fi, P, K, T) lots dc prices priced) (hv : HV past next kept hist depth) (told : Nat → Int64) :
    ∃ cc' li' es' se' p' w' s' past' next' kept' no' pg' l' us' lo' fi' P' K' T' lots' dc' priced' th' d' hist' depth' told', fS18 x x2 x3 x4 hh cc rr ac co li es se p w s past next kept no pg l us lo fi P K T lots dc priced th d hist depth told = some (cc', li', es', se', p', w', s', past', next', kept', no', pg', l', us', lo', fi', P', K', T', lots', dc', priced', th', d', hist', depth', told') ∧ SV (hh, cc', rr, ac, co, li', es', se', p', w', s') d' (no', pg', l', us', lo', fi', P', K', T') lots' dc' prices priced' ∧ HV past' next' kept' hist' depth' := by
  have hq := SV_QB h
  have h0 := h
  obtain ⟨H, n, m, ln, pr, wa, sl, hw, hb, hm, hy, hc, hp⟩ := h
  have hb' : BV H n m ln pr wa sl hh cc rr li p w s := hb
  have hm' : MV H n m ln pr wa sl ac co es se d := hm
  have hn := hw.2.2.1
  have hD := hw.2.2.2.2.2.2
  obtain ⟨b1, b2, b3, b4, b5, b6, b7⟩ := id hb'
  have h0' : d (0 : Int32).toNatClampNeg = Int32.ofNat H := hm'.1
  have h1' : d (1 : Int32).toNatClampNeg = Int32.ofNat n := hm'.2.1
  obtain ⟨ml, ml2⟩ := c_mostLines hw.2.1
  have hdif := m_different hn hm'
  have bad : ∀ k E, (k = 1 ∧ E = "java/lang/IllegalArgumentException" ∨ k = 2 ∧ E = "java/lang/IllegalStateException") → fX5_add x x2 x3 x4 hh cc rr ac co li es se p w s past next kept no pg l us lo fi P K T lots dc priced = some (.inl E) → fX6_add x x2 x3 x4 th d hist depth = some (0, k, d, hist, depth) → ∃ cc' li' es' se' p' w' s' past' next' kept' no' pg' l' us' lo' fi' P' K' T' lots' dc' priced' th' d' hist' depth' told', fS18 x x2 x3 x4 hh cc rr ac co li es se p w s past next kept no pg l us lo fi P K T lots dc priced th d hist depth told = some (cc', li', es', se', p', w', s', past', next', kept', no', pg', l', us', lo', fi', P', K', T', lots', dc', priced', th', d', hist', depth', told') ∧ SV (hh, cc', rr, ac, co, li', es', se', p', w', s') d' (no', pg', l', us', lo', fi', P', K', T') lots' dc' prices priced' ∧ HV past' next' kept' hist' depth' := fun k E hk h5 h6 => by
    refine ⟨cc, li, es, se, p, w, s, past, next, kept, no, pg, l, us, lo, fi, P, K, T, lots, dc, priced, k, d, hist, depth, told, ?_, h0, hv⟩
    unfold fS18 fL_add
    rw [h5, h6]
    rcases hk with ⟨rfl, rfl⟩ | ⟨rfl, rfl⟩ <;> rfl
  by_cases c1 : x < 0
  · refine bad 1 _ (Or.inl ⟨rfl, rfl⟩) ?_ ?_
    · unfold fX5_add; rw [if_pos c1]
    · unfold fX6_add; rw [h1', in_f (Or.inl c1), n_bind]; rfl
  by_cases c2 : Int32.ofNat n < x
  · refine bad 1 _ (Or.inl ⟨rfl, rfl⟩) ?_ ?_
    · unfold fX5_add; rw [if_neg c1, b2, if_pos c2]
    · unfold fX6_add; rw [h1', in_f (Or.inr c2), n_bind]; rfl
  have i1 := in_t c1 c2
  by_cases c3 : x2 < 1
  · refine bad 1 _ (Or.inl ⟨rfl, rfl⟩) ?_ ?_
    · unfold fX5_add; rw [if_neg c1, b2, if_neg c2, if_pos c3]
    · unfold fX6_add; rw [h1', i1, n_bind, n_let, if_neg (by decide), h0', ml2, n_bind, in_f (Or.inl c3), n_bind]; rfl
  by_cases c4 : Int32.ofNat (if H < 9 then H else 9) < x2
  · refine bad 1 _ (Or.inl ⟨rfl, rfl⟩) ?_ ?_
    · unfold fX5_add; rw [if_neg c1, b2, if_neg c2, if_neg c3, b1, ml, n_bind, if_pos c4]
    · unfold fX6_add; rw [h1', i1, n_bind, n_let, if_neg (by decide), h0', ml2, n_bind, in_f (Or.inr c4), n_bind]; rfl
  have i2 := in_t c3 c4
  by_cases c5 : x3 < 0
  · refine bad 1 _ (Or.inl ⟨rfl, rfl⟩) ?_ ?_
    · unfold fX5_add; rw [if_neg c1, b2, if_neg c2, if_neg c3, b1, ml, n_bind, if_neg c4, if_pos c5]
    · unfold fX6_add; rw [h1', i1, n_bind, n_let, if_neg (by decide), h0', ml2, n_bind, i2, n_bind, if_neg (by decide), in_f (Or.inl c5), n_bind]; rfl
  by_cases c6 : 9999 < x3
  · refine bad 1 _ (Or.inl ⟨rfl, rfl⟩) ?_ ?_
    · unfold fX5_add; rw [if_neg c1, b2, if_neg c2, if_neg c3, b1, ml, n_bind, if_neg c4, if_neg c5, if_pos c6]
    · unfold fX6_add; rw [h1', i1, n_bind, n_let, if_neg (by decide), h0', ml2, n_bind, i2, n_bind, if_neg (by decide), in_f (Or.inr c6), n_bind]; rfl
  have i3 := in_t c5 c6
  by_cases c7 : x4 < 0
  · refine bad 1 _ (Or.inl ⟨rfl, rfl⟩) ?_ ?_
    · unfold fX5_add; rw [if_neg c1, b2, if_neg c2, if_neg c3, b1, ml, n_bind, if_neg c4, if_neg c5, if_neg c6, if_pos c7]
    · unfold fX6_add; rw [h1', i1, n_bind, n_let, if_neg (by decide), h0', ml2, n_bind, i2, n_bind, if_neg (by decide), i3, n_bind, if_neg (by decide), in_f (Or.inl c7), n_bind]; rfl
  by_cases c8 : 9 < x4
  · refine bad 1 _ (Or.inl ⟨rfl, rfl⟩) ?_ ?_
    · unfold fX5_add; rw [if_neg c1, b2, if_neg c2, if_neg c3, b1, ml, n_bind, if_neg c4, if_neg c5, if_neg c6, if_neg c7, if_neg (Int32.not_le.mpr c8)]
    · unfold fX6_add; rw [h1', i1, n_bind, n_let, if_neg (by decide), h0', ml2, n_bind, i2, n_bind, if_neg (by decide), i3, n_bind, if_neg (by decide), in_f (Or.inr c8), n_bind]; rfl
  have i4 := in_t c7 c8
  have c8' : x4 ≤ 9 := Int32.not_lt.mp c8
  by_cases k1 : n = 24
  · refine bad 2 _ (Or.inr ⟨rfl, rfl⟩) ?_ ?_
    · unfold fX5_add; rw [if_neg c1, b2, if_neg c2, if_neg c3, b1, ml, n_bind, if_neg c4, if_neg c5, if_neg c6, if_neg c7, if_pos c8', k1, if_pos (by decide)]
    · unfold fX6_add; rw [h1', i1, n_bind, n_let, if_neg (by decide), h0', ml2, n_bind, i2, n_bind, if_neg (by decide), i3, n_bind, if_neg (by decide), i4, n_bind, if_neg (by decide)]
      show o_let _ _ = _
      rw [n_let, if_neg (by decide)]
      show o_bind (fX6_fails 0 1 0) _ = _
      rw [fails_0, n_bind]
      show (if (0 : Int32) = 0 then o_let _ _ else _) = _
      rw [if_pos rfl]
      rw [n_let, k1, if_pos (show Int32.ofNat 24 = 24 from rfl)]; rfl
  have k24 : ¬ (24 : Int32) ≤ Int32.ofNat n := fun h => by
    have := (n_le (a := 24) (by omega) (by omega)).mp h; omega
  have k24' : ¬ Int32.ofNat n = 24 := fun h => by
    have := (n_eq (b := 24) (by omega) (by omega)).mp h; omega
  by_cases k2 : zct (zdfb pr wa) n = 8
  · refine bad 2 _ (Or.inr ⟨rfl, rfl⟩) ?_ ?_
    · unfold fX5_add; rw [if_neg c1, b2, if_neg c2, if_neg c3, b1, ml, n_bind, if_neg c4, if_neg c5, if_neg c6, if_neg c7, if_pos c8', if_neg k24, hc.1, k2, if_neg (by decide)]
    · unfold fX6_add; rw [h1', i1, n_bind, n_let, if_neg (by decide), h0', ml2, n_bind, i2, n_bind, if_neg (by decide), i3, n_bind, if_neg (by decide), i4, n_bind, if_neg (by decide)]
      show o_let _ _ = _
      rw [n_let, if_neg (by decide)]
      show o_bind (fX6_fails 0 1 0) _ = _
      rw [fails_0, n_bind]
      show (if (0 : Int32) = 0 then o_let _ _ else _) = _
      rw [if_pos rfl]
      rw [n_let, if_neg k24', hdif, n_bind, k2, if_pos (show Int32.ofNat 8 = 8 from rfl)]; rfl
  obtain ⟨a, ha, rfl⟩ := n_of c1
  have ha2 : a ≤ n := Nat.le_of_not_lt (fun h => c2 ((n_lt (by omega) ha).mpr h))
  obtain ⟨lw, hlw, rfl⟩ := n_of (x := x2) (fun h => c3 (by
    rw [Int32.lt_iff_toInt_lt] at h ⊢
    have e0 : (0 : Int32).toInt = 0 := rfl
    have e1 : (1 : Int32).toInt = 1 := rfl
    omega))
  have hl1 : 1 ≤ lw := Nat.le_of_not_lt (fun h => c3 ((n_lt (b := 1) hlw (by omega)).mpr h))
  have hl2 : lw ≤ (if H < 9 then H else 9) := Nat.le_of_not_lt (fun h => c4 ((n_lt (by split <;> omega) hlw).mpr h))
  have hl3 : 1 ≤ lw ∧ lw ≤ 9 ∧ lw ≤ H := by split at hl2 <;> omega
  obtain ⟨past', next', kept', hist', depth', r1, r2, r3⟩ := h_remember hv hq
  have hq2 := add_QB hw hb' hm' (by omega) (by omega) ha2 hl3 x3 x4
  obtain ⟨no', pg', l', us', lo', fi', P', K', T', lots', dc', t1, t2⟩ := h_settle hq2 no pg l us lo fi P K T lots dc priced prices
  have hins := c_insert (li := li) (es := es) (se := se) (show n < 24 by omega) b5 b6 b7 ha2 (Int32.ofNat lw) x3 x4
  have hdc : dc < 8 := by
    rw [hc.1]
    exact (n_lt (b := 8) (by omega) (by omega)).mpr (by omega)
  have e1 : vp_nar .boolean (1 : Int32) = 1 := vp_narB true
  have eU : upd (zin w n a 0) a 1 = zin w n a 1 := by
    funext j
    by_cases e : j = a
    · subst e; refine upd_same.trans ?_; unfold zin; rw [if_pos rfl]
    · refine (upd_ne e).trans ?_; unfold zin; rw [if_neg e, if_neg e]
  have h5 : fX5_add (Int32.ofNat a) (Int32.ofNat lw) x3 x4 hh cc rr ac co li es se p w s past next kept no pg l us lo fi P K T lots dc priced = some (.inr (Int32.ofNat (n + 1), Int32.ofNat (n + 1), zin li n a (Int32.ofNat lw), zin es n a x3, zin se n a x4, zin p n a 0, zin w n a 1, zin s n a 0, past', next', kept', no', pg', l', us', lo', fi', P', K', T', lots', dc', 0)) := by
    unfold fX5_add
    rw [if_neg c1, b2, if_neg c2, if_neg c3, b1, ml, n_bind, if_neg c4, if_neg c5, if_neg c6, if_neg c7, if_pos c8', if_neg k24, if_pos hdc, ← b1, ← b2, r1, n_bind]
    show o_bind (fX0_insert (Int32.ofNat a) (Int32.ofNat lw) x3 x4 cc li es se p w s) _ = _
    rw [b2, hins, n_bind]
    show o_rd 24 (Int32.ofNat a) (o_let (upd (zin w n a 0) (Int32.ofNat a).toNatClampNeg (vp_nar .boolean (1 : Int32))) _) = _
    rw [n_rd (by omega) (by omega), n_let, n_cl ha, e1, eU, t1, n_bind]
  have h6 : fX6_add (Int32.ofNat a) (Int32.ofNat lw) x3 x4 th d hist depth = some (Int32.ofNat (n + 1), 0, zad d n a (Int32.ofNat lw) x3 x4, hist', depth') := by
    unfold fX6_add
    rw [h1', i1, n_bind, n_let, if_neg (by decide), h0', ml2, n_bind, i2, n_bind, if_neg (by decide), i3, n_bind, if_neg (by decide), i4, n_bind, if_neg (by decide)]
    show o_let _ _ = _
    rw [n_let, if_neg (by decide)]
    show o_bind (fX6_fails 0 1 0) _ = _
    rw [fails_0, n_bind]
    show (if (0 : Int32) = 0 then o_let _ _ else _) = _
    rw [if_pos rfl]
    rw [n_let, if_neg k24', hdif, n_bind, if_neg (fun h => by
      have := (n_eq (b := 8) (by omega) (by omega)).mp h; omega)]
    show o_bind (fX6_remember d hist depth) _ = _
    rw [r2, n_bind]
    show o_bind (fX6_lotAt (Int32.ofNat n)) _ = _
    rw [e_lotAt, n_bind, n_let, n_let, m_L140 (by omega) ha2]
    have q1 : (if 9 + 6 * a + 6 ≤ 1 ∧ 1 < 9 + 6 * n + 6 then d (1 - 6) else d 1) = Int32.ofNat n := by
      rw [if_neg (by omega)]; exact hm'.2.1
    have ha24 : a < 24 := by omega
    show o_bind (fX6_set (Int32.ofNat a) 0 (Int32.ofNat lw) (upd (fun y => if 9 + 6 * a + 6 ≤ y ∧ y < 9 + 6 * n + 6 then d (y - 6) else d y) 1 ((if 9 + 6 * a + 6 ≤ 1 ∧ 1 < 9 + 6 * n + 6 then d (1 - 6) else d 1) + 1))) _ = _
    rw [q1, e_set0 ha24, n_bind, e_set1 ha24, n_bind, e_set2 ha24, n_bind, e_set3 ha24, n_bind, e_set4 ha24, n_bind, e_set5 ha24, n_bind]
    obtain ⟨H2, n2, m2, ln2, pr2, wa2, sl2, u1, u2, u3⟩ := hq2
    show some (zad d n a (Int32.ofNat lw) x3 x4 1, (0 : Int32), zad d n a (Int32.ofNat lw) x3 x4, hist', depth') = _
    rw [u3.2.1, ← u2.2.1]
  refine ⟨Int32.ofNat (n + 1), _, _, _, _, _, _, past', next', kept', no', pg', l', us', lo', fi', P', K', T', lots', dc', 0, 0, _, hist', depth', vp_updL told (0 : Int32).toNatClampNeg (Int32.ofNat (n + 1)).toInt64, ?_, t2, r3⟩
  unfold fS18 fL_add
  rw [h5, h6]
  simp only [o_hlp, n_bind, if_true, fX6_thrown, g_fin]
