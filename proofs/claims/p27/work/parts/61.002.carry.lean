/-! ===== a choice carried out; lots withdrawn, restored and added ===== -/
theorem vup_same {f : Nat → ZL} {k : Nat} {x : ZL} : va_up f k x k = x := if_pos rfl
theorem vup_ne {f : Nat → ZL} {k j : Nat} {x : ZL} (h : j ≠ k) : va_up f k x j = f j := if_neg h
theorem zbi_or (b : Bool) : zbi b = 0 ∨ zbi b = 1 := by cases b <;> simp [zbi]
section ZCA5
variable {H n m : Nat} {ln : Nat → Nat} {pr wa sl : Nat → Bool} {hh cc rr ac dc : Int32} {co es se bc li p w s lots : Nat → Int32} {v v' : Nat → ZL}
/-- the law carries a choice out -/
theorem l_carries (hn : n ≤ 16) (hw : NW H n m ln pr wa) (h : VV n ln pr wa sl es se v) (hco : ∀ k, k < 5 → bc k = co k) (x : Int32) :
    ∃ v' : Nat → ZL, fX6_carries x (Int32.ofNat H) (Int32.ofNat m) ac bc n v = some (zcost H n m ln pr wa sl co x, ac + zcost H n m ln pr wa sl co x, v') ∧ VV n ln (zprB pr wa x) wa (zslC pr wa sl x) es se v' := by
  obtain ⟨t, t1, t2⟩ := l_choice hn hw h hco x
  obtain ⟨df, hdf⟩ : ∃ df, df = zdfb pr wa := ⟨_, rfl⟩
  have hD := zct_le df n
  have hdi := l_different hn h
  rw [← hdf] at hdi
  have k1 : ∀ j : (Nat → Int32) → Option (Int32 × Int32 × (Nat → ZL)), ∃ a : Nat → Int32, (∀ i, i < n → df i = true → a (zct df i) = Int32.ofNat i) ∧ fX6_carries_L21 (Int32.ofNat (zct df n)) j n v 1024 0 (fun _ => 0) = j a := fun j => by
    have key := n_inv (fun f k (a : Nat → Int32) => fX6_carries_L21 (Int32.ofNat (zct df n)) j n v f (Int32.ofNat k) a) (zct df n) j (fun k a => ∀ i, i < n → df i = true → zct df i < k → a (zct df i) = Int32.ofNat i) (fun f a _ => by simp only [fX6_carries_L21, Int32.le_refl, if_true]) (fun f k a hk ha => by
      obtain ⟨i, i1, i2, i3⟩ := zct_find n hk
      have hix : fX6_indexOf (Int32.ofNat k) n v = some (Int32.ofNat i) := by
        have := l_indexOf hn h i1 (by rw [← hdf]; exact i2)
        rw [← hdf, i3] at this
        exact this
      refine ⟨upd a k (Int32.ofNat i), fun i' hi' hd' hk' => ?_, ?_⟩
      · by_cases e : zct df i' = k
        · rw [e, upd_same]
          have : i' = i := by
            rcases Nat.lt_trichotomy i' i with q | q | q
            · have := zct_lt_of q hd'; omega
            · exact q
            · have := zct_lt_of q i2; omega
          rw [this]
        · rw [upd_ne e]; exact ha i' hi' hd' (by omega)
      · simp (disch := omega) only [fX6_carries_L21, n_le, n_rd, n_cl, n_bind, n_let, n_s, hix, show ¬ zct df n ≤ k from by omega, if_false]) (zct df n) 0 1024 (fun _ => 0) (by omega) (by omega) (fun i _ _ hi => absurd hi (Nat.not_lt_zero _))
    obtain ⟨a, a1, a2⟩ := key
    exact ⟨a, fun i hi hd => a1 i hi hd (zct_lt_of hi hd), a2⟩
  obtain ⟨y, hy⟩ : ∃ y, y = zcost H n m ln pr wa sl co x := ⟨_, rfl⟩
  obtain ⟨a, a1, a2⟩ := k1 (fun (a9 : Nat → Int32) => o_let (fun (a11 : Nat → ZL) => o_let (ac + y) (fun x13 => some (y, x13, a11))) (fun (j101_12 : (Nat → ZL) → Option (Int32 × Int32 × (Nat → ZL))) => (fX6_carries_L47 (Int32.ofNat (zct df n)) j101_12 n a9 x 1024 (0 : Int32) v)))
  have key := n_inv (fun f k (u : Nat → ZL) => fX6_carries_L47 (Int32.ofNat (zct df n)) (fun (a11 : Nat → ZL) => o_let (ac + y) (fun x13 => some (y, x13, a11))) n a x f (Int32.ofNat k) u) (zct df n) (fun a11 => some (y, ac + y, a11))
    (fun k u => ∀ i, i < n → u i = (Int32.ofNat (ln i), es i, se i, zbi (if df i = true ∧ zct df i < k then zprB pr wa x i else pr i), zbi (wa i), zbi (if df i = true ∧ zct df i < k then zslC pr wa sl x i else sl i)))
    (fun f u _ => by
      simp only [fX6_carries_L47, Int32.le_refl, if_true]
      rfl) (fun f k u hk hu => by
      obtain ⟨i, i1, i2, i3⟩ := zct_find n hk
      have hai : a k = Int32.ofNat i := by rw [← i3]; exact a1 i i1 i2
      have hui := hu i i1
      rw [if_neg (by omega), if_neg (by omega)] at hui
      have i2' : zdfb pr wa i = true := by rw [← hdf]; exact i2
      have i3' : zct (zdfb pr wa) i = k := by rw [← hdf]; exact i3
      have oth : ∀ i', i' ≠ i → i' < n → ((df i' = true ∧ zct df i' < k + 1) ↔ (df i' = true ∧ zct df i' < k)) := fun i' hne hi' => by
        constructor
        · rintro ⟨q1, q2⟩
          refine ⟨q1, ?_⟩
          rcases Nat.lt_trichotomy i' i with q | q | q
          · have := zct_lt_of q q1; omega
          · exact absurd q hne
          · have := zct_lt_of q i2; omega
        · rintro ⟨q1, q2⟩; exact ⟨q1, by omega⟩
      by_cases hz : ((x >>> (Int32.ofNat k &&& 31)) &&& 1 = 1)
      · have hb : zbit x k = true := decide_eq_true hz
        have e1 : zprB pr wa x i = wa i := by
          unfold zprB zcho
          rw [i2', i3', hb]; rfl
        have e2 : zslC pr wa sl x i = false := by
          unfold zslC
          rw [if_pos i2', i3', hb]; rfl
        refine ⟨va_up (va_up u i (Int32.ofNat (ln i), es i, se i, zbi (wa i), zbi (wa i), zbi (sl i))) i (Int32.ofNat (ln i), es i, se i, zbi (wa i), zbi (wa i), 0), fun i' hi' => ?_, ?_⟩
        · by_cases e : i' = i
          · subst e
            rw [vup_same, if_pos ⟨i2, by omega⟩, if_pos ⟨i2, by omega⟩, e1, e2]
            rfl
          · rw [vup_ne e, vup_ne e, hu i' hi']
            simp only [oth i' e hi']
        · have e3 : ∀ w : ZL, w.2.2.2.1 = w.2.2.2.2.1 → fX7_differs w = some 0 := fun w hw => by unfold fX7_differs; rw [if_pos hw]
          have e4 := e3 (Int32.ofNat (ln i), es i, se i, zbi (wa i), zbi (wa i), zbi (sl i)) rfl
          have ob : ((0 : Int32) = 0 ∨ (0 : Int32) = 1) := Or.inl rfl
          simp (disch := omega) only [fX6_carries_L47, n_le, n_rd, n_cl, n_bind, n_let, n_s, hai, hz, hui, if_true, if_false, show ¬ zct df n ≤ k from by omega]
          rw [n_as (zbi_or (wa i))]
          simp (disch := omega) only [vup_same, e4, n_bind, n_as ob]
          exact n_as (Or.inl trivial)
      · have hb : zbit x k = false := decide_eq_false hz
        have e1 : zprB pr wa x i = pr i := by
          unfold zprB zcho
          rw [i2', i3', hb]; rfl
        have e2 : zslC pr wa sl x i = true := by
          unfold zslC
          rw [if_pos i2', i3', hb]; rfl
        have e4 : fX7_differs (Int32.ofNat (ln i), es i, se i, zbi (pr i), zbi (wa i), zbi (sl i)) = some 1 := by
          have := l_differs h i1
          rw [h i i1, i2'] at this
          exact this
        have ob : ((1 : Int32) = 0 ∨ (1 : Int32) = 1) := Or.inr rfl
        refine ⟨va_up u i (Int32.ofNat (ln i), es i, se i, zbi (pr i), zbi (wa i), 1), fun i' hi' => ?_, ?_⟩
        · by_cases e : i' = i
          · subst e
            rw [vup_same, if_pos ⟨i2, by omega⟩, if_pos ⟨i2, by omega⟩, e1, e2]
            rfl
          · rw [vup_ne e, hu i' hi']
            simp only [oth i' e hi']
        · simp (disch := omega) only [fX6_carries_L47, n_le, n_rd, n_cl, n_bind, n_let, n_s, hai, hz, hui, e4, n_as ob, if_false, show ¬ zct df n ≤ k from by omega]
          exact n_as (Or.inr trivial))
    (zct df n) 0 1024 v (by omega) (by omega) (fun i hi => by
      rw [if_neg (fun q => absurd q.2 (Nat.not_lt_zero _)), if_neg (fun q => absurd q.2 (Nat.not_lt_zero _))]
      exact h i hi)
  obtain ⟨u, u1, u2⟩ := key
  refine ⟨u, ?_, fun i hi => ?_⟩
  · unfold fX6_carries
    rw [t1, n_bind, n_let, hdi, n_bind, n_as ⟨n_lt0 (by omega), by rw [n_cl (by omega)]; omega⟩, show t (0 : Int32).toNatClampNeg = y from (t2 0 (by omega)).trans hy.symm, n_let, a2, n_let, ← hy]
    exact u2
  · rw [u1 i hi]
    cases hz : df i
    · have hz' : zdfb pr wa i = false := by rw [← hdf]; exact hz
      have e1 : zprB pr wa x i = pr i := by unfold zprB zcho; rw [hz']; rfl
      have e2 : zslC pr wa sl x i = sl i := by unfold zslC; rw [if_neg (by rw [hz']; simp)]
      rw [if_neg (by simp), if_neg (by simp), e1, e2]
    · rw [if_pos ⟨rfl, zct_lt_of hi hz⟩, if_pos ⟨rfl, zct_lt_of hi hz⟩]
theorem carry_QB (hw : NW H n m ln pr wa) (hl : NL n pr wa) (hb : BV H n m ln pr wa sl hh cc rr li p w s) (hco : ∀ k, k < 5 → bc k = co k) (x : Int32) {p' s' : Nat → Int32} (hp : ∀ i, i < 24 → p' i = zbi (if i < n then zprB pr wa x i else pr i)) (hs : ∀ i, i < 24 → s' i = zbi (if i < n then zslC pr wa sl x i else sl i)) (hv : VV n ln (zprB pr wa x) wa (zslC pr wa sl x) es se v') (a : Int32) :
    QB (hh, cc, rr, a, co, li, es, se, p', w, s') (Int32.ofNat H, Int32.ofNat m, a, bc, n, v') := by
  obtain ⟨w1, w2, w3, w4, w5, w6, w7⟩ := hw
  obtain ⟨b1, b2, b3, b4, b5, b6, b7⟩ := hb
  have hz : zct (zdfb (fun i => if i < n then zprB pr wa x i else pr i) wa) n ≤ zct (zdfb pr wa) n := zct_sub n (fun i hi h => by
    unfold zdfb at h ⊢
    simp only [if_pos hi] at h
    unfold zprB zcho at h
    cases hz : zdfb pr wa i
    · rw [hz] at h
      simp only [Bool.false_and, Bool.false_eq_true, if_false] at h
      exact h
    · exact hz)
  refine ⟨H, n, m, ln, (fun i => if i < n then zprB pr wa x i else pr i), wa, (fun i => if i < n then zslC pr wa sl x i else sl i), ⟨w1, w2, w3, w4, w5, w6, by omega⟩, ⟨hl.1, by have := hl.2; omega⟩, ⟨b1, b2, b3, b4, hp, b6, hs⟩, ⟨rfl, rfl, rfl, hco, rfl, fun i hi => ?_⟩⟩
  simp only [if_pos hi]
  exact hv i hi
end ZCA5
section ZCB5
variable {H n m : Nat} {ln : Nat → Nat} {pr wa sl : Nat → Bool} {hh cc rr ac dc priced P K T next kept : Int32} {co li es se p w s lots prices no pg l us lo fi : Nat → Int32} {past : Nat → TB} {old : Nat → ZB} {B : ZB} {r : Nat}
/-- both carry the same choice out -/
theorem h_carry (x : Int32) (hw : NW H n m ln pr wa) (hnl : NL n pr wa) (hb : BV H n m ln pr wa sl hh cc rr li p w s) (hm : LV H n m ln pr wa sl ac co es se B) (hy : YOK H ln pr n (no, pg, l, us, lo, fi, P, K, T)) (hc : CV n pr wa lots dc) (hv : HV past next kept old r) (fg vno vpg vl vus vlo vfi : Nat → Int32) (vP vK vT : Int32) (pb ch : Nat → Int32) (z : Int32) (prices' : Nat → Int32) :
    ∃ ac' p' s' past' next' kept' no' pg' l' us' lo' fi' P' K' T' lots' fg' dc' v1 v2 v3 v4 v5 v6 v7 v8 v9 pb' ch' V', fX5_carryOut x hh cc rr ac co li es se p w s past next kept no pg l us lo fi P K T lots fg dc vno vpg vl vus vlo vfi vP vK vT pb ch z = some (zcost H n m ln pr wa sl co x, ac', p', s', past', next', kept', no', pg', l', us', lo', fi', P', K', T', lots', fg', dc', v1, v2, v3, v4, v5, v6, v7, v8, v9, pb', ch', 0) ∧ fX6_carries x B.1 B.2.1 B.2.2.1 B.2.2.2.1 B.2.2.2.2.1 B.2.2.2.2.2 = some (zcost H n m ln pr wa sl co x, ac', V') ∧ SV (hh, cc, rr, ac', co, li, es, se, p', w, s') (B.1, B.2.1, ac', B.2.2.2.1, B.2.2.2.2.1, V') (no', pg', l', us', lo', fi', P', K', T') lots' dc' prices' 0 ∧ HV past' next' kept' (zcons B old) (if 8 < r + 1 then 8 else r + 1) ∧ ∀ q, q < 8 → kept = Int32.ofNat q → kept' = Int32.ofNat (q + 1) := by
  have hq : QB (hh, cc, rr, ac, co, li, es, se, p, w, s) B := ⟨H, n, m, ln, pr, wa, sl, hw, hnl, hb, hm⟩
  obtain ⟨m1, m2, m3, m4, m5, m6⟩ := id hm
  have hn : n ≤ 16 := by have := hnl.1; omega
  obtain ⟨past', next', kept', r1, r3, r4⟩ := h_remember hv hq
  obtain ⟨f1, v1, v2, v3, v4, v5, v6, v7, v8, v9, pb', ch', h1, h2⟩ := c_measure (co := co) hw hb hc hy x fg vno vpg vl vus vlo vfi vP vK vT pb ch
  obtain ⟨V', e1, e2⟩ := l_carries (ac := ac) hn hw m6 m4 x
  obtain ⟨g1, g2⟩ := zg39_end hw hb hc x
  have hq2 := carry_QB hw hnl hb m4 x g1 g2 e2 (ac + zcost H n m ln pr wa sl co x)
  obtain ⟨no', pg', l', us', lo', fi', P', K', T', lots', dc', t1, t2⟩ := h_settle hq2 no pg l us lo fi P K T lots dc z prices'
  refine ⟨ac + zcost H n m ln pr wa sl co x, (zfold (zg39 lots w x) 0 (zct (zdfb pr wa) n) (p, s)).1, (zfold (zg39 lots w x) 0 (zct (zdfb pr wa) n) (p, s)).2, past', next', kept', no', pg', l', us', lo', fi', P', K', T', lots', f1, dc', v1, v2, v3, v4, v5, v6, v7, v8, v9, pb', ch', V', ?_, ?_, ?_, r3, r4⟩
  · unfold fX5_carryOut
    rw [h1, n_bind]
    show o_let (f1 (0 : Int32).toNatClampNeg) _ = _
    rw [n_let, show f1 (0 : Int32).toNatClampNeg = zcost H n m ln pr wa sl co x from h2 0 (by omega), r1, n_bind]
    show o_let _ _ = _
    rw [n_let, c_L39 hw hc x, n_let, t1, n_bind]
  · rw [m1, m2, m3, m5]
    exact e1
  · rw [m1, m2, m5]
    exact t2
theorem h_carryOk {k : Nat} (hw : NW H n m ln pr wa) (hnl : NL n pr wa) (hb : BV H n m ln pr wa sl hh cc rr li p w s) (hm : LV H n m ln pr wa sl ac co es se B) (hy : YOK H ln pr n (no, pg, l, us, lo, fi, P, K, T)) (hc : CV n pr wa lots dc) (hv : HV past next kept old r) (hk : k < 2 ^ zct (zdfb pr wa) n) (fg vno vpg vl vus vlo vfi : Nat → Int32) (vP vK vT : Int32) (pb ch : Nat → Int32) (z : Int32) (prices' : Nat → Int32) :
    ∃ ac' p' s' past' next' kept' no' pg' l' us' lo' fi' P' K' T' lots' fg' dc' v1 v2 v3 v4 v5 v6 v7 v8 v9 pb' ch' V', fL_carry (Int32.ofNat k) hh cc rr ac co li es se p w s past next kept no pg l us lo fi P K T lots fg dc vno vpg vl vus vlo vfi vP vK vT pb ch z = some (zcost H n m ln pr wa sl co (Int32.ofNat k), ac', p', s', past', next', kept', no', pg', l', us', lo', fi', P', K', T', lots', fg', dc', v1, v2, v3, v4, v5, v6, v7, v8, v9, pb', ch', 0) ∧ fX6_carries (Int32.ofNat k) B.1 B.2.1 B.2.2.1 B.2.2.2.1 B.2.2.2.2.1 B.2.2.2.2.2 = some (zcost H n m ln pr wa sl co (Int32.ofNat k), ac', V') ∧ SV (hh, cc, rr, ac', co, li, es, se, p', w, s') (B.1, B.2.1, ac', B.2.2.2.1, B.2.2.2.2.1, V') (no', pg', l', us', lo', fi', P', K', T') lots' dc' prices' 0 ∧ HV past' next' kept' (zcons B old) (if 8 < r + 1 then 8 else r + 1) ∧ ∀ q, q < 8 → kept = Int32.ofNat q → kept' = Int32.ofNat (q + 1) := by
  obtain ⟨ac', p', s', past', next', kept', no', pg', l', us', lo', fi', P', K', T', lots', fg', dc', v1, v2, v3, v4, v5, v6, v7, v8, v9, pb', ch', V', e1, e2, e3, e4, e5⟩ := h_carry (Int32.ofNat k) hw hnl hb hm hy hc hv fg vno vpg vl vus vlo vfi vP vK vT pb ch z prices'
  refine ⟨ac', p', s', past', next', kept', no', pg', l', us', lo', fi', P', K', T', lots', fg', dc', v1, v2, v3, v4, v5, v6, v7, v8, v9, pb', ch', V', ?_, e2, e3, e4, e5⟩
  have e : fX5_carry (Int32.ofNat k) hh cc rr ac co li es se p w s past next kept no pg l us lo fi P K T lots fg dc vno vpg vl vus vlo vfi vP vK vT pb ch z = some (.inr (zcost H n m ln pr wa sl co (Int32.ofNat k), ac', p', s', past', next', kept', no', pg', l', us', lo', fi', P', K', T', lots', fg', dc', v1, v2, v3, v4, v5, v6, v7, v8, v9, pb', ch', 0)) := by
    unfold fX5_carry
    rw [c_needChoice_t hw.2.2.2.2.2.2 hc hk, o_tryR, e1, n_bind]
  unfold fL_carry
  rw [e]
  rfl
theorem h_press (hw : NW H n m ln pr wa) (hnl : NL n pr wa) (hb : BV H n m ln pr wa sl hh cc rr li p w s) (hm : LV H n m ln pr wa sl ac co es se B) (hy : YOK H ln pr n (no, pg, l, us, lo, fi, P, K, T)) (hc : CV n pr wa lots dc) (hp : PV H n m ln pr wa sl co prices priced) (hv : HV past next kept old r) (fg vno vpg vl vus vlo vfi : Nat → Int32) (vP vK vT : Int32) (pb ch : Nat → Int32) :
    ∃ k ac' p' s' past' next' kept' no' pg' l' us' lo' fi' P' K' T' lots' fg' dc' v1 v2 v3 v4 v5 v6 v7 v8 v9 pb' ch' o V', fX5_press hh cc rr ac co li es se p w s past next kept no pg l us lo fi P K T lots fg dc vno vpg vl vus vlo vfi vP vK vT pb ch prices priced = some (zcost H n m ln pr wa sl co (Int32.ofNat k), ac', p', s', past', next', kept', no', pg', l', us', lo', fi', P', K', T', lots', fg', dc', v1, v2, v3, v4, v5, v6, v7, v8, v9, pb', ch', o, 0) ∧ fX6_best 0 (-1) B.1 B.2.1 B.2.2.2.1 B.2.2.2.2.1 B.2.2.2.2.2 = some (Int32.ofNat k) ∧ fX6_carries (Int32.ofNat k) B.1 B.2.1 B.2.2.1 B.2.2.2.1 B.2.2.2.2.1 B.2.2.2.2.2 = some (zcost H n m ln pr wa sl co (Int32.ofNat k), ac', V') ∧ SV (hh, cc, rr, ac', co, li, es, se, p', w, s') (B.1, B.2.1, ac', B.2.2.2.1, B.2.2.2.2.1, V') (no', pg', l', us', lo', fi', P', K', T') lots' dc' o 0 ∧ HV past' next' kept' (zcons B old) (if 8 < r + 1 then 8 else r + 1) ∧ ∀ q, q < 8 → kept = Int32.ofNat q → kept' = Int32.ofNat (q + 1) := by
  obtain ⟨m1, m2, m3, m4, m5, m6⟩ := id hm
  have hn : n ≤ 16 := by have := hnl.1; omega
  obtain ⟨v1, v2, v3, v4, v5, v6, v7, v8, v9, v10, v11, v12, o, z, h1, h2⟩ := c_cheapest (co := co) hw hb hc hy 0 0 fg vno vpg vl vus vlo vfi vP vK vT pb ch prices priced hp
  have ebst : zbst (fun c => decide (Int32.ofNat c &&& 0 = 0)) (fun c => zcost H n m ln pr wa sl co (Int32.ofNat c)) (2 ^ zct (zdfb pr wa) n) = zbest H n m ln pr wa sl co := zbst_congr _ (fun c _ => by simp)
  obtain ⟨k, hk, hlt⟩ := zbest_some (H := H) (n := n) (m := m) (ln := ln) (pr := pr) (wa := wa) (sl := sl) (co := co)
  have hk' : zbst (fun _ => true) (fun c => zcost H n m ln pr wa sl co (Int32.ofNat c)) (2 ^ zct (zdfb pr wa) n) = some k := hk
  rw [ebst, hk] at h1
  have hl := l_best hn hw hnl.2 m6 m4
  rw [hk'] at hl
  obtain ⟨ac', p', s', past', next', kept', no', pg', l', us', lo', fi', P', K', T', lots', fg', dc', u1, u2, u3, u4, u5, u6, u7, u8, u9, pb', ch', V', e1, e2, e3, e4, e5⟩ := h_carry (Int32.ofNat k) hw hnl hb hm hy hc hv v1 v2 v3 v4 v5 v6 v7 v8 v9 v10 v11 v12 z o
  refine ⟨k, ac', p', s', past', next', kept', no', pg', l', us', lo', fi', P', K', T', lots', fg', dc', u1, u2, u3, u4, u5, u6, u7, u8, u9, pb', ch', o, V', ?_, ?_, e2, e3, e4, e5⟩
  · unfold fX5_press fX5_best
    rw [h1, n_bind]
    show o_bind (some _) _ = _
    rw [n_bind]
    show o_bind (fX5_carryOut (Int32.ofNat k) hh cc rr ac co li es se p w s past next kept no pg l us lo fi P K T lots v1 dc v2 v3 v4 v5 v6 v7 v8 v9 v10 v11 v12 z) _ = _
    rw [e1, n_bind]
  · rw [m1, m2, m5]
    exact hl
/-- no lots: nothing costs anything -/
theorem zcost0 (hw : NW H 0 m ln pr wa) (x : Int32) : zcost H 0 m ln pr wa sl co x = 0 := by
  have h1 := hw.2.2.2.1
  have h2 := hw.2.2.2.2.1
  have e : zsl 0 m pr wa sl x = 0 := by
    show (Int32.ofNat 0 + Int32.ofNat m - 1) / Int32.ofNat m = 0
    rw [← Int32.ofNat_add, show 0 + m = (m - 1) + 1 by omega, n_p, n_div (by omega) (by omega), Nat.div_eq_of_lt (by omega)]
    rfl
  unfold zcost
  rw [e]
  show ((((0 * co 0 + 0 * co 1) + 0 * co 2) + 0 * co 3) + Int32.ofNat 0 * co 4) = (0 : Int32)
  rw [show Int32.ofNat 0 = (0 : Int32) from rfl]
  simp only [Int32.zero_mul, Int32.add_zero]
end ZCB5
