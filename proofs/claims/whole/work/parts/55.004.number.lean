section ZQ4
variable {H n m : Nat} {ln : Nat → Nat} {pr wa sl : Nat → Bool} {hh cc rr ac dc : Int32} {co es se d li p w s lots : Nat → Int32} {no pg l us lo fi : Nat → Int32} {P K T : Int32}
theorem s_7 (x th : Int32) (hw : NW H n m ln pr wa) (hb : BV H n m ln pr wa sl hh cc rr li p w s) (hm : MV H n m ln pr wa sl ac co es se d) (hy : YOK H ln pr n (no, pg, l, us, lo, fi, P, K, T)) (a b c e : Nat → Int32) (f : Int32) (told : Nat → Int64) :
    ∃ th' a' b' c' e' f' t', fS7 x cc no th d a b c e f told = some (th', a', b', c', e', f', t') := by
  have hn := hw.2.2.1
  have hcc : cc = Int32.ofNat n := hb.2.1
  have h1' : d (1 : Int32).toNatClampNeg = Int32.ofNat n := hm.2.1
  obtain ⟨a', b', c', e', f', l1, l2⟩ := m_lay hw hm a b c e f
  have hno : ∀ i, i < n → no i = zNo_ H ln pr i := fun i hi => (hy.1 i hi).1
  have hno' : ∀ i, i < n → a' i = zNo_ H ln pr i := fun i hi => (l2.1 i hi).1
  have e0 : ∀ r, fX6_numbered_L11 d (o_bind (fX6_fails 1 1 0) (fun (x8, x9) => some ((0 : Int32), x9, a', b', c', e', f'))) x a' b' c' e' f' 1024 0 = r → fX6_numbered x th d a b c e f = r := fun r h => by
    unfold fX6_numbered
    rw [l1, n_bind]
    exact h
  subst hcc
  by_cases hx : x < 1
  · have hx0 : x ≤ 0 := by
      rw [Int32.lt_iff_toInt_lt] at hx
      rw [Int32.le_iff_toInt_le]
      have h00 : (0 : Int32).toInt = 0 := rfl
      have h11 : (1 : Int32).toInt = 1 := rfl
      omega
    have h6 : fX6_numbered x th d a b c e f = some (0, 1, a', b', c', e', f') := e0 _ (by
      refine n_walk (fun f k => fX6_numbered_L11 d _ x a' b' c' e' f' f (Int32.ofNat k)) n _ (fun f => ?_) (fun f k hk => ?_) 1024 (by omega)
      · simp only [fX6_numbered_L11, h1', Int32.le_refl, if_true]
        rfl
      · simp (disch := omega) only [fX6_numbered_L11, h1', n_le, n_let, n_s, hx0, show ¬ n ≤ k from by omega, if_true, if_false])
    refine ⟨1, a', b', c', e', f', told, ?_⟩
    unfold fS7 fL_numbered fX5_numbered
    rw [h6, if_pos hx]
    rfl
  · have hx0 : ¬ x ≤ 0 := by
      rw [Int32.lt_iff_toInt_lt] at hx
      rw [Int32.le_iff_toInt_le]
      have h00 : (0 : Int32).toInt = 0 := rfl
      have h11 : (1 : Int32).toInt = 1 := rfl
      omega
    have st5 : ∀ f k, k < n → ¬ zNo_ H ln pr k = x → fX5_numbered_L7 (Int32.ofNat n) no x (f + 1) (Int32.ofNat k) = fX5_numbered_L7 (Int32.ofNat n) no x f (Int32.ofNat (k + 1)) := fun f k hk h => by
      simp (disch := omega) only [fX5_numbered_L7, n_le, n_rd, n_cl, n_let, n_s, hno k hk, h, show ¬ n ≤ k from by omega, if_false]
    have st6 : ∀ j f k, k < n → ¬ zNo_ H ln pr k = x → fX6_numbered_L11 d j x a' b' c' e' f' (f + 1) (Int32.ofNat k) = fX6_numbered_L11 d j x a' b' c' e' f' f (Int32.ofNat (k + 1)) := fun j f k hk h => by
      simp (disch := omega) only [fX6_numbered_L11, h1', n_le, n_rd, n_cl, n_let, n_s, hno' k hk, h, hx0, show ¬ n ≤ k from by omega, if_false]
    rcases n_first (fun i => zNo_ H ln pr i = x) n with ⟨i, i1, i2, i3⟩ | hno2
    · have h5 : fX5_numbered x (Int32.ofNat n) no = some (.inr (Int32.ofNat i)) := by
        unfold fX5_numbered
        rw [if_neg hx]
        refine n_walk (fun f k => fX5_numbered_L7 (Int32.ofNat n) no x f (Int32.ofNat k)) i _ (fun f => ?_) (fun f k hk => st5 f k (by omega) (i3 k hk)) 1024 (by omega)
        simp (disch := omega) only [fX5_numbered_L7, n_le, n_rd, n_cl, hno i i1, i2, show ¬ n ≤ i from by omega, if_true, if_false]
      have h6 : fX6_numbered x th d a b c e f = some (Int32.ofNat i, 0, a', b', c', e', f') := e0 _ (by
        refine n_walk (fun f k => fX6_numbered_L11 d _ x a' b' c' e' f' f (Int32.ofNat k)) i _ (fun f => ?_) (fun f k hk => st6 _ f k (by omega) (i3 k hk)) 1024 (by omega)
        simp (disch := omega) only [fX6_numbered_L11, h1', n_le, n_rd, n_cl, hno' i i1, i2, hx0, show ¬ n ≤ i from by omega, if_true, if_false])
      refine ⟨0, a', b', c', e', f', vp_updL told (0 : Int32).toNatClampNeg (Int32.ofNat i).toInt64, ?_⟩
      unfold fS7 fL_numbered
      rw [h5, h6]
      simp only [o_hlp, n_bind, if_true, fX6_thrown, g_fin]
    · have h5 : fX5_numbered x (Int32.ofNat n) no = some (.inl "java/util/NoSuchElementException") := by
        unfold fX5_numbered
        rw [if_neg hx]
        refine n_walk (fun f k => fX5_numbered_L7 (Int32.ofNat n) no x f (Int32.ofNat k)) n _ (fun f => ?_) (fun f k hk => st5 f k hk (hno2 k hk)) 1024 (by omega)
        simp only [fX5_numbered_L7, Int32.le_refl, if_true]
      have h6 : fX6_numbered x th d a b c e f = some (0, 1, a', b', c', e', f') := e0 _ (by
        refine n_walk (fun f k => fX6_numbered_L11 d _ x a' b' c' e' f' f (Int32.ofNat k)) n _ (fun f => ?_) (fun f k hk => st6 _ f k hk (hno2 k hk)) 1024 (by omega)
        simp only [fX6_numbered_L11, h1', Int32.le_refl, if_true]
        rfl)
      refine ⟨1, a', b', c', e', f', told, ?_⟩
      unfold fS7 fL_numbered
      rw [h5, h6]
      rfl
theorem s_8 (x th : Int32) (hw : NW H n m ln pr wa) (hm : MV H n m ln pr wa sl ac co es se d) (hc : CV n pr wa lots dc) (told : Nat → Int64) :
    ∃ th' t', fS8 x lots dc th d told = some (th', t') := by
  have hn := hw.2.2.1
  have hD := hw.2.2.2.2.2.2
  have hdif := m_different hn hm
  obtain ⟨c1, c2⟩ := hc
  rcases n_range (show zct (zdfb pr wa) n < 2147483648 by omega) x with hx | ⟨j, hj, rfl⟩
  · have h5 : fX5_different x lots dc = some (.inl "java/util/NoSuchElementException") := by
      unfold fX5_different
      by_cases h1 : x < 0
      · rw [if_pos h1]
      · rw [if_neg h1, c1, if_neg (n_out (by omega) hx h1)]
    have h6 : fX6_different_ x th d = some (0, 1) := by
      unfold fX6_different_
      rw [hdif, n_bind, inN_f (by omega) hx, n_bind]
      rfl
    refine ⟨1, told, ?_⟩
    unfold fS8 fL_different
    rw [h5, h6]
    rfl
  · obtain ⟨i, i1, i2, i3⟩ := zct_find n hj
    have hl := c2 i i1 i2
    rw [i3] at hl
    have h5 : fX5_different (Int32.ofNat j) lots dc = some (.inr (Int32.ofNat i)) := by
      unfold fX5_different
      rw [if_neg (n_lt0 (by omega)), c1, if_pos (n_nge (by omega) hj), n_rd (by omega) (by omega), n_cl (by omega), hl]
    have h6 : fX6_different_ (Int32.ofNat j) th d = some (Int32.ofNat i, 0) := by
      unfold fX6_different_
      rw [hdif, n_bind, inN_t (by omega) hj, n_bind, n_let, if_neg (by decide)]
      show fX6_different__L39 d (Int32.ofNat j) 0 1024 0 = _
      refine n_walk (fun f k => fX6_different__L39 d (Int32.ofNat j) 0 f (Int32.ofNat k)) i _ (fun f => ?_) (fun f k hk => ?_) 1024 (by omega)
      · have e1 := m_differs hn hm i1
        rw [i2] at e1
        simp (disch := omega) only [fX6_different__L39, e1, zbT, n10, n_bind, m_placeOf hn hm i1, i3, if_true, if_false]
      · have e1 := m_differs hn hm (show k < n by omega)
        cases hz : zdfb pr wa k
        · rw [hz] at e1
          simp (disch := omega) only [fX6_different__L39, e1, zbF, n_bind, n_let, n_s, if_true]
        · rw [hz] at e1
          have h7 := zct_lt_of hk hz
          have h8 := zct_le (zdfb pr wa) k
          have h9 : ¬ zct (zdfb pr wa) k = j := by omega
          simp (disch := omega) only [fX6_different__L39, e1, zbT, n10, n_bind, n_let, n_s, m_placeOf hn hm (show k < n by omega), n_eq, h9, if_false]
    refine ⟨0, vp_updL told (0 : Int32).toNatClampNeg (Int32.ofNat i).toInt64, ?_⟩
    unfold fS8 fL_different
    rw [h5, h6]
    simp only [o_hlp, n_bind, if_true, fX6_thrown, g_fin]
theorem zbst_best : zbst (fun c => decide (Int32.ofNat c &&& 0 = 0)) (fun c => zcost H n m ln pr wa sl co (Int32.ofNat c)) (2 ^ zct (zdfb pr wa) n) = zbst (fun c => decide (Int32.ofNat c &&& (0 : Int32) = 0) && decide (Int32.ofNat c &&& (0 : Int32) = 0)) (fun c => zcost H n m ln pr wa sl co (Int32.ofNat c)) (2 ^ zct (zdfb pr wa) n) := zbst_congr _ (fun c _ => by simp)
theorem s_9 (th : Int32) (hw : NW H n m ln pr wa) (hb : BV H n m ln pr wa sl hh cc rr li p w s) (hm : MV H n m ln pr wa sl ac co es se d) (hy : YOK H ln pr n (no, pg, l, us, lo, fi, P, K, T)) (hc : CV n pr wa lots dc) (fg vno vpg vl vus vlo vfi : Nat → Int32) (vP vK vT : Int32) (pb ch prices : Nat → Int32) (priced : Int32) (hp : PV H n m ln pr wa sl co prices priced) (a b c e : Nat → Int32) (f : Int32) (be to wp : Nat → Int32) :
    ∃ v1 v2 v3 v4 v5 v6 v7 v8 v9 v10 v11 v12 o z th' a' b' c' e' f' be' to' wp', fS9 hh cc rr co li p w s no pg l us P lots fg dc vno vpg vl vus vlo vfi vP vK vT pb ch prices priced th d a b c e f be to wp = some (v1, v2, v3, v4, v5, v6, v7, v8, v9, v10, v11, v12, o, z, th', d, a', b', c', e', f', be', to', wp') ∧ PV H n m ln pr wa sl co o z := by
  obtain ⟨v1, v2, v3, v4, v5, v6, v7, v8, v9, v10, v11, v12, o, z, h1, h2⟩ := c_cheapest hw hb hc hy 0 0 fg vno vpg vl vus vlo vfi vP vK vT pb ch prices priced hp
  obtain ⟨a', b', c', e', f', be', to', wp', h3⟩ := m_bestOf hw hm 0 0 a b c e f be to wp
  refine ⟨v1, v2, v3, v4, v5, v6, v7, v8, v9, v10, v11, v12, o, z, 0, a', b', c', e', f', be', to', wp', ?_, Or.inr h2⟩
  unfold fS9 fX5_best fX6_best
  rw [h1, h3, zbst_best]
  simp only [n_bind, if_true]
theorem m_noChoice_t (hn : n ≤ 24) (hD : zct (zdfb pr wa) n ≤ 8) (h : MV H n m ln pr wa sl ac co es se d) {k : Nat} (hk : k < 2 ^ zct (zdfb pr wa) n) : fX6_noChoice (Int32.ofNat k) 0 d = some (0, 0) := by
  have pw := (n_pow2 hD).1
  unfold fX6_noChoice
  rw [m_different hn h, n_bind, n_pow hD, inN_t (by omega) hk, n_bind, n_let, if_neg (by decide)]
  rfl
theorem m_noChoice_f (hn : n ≤ 24) (hD : zct (zdfb pr wa) n ≤ 8) (h : MV H n m ln pr wa sl ac co es se d) {x : Int32} (hx : x < 0 ∨ Int32.ofNat (2 ^ zct (zdfb pr wa) n) ≤ x) : fX6_noChoice x 0 d = some (1, 1) := by
  have pw := (n_pow2 hD).1
  unfold fX6_noChoice
  rw [m_different hn h, n_bind, n_pow hD, inN_f (by omega) hx, n_bind, n_let, if_pos rfl]
  rfl
theorem c_needChoice_t (hD : zct (zdfb pr wa) n ≤ 8) (hc : CV n pr wa lots dc) {k : Nat} (hk : k < 2 ^ zct (zdfb pr wa) n) : fX5_needChoice (Int32.ofNat k) dc = some (.inr ()) := by
  have pw := (n_pow2 hD).1
  unfold fX5_needChoice fX1_has
  rw [if_neg (n_lt0 (by omega)), hc.1, n_pow hD, if_neg (fun h => by
    have := (n_le (by omega) (by omega)).mp h
    omega), n_bind, if_neg (by decide)]
theorem c_needChoice_f (hD : zct (zdfb pr wa) n ≤ 8) (hc : CV n pr wa lots dc) {x : Int32} (hx : x < 0 ∨ Int32.ofNat (2 ^ zct (zdfb pr wa) n) ≤ x) : fX5_needChoice x dc = some (.inl "java/lang/IllegalArgumentException") := by
  unfold fX5_needChoice fX1_has
  by_cases h1 : x < 0
  · rw [if_pos h1, n_bind, if_pos rfl]
  · rw [if_neg h1, hc.1, n_pow hD, if_pos (hx.resolve_left h1), n_bind, if_pos rfl]
theorem s_10 (x x2 th : Int32) (hw : NW H n m ln pr wa) (hb : BV H n m ln pr wa sl hh cc rr li p w s) (hm : MV H n m ln pr wa sl ac co es se d) (hy : YOK H ln pr n (no, pg, l, us, lo, fi, P, K, T)) (hc : CV n pr wa lots dc) (fg vno vpg vl vus vlo vfi : Nat → Int32) (vP vK vT : Int32) (pb ch : Nat → Int32) (a b c e : Nat → Int32) (f : Int32) (be to wp : Nat → Int32) (told : Nat → Int64) :
    ∃ v1 v2 v3 v4 v5 v6 v7 v8 v9 v10 v11 v12 th' a' b' c' e' f' be' to' wp' t', fS10 x x2 hh cc rr co li p w s no pg l us P lots fg dc vno vpg vl vus vlo vfi vP vK vT pb ch th d a b c e f be to wp told = some (v1, v2, v3, v4, v5, v6, v7, v8, v9, v10, v11, v12, th', d, a', b', c', e', f', be', to', wp', t') := by
  have hn := hw.2.2.1
  have hD := hw.2.2.2.2.2.2
  have pw := (n_pow2 hD).1
  rcases n_range (show 2 ^ zct (zdfb pr wa) n < 2147483648 by omega) x with hx | ⟨k, hk, rfl⟩
  · refine ⟨fg, vno, vpg, vl, vus, vlo, vfi, vP, vK, vT, pb, ch, 1, a, b, c, e, f, be, to, wp, told, ?_⟩
    unfold fS10 fL_choice fX5_choice fX6_choice
    rw [c_needChoice_f hD hc hx, o_tryL, m_noChoice_f hn hD hm hx]
    rfl
  · rcases n_range (show 7 < 2147483648 by omega) x2 with hx | ⟨q, hq, rfl⟩
    · refine ⟨fg, vno, vpg, vl, vus, vlo, vfi, vP, vK, vT, pb, ch, 1, a, b, c, e, f, be, to, wp, told, ?_⟩
      have h5 : fX5_choice (Int32.ofNat k) x2 hh cc rr co li p w s no pg l us P lots fg dc vno vpg vl vus vlo vfi vP vK vT pb ch = some (.inl "java/lang/IllegalArgumentException") := by
        unfold fX5_choice
        rw [c_needChoice_t hD hc hk, o_tryR]
        by_cases h1 : x2 < 0
        · rw [if_pos h1]
        · rw [if_neg h1, if_neg (show ¬ x2 < 7 from n_out (n := 7) (by omega) hx h1)]
      have h6 : fX6_choice (Int32.ofNat k) x2 th d a b c e f be to wp = some (0, 1, d, a, b, c, e, f, be, to, wp) := by
        unfold fX6_choice
        rw [m_noChoice_t hn hD hm hk, n_bind]
        show o_bind (fX6_in x2 0 6) _ = _
        rw [inL_f (n := 7) (by omega) (by decide) hx]
        rfl
      unfold fS10 fL_choice
      rw [h5, h6]
      rfl
    · obtain ⟨f1, v2, v3, v4, v5, v6, v7, v8, v9, v10, v11, v12, h1, h2⟩ := c_measure (co := co) hw hb hc hy (Int32.ofNat k) fg vno vpg vl vus vlo vfi vP vK vT pb ch
      obtain ⟨a', b', c', e', f', be', to', wp', h3, h4⟩ := m_layChoice hw hm (Int32.ofNat k) a b c e f be to wp
      have h5 : fX5_choice (Int32.ofNat k) (Int32.ofNat q) hh cc rr co li p w s no pg l us P lots fg dc vno vpg vl vus vlo vfi vP vK vT pb ch = some (.inr (zfig H n m ln pr wa sl co (Int32.ofNat k) q, f1, v2, v3, v4, v5, v6, v7, v8, v9, v10, v11, v12)) := by
        unfold fX5_choice
        rw [c_needChoice_t hD hc hk, o_tryR, if_neg (n_lt0 (by omega)), if_pos (show Int32.ofNat q < 7 from n_nge (n := 7) (by omega) hq), h1, n_bind]
        show o_rd 7 (Int32.ofNat q) (some (Sum.inr (f1 (Int32.ofNat q).toNatClampNeg, _))) = _
        rw [n_rd (by omega) (by omega), n_cl (by omega), h2 q hq]
      have h6 : fX6_choice (Int32.ofNat k) (Int32.ofNat q) th d a b c e f be to wp = some (zfig H n m ln pr wa sl co (Int32.ofNat k) q, 0, d, a', b', c', e', f', be', to', wp') := by
        unfold fX6_choice
        rw [m_noChoice_t hn hD hm hk, n_bind]
        show o_bind (fX6_in (Int32.ofNat q) 0 6) _ = _
        rw [inL_t (n := 7) (by omega) (by decide) hq, n_bind, n_let, if_neg (by decide)]
        show o_bind (fX6_layChoice _ _ _ _ _ _ _ _ _ _) _ = _
        rw [h3, n_bind]
        show o_rd 7 (Int32.ofNat q) (some (to' (Int32.ofNat q).toNatClampNeg, _)) = _
        rw [n_rd (by omega) (by omega), n_cl (by omega), h4 q hq]
      refine ⟨f1, v2, v3, v4, v5, v6, v7, v8, v9, v10, v11, v12, 0, a', b', c', e', f', be', to', wp', vp_updL told (0 : Int32).toNatClampNeg (zfig H n m ln pr wa sl co (Int32.ofNat k) q).toInt64, ?_⟩
      unfold fS10 fL_choice
      rw [h5, h6]
      simp only [o_hlp, n_bind, if_true, fX6_thrown, g_fin]
end ZQ4
