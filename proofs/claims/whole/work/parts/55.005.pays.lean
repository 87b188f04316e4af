section ZQ5
variable {H n m : Nat} {ln : Nat → Nat} {pr wa sl : Nat → Bool} {hh cc rr ac dc : Int32} {co es se d li p w s lots : Nat → Int32} {no pg l us lo fi : Nat → Int32} {P K T : Int32}
theorem c_placeOf (hn : n ≤ 24) (hD : zct (zdfb pr wa) n ≤ 8) (hc : CV n pr wa lots dc) {i : Nat} (hi : i < n) : fX1_placeOf (Int32.ofNat i) lots dc = some (if zdfb pr wa i = true then Int32.ofNat (zct (zdfb pr wa) i) else -1) := by
  obtain ⟨c1, c2⟩ := hc
  subst c1
  unfold fX1_placeOf
  have st : ∀ f j, j < zct (zdfb pr wa) n → (∀ i', i' < n → zdfb pr wa i' = true → zct (zdfb pr wa) i' = j → i' ≠ i) → fX1_placeOf_L2 (Int32.ofNat (zct (zdfb pr wa) n)) lots (Int32.ofNat i) (f + 1) (Int32.ofNat j) = fX1_placeOf_L2 (Int32.ofNat (zct (zdfb pr wa) n)) lots (Int32.ofNat i) f (Int32.ofNat (j + 1)) := fun f j hj hne => by
    obtain ⟨i', i1, i2, i3⟩ := zct_find n hj
    have hl := c2 i' i1 i2
    rw [i3] at hl
    have hz := hne i' i1 i2 i3
    simp (disch := omega) only [fX1_placeOf_L2, n_le, n_rd, n_cl, n_let, n_s, hl, n_eq, hz, show ¬ zct (zdfb pr wa) n ≤ j from by omega, if_false]
  by_cases hd : zdfb pr wa i = true
  · rw [if_pos hd]
    have h1 := zct_lt_of hi hd
    have hl := c2 i hi hd
    refine n_walk (fun f k => fX1_placeOf_L2 (Int32.ofNat (zct (zdfb pr wa) n)) lots (Int32.ofNat i) f (Int32.ofNat k)) (zct (zdfb pr wa) i) _ (fun f => ?_) (fun f k hk => st f k (by omega) (fun i' i1 i2 i3 e => by subst e; omega)) 1024 (by omega)
    simp (disch := omega) only [fX1_placeOf_L2, n_le, n_rd, n_cl, hl, show ¬ zct (zdfb pr wa) n ≤ zct (zdfb pr wa) i from by omega, if_true, if_false]
  · rw [if_neg hd]
    refine n_walk (fun f k => fX1_placeOf_L2 (Int32.ofNat (zct (zdfb pr wa) n)) lots (Int32.ofNat i) f (Int32.ofNat k)) (zct (zdfb pr wa) n) _ (fun f => ?_) (fun f k hk => st f k hk (fun i' i1 i2 i3 e => by subst e; exact hd i2)) 1024 (by omega)
    simp only [fX1_placeOf_L2, Int32.le_refl, if_true]
theorem s_11 (x th : Int32) (hw : NW H n m ln pr wa) (hb : BV H n m ln pr wa sl hh cc rr li p w s) (hm : MV H n m ln pr wa sl ac co es se d) (hy : YOK H ln pr n (no, pg, l, us, lo, fi, P, K, T)) (hc : CV n pr wa lots dc) (fg vno vpg vl vus vlo vfi : Nat → Int32) (vP vK vT : Int32) (pb ch prices : Nat → Int32) (priced : Int32) (hp : PV H n m ln pr wa sl co prices priced) (a b c e : Nat → Int32) (f : Int32) (be to wp : Nat → Int32) (told : Nat → Int64) :
    ∃ v1 v2 v3 v4 v5 v6 v7 v8 v9 v10 v11 v12 o z th' a' b' c' e' f' be' to' wp' t', fS11 x hh cc rr co li p w s no pg l us P lots fg dc vno vpg vl vus vlo vfi vP vK vT pb ch prices priced th d a b c e f be to wp told = some (v1, v2, v3, v4, v5, v6, v7, v8, v9, v10, v11, v12, o, z, th', d, a', b', c', e', f', be', to', wp', t') ∧ PV H n m ln pr wa sl co o z := by
  have hn := hw.2.2.1
  have hD := hw.2.2.2.2.2.2
  have pw := (n_pow2 hD).1
  have pw1 := (n_pow2 hD).2
  have hcc : cc = Int32.ofNat n := hb.2.1
  rcases n_range (show n < 2147483648 by omega) x with hx | ⟨i, hi, rfl⟩
  · refine ⟨fg, vno, vpg, vl, vus, vlo, vfi, vP, vK, vT, pb, ch, prices, priced, 1, a, b, c, e, f, be, to, wp, told, ?_, hp⟩
    have h5 : fX5_pays x hh cc rr co li p w s no pg l us P lots fg dc vno vpg vl vus vlo vfi vP vK vT pb ch prices priced = some (.inl "java/lang/IndexOutOfBoundsException") := by
      unfold fX5_pays
      rw [hcc, needLot_f (by omega) hx, o_tryL]
    have h6 : fX6_pays x th d a b c e f be to wp = some (0, 1, d, a, b, c, e, f, be, to, wp) := by
      unfold fX6_pays
      rw [m_noLot_f hn hm hx]
      rfl
    unfold fS11 fL_pays
    rw [h5, h6]
    rfl
  · have hpl := c_placeOf hn hD hc hi
    have hdf := m_differs hn hm hi
    cases hz : zdfb pr wa i
    · rw [hz] at hpl hdf
      rw [if_neg (by simp)] at hpl
      refine ⟨fg, vno, vpg, vl, vus, vlo, vfi, vP, vK, vT, pb, ch, prices, priced, 0, a, b, c, e, f, be, to, wp, vp_updL told (0 : Int32).toNatClampNeg (0 : Int32).toInt64, ?_, hp⟩
      have h5 : fX5_pays (Int32.ofNat i) hh cc rr co li p w s no pg l us P lots fg dc vno vpg vl vus vlo vfi vP vK vT pb ch prices priced = some (.inr (0, fg, vno, vpg, vl, vus, vlo, vfi, vP, vK, vT, pb, ch, prices, priced)) := by
        unfold fX5_pays
        rw [hcc, needLot_t (by omega) hi, o_tryR, hpl, n_bind, if_neg (by decide)]
      have h6 : fX6_pays (Int32.ofNat i) th d a b c e f be to wp = some (0, 0, d, a, b, c, e, f, be, to, wp) := by
        unfold fX6_pays
        rw [m_noLot_t hn hm hi, n_bind]
        show o_bind (fX6_differs _ _) _ = _
        rw [hdf, n_bind, zbF, if_pos rfl]
      unfold fS11 fL_pays
      rw [h5, h6]
      simp only [o_hlp, n_bind, if_true, fX6_thrown, g_fin]
    · rw [hz] at hpl hdf
      rw [if_pos rfl] at hpl
      have hj := zct_lt_of hi hz
      generalize hjj : zct (zdfb pr wa) i = j at *
      have hpj := n_pow (D := j) (by omega)
      have hpw : 2 ^ j < 2 ^ zct (zdfb pr wa) n := Nat.pow_lt_pow_right (by omega) hj
      obtain ⟨v1, v2, v3, v4, v5, v6, v7, v8, v9, v10, v11, v12, o, z, h1, h2⟩ := c_cheapest hw hb hc hy (Int32.ofNat (2 ^ j)) (Int32.ofNat (2 ^ j)) fg vno vpg vl vus vlo vfi vP vK vT pb ch prices priced hp
      obtain ⟨u1, u2, u3, u4, u5, u6, u7, u8, u9, u10, u11, u12, o', z', h3, h4⟩ := c_cheapest hw hb hc hy (Int32.ofNat (2 ^ j)) 0 v1 v2 v3 v4 v5 v6 v7 v8 v9 v10 v11 v12 o z (Or.inr h2)
      obtain ⟨a1, b1, c1, e1, f1, be1, to1, wp1, h7⟩ := m_bestOf hw hm (Int32.ofNat (2 ^ j)) 0 a b c e f be to wp
      obtain ⟨B1, hB1⟩ := zbst_some (sel := fun c => decide (Int32.ofNat c &&& Int32.ofNat (2 ^ j) = Int32.ofNat (2 ^ j))) (cost := fun c => zcost H n m ln pr wa sl co (Int32.ofNat c)) (c0 := 2 ^ j) (by simp [Int32.and_self]) (2 ^ zct (zdfb pr wa) n) hpw
      obtain ⟨B2, hB2⟩ := zbst_some (sel := fun c => decide (Int32.ofNat c &&& Int32.ofNat (2 ^ j) = 0)) (cost := fun c => zcost H n m ln pr wa sl co (Int32.ofNat c)) (c0 := 0) (by
        have : Int32.ofNat 0 &&& Int32.ofNat (2 ^ j) = 0 := Int32.zero_and
        simp [this]) (2 ^ zct (zdfb pr wa) n) (by omega)
      have l1 := zbst_lt _ _ hB1
      have l2 := zbst_lt _ _ hB2
      rw [hB1] at h1
      rw [hB2] at h3
      rw [show zbst (fun c => decide (Int32.ofNat c &&& Int32.ofNat (2 ^ j) = Int32.ofNat (2 ^ j)) && decide (Int32.ofNat c &&& (0 : Int32) = 0)) (fun c => zcost H n m ln pr wa sl co (Int32.ofNat c)) (2 ^ zct (zdfb pr wa) n) = some B1 from (zbst_congr _ (fun c _ => by simp)).trans hB1] at h7
      obtain ⟨a2, b2, c2, e2, f2, be2, to2, wp2, h8⟩ := m_costsOf hw hm (Int32.ofNat B1) a1 b1 c1 e1 f1 be1 to1 wp1
      obtain ⟨a3, b3, c3, e3, f3, be3, to3, wp3, h9⟩ := m_bestOf hw hm 0 (Int32.ofNat (2 ^ j)) a2 b2 c2 e2 f2 be2 to2 wp2
      rw [show zbst (fun c => decide (Int32.ofNat c &&& (0 : Int32) = 0) && decide (Int32.ofNat c &&& Int32.ofNat (2 ^ j) = 0)) (fun c => zcost H n m ln pr wa sl co (Int32.ofNat c)) (2 ^ zct (zdfb pr wa) n) = some B2 from (zbst_congr _ (fun c _ => by simp)).trans hB2] at h9
      obtain ⟨a4, b4, c4, e4, f4, be4, to4, wp4, h10⟩ := m_costsOf hw hm (Int32.ofNat B2) a3 b3 c3 e3 f3 be3 to3 wp3
      have h5 : fX5_pays (Int32.ofNat i) hh cc rr co li p w s no pg l us P lots fg dc vno vpg vl vus vlo vfi vP vK vT pb ch prices priced = some (.inr (zcost H n m ln pr wa sl co (Int32.ofNat B1) - zcost H n m ln pr wa sl co (Int32.ofNat B2), u1, u2, u3, u4, u5, u6, u7, u8, u9, u10, u11, u12, o', z')) := by
        unfold fX5_pays
        rw [hcc, needLot_t (by omega) hi, o_tryR, hpl, n_bind, if_pos (show (0 : Int32) ≤ Int32.ofNat j from (n_le (a := 0) (by omega) (by omega)).mpr (by omega)), n_let, hpj, ← hcc, h1, n_bind]
        show o_bind (fX1_cheapest (Int32.ofNat (2 ^ j)) 0 lots v1 dc v2 v3 v4 v5 v6 v7 v8 v9 v10 v11 v12 o z hh cc rr co li p w s no pg l us P) _ = _
        rw [h3, n_bind]
        show o_bind (fX1_priceOf (Int32.ofNat B1) o') _ = _
        rw [c_priceOf (by omega), n_bind]
        show o_bind (fX1_priceOf (Int32.ofNat B2) o') _ = _
        rw [c_priceOf (by omega), n_bind, h4 B1 l1, h4 B2 l2]
      have h6 : fX6_pays (Int32.ofNat i) th d a b c e f be to wp = some (zcost H n m ln pr wa sl co (Int32.ofNat B1) - zcost H n m ln pr wa sl co (Int32.ofNat B2), 0, d, a4, b4, c4, e4, f4, be4, to4, wp4) := by
        unfold fX6_pays
        rw [m_noLot_t hn hm hi, n_bind]
        show o_bind (fX6_differs _ _) _ = _
        rw [hdf, n_bind, zbT, if_neg (by decide), m_placeOf hn hm hi, n_bind, hjj, n_let, hpj, h7, n_bind]
        show o_bind (fX6_costsOf (Int32.ofNat B1) d a1 b1 c1 e1 f1 be1 to1 wp1) _ = _
        rw [h8, n_bind]
        show o_bind (fX6_bestOf 0 (Int32.ofNat (2 ^ j)) d a2 b2 c2 e2 f2 be2 to2 wp2) _ = _
        rw [h9, n_bind]
        show o_bind (fX6_costsOf (Int32.ofNat B2) d a3 b3 c3 e3 f3 be3 to3 wp3) _ = _
        rw [h10, n_bind]
      refine ⟨u1, u2, u3, u4, u5, u6, u7, u8, u9, u10, u11, u12, o', z', 0, a4, b4, c4, e4, f4, be4, to4, wp4, vp_updL told (0 : Int32).toNatClampNeg (zcost H n m ln pr wa sl co (Int32.ofNat B1) - zcost H n m ln pr wa sl co (Int32.ofNat B2)).toInt64, ?_, Or.inr h4⟩
      unfold fS11 fL_pays
      rw [h5, h6]
      simp only [o_hlp, n_bind, if_true, fX6_thrown, g_fin]
end ZQ5
