/-! ===== the checksum ===== -/
theorem n_zip {σ R R' : Type} (F : Nat → Nat → σ → R) (G : Nat → Nat → σ → R') (n : Nat) (ex : σ → R) (ex' : σ → R') (hx : ∀ f s, F (f + 1) n s = ex s) (hx' : ∀ f s, G (f + 1) n s = ex' s) (hs : ∀ k s, k < n → ∃ s', (∀ f, F (f + 1) k s = F f (k + 1) s') ∧ ∀ f, G (f + 1) k s = G f (k + 1) s') :
    ∀ (m k fuel : Nat) (s : σ), k + m = n → m < fuel → ∃ s', F fuel k s = ex s' ∧ G fuel k s = ex' s'
  | 0, k, fuel, s, h, hf => by
    obtain ⟨f, rfl⟩ : ∃ f, fuel = f + 1 := ⟨fuel - 1, by omega⟩
    have e : k = n := by omega
    subst e
    exact ⟨s, hx f s, hx' f s⟩
  | m + 1, k, fuel, s, h, hf => by
    obtain ⟨f, rfl⟩ : ∃ f, fuel = f + 1 := ⟨fuel - 1, by omega⟩
    obtain ⟨s1, h1, h2⟩ := hs k s (by omega)
    obtain ⟨s2, h3, h4⟩ := n_zip F G n ex ex' hx hx' hs m (k + 1) f s1 (by omega) (by omega)
    exact ⟨s2, (h1 f).trans h3, (h2 f).trans h4⟩
theorem o_runR {α β : Type} (a : α) (k : α → Option β) : o_run (some (.inr a)) k = k a := rfl
section ZSU
variable {H n m : Nat} {ln : Nat → Nat} {pr wa sl : Nat → Bool} {hh cc rr ac dc : Int32} {co es se d li p w s lots : Nat → Int32} {no pg l us lo fi : Nat → Int32} {P K T : Int32}
theorem u_state (hw : NW H n m ln pr wa) (hb : BV H n m ln pr wa sl hh cc rr li p w s) (hm : MV H n m ln pr wa sl ac co es se d) (hy : YOK H ln pr n (no, pg, l, us, lo, fi, P, K, T)) (hc : CV n pr wa lots dc) {pg' : Nat → Int32} {P' : Int32} (h1 : ∀ i, i < n → pg' i = zPg H ln pr i) (h2 : P' = Int32.ofNat (zP H ln pr n)) (w0 : Int64) :
    ∃ W : Int64, (∀ j, fX5_checksum_L4 j hh cc rr ac es w s us P K dc 1024 w0 0 = j W) ∧ ∀ j, fX6_checksum_L13 j d pg' P' 1024 w0 0 = j W := by
  obtain ⟨W, k1, k2⟩ := n_zip (fun f k (W : Int64) => fun j => fX5_checksum_L4 j hh cc rr ac es w s us P K dc f W (Int32.ofNat k)) (fun f k (W : Int64) => fun j => fX6_checksum_L13 j d pg' P' f W (Int32.ofNat k)) 12 (fun W j => j W) (fun W j => j W) (fun f W => by
      funext j
      simp only [fX5_checksum_L4, show ((12 : Int32) ≤ Int32.ofNat 12) from by decide, if_true]) (fun f W => by
      funext j
      simp only [fX6_checksum_L13, show ((12 : Int32) ≤ Int32.ofNat 12) from by decide, if_true]) (fun k W hk => by
      obtain ⟨v, v1, v2⟩ := q_state hw hb hm hy hc k hk
      have hle : ¬ (12 : Int32) ≤ Int32.ofNat k := fun h => by
        have := (n_le (a := 12) (by omega) (by omega)).mp h; omega
      refine ⟨31 * W + v.toInt64, fun f => ?_, fun f => ?_⟩
      · funext j
        simp only [fX5_checksum_L4, hle, if_false, v1, o_runR, n_let, n_s]
      · funext j
        simp only [fX6_checksum_L13, hle, if_false, v2 pg' P' h1 h2, n_bind, n_let, n_s]) 12 0 1024 w0 (by omega) (by omega)
  exact ⟨W, fun j => congrFun k1 j, fun j => congrFun k2 j⟩
theorem u_lot (hw : NW H n m ln pr wa) (hb : BV H n m ln pr wa sl hh cc rr li p w s) (hm : MV H n m ln pr wa sl ac co es se d) (hy : YOK H ln pr n (no, pg, l, us, lo, fi, P, K, T)) {no' pg' l' : Nat → Int32} (h1 : ∀ i, i < n → no' i = zNo_ H ln pr i ∧ pg' i = zPg H ln pr i ∧ l' i = zLi H ln pr i) {i : Nat} (hi : i < n) (w0 : Int64) :
    ∃ W : Int64, (∀ j, fX5_checksum_L45 j (Int32.ofNat i) cc li es se p w s no pg l 1024 w0 0 = j W) ∧ ∀ j, fX6_checksum_L53 j (Int32.ofNat i) d no' pg' l' 1024 w0 0 = j W := by
  obtain ⟨W, k1, k2⟩ := n_zip (fun f k (W : Int64) => fun j => fX5_checksum_L45 j (Int32.ofNat i) cc li es se p w s no pg l f W (Int32.ofNat k)) (fun f k (W : Int64) => fun j => fX6_checksum_L53 j (Int32.ofNat i) d no' pg' l' f W (Int32.ofNat k)) 9 (fun W j => j W) (fun W j => j W) (fun f W => by
      funext j
      simp only [fX5_checksum_L45, show ((9 : Int32) ≤ Int32.ofNat 9) from by decide, if_true]) (fun f W => by
      funext j
      simp only [fX6_checksum_L53, show ((9 : Int32) ≤ Int32.ofNat 9) from by decide, if_true]) (fun k W hk => by
      obtain ⟨v, v1, v2⟩ := q_lot hw hb hm hy i hi k hk
      have hle : ¬ (9 : Int32) ≤ Int32.ofNat k := fun h => by
        have := (n_le (a := 9) (by omega) (by omega)).mp h; omega
      refine ⟨31 * W + v.toInt64, fun f => ?_, fun f => ?_⟩
      · funext j
        simp only [fX5_checksum_L45, hle, if_false, v1, o_runR, n_let, n_s]
      · funext j
        simp only [fX6_checksum_L53, hle, if_false, v2 no' pg' l' h1, n_bind, n_let, n_s]) 9 0 1024 w0 (by omega) (by omega)
  exact ⟨W, fun j => congrFun k1 j, fun j => congrFun k2 j⟩
theorem u_lots (hw : NW H n m ln pr wa) (hb : BV H n m ln pr wa sl hh cc rr li p w s) (hm : MV H n m ln pr wa sl ac co es se d) (hy : YOK H ln pr n (no, pg, l, us, lo, fi, P, K, T)) {no' pg' l' : Nat → Int32} (h1 : ∀ i, i < n → no' i = zNo_ H ln pr i ∧ pg' i = zPg H ln pr i ∧ l' i = zLi H ln pr i) (w0 : Int64) :
    ∃ W : Int64, (∀ j, fX5_checksum_L31 cc j li es se p w s no pg l 1024 w0 0 = j W) ∧ ∀ j, fX6_checksum_L40 d j no' pg' l' 1024 w0 0 = j W := by
  have hn := hw.2.2.1
  have hcc : cc = Int32.ofNat n := hb.2.1
  have h1' : d (1 : Int32).toNatClampNeg = Int32.ofNat n := hm.2.1
  obtain ⟨W, k1, k2⟩ := n_zip (fun f k (W : Int64) => fun j => fX5_checksum_L31 cc j li es se p w s no pg l f W (Int32.ofNat k)) (fun f k (W : Int64) => fun j => fX6_checksum_L40 d j no' pg' l' f W (Int32.ofNat k)) n (fun W j => j W) (fun W j => j W) (fun f W => by
      funext j
      simp only [fX5_checksum_L31, hcc, Int32.le_refl, if_true]) (fun f W => by
      funext j
      simp only [fX6_checksum_L40, h1', Int32.le_refl, if_true]) (fun k W hk => by
      obtain ⟨v, v1, v2⟩ := u_lot hw hb hm hy h1 hk W
      have hle : ¬ Int32.ofNat n ≤ Int32.ofNat k := fun h => by
        have := (n_le (by omega) (by omega)).mp h; omega
      refine ⟨v, fun f => ?_, fun f => ?_⟩
      · funext j
        rw [hcc] at v1 ⊢
        simp only [fX5_checksum_L31, hle, if_false, n_let, v1, n_s]
      · funext j
        simp only [fX6_checksum_L40, h1', hle, if_false, n_let, v2, n_s]) n 0 1024 w0 (by omega) (by omega)
  exact ⟨W, fun j => congrFun k1 j, fun j => congrFun k2 j⟩
theorem c_choice (hw : NW H n m ln pr wa) (hb : BV H n m ln pr wa sl hh cc rr li p w s) (hy : YOK H ln pr n (no, pg, l, us, lo, fi, P, K, T)) (hc : CV n pr wa lots dc) {k q : Nat} (hk : k < 2 ^ zct (zdfb pr wa) n) (hq : q < 7) (fg vno vpg vl vus vlo vfi : Nat → Int32) (vP vK vT : Int32) (pb ch : Nat → Int32) :
    ∃ f1 v2 v3 v4 v5 v6 v7 v8 v9 v10 v11 v12, fX5_choice (Int32.ofNat k) (Int32.ofNat q) hh cc rr co li p w s no pg l us P lots fg dc vno vpg vl vus vlo vfi vP vK vT pb ch = some (.inr (zfig H n m ln pr wa sl co (Int32.ofNat k) q, f1, v2, v3, v4, v5, v6, v7, v8, v9, v10, v11, v12)) := by
  have hD := hw.2.2.2.2.2.2
  have pw := (n_pow2 hD).1
  obtain ⟨f1, v2, v3, v4, v5, v6, v7, v8, v9, v10, v11, v12, h1, h2⟩ := c_measure (co := co) hw hb hc hy (Int32.ofNat k) fg vno vpg vl vus vlo vfi vP vK vT pb ch
  refine ⟨f1, v2, v3, v4, v5, v6, v7, v8, v9, v10, v11, v12, ?_⟩
  unfold fX5_choice
  rw [c_needChoice_t hD hc hk, o_tryR, if_neg (n_lt0 (by omega)), if_pos (show Int32.ofNat q < 7 from n_nge (n := 7) (by omega) hq), h1, n_bind]
  show o_rd 7 (Int32.ofNat q) (some (Sum.inr (f1 (Int32.ofNat q).toNatClampNeg, _))) = _
  rw [n_rd (by omega) (by omega), n_cl (by omega), h2 q hq]
theorem s_23 (th : Int32) (hw : NW H n m ln pr wa) (hb : BV H n m ln pr wa sl hh cc rr li p w s) (hm : MV H n m ln pr wa sl ac co es se d) (hy : YOK H ln pr n (no, pg, l, us, lo, fi, P, K, T)) (hc : CV n pr wa lots dc) (fg vno vpg vl vus vlo vfi : Nat → Int32) (vP vK vT : Int32) (pb ch prices : Nat → Int32) (priced : Int32) (hp : PV H n m ln pr wa sl co prices priced) (a b c e : Nat → Int32) (f : Int32) (be to wp : Nat → Int32) :
    ∃ v1 v2 v3 v4 v5 v6 v7 v8 v9 v10 v11 v12 o z th' a' b' c' e' f' be' to' wp', fS23 hh cc rr ac co li es se p w s no pg l us P K lots fg dc vno vpg vl vus vlo vfi vP vK vT pb ch prices priced th d a b c e f be to wp = some (v1, v2, v3, v4, v5, v6, v7, v8, v9, v10, v11, v12, o, z, th', d, a', b', c', e', f', be', to', wp') ∧ PV H n m ln pr wa sl co o z := by
  have hn := hw.2.2.1
  have hD := hw.2.2.2.2.2.2
  obtain ⟨pw, pw1⟩ := n_pow2 hD
  obtain ⟨a1, b1, c1, e1, f1, l1, l2⟩ := m_lay hw hm a b c e f
  obtain ⟨W1, s1, s2⟩ := u_state hw hb hm hy hc (fun i hi => (l2.1 i hi).2.1) l2.2.2 0
  obtain ⟨W2, t1, t2⟩ := u_lots hw hb hm hy l2.1 W1
  obtain ⟨v1, v2, v3, v4, v5, v6, v7, v8, v9, v10, v11, v12, o, z, h1, h2⟩ := c_cheapest hw hb hc hy 0 0 fg vno vpg vl vus vlo vfi vP vK vT pb ch prices priced hp
  obtain ⟨a2, b2, c2, e2, f2, be2, to2, wp2, h3⟩ := m_bestOf hw hm 0 0 a1 b1 c1 e1 f1 be to wp
  rw [← zbst_best] at h3
  obtain ⟨B, hB⟩ := zbst_some (sel := fun c => decide (Int32.ofNat c &&& 0 = 0)) (cost := fun c => zcost H n m ln pr wa sl co (Int32.ofNat c)) (c0 := 0) (by simp) (2 ^ zct (zdfb pr wa) n) (by omega)
  have hlt := zbst_lt _ _ hB
  rw [hB, zobS] at h1 h3
  obtain ⟨a3, b3, c3, e3, f3, be3, to3, wp3, h4, h5⟩ := m_layChoice hw hm (Int32.ofNat B) a2 b2 c2 e2 f2 be2 to2 wp2
  have m7 : ∀ W0 : Int64, fX6_checksum_L111 d a3 b3 c3 e3 f3 be3 to3 wp3 1024 W0 0 = some (zfold (fun k W => 31 * W + (zfig H n m ln pr wa sl co (Int32.ofNat B) k).toInt64) 0 7 W0, 0, d, a3, b3, c3, e3, f3, be3, to3, wp3) := fun W0 => by
    refine n_for0 (fun f k W => fX6_checksum_L111 d a3 b3 c3 e3 f3 be3 to3 wp3 f W (Int32.ofNat k)) 7 (fun k W => 31 * W + (zfig H n m ln pr wa sl co (Int32.ofNat B) k).toInt64) (fun W => some (W, 0, d, a3, b3, c3, e3, f3, be3, to3, wp3)) (fun f W => ?_) (fun f k W hk => ?_) 7 0 1024 W0 (by omega) (by omega)
    · simp only [fX6_checksum_L111, show ((7 : Int32) ≤ Int32.ofNat 7) from by decide, if_true]
    · simp (disch := omega) only [fX6_checksum_L111, show (7 : Int32) = Int32.ofNat 7 from rfl, n_le, n_rd, n_cl, n_let, n_s, show ¬ 7 ≤ k from by omega, if_false, h5 k hk]
  have c7 : ∀ W0 : Int64, ∃ q1 q2 q3 q4 q5 q6 q7 q8 q9 q10 q11 q12, fX5_checksum_L96 o z (Int32.ofNat B) hh cc rr co li p w s no pg l us P lots dc 1024 W0 0 v1 v2 v3 v4 v5 v6 v7 v8 v9 v10 v11 v12 = some (zfold (fun k W => 31 * W + (zfig H n m ln pr wa sl co (Int32.ofNat B) k).toInt64) 0 7 W0, q1, q2, q3, q4, q5, q6, q7, q8, q9, q10, q11, q12, o, z) := fun W0 => by
    have key := n_inv (fun f k (q : Int64 × (Nat → Int32) × (Nat → Int32) × (Nat → Int32) × (Nat → Int32) × (Nat → Int32) × (Nat → Int32) × (Nat → Int32) × Int32 × Int32 × Int32 × (Nat → Int32) × (Nat → Int32)) => fX5_checksum_L96 o z (Int32.ofNat B) hh cc rr co li p w s no pg l us P lots dc f q.1 (Int32.ofNat k) q.2.1 q.2.2.1 q.2.2.2.1 q.2.2.2.2.1 q.2.2.2.2.2.1 q.2.2.2.2.2.2.1 q.2.2.2.2.2.2.2.1 q.2.2.2.2.2.2.2.2.1 q.2.2.2.2.2.2.2.2.2.1 q.2.2.2.2.2.2.2.2.2.2.1 q.2.2.2.2.2.2.2.2.2.2.2.1 q.2.2.2.2.2.2.2.2.2.2.2.2) 7
      (fun q => some (q.1, q.2.1, q.2.2.1, q.2.2.2.1, q.2.2.2.2.1, q.2.2.2.2.2.1, q.2.2.2.2.2.2.1, q.2.2.2.2.2.2.2.1, q.2.2.2.2.2.2.2.2.1, q.2.2.2.2.2.2.2.2.2.1, q.2.2.2.2.2.2.2.2.2.2.1, q.2.2.2.2.2.2.2.2.2.2.2.1, q.2.2.2.2.2.2.2.2.2.2.2.2, o, z))
      (fun k q => q.1 = zfold (fun k W => 31 * W + (zfig H n m ln pr wa sl co (Int32.ofNat B) k).toInt64) 0 k W0)
      (fun f q hq => by simp only [fX5_checksum_L96, show ((7 : Int32) ≤ Int32.ofNat 7) from by decide, if_true])
      (fun f k q hk hq => by
        obtain ⟨W, a1, a2, a3, a4, a5, a6, a7, x8, x9, x10, a11, a12⟩ := q
        have hq : W = _ := hq
        obtain ⟨u1, u2, u3, u4, u5, u6, u7, u8, u9, u10, u11, u12, hu⟩ := c_choice (co := co) hw hb hy hc hlt hk a1 a2 a3 a4 a5 a6 a7 x8 x9 x10 a11 a12
        have hle : ¬ (7 : Int32) ≤ Int32.ofNat k := fun h => by
          have := (n_le (a := 7) (by omega) (by omega)).mp h; omega
        refine ⟨(31 * W + (zfig H n m ln pr wa sl co (Int32.ofNat B) k).toInt64, u1, u2, u3, u4, u5, u6, u7, u8, u9, u10, u11, u12), ?_, ?_⟩
        · rw [zfold_last, ← hq, Nat.zero_add]
        · simp only [fX5_checksum_L96, hle, if_false, hu, o_runR, n_let, n_s])
      7 0 1024 (W0, v1, v2, v3, v4, v5, v6, v7, v8, v9, v10, v11, v12) (by omega) (by omega) rfl
    obtain ⟨⟨W, a1, a2, a3, a4, a5, a6, a7, x8, x9, x10, a11, a12⟩, k1, k2⟩ := key
    have k1 : W = _ := k1
    subst k1
    exact ⟨a1, a2, a3, a4, a5, a6, a7, x8, x9, x10, a11, a12, k2⟩
  obtain ⟨q1, q2, q3, q4, q5, q6, q7, q8, q9, q10, q11, q12, hq⟩ := c7 (31 * W2 + (Int32.ofNat B).toInt64)
  have h6 : fX6_checksum th d a b c e f be to wp = some (zfold (fun k W => 31 * W + (zfig H n m ln pr wa sl co (Int32.ofNat B) k).toInt64) 0 7 (31 * W2 + (Int32.ofNat B).toInt64), 0, d, a3, b3, c3, e3, f3, be3, to3, wp3) := by
    unfold fX6_checksum
    rw [n_let, l1, n_bind]
    show o_let _ _ = _
    rw [n_let, s2, n_let, t2, h3, n_bind]
    show o_let (31 * W2 + (Int32.ofNat B).toInt64) _ = _
    rw [n_let, h4, n_bind]
    exact m7 _
  have h7 : fX5_checksum hh cc rr ac co li es se p w s no pg l us P K lots fg dc vno vpg vl vus vlo vfi vP vK vT pb ch prices priced = some (zfold (fun k W => 31 * W + (zfig H n m ln pr wa sl co (Int32.ofNat B) k).toInt64) 0 7 (31 * W2 + (Int32.ofNat B).toInt64), q1, q2, q3, q4, q5, q6, q7, q8, q9, q10, q11, q12, o, z) := by
    unfold fX5_checksum fX5_best
    rw [n_let, n_let, s1, n_let, t1, h1, n_bind]
    show o_bind (some _) _ = _
    rw [n_bind]
    show o_let (31 * W2 + (Int32.ofNat B).toInt64) _ = _
    rw [n_let]
    exact hq
  refine ⟨q1, q2, q3, q4, q5, q6, q7, q8, q9, q10, q11, q12, o, z, 0, a3, b3, c3, e3, f3, be3, to3, wp3, ?_, Or.inr h2⟩
  unfold fS23
  rw [h6, h7, n_bind]
  show o_bind (some _) _ = _
  rw [n_bind]
  refine if_pos ?_
  unfold lg_cmp
  rw [if_neg (by exact Int64.lt_irrefl), if_pos rfl]
end ZSU
