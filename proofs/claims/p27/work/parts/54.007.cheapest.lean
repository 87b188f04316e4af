section ZCB
variable {H n m : Nat} {ln : Nat → Nat} {pr wa sl : Nat → Bool} {hh cc rr ac dc : Int32} {co es se d li p w s lots : Nat → Int32}
/-- the prices stand, or are not held to stand -/
def PV (H n m : Nat) (ln : Nat → Nat) (pr wa sl : Nat → Bool) (co : Nat → Int32) (prices : Nat → Int32) (priced : Int32) : Prop := priced = 0 ∨ ∀ c, c < 2 ^ zct (zdfb pr wa) n → prices c = zcost H n m ln pr wa sl co (Int32.ofNat c)
theorem c_priceAll (hw : NW H n m ln pr wa) (hb : BV H n m ln pr wa sl hh cc rr li p w s) (hc : CV n pr wa lots dc) {no pg l us lo fi : Nat → Int32} {P K T : Int32} (hy : YOK H ln pr n (no, pg, l, us, lo, fi, P, K, T)) (fg vno vpg vl vus vlo vfi : Nat → Int32) (vP vK vT : Int32) (pb ch prices : Nat → Int32) (priced : Int32) (hp : PV H n m ln pr wa sl co prices priced) :
    ∃ f' a b c e g h i j k q r o z, fX1_priceAll lots fg dc vno vpg vl vus vlo vfi vP vK vT pb ch prices priced hh cc rr co li p w s no pg l us P = some (f', a, b, c, e, g, h, i, j, k, q, r, o, z) ∧ ∀ c, c < 2 ^ zct (zdfb pr wa) n → o c = zcost H n m ln pr wa sl co (Int32.ofNat c) := by
  obtain ⟨w1, w2, w3, w4, w5, w6, w7⟩ := id hw
  obtain ⟨pw, pw1⟩ := n_pow2 w7
  unfold fX1_priceAll
  by_cases h0 : priced = 0
  · rw [if_pos h0, n_let]
    have hc1 : dc = Int32.ofNat (zct (zdfb pr wa) n) := hc.1
    have key := n_inv (fun f k (s' : (Nat → Int32) × (Nat → Int32) × (Nat → Int32) × (Nat → Int32) × (Nat → Int32) × (Nat → Int32) × (Nat → Int32) × Int32 × Int32 × Int32 × (Nat → Int32) × (Nat → Int32) × (Nat → Int32)) => fX1_priceAll_L10 dc (fun (a2 : Nat → Int32) (a3 : Nat → Int32) (a4 : Nat → Int32) (a5 : Nat → Int32) (a6 : Nat → Int32) (a7 : Nat → Int32) (a8 : Nat → Int32) (x9 : Int32) (x10 : Int32) (x11 : Int32) (a12 : Nat → Int32) (a13 : Nat → Int32) (a14 : Nat → Int32) => some (a2, a3, a4, a5, a6, a7, a8, x9, x10, x11, a12, a13, a14, (1 : Int32))) lots hh cc rr co li p w s no pg l us P f (Int32.ofNat k) s'.1 s'.2.1 s'.2.2.1 s'.2.2.2.1 s'.2.2.2.2.1 s'.2.2.2.2.2.1 s'.2.2.2.2.2.2.1 s'.2.2.2.2.2.2.2.1 s'.2.2.2.2.2.2.2.2.1 s'.2.2.2.2.2.2.2.2.2.1 s'.2.2.2.2.2.2.2.2.2.2.1 s'.2.2.2.2.2.2.2.2.2.2.2.1 s'.2.2.2.2.2.2.2.2.2.2.2.2) (2 ^ zct (zdfb pr wa) n)
      (fun s => some (s.1, s.2.1, s.2.2.1, s.2.2.2.1, s.2.2.2.2.1, s.2.2.2.2.2.1, s.2.2.2.2.2.2.1, s.2.2.2.2.2.2.2.1, s.2.2.2.2.2.2.2.2.1, s.2.2.2.2.2.2.2.2.2.1, s.2.2.2.2.2.2.2.2.2.2.1, s.2.2.2.2.2.2.2.2.2.2.2.1, s.2.2.2.2.2.2.2.2.2.2.2.2, (1 : Int32)))
      (fun k s' => ∀ c, c < k → s'.2.2.2.2.2.2.2.2.2.2.2.2 c = zcost H n m ln pr wa sl co (Int32.ofNat c))
      (fun f s' hs => by simp only [fX1_priceAll_L10, hc1, n_pow w7, Int32.le_refl, if_true])
      (fun f k s' hk hs => by
        obtain ⟨a1, a2, a3, a4, a5, a6, a7, x8, x9, x10, a11, a12, a13⟩ := s'
        have hs : ∀ c, c < k → a13 c = zcost H n m ln pr wa sl co (Int32.ofNat c) := hs
        obtain ⟨f', a, b, c, e, g, h, i, j, k', q, r, m1, m2⟩ := c_measure (co := co) hw hb hc hy (Int32.ofNat k) a1 a2 a3 a4 a5 a6 a7 x8 x9 x10 a11 a12
        refine ⟨(f', a, b, c, e, g, h, i, j, k', q, r, upd a13 k (f' 0)), fun y hy => ?_, ?_⟩
        · by_cases e : y = k
          · subst e; exact upd_same.trans (m2 0 (by omega))
          · exact (upd_ne e).trans (hs y (by omega))
        · subst hc1
          simp (disch := omega) only [fX1_priceAll_L10, n_pow w7, n_le, n_rd, n_cl, n_bind, n_let, n_s, m1, show (256 : Int32) = Int32.ofNat 256 from rfl, show ¬ 256 ≤ k from by omega, show ¬ 2 ^ zct (zdfb pr wa) n ≤ k from by omega, if_false]
          rfl)
      (2 ^ zct (zdfb pr wa) n) 0 1024 (fg, vno, vpg, vl, vus, vlo, vfi, vP, vK, vT, pb, ch, prices) (by omega) (by omega) (fun c hc => absurd hc (Nat.not_lt_zero _))
    obtain ⟨⟨a1, a2, a3, a4, a5, a6, a7, x8, x9, x10, a11, a12, a13⟩, k1, k2⟩ := key
    exact ⟨a1, a2, a3, a4, a5, a6, a7, x8, x9, x10, a11, a12, a13, 1, k2, k1⟩
  · rw [if_neg h0]
    rcases hp with hp | hp
    · exact absurd hp h0
    · exact ⟨_, _, _, _, _, _, _, _, _, _, _, _, _, _, rfl, hp⟩
theorem c_priceOf {prices : Nat → Int32} {c : Nat} (hc : c < 256) : fX1_priceOf (Int32.ofNat c) prices = some (prices c) := by
  unfold fX1_priceOf
  rw [if_neg (n_lt0 (by omega)), if_neg (fun h => by
    have := (n_le (a := 256) (by omega) (by omega)).mp h
    omega), n_rd hc (by omega), n_cl (by omega)]
theorem c_cheapest (hw : NW H n m ln pr wa) (hb : BV H n m ln pr wa sl hh cc rr li p w s) (hc : CV n pr wa lots dc) {no pg l us lo fi : Nat → Int32} {P K T : Int32} (hy : YOK H ln pr n (no, pg, l, us, lo, fi, P, K, T)) (p3 p4 : Int32) (fg vno vpg vl vus vlo vfi : Nat → Int32) (vP vK vT : Int32) (pb ch prices : Nat → Int32) (priced : Int32) (hp : PV H n m ln pr wa sl co prices priced) :
    ∃ f' a b c e g h i j k q r o z, fX1_cheapest p3 p4 lots fg dc vno vpg vl vus vlo vfi vP vK vT pb ch prices priced hh cc rr co li p w s no pg l us P = some (zob (zbst (fun c => decide (Int32.ofNat c &&& p3 = p4)) (fun c => zcost H n m ln pr wa sl co (Int32.ofNat c)) (2 ^ zct (zdfb pr wa) n)), f', a, b, c, e, g, h, i, j, k, q, r, o, z) ∧ ∀ c, c < 2 ^ zct (zdfb pr wa) n → o c = zcost H n m ln pr wa sl co (Int32.ofNat c) := by
  obtain ⟨w1, w2, w3, w4, w5, w6, w7⟩ := id hw
  obtain ⟨pw, pw1⟩ := n_pow2 w7
  have hc1 : dc = Int32.ofNat (zct (zdfb pr wa) n) := hc.1
  obtain ⟨f', a, b, c, e, g, h, i, j, k, q, r, o, z, h1, h2⟩ := c_priceAll hw hb hc hy fg vno vpg vl vus vlo vfi vP vK vT pb ch prices priced hp
  refine ⟨f', a, b, c, e, g, h, i, j, k, q, r, o, z, ?_, h2⟩
  unfold fX1_cheapest
  rw [h1, n_bind]
  have key := n_inv (fun f k' (x : Int32) => fX1_cheapest_L12 dc f' a b c e g h i j k q r o z p3 p4 f x (Int32.ofNat k')) (2 ^ zct (zdfb pr wa) n) (fun x => some (x, f', a, b, c, e, g, h, i, j, k, q, r, o, z))
    (fun k x => x = zob (zbst (fun c => decide (Int32.ofNat c &&& p3 = p4)) (fun c => zcost H n m ln pr wa sl co (Int32.ofNat c)) k))
    (fun f s' hs => by simp only [fX1_cheapest_L12, hc1, n_pow w7, Int32.le_refl, if_true])
    (fun f k x hk hs => by
      have hlt := fun b => zbst_lt (sel := fun c => decide (Int32.ofNat c &&& p3 = p4)) (cost := fun c => zcost H n m ln pr wa sl co (Int32.ofNat c)) k b
      rw [zbst_s]
      refine ⟨_, rfl, ?_⟩
      generalize hz : zbst (fun c => decide (Int32.ofNat c &&& p3 = p4)) (fun c => zcost H n m ln pr wa sl co (Int32.ofNat c)) k = z' at *
      subst hs hc1
      by_cases c1 : Int32.ofNat k &&& p3 = p4
      · rw [if_pos (decide_eq_true c1)]
        cases z' with
        | none =>
          simp (disch := omega) only [fX1_cheapest_L12, zob, zbp, n_pow w7, n_le, n_bind, n_let, n_s, c1, n_ltm1, show ¬ 2 ^ zct (zdfb pr wa) n ≤ k from by omega, if_false, if_true]
        | some b' =>
          have e3 := hlt b' rfl
          have e5 : Int32.ofNat b' < 0 ↔ False := ⟨fun h => n_lt0 (by omega) h, False.elim⟩
          have q1 := h2 k hk
          have q2 := h2 b' (by omega)
          have q3 : fX1_priceOf (Int32.ofNat k) o = some (o k) := c_priceOf (by omega)
          have q4 : fX1_priceOf (Int32.ofNat b') o = some (o b') := c_priceOf (by omega)
          by_cases c3 : zcost H n m ln pr wa sl co (Int32.ofNat k) < zcost H n m ln pr wa sl co (Int32.ofNat b')
          · have c4 : ¬ (zcost H n m ln pr wa sl co (Int32.ofNat b') ≤ zcost H n m ln pr wa sl co (Int32.ofNat k)) := Int32.not_le.mpr c3
            simp (disch := omega) only [fX1_cheapest_L12, zob, zbp, n_pow w7, n_le, n_bind, n_let, n_s, c1, e5, q3, q4, q1, q2, c3, c4, show ¬ 2 ^ zct (zdfb pr wa) n ≤ k from by omega, if_false, if_true]
          · have c4 : (zcost H n m ln pr wa sl co (Int32.ofNat b') ≤ zcost H n m ln pr wa sl co (Int32.ofNat k)) := Int32.not_lt.mp c3
            simp (disch := omega) only [fX1_cheapest_L12, zob, zbp, n_pow w7, n_le, n_bind, n_let, n_s, c1, e5, q3, q4, q1, q2, c3, c4, show ¬ 2 ^ zct (zdfb pr wa) n ≤ k from by omega, if_false, if_true]
      · rw [if_neg (by simpa using c1)]
        simp (disch := omega) only [fX1_cheapest_L12, n_pow w7, n_le, n_let, n_s, c1, show ¬ 2 ^ zct (zdfb pr wa) n ≤ k from by omega, if_false])
    (2 ^ zct (zdfb pr wa) n) 0 1024 (-1) (by omega) (by omega) rfl
  obtain ⟨x, k1, k2⟩ := key
  rw [← k1]
  exact k2
end ZCB
