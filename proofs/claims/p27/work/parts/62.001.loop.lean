/-! ===== the law's changes, one behind another ===== -/
theorem l_copy {n : Nat} {ln : Nat → Nat} {pr wa sl : Nat → Bool} {es se : Nat → Int32} {v : Nat → ZL} (hn : n ≤ 16) (h : VV n ln pr wa sl es se v) : fX6_copy n v = some () := by
  unfold fX6_copy
  refine n_as ⟨hn, ?_⟩
  rw [List.all_eq_true]
  intro i hi
  have hi' : i < n := List.mem_range.mp hi
  refine decide_eq_true ?_
  rw [h i hi']
  unfold fX7_copy fX7_init
  rw [n_bind, n_let, n_let, n_let, n_let, n_as (zbi_or _), n_let, n_as (zbi_or _), n_let, n_as (zbi_or _)]
theorem l_adds {n a : Nat} (hn : n ≤ 15) (ha : a ≤ n) (v : Nat → ZL) (x : ZL) : fX6_adds (Int32.ofNat a) n v x = some (n + 1, zins v a x) := by
  unfold fX6_adds
  rw [n_as ⟨n_lt0 (by omega), by rw [n_cl (by omega)]; exact ha, hn⟩, n_cl (by omega)]
theorem zbi_ne {b : Bool} (h : b = true) : ¬ zbi b = 0 := by rw [h]; decide
set_option maxHeartbeats 16000000 in
theorem law_loop {j : Int32 → Int32 → Int32 → Int32 → (Nat → Int32) → (Nat → Int32) → (Nat → Int32) → (Nat → Int32) → (Nat → Int32) → (Nat → Int32) → (Nat → Int32) → (Nat → TB) → Int32 → Int32 → (Nat → Int32) → (Nat → Int32) → (Nat → Int32) → (Nat → Int32) → (Nat → Int32) → (Nat → Int32) → Int32 → Int32 → Int32 → (Nat → Int32) → (Nat → Int32) → Int32 → (Nat → Int32) → (Nat → Int32) → (Nat → Int32) → (Nat → Int32) → (Nat → Int32) → (Nat → Int32) → Int32 → Int32 → Int32 → (Nat → Int32) → (Nat → Int32) → (Nat → Int32) → Int32 → Nat → (Nat → ZB) → Option Unit} {hh rr Bh Br : Int32}
    (hj : ∀ (dn : Nat) (old : Nat → ZB), dn ≤ 18 → ∀ {cc ac next kept P K T dc vP vK vT priced : Int32} {co li es se p w s no pg l us lo fi lots fg vno vpg vl vus vlo vfi pb ch prices : Nat → Int32} {past : Nat → TB} {acc : Int32} {bc : Nat → Int32} {nn : Nat} {vv : Nat → ZL}, SV (hh, cc, rr, ac, co, li, es, se, p, w, s) (Bh, Br, acc, bc, nn, vv) (no, pg, l, us, lo, fi, P, K, T) lots dc prices priced → HV past next kept old (if 8 < dn then 8 else dn) → j 1 (Int32.ofNat dn) cc ac co li es se p w s past next kept no pg l us lo fi P K T lots fg dc vno vpg vl vus vlo vfi vP vK vT pb ch prices priced dn old = some ()) :
    ∀ (m k f dn : Nat) (old : Nat → ZB) (cc ac next kept P K T dc vP vK vT priced : Int32) (co li es se p w s no pg l us lo fi lots fg vno vpg vl vus vlo vfi pb ch prices : Nat → Int32) (past : Nat → TB) (seed acc : Int32) (bc : Nat → Int32) (nn : Nat) (vv : Nat → ZL), k + m = 18 → m < f → dn ≤ k → SV (hh, cc, rr, ac, co, li, es, se, p, w, s) (Bh, Br, acc, bc, nn, vv) (no, pg, l, us, lo, fi, P, K, T) lots dc prices priced → HV past next kept old (if 8 < dn then 8 else dn) →
      fL_law_L259 j hh rr Bh Br f 1 (Int32.ofNat dn) (Int32.ofNat k) cc ac co li es se p w s past next kept no pg l us lo fi P K T lots fg dc vno vpg vl vus vlo vfi vP vK vT pb ch prices priced seed acc bc nn vv dn old = some ()
  | 0, k, f, dn, old, cc, ac, next, kept, P, K, T, dc, vP, vK, vT, priced, co, li, es, se, p, w, s, no, pg, l, us, lo, fi, lots, fg, vno, vpg, vl, vus, vlo, vfi, pb, ch, prices, past, seed, acc, bc, nn, vv, hk, hf, hd, hs, hv => by
    obtain ⟨f, rfl⟩ : ∃ g, f = g + 1 := ⟨f - 1, by omega⟩
    rw [fL_law_L259]
    refine w_pos ((n_le (a := 18) (by omega) (by omega)).mpr (by omega)) ?_
    exact hj dn old (by omega) hs hv
  | m + 1, k, f, dn, old, cc, ac, next, kept, P, K, T, dc, vP, vK, vT, priced, co, li, es, se, p, w, s, no, pg, l, us, lo, fi, lots, fg, vno, vpg, vl, vus, vlo, vfi, pb, ch, prices, past, seed, acc, bc, nn, vv, hk, hf, hd, hs, hv => by
    obtain ⟨f, rfl⟩ : ∃ g, f = g + 1 := ⟨f - 1, by omega⟩
    have nx := law_loop (j := j) (hh := hh) (rr := rr) (Bh := Bh) (Br := Br) hj m (k + 1) f
    have hs0 := hs
    obtain ⟨H, n, mm, ln, pr, wa, sl, hw, hnl, hb, hm, hy, hc, hp⟩ := hs
    have m5 : n = nn := hm.2.2.2.2.1.symm
    subst m5
    have hb : BV H n mm ln pr wa sl hh cc rr li p w s := hb
    have m1 : Bh = Int32.ofNat H := hm.1
    have m6 : VV n ln pr wa sl es se vv := hm.2.2.2.2.2
    have hn10 := hnl.1
    have hD4 := hnl.2
    have hn : n ≤ 16 := by omega
    have hdif := l_different hn m6
    obtain ⟨q, sd1, hq, e1⟩ := l_below (k := n + 1) (by omega) (by omega) seed
    obtain ⟨r2, sd2, hr2, e2⟩ := l_below (k := 8) (by omega) (by omega) sd1
    have e2 : fX8_below 8 sd1 = some (Int32.ofNat r2, sd2) := e2
    rw [fL_law_L259]
    refine w_neg (fun q => by have := (n_le (a := 18) (by omega) (by omega)).mp q; omega) ?_
    refine w_neg (by decide) ?_
    refine w_bind (l_copy hn m6) ?_
    refine w_letE (n_s n) ?_
    refine w_bind e1 ?_
    refine w_join (fun j => j (zbi (decide (q < n))) = some ()) ?_ (fun jI hI => ?_)
    · refine w_bind e2 ?_
      refine w_join (fun (J : Int32 → Int32 → Int32 → Int32 → (Nat → Int32) → (Nat → Int32) → (Nat → Int32) → (Nat → Int32) → (Nat → Int32) → (Nat → Int32) → (Nat → Int32) → (Nat → TB) → Int32 → Int32 → (Nat → Int32) → (Nat → Int32) → (Nat → Int32) → (Nat → Int32) → (Nat → Int32) → (Nat → Int32) → Int32 → Int32 → Int32 → (Nat → Int32) → (Nat → Int32) → Int32 → (Nat → Int32) → (Nat → Int32) → (Nat → Int32) → (Nat → Int32) → (Nat → Int32) → (Nat → Int32) → Int32 → Int32 → Int32 → (Nat → Int32) → (Nat → Int32) → (Nat → Int32) → Int32 → Int32 → (Nat → Int32) → Nat → (Nat → ZL) → Int32 → Option Unit) => (∀ {cc ac next kept P K T dc vP vK vT priced : Int32} {co li es se p w s no pg l us lo fi lots fg vno vpg vl vus vlo vfi pb ch prices : Nat → Int32} {past : Nat → TB} {acc : Int32} {bc : Nat → Int32} {nn : Nat} {vv : Nat → ZL} (seed : Int32), SV (hh, cc, rr, ac, co, li, es, se, p, w, s) (Bh, Br, acc, bc, nn, vv) (no, pg, l, us, lo, fi, P, K, T) lots dc prices priced → HV past next kept old (if 8 < dn then 8 else dn) → J 1 0 cc ac co li es se p w s past next kept no pg l us lo fi P K T lots fg dc vno vpg vl vus vlo vfi vP vK vT pb ch prices priced acc bc nn vv seed = some ()) ∧ ∀ {cc ac next kept P K T dc vP vK vT priced : Int32} {co li es se p w s no pg l us lo fi lots fg vno vpg vl vus vlo vfi pb ch prices : Nat → Int32} {past : Nat → TB} {acc' : Int32} {bc' : Nat → Int32} {nn' : Nat} {vv' : Nat → ZL} (seed : Int32), SV (hh, cc, rr, ac, co, li, es, se, p, w, s) (Bh, Br, acc', bc', nn', vv') (no, pg, l, us, lo, fi, P, K, T) lots dc prices priced → HV past next kept (zcons (Bh, Br, acc, bc, n, vv) old) (if 8 < (if 8 < dn then 8 else dn) + 1 then 8 else (if 8 < dn then 8 else dn) + 1) → J 1 1 cc ac co li es se p w s past next kept no pg l us lo fi P K T lots fg dc vno vpg vl vus vlo vfi vP vK vT pb ch prices priced acc' bc' nn' vv' seed = some ()) ⟨?_, ?_⟩ (fun J hJ => ?_)
      · intro cc ac next kept P K T dc vP vK vT priced co li es se p w s no pg l us lo fi lots fg vno vpg vl vus vlo vfi pb ch prices past acc bc nn vv seed hs hv
        refine w_join (fun (j : Int32 → Nat → (Nat → ZB) → Option Unit) => j (Int32.ofNat dn) dn old = some ()) ?_ (fun jN hN => ?_)
        · refine w_neg (by decide) ?_
          obtain ⟨v1, v2, v3, v4, v5, v6, v7, v8, v9, v10, v11, v12, o, z, a1, a2⟩ := l_agrees hs fg vno vpg vl vus vlo vfi vP vK vT pb ch
          refine w_bind a1 ?_
          refine w_neg (by decide) ?_
          refine w_letE (n_s k) ?_
          exact nx dn old cc ac next kept P K T dc v8 v9 v10 z co li es se p w s no pg l us lo fi lots v1 v2 v3 v4 v5 v6 v7 v11 v12 o past seed acc bc nn vv (by omega) (by omega) (by omega) a2 hv
        · exact w_pos rfl hN
      · intro cc ac next kept P K T dc vP vK vT priced co li es se p w s no pg l us lo fi lots fg vno vpg vl vus vlo vfi pb ch prices past acc' bc' nn' vv' seed hs hv
        have hv : HV past next kept (zcons (Bh, Br, acc, bc, n, vv) old) (if 8 < (dn + 1) then 8 else (dn + 1)) := by
          have e : (if 8 < (if 8 < dn then 8 else dn) + 1 then 8 else (if 8 < dn then 8 else dn) + 1) = (if 8 < (dn + 1) then 8 else (dn + 1)) := by split <;> split <;> (try split) <;> omega
          rw [e] at hv
          exact hv
        refine w_join (fun (j : Int32 → Nat → (Nat → ZB) → Option Unit) => j (Int32.ofNat (dn + 1)) (dn + 1) (zcons (Bh, Br, acc, bc, n, vv) old) = some ()) ?_ (fun jN hN => ?_)
        · refine w_neg (by decide) ?_
          obtain ⟨v1, v2, v3, v4, v5, v6, v7, v8, v9, v10, v11, v12, o, z, a1, a2⟩ := l_agrees hs fg vno vpg vl vus vlo vfi vP vK vT pb ch
          refine w_bind a1 ?_
          refine w_neg (by decide) ?_
          refine w_letE (n_s k) ?_
          exact nx (dn + 1) (zcons (Bh, Br, acc, bc, n, vv) old) cc ac next kept P K T dc v8 v9 v10 z co li es se p w s no pg l us lo fi lots v1 v2 v3 v4 v5 v6 v7 v11 v12 o past seed acc' bc' nn' vv' (by omega) (by omega) (by omega) a2 hv
        · refine w_neg (by decide) ?_
          refine w_letE (n_s dn) ?_
          exact hN
      obtain ⟨JA, JB⟩ := hJ
      refine w_join (fun j => j = some ()) ?_ (fun jCa hCa => ?_)
      · refine w_bind hdif ?_
        obtain ⟨D, hD⟩ : ∃ D, D = zct (zdfb pr wa) n := ⟨_, rfl⟩
        have hpw := n_pow (D := D) (by omega)
        have hp2 := n_pow2 (D := D) (by omega)
        obtain ⟨c, sd3, hcl, e3⟩ := l_below (k := 2 ^ D + 1) (by omega) (by omega) sd2
        rw [← hD]
        refine w_letE (show ((1 : Int32) <<< (Int32.ofNat D &&& 31)) + 1 = Int32.ofNat (2 ^ D + 1) from by rw [hpw, n_s]) ?_
        refine w_bind e3 ?_
        refine w_bind (hdif.trans (by rw [← hD])) ?_
        refine w_join (fun j => j (zbi (decide (c < 2 ^ D))) = some ()) ?_ (fun jX hX => ?_)
        · by_cases hcD : c < 2 ^ D
          · rw [decide_eq_true hcD]
            obtain ⟨ac', p', s', past', next', kept', no', pg', l', us', lo', fi', P', K', T', lots', fg', dc', v1, v2, v3, v4, v5, v6, v7, v8, v9, pb', ch', V', u1, u2, u3, u4, -⟩ := h_carryOk (B := (Bh, Br, acc, bc, n, vv)) hw hnl hb hm hy hc hv (k := c) (by rw [← hD]; exact hcD) fg vno vpg vl vus vlo vfi vP vK vT pb ch priced prices
            refine w_bind u1 ?_
            refine w_join (fun (j : Int32 → Int32 → (Nat → ZL) → Option Unit) => j (zcost H n mm ln pr wa sl co (Int32.ofNat c)) ac' V' = some ()) ?_ (fun jR hR => ?_)
            · exact w_pos rfl (JB sd3 u3 u4)
            · exact w_neg (by decide) (w_bind u2 hR)
          · rw [decide_eq_false hcD]
            have hce : c = 2 ^ D := by omega
            rw [hce, hD]
            refine w_bind (h_carryX hw hc past next kept no pg l us lo fi fg vno vpg vl vus vlo vfi pb ch P K T vP vK vT priced) ?_
            refine w_join (fun (j : Int32 → Int32 → (Nat → ZL) → Option Unit) => j (-2000000098) acc vv = some ()) ?_ (fun jR hR => ?_)
            · exact w_pos rfl (JA sd3 hs0 hv)
            · exact w_pos rfl hR
        · rw [hpw]
          by_cases hcD : c < 2 ^ D
          · rw [decide_eq_true hcD] at hX
            exact w_neg (fun h => by have := (n_le (by omega) (by omega)).mp h; omega) hX
          · rw [decide_eq_false hcD] at hX
            exact w_pos ((n_le (by omega) (by omega)).mpr (by omega)) hX
      refine w_join (fun j => j = some ()) ?_ (fun jW hW => ?_)
      · refine w_join (fun j => j (zbi (decide (q < n) && pr q)) = some ()) ?_ (fun jM hM => ?_)
        · refine w_join (fun j => j (zbi (decide (q < n) && wa q && (!(decide (q < n) && pr q) || decide (zct (zdfb pr wa) n < 4)))) = some ()) ?_ (fun jC hC => ?_)
          · refine w_join (fun j => (¬ (q < n ∧ (decide (q < n) && pr q) = true ∧ ¬ zct (zdfb pr wa) n < 4)) → j = some ()) (fun hbr => ?_) (fun jB hB => ?_)
            · cases hch : (decide (q < n) && wa q && (!(decide (q < n) && pr q) || decide (zct (zdfb pr wa) n < 4)))
              · refine w_join (fun j => j vv = some ()) ?_ (fun jV hV => w_pos rfl hV)
                by_cases hqn : q < n
                · have hwa : wa q = false := by
                    cases hwa : wa q
                    · rfl
                    · exfalso; refine hbr ⟨hqn, ?_, fun h4 => ?_⟩ <;> (cases hpr : pr q <;> simp [hqn, hwa, hpr] at hch ⊢) <;> omega
                  refine w_bind (h_withdrawX hw hb hqn hwa past next kept no pg l us lo fi P K T priced) ?_
                  refine w_join (fun j => j (-2000000099) = some ()) ?_ (fun jR hR => ?_)
                  · exact w_pos rfl (JA sd2 hs0 hv)
                  · exact w_pos rfl (w_neg (by rw [decide_eq_true hqn]; decide) hR)
                · have hqe : q = n := by omega
                  rw [hqe]
                  refine w_bind (h_withdrawN hw hb past next kept no pg l us lo fi P K T priced) ?_
                  refine w_join (fun j => j (-2000000097) = some ()) ?_ (fun jR hR => ?_)
                  · exact w_pos rfl (JA sd2 hs0 hv)
                  · exact w_pos rfl (w_pos (by rw [decide_eq_false (Nat.lt_irrefl n)]; rfl) hR)
              · have hqn : q < n := by
                  by_cases hqn : q < n
                  · exact hqn
                  · simp [hqn] at hch
                have hwa : wa q = true := by
                  cases hwa : wa q
                  · simp [hwa] at hch
                  · rfl
                have hd : zdfb pr wa q = true ∨ zct (zdfb pr wa) n < 4 := by
                  unfold zdfb
                  rw [hwa]
                  cases hpr : pr q <;> simp [hqn, hwa, hpr] at hch ⊢
                  exact hch
                have hvq := m6 q hqn
                have hV := vv_turn m6 hqn
                rw [show (zbi (!wa q)) = (0 : Int32) from by rw [hwa]; rfl] at hV
                refine w_join (fun j => ∀ V', VV n ln pr (zwa wa q) (zsl0 sl q) es se V' → j V' = some ()) (fun V' hV' => ?_) (fun jV hjV => ?_)
                · obtain ⟨w', s', past', next', kept', no', pg', l', us', lo', fi', P', K', T', lots', dc', t1, t2, t3⟩ := h_withdraw hw hnl hb hm hc hv hqn hwa hd hV' no pg l us lo fi P K T priced prices
                  refine w_bind t1 ?_
                  refine w_join (fun j => j dc' = some ()) ?_ (fun jR hR => ?_)
                  · exact w_pos rfl (JB sd2 t2 t3)
                  · exact w_neg (by decide) (w_bind (sv_diff t2) hR)
                · refine w_neg (by decide) (w_rd rfl hqn (by omega) (w_let (w_rd rfl hqn (by omega) (w_let ?_))))
                  rw [n_cl (show q < 2147483648 by omega)]
                  exact hjV _ hV
            · by_cases hqn : q < n
              · refine w_neg (by rw [decide_eq_true hqn]; decide) ?_
                cases hmo : (decide (q < n) && pr q)
                · exact w_pos rfl (hB (fun h => by rw [hmo] at h; exact absurd h.2.1 (by decide)))
                · refine w_neg (by decide) (w_bind hdif ?_)
                  by_cases h4 : zct (zdfb pr wa) n < 4
                  · exact w_pos ((n_lt (b := 4) (by omega) (by omega)).mpr h4) (hB (fun h => h.2.2 h4))
                  · have hch : (decide (q < n) && wa q && (!true || decide (zct (zdfb pr wa) n < 4))) = false := by simp [h4]
                    refine w_neg (fun h => h4 ((n_lt (b := 4) (by omega) (by omega)).mp h)) ?_
                    have e9 := JA (acc := acc) (bc := bc) (nn := n) (vv := vv) (fg := fg) (vno := vno) (vpg := vpg) (vl := vl) (vus := vus) (vlo := vlo) (vfi := vfi) (vP := vP) (vK := vK) (vT := vT) (pb := pb) (ch := ch) sd2 hs0 hv
                    rw [hch]
                    exact e9
              · exact w_pos (by rw [decide_eq_false hqn]; rfl) (hB (fun h => hqn h.1))
          · by_cases hqn : q < n
            · refine w_neg (by rw [decide_eq_true hqn]; decide) (w_rd rfl hqn (by omega) ?_)
              rw [n_cl (show q < 2147483648 by omega), m6 q hqn]
              cases hwa : wa q
              · refine w_pos rfl ?_
                rw [hwa, Bool.and_false, Bool.false_and] at hC
                exact hC
              · refine w_neg (show ¬ (1 : Int32) = 0 from by decide) ?_
                cases hmo : (decide (q < n) && pr q)
                · refine w_pos rfl ?_
                  rw [hwa, hmo, decide_eq_true hqn] at hC
                  exact hC
                · refine w_neg (by decide) (w_bind hdif ?_)
                  rw [hwa, hmo, decide_eq_true hqn] at hC
                  by_cases h4 : zct (zdfb pr wa) n < 4
                  · rw [decide_eq_true h4] at hC
                    exact w_neg (fun h => by have := (n_le (a := 4) (by omega) (by omega)).mp h; omega) hC
                  · rw [decide_eq_false h4] at hC
                    exact w_pos ((n_le (a := 4) (by omega) (by omega)).mpr (by omega)) hC
            · refine w_pos (by rw [decide_eq_false hqn]; rfl) ?_
              rw [decide_eq_false hqn, Bool.false_and, Bool.false_and] at hC
              exact hC
        · by_cases hqn : q < n
          · refine w_neg (by rw [decide_eq_true hqn]; decide) (w_rd rfl hqn (by omega) ?_)
            rw [n_cl (show q < 2147483648 by omega), m6 q hqn]
            rw [decide_eq_true hqn, Bool.true_and] at hM
            cases hpr : pr q
            · rw [hpr] at hM
              exact w_pos rfl hM
            · rw [hpr] at hM
              exact w_neg (show ¬ (1 : Int32) = 0 from by decide) hM
          · refine w_pos (by rw [decide_eq_false hqn]; rfl) ?_
            rw [decide_eq_false hqn, Bool.false_and] at hM
            exact hM
      have hc8 := n_8 hr2
      rcases hc8 with rfl | rfl | rfl | rfl | rfl | rfl | rfl | rfl
      · exact w_pos rfl hW
      · exact w_neg (by decide) (w_pos rfl hW)
      · refine w_neg (by decide) (w_neg (by decide) (w_pos rfl ?_))
        refine w_join (fun j => j (zbi (decide (q < n) && (!pr q))) = some ()) ?_ (fun jM hM => ?_)
        · refine w_join (fun j => j (zbi (decide (q < n) && (!wa q) && (!(decide (q < n) && (!pr q)) || decide (zct (zdfb pr wa) n < 4)))) = some ()) ?_ (fun jC hC => ?_)
          · refine w_join (fun j => (¬ (q < n ∧ (decide (q < n) && (!pr q)) = true ∧ ¬ zct (zdfb pr wa) n < 4)) → j = some ()) (fun hbr => ?_) (fun jB hB => ?_)
            · cases hch : (decide (q < n) && (!wa q) && (!(decide (q < n) && (!pr q)) || decide (zct (zdfb pr wa) n < 4)))
              · refine w_join (fun j => j vv = some ()) ?_ (fun jV hV => w_pos rfl hV)
                by_cases hqn : q < n
                · have hwa : wa q = true := by
                    cases hwa : wa q
                    · exfalso; refine hbr ⟨hqn, ?_, fun h4 => ?_⟩ <;> (cases hpr : pr q <;> simp [hqn, hwa, hpr] at hch ⊢) <;> omega
                    · rfl
                  refine w_bind (h_restoreX hw hb hqn hwa past next kept no pg l us lo fi P K T priced) ?_
                  refine w_join (fun j => j (-2000000099) = some ()) ?_ (fun jR hR => ?_)
                  · exact w_pos rfl (JA sd2 hs0 hv)
                  · exact w_pos rfl (w_neg (by rw [decide_eq_true hqn]; decide) hR)
                · have hqe : q = n := by omega
                  rw [hqe]
                  refine w_bind (h_restoreN hw hb past next kept no pg l us lo fi P K T priced) ?_
                  refine w_join (fun j => j (-2000000097) = some ()) ?_ (fun jR hR => ?_)
                  · exact w_pos rfl (JA sd2 hs0 hv)
                  · exact w_pos rfl (w_pos (by rw [decide_eq_false (Nat.lt_irrefl n)]; rfl) hR)
              · have hqn : q < n := by
                  by_cases hqn : q < n
                  · exact hqn
                  · simp [hqn] at hch
                have hwa : wa q = false := by
                  cases hwa : wa q
                  · rfl
                  · simp [hwa] at hch
                have hd : zdfb pr wa q = true ∨ zct (zdfb pr wa) n < 4 := by
                  unfold zdfb
                  rw [hwa]
                  cases hpr : pr q <;> simp [hqn, hwa, hpr] at hch ⊢
                  exact hch
                have hvq := m6 q hqn
                have hV := vv_turn m6 hqn
                rw [show (zbi (!wa q)) = (1 : Int32) from by rw [hwa]; rfl] at hV
                refine w_join (fun j => ∀ V', VV n ln pr (zwa wa q) (zsl0 sl q) es se V' → j V' = some ()) (fun V' hV' => ?_) (fun jV hjV => ?_)
                · obtain ⟨w', s', past', next', kept', no', pg', l', us', lo', fi', P', K', T', lots', dc', t1, t2, t3⟩ := h_restore hw hnl hb hm hc hv hqn hwa hd hV' no pg l us lo fi P K T priced prices
                  refine w_bind t1 ?_
                  refine w_join (fun j => j dc' = some ()) ?_ (fun jR hR => ?_)
                  · exact w_pos rfl (JB sd2 t2 t3)
                  · exact w_neg (by decide) (w_bind (sv_diff t2) hR)
                · refine w_neg (by decide) (w_rd rfl hqn (by omega) (w_let (w_rd rfl hqn (by omega) (w_let ?_))))
                  rw [n_cl (show q < 2147483648 by omega)]
                  exact hjV _ hV
            · by_cases hqn : q < n
              · refine w_neg (by rw [decide_eq_true hqn]; decide) ?_
                cases hmo : (decide (q < n) && (!pr q))
                · exact w_pos rfl (hB (fun h => by rw [hmo] at h; exact absurd h.2.1 (by decide)))
                · refine w_neg (by decide) (w_bind hdif ?_)
                  by_cases h4 : zct (zdfb pr wa) n < 4
                  · exact w_pos ((n_lt (b := 4) (by omega) (by omega)).mpr h4) (hB (fun h => h.2.2 h4))
                  · have hch : (decide (q < n) && (!wa q) && (!true || decide (zct (zdfb pr wa) n < 4))) = false := by simp [h4]
                    refine w_neg (fun h => h4 ((n_lt (b := 4) (by omega) (by omega)).mp h)) ?_
                    have e9 := JA (acc := acc) (bc := bc) (nn := n) (vv := vv) (fg := fg) (vno := vno) (vpg := vpg) (vl := vl) (vus := vus) (vlo := vlo) (vfi := vfi) (vP := vP) (vK := vK) (vT := vT) (pb := pb) (ch := ch) sd2 hs0 hv
                    rw [hch]
                    exact e9
              · exact w_pos (by rw [decide_eq_false hqn]; rfl) (hB (fun h => hqn h.1))
          · by_cases hqn : q < n
            · refine w_neg (by rw [decide_eq_true hqn]; decide) (w_rd rfl hqn (by omega) ?_)
              rw [n_cl (show q < 2147483648 by omega), m6 q hqn]
              cases hwa : wa q
              · refine w_pos rfl ?_
                cases hmo : (decide (q < n) && (!pr q))
                · refine w_pos rfl ?_
                  rw [hwa, hmo, decide_eq_true hqn] at hC
                  exact hC
                · refine w_neg (by decide) (w_bind hdif ?_)
                  rw [hwa, hmo, decide_eq_true hqn] at hC
                  by_cases h4 : zct (zdfb pr wa) n < 4
                  · rw [decide_eq_true h4] at hC
                    exact w_neg (fun h => by have := (n_le (a := 4) (by omega) (by omega)).mp h; omega) hC
                  · rw [decide_eq_false h4] at hC
                    exact w_pos ((n_le (a := 4) (by omega) (by omega)).mpr (by omega)) hC
              · refine w_neg (show ¬ (1 : Int32) = 0 from by decide) ?_
                rw [hwa, Bool.not_true, Bool.and_false, Bool.false_and] at hC
                exact hC
            · refine w_pos (by rw [decide_eq_false hqn]; rfl) ?_
              rw [decide_eq_false hqn, Bool.false_and, Bool.false_and] at hC
              exact hC
        · by_cases hqn : q < n
          · refine w_neg (by rw [decide_eq_true hqn]; decide) (w_rd rfl hqn (by omega) ?_)
            rw [n_cl (show q < 2147483648 by omega), m6 q hqn]
            rw [decide_eq_true hqn, Bool.true_and] at hM
            cases hpr : pr q
            · rw [hpr] at hM
              exact w_pos rfl hM
            · rw [hpr] at hM
              exact w_neg (show ¬ (1 : Int32) = 0 from by decide) hM
          · refine w_pos (by rw [decide_eq_false hqn]; rfl) ?_
            rw [decide_eq_false hqn, Bool.false_and] at hM
            exact hM
      · refine w_neg (by decide) (w_neg (by decide) (w_neg (by decide) (w_pos rfl ?_)))
        refine w_bind (show fX7_init = some () from rfl) ?_
        obtain ⟨y1, sd3, hy1, e3⟩ := l_below (k := 5) (by omega) (by omega) sd2
        obtain ⟨y2, sd4, hy2, e4⟩ := l_below (k := 60) (by omega) (by omega) sd3
        obtain ⟨y3, sd5, hy3, e5⟩ := l_below (k := 3) (by omega) (by omega) sd4
        have e3 : fX8_below 5 sd2 = some (Int32.ofNat y1, sd3) := e3
        have e4 : fX8_below 60 sd3 = some (Int32.ofNat y2, sd4) := e4
        have e5 : fX8_below 3 sd4 = some (Int32.ofNat y3, sd5) := e5
        refine w_bind e3 ?_
        refine w_letE (show (1 : Int32) + Int32.ofNat y1 = Int32.ofNat (y1 + 1) from by rw [Int32.add_comm, n_s]) ?_
        refine w_bind e4 ?_
        refine w_bind e5 ?_
        have h40 := hw.2.1
        have h4 := hw.1
        have hle : ∀ {a b : Option Unit} {r}, (H < y1 + 1 → a = r) → (¬ H < y1 + 1 → b = r) → (if Bh < Int32.ofNat (y1 + 1) then a else b) = r := fun ha hb => by
          rw [m1]
          by_cases hh : H < y1 + 1
          · exact w_pos ((n_lt (by omega) (by omega)).mpr hh) (ha hh)
          · exact w_neg (fun q => hh ((n_lt (by omega) (by omega)).mp q)) (hb hh)
        refine w_join (fun j => j (zbi (decide (y1 + 1 ≤ H) && decide (n < 10) && decide (zct (zdfb pr wa) n < 4))) = some ()) ?_ (fun jC hC => ?_)
        · refine w_join (fun j => ¬ ((decide (y1 + 1 ≤ H) && decide (n < 10) && decide (zct (zdfb pr wa) n < 4)) = false ∧ y1 + 1 ≤ H) → j = some ()) (fun hbr => ?_) (fun jB hB => ?_)
          · cases hch : (decide (y1 + 1 ≤ H) && decide (n < 10) && decide (zct (zdfb pr wa) n < 4))
            · have hH : H < y1 + 1 := Nat.not_le.mp fun h => hbr ⟨hch, h⟩
              refine w_pos rfl ?_
              refine w_bind (h_addX hw hb (show q ≤ n by omega) (by omega) (Or.inl hH) (Int32.ofNat y2) (Int32.ofNat y3) past next kept no pg l us lo fi P K T priced) ?_
              refine w_join (fun j => j (-2000000098) = some ()) ?_ (fun jR hR => ?_)
              · exact w_pos rfl (JA sd5 hs0 hv)
              · exact w_pos rfl hR
            · simp only [Bool.and_eq_true, decide_eq_true_eq] at hch
              obtain ⟨⟨c1, c2⟩, c3⟩ := hch
              have hadd := l_adds (show n ≤ 15 by omega) (show q ≤ n by omega) vv (Int32.ofNat (y1 + 1), Int32.ofNat y2, Int32.ofNat y3, 0, 1, 0)
              have hqq : zins vv q ((Int32.ofNat (y1 + 1), Int32.ofNat y2, Int32.ofNat y3, 0, 1, 0) : ZL) q = (Int32.ofNat (y1 + 1), Int32.ofNat y2, Int32.ofNat y3, 0, 1, 0) := by
                unfold zins
                rw [if_neg (Nat.lt_irrefl _), if_pos rfl]
              refine w_neg (by decide) ?_
              refine w_bind hadd ?_
              refine w_let ?_
              rw [n_cl (show q < 2147483648 by omega), hqq]
              obtain ⟨li', es', se', p', w', s', past', next', kept', no', pg', l', us', lo', fi', P', K', T', lots', dc', t1, t2, t3, -⟩ := h_add hw hnl hb hm hc hv c2 c3 (show q ≤ n by omega) (show 1 ≤ y1 + 1 ∧ y1 + 1 ≤ 9 ∧ y1 + 1 ≤ H by omega) (show y2 ≤ 9999 by omega) (show y3 ≤ 9 by omega) no pg l us lo fi P K T priced prices
              refine w_bind t1 ?_
              refine w_join (fun j => j (Int32.ofNat (n + 1)) = some ()) ?_ (fun jR hR => ?_)
              · exact w_pos rfl (JB sd5 t2 t3)
              · exact w_neg (by decide) hR
          · cases hch : (decide (y1 + 1 ≤ H) && decide (n < 10) && decide (zct (zdfb pr wa) n < 4))
            · refine w_pos rfl (hle (fun hH => hB (fun h => by omega)) (fun hH => JA sd5 hs0 hv))
            · exact w_neg (by decide) (hB (fun h => by rw [hch] at h; exact absurd h.1 (by decide)))
        · refine hle (fun hH => ?_) (fun hH => ?_)
          · rw [decide_eq_false (show ¬ y1 + 1 ≤ H by omega)] at hC
            exact hC
          · rw [decide_eq_true (show y1 + 1 ≤ H by omega)] at hC
            by_cases c2 : n < 10
            · rw [decide_eq_true c2] at hC
              refine w_neg (fun h => by have := (n_le (a := 10) (by omega) (by omega)).mp h; omega) (w_bind hdif ?_)
              by_cases c3 : zct (zdfb pr wa) n < 4
              · rw [decide_eq_true c3] at hC
                exact w_neg (fun h => by have := (n_le (a := 4) (by omega) (by omega)).mp h; omega) hC
              · rw [decide_eq_false c3] at hC
                exact w_pos ((n_le (a := 4) (by omega) (by omega)).mpr (by omega)) hC
            · rw [decide_eq_false c2] at hC
              exact w_pos ((n_le (a := 10) (by omega) (by omega)).mpr (by omega)) hC
      · exact w_neg (by decide) (w_neg (by decide) (w_neg (by decide) (w_neg (by decide) (w_pos rfl hCa))))
      · exact w_neg (by decide) (w_neg (by decide) (w_neg (by decide) (w_neg (by decide) (w_neg (by decide) (w_pos rfl hCa)))))
      · refine w_neg (by decide) (w_neg (by decide) (w_neg (by decide) (w_neg (by decide) (w_neg (by decide) (w_neg (by decide) (w_pos rfl ?_))))))
        obtain ⟨c, ac', p', s', past', next', kept', no', pg', l', us', lo', fi', P', K', T', lots', fg', dc', v1, v2, v3, v4, v5, v6, v7, v8, v9, pb', ch', o, V', u1, u2, u3, u4, u5, -⟩ := h_press (B := (Bh, Br, acc, bc, n, vv)) hw hnl hb hm hy hc hp hv fg vno vpg vl vus vlo vfi vP vK vT pb ch
        refine w_bind u1 ?_
        refine w_bind u2 ?_
        refine w_bind u3 ?_
        exact w_pos rfl (JB sd2 u4 u5)
      · refine w_neg (by decide) (w_neg (by decide) (w_neg (by decide) (w_neg (by decide) (w_neg (by decide) (w_neg (by decide) (w_neg (by decide) ?_))))))
        obtain ⟨y1, sd3, hy1, e3⟩ := l_below (k := 6) (by omega) (by omega) sd2
        obtain ⟨y2, sd4, hy2, e4⟩ := l_below (k := 30) (by omega) (by omega) sd3
        have e3 : fX8_below 6 sd2 = some (Int32.ofNat y1, sd3) := e3
        have e4 : fX8_below 30 sd3 = some (Int32.ofNat y2, sd4) := e4
        refine w_bind e3 ?_
        refine w_bind e4 ?_
        by_cases hj5 : y1 < 5
        · obtain ⟨past', next', kept', no', pg', l', us', lo', fi', P', K', T', lots', dc', t1, t2, t3⟩ := h_setCost hs0 hv hj5 (show y2 ≤ 99 by omega)
          refine w_join (fun j => j 1 = some ()) ?_ (fun jC hC => w_neg (fun h => by have := (n_le (a := 5) (by omega) (by omega)).mp h; omega) hC)
          refine w_join (fun j => j (bc y1) = some ()) ?_ (fun jC hC => w_neg (by decide) (w_rd rfl hj5 (by omega) (by rw [n_cl (show y1 < 2147483648 by omega)]; exact hC)))
          refine w_join (fun j => j (upd bc y1 (Int32.ofNat y2)) = some ()) ?_ (fun jC hC => w_neg (by decide) (w_rd rfl hj5 (by omega) (by rw [n_cl (show y1 < 2147483648 by omega)]; exact hC)))
          refine w_bind t1 ?_
          refine w_join (fun j => j (bc y1) = some ()) ?_ (fun jR hR => w_neg (by decide) hR)
          exact w_pos rfl (JB sd4 t2 t3)
        · have hy5 : y1 = 5 := by omega
          subst hy5
          refine w_join (fun j => j 0 = some ()) ?_ (fun jC hC => w_pos (by decide) hC)
          refine w_join (fun j => j 0 = some ()) ?_ (fun jC hC => w_pos rfl hC)
          refine w_join (fun j => j bc = some ()) ?_ (fun jC hC => w_pos rfl hC)
          have t1 : fL_setCost (Int32.ofNat 5) (Int32.ofNat y2) hh cc rr ac co li es se p w s past next kept no pg l us lo fi P K T lots dc priced = some (-2000000098, co, past, next, kept, no, pg, l, us, lo, fi, P, K, T, lots, dc, priced) := by
            unfold fL_setCost fX5_setCost
            rw [if_neg (by decide), if_pos (by decide)]
            rfl
          refine w_bind t1 ?_
          refine w_join (fun j => j (-2000000098) = some ()) ?_ (fun jR hR => w_pos rfl hR)
          exact w_pos rfl (JA sd4 hs0 hv)
    · by_cases hqn : q < n
      · rw [decide_eq_true hqn] at hI
        exact w_neg (fun h => by have := (n_le (by omega) (by omega)).mp h; omega) hI
      · rw [decide_eq_false hqn] at hI
        exact w_pos ((n_le (by omega) (by omega)).mpr (by omega)) hI
