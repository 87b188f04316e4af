/-! ===== walking a printed function ===== -/
theorem w_bind {α β : Type} {x : Option α} {a : α} {f : α → Option β} {r : Option β} (h : x = some a) (k : f a = r) : o_bind x f = r := by subst h; exact k
theorem w_let {α β : Type} {a : α} {f : α → β} {r : β} (k : f a = r) : o_let a f = r := k
theorem w_letE {α β : Type} {a b : α} {f : α → β} {r : β} (e : a = b) (k : f b = r) : o_let a f = r := by subst e; exact k
theorem w_join {α β : Type} {a : α} {f : α → β} {r : β} (Q : α → Prop) (ha : Q a) (k : ∀ x, Q x → f x = r) : o_let a f = r := k a ha
theorem w_pos {β : Type} {c : Prop} {ic : Decidable c} {a b r : β} (h : c) (k : a = r) : (@ite β c ic a b) = r := by rw [if_pos h]; exact k
theorem w_neg {β : Type} {c : Prop} {ic : Decidable c} {a b r : β} (h : ¬ c) (k : b = r) : (@ite β c ic a b) = r := by rw [if_neg h]; exact k
theorem w_as {β : Type} {c : Prop} {ic : Decidable c} {a r : Option β} (h : c) (k : a = r) : @o_as β c ic a = r := by rw [n_as h]; exact k
theorem w_rd {β : Type} {n j : Nat} {i : Int32} {a r : Option β} (e : i = Int32.ofNat j) (hj : j < n) (hn : n < 2147483648) (k : a = r) : o_rd n i a = r := by rw [e, n_rd hj hn]; exact k
/-- a random number below a bound -/
theorem l_below {k : Nat} (h1 : 1 ≤ k) (h2 : k < 32768) (sd : Int32) : ∃ (q : Nat) (sd' : Int32), q < k ∧ fX8_below (Int32.ofNat k) sd = some (Int32.ofNat q, sd') := by
  have hk0 : ¬ Int32.ofNat k = 0 := fun e => by
    have := (n_eq0 (by omega)).mp e
    omega
  have e16 : ((16 : Int32).toUInt32 &&& Int32.toUInt32 31) = 16 := by decide
  have hu : ∀ x : UInt32, ∃ a : Nat, a < 65536 ∧ (x >>> 16).toInt32 = Int32.ofNat a := fun x => by
    refine ⟨(x >>> 16).toNat, ?_, ?_⟩
    · have h := x.toNat_lt
      rw [UInt32.toNat_shiftRight]
      show x.toNat >>> 16 < 65536
      rw [Nat.shiftRight_eq_div_pow]
      omega
    · apply Int32.toBitVec_inj.mp
      apply BitVec.eq_of_toNat_eq
      show (x >>> 16).toBitVec.toNat = (BitVec.ofNat 32 (x >>> 16).toNat).toNat
      rw [BitVec.toNat_ofNat]
      exact (Nat.mod_eq_of_lt (x >>> 16).toNat_lt).symm
  obtain ⟨a, a1, a2⟩ := hu ((((1103515245 : Int32) * sd) + (12345 : Int32)).toUInt32)
  refine ⟨a % k, ((1103515245 : Int32) * sd) + (12345 : Int32), Nat.mod_lt _ (by omega), ?_⟩
  unfold fX8_below
  rw [n_let, n_as hk0, e16, a2, n_mod (by omega) (by omega)]
  rfl
/-- the bills brought back, one behind another -/
theorem law_undo {j : Int32 → Int32 → Int32 → Int32 → Int32 → (Nat → Int32) → (Nat → Int32) → (Nat → Int32) → (Nat → Int32) → (Nat → Int32) → (Nat → Int32) → (Nat → Int32) → Int32 → Int32 → (Nat → Int32) → (Nat → Int32) → (Nat → Int32) → (Nat → Int32) → (Nat → Int32) → (Nat → Int32) → Int32 → Int32 → Int32 → (Nat → Int32) → (Nat → Int32) → Int32 → (Nat → Int32) → (Nat → Int32) → (Nat → Int32) → (Nat → Int32) → (Nat → Int32) → (Nat → Int32) → Int32 → Int32 → Int32 → (Nat → Int32) → (Nat → Int32) → (Nat → Int32) → Int32 → Option Unit} {past : Nat → TB} {dn : Nat} {old : Nat → ZB} (hdn : dn ≤ 18)
    (hj : ∀ {hh cc rr ac next kept P K T dc vP vK vT priced : Int32} {co li es se p w s no pg l us lo fi lots fg vno vpg vl vus vlo vfi pb ch prices : Nat → Int32} {B : ZB}, SV (hh, cc, rr, ac, co, li, es, se, p, w, s) B (no, pg, l, us, lo, fi, P, K, T) lots dc prices priced → HV past next kept old 0 → j 1 hh cc rr ac co li es se p w s next kept no pg l us lo fi P K T lots fg dc vno vpg vl vus vlo vfi vP vK vT pb ch prices priced = some ()) :
    ∀ (m k f : Nat) (hh cc rr ac next kept P K T dc vP vK vT priced : Int32) (co li es se p w s no pg l us lo fi lots fg vno vpg vl vus vlo vfi pb ch prices : Nat → Int32) (B : ZB), k + m = (if 8 < dn then 8 else dn) → m < f → SV (hh, cc, rr, ac, co, li, es, se, p, w, s) B (no, pg, l, us, lo, fi, P, K, T) lots dc prices priced → HV past next kept (fun e => old (e + k)) m →
      fL_law_L1120 j (Int32.ofNat dn) past dn old f 1 (Int32.ofNat k) hh cc rr ac co li es se p w s next kept no pg l us lo fi P K T lots fg dc vno vpg vl vus vlo vfi vP vK vT pb ch prices priced = some ()
  | 0, k, f, hh, cc, rr, ac, next, kept, P, K, T, dc, vP, vK, vT, priced, co, li, es, se, p, w, s, no, pg, l, us, lo, fi, lots, fg, vno, vpg, vl, vus, vlo, vfi, pb, ch, prices, B, hk, hf, hs, hv => by
    obtain ⟨f, rfl⟩ : ∃ g, f = g + 1 := ⟨f - 1, by omega⟩
    rw [fL_law_L1120]
    have hfin := hj (fg := fg) (vno := vno) (vpg := vpg) (vl := vl) (vus := vus) (vlo := vlo) (vfi := vfi) (vP := vP) (vK := vK) (vT := vT) (pb := pb) (ch := ch) hs (HV_none hv old)
    have hk8 : k ≤ dn ∧ k ≤ 8 := by split at hk <;> omega
    by_cases h8 : (8 : Int32) ≤ Int32.ofNat k
    · exact w_pos h8 hfin
    · refine w_neg h8 (w_pos ?_ hfin)
      rw [n_le (by omega) (by omega)]
      have : ¬ 8 ≤ k := fun q => h8 ((n_le (a := 8) (by omega) (by omega)).mpr q)
      split at hk <;> omega
  | m + 1, k, f, hh, cc, rr, ac, next, kept, P, K, T, dc, vP, vK, vT, priced, co, li, es, se, p, w, s, no, pg, l, us, lo, fi, lots, fg, vno, vpg, vl, vus, vlo, vfi, pb, ch, prices, B, hk, hf, hs, hv => by
    obtain ⟨f, rfl⟩ : ∃ g, f = g + 1 := ⟨f - 1, by omega⟩
    have hk8 : k < 8 ∧ k < dn := by split at hk <;> omega
    obtain ⟨kq, hh', cc', rr', ac', co', li', es', se', p', w', s', next', kept', no', pg', l', us', lo', fi', P', K', T', lots', dc', u1, u2, -, -, u3, u4⟩ := h_undo hs hv
    have e0 : (0 + k) = k := Nat.zero_add k
    have u3 : SV (hh', cc', rr', ac', co', li', es', se', p', w', s') (old k) (no', pg', l', us', lo', fi', P', K', T') lots' dc' prices 0 := by
      have := u3
      simp only [Nat.zero_add] at this
      exact this
    have u4 : HV past next' kept' (fun e => old (e + (k + 1))) m := by
      have e1 : (fun e => old (e + 1 + k)) = (fun e => old (e + (k + 1))) := by
        funext e
        rw [show e + 1 + k = e + (k + 1) by omega]
      have := u4
      rw [e1] at this
      exact this
    obtain ⟨v1, v2, v3, v4, v5, v6, v7, v8, v9, v10, v11, v12, o, z, a1, a2⟩ := l_agrees u3 fg vno vpg vl vus vlo vfi vP vK vT pb ch
    have nx := law_undo (j := j) (past := past) (dn := dn) (old := old) hdn hj m (k + 1) f hh' cc' rr' ac' next' kept' P' K' T' dc' v8 v9 v10 z co' li' es' se' p' w' s' no' pg' l' us' lo' fi' lots' v1 v2 v3 v4 v5 v6 v7 v11 v12 o (old k) (by omega) (by omega) a2 u4
    rw [fL_law_L1120]
    refine w_neg (fun q => by have := (n_le (a := 8) (by omega) (by omega)).mp q; omega) ?_
    refine w_neg (fun q => by have := (n_le (by omega) (by omega)).mp q; omega) ?_
    refine w_neg (by decide) ?_
    refine w_bind u1 ?_
    refine w_neg (n_lt0 (by omega)) ?_
    refine w_as ⟨n_lt0 (by omega), by rw [n_cl (by omega)]; omega, by rw [n_cl (by omega)]; omega⟩ ?_
    rw [n_cl (show k < 2147483648 by omega)]
    refine w_bind a1 ?_
    refine w_neg (by decide) ?_
    refine w_letE (n_s k) ?_
    exact nx
