/-! ===== the class and the law's bill, side by side ===== -/
def NL (n : Nat) (pr wa : Nat → Bool) : Prop := n ≤ 10 ∧ zct (zdfb pr wa) n ≤ 4
def QB (q : TB) (B : ZB) : Prop := ∃ H n m ln pr wa sl, NW H n m ln pr wa ∧ NL n pr wa ∧ BV H n m ln pr wa sl q.1 q.2.1 q.2.2.1 q.2.2.2.2.2.1 q.2.2.2.2.2.2.2.2.1 q.2.2.2.2.2.2.2.2.2.1 q.2.2.2.2.2.2.2.2.2.2 ∧ LV H n m ln pr wa sl q.2.2.2.1 q.2.2.2.2.1 q.2.2.2.2.2.2.1 q.2.2.2.2.2.2.2.1 B
def SV (q : TB) (B : ZB) (y : ZY) (lots : Nat → Int32) (dc : Int32) (prices : Nat → Int32) (priced : Int32) : Prop := ∃ H n m ln pr wa sl, NW H n m ln pr wa ∧ NL n pr wa ∧ BV H n m ln pr wa sl q.1 q.2.1 q.2.2.1 q.2.2.2.2.2.1 q.2.2.2.2.2.2.2.2.1 q.2.2.2.2.2.2.2.2.2.1 q.2.2.2.2.2.2.2.2.2.2 ∧ LV H n m ln pr wa sl q.2.2.2.1 q.2.2.2.2.1 q.2.2.2.2.2.2.1 q.2.2.2.2.2.2.2.1 B ∧ YOK H ln pr n y ∧ CV n pr wa lots dc ∧ PV H n m ln pr wa sl q.2.2.2.2.1 prices priced
theorem SV_QB {q : TB} {B : ZB} {y : ZY} {lots : Nat → Int32} {dc : Int32} {prices : Nat → Int32} {priced : Int32} (h : SV q B y lots dc prices priced) : QB q B := by
  obtain ⟨H, n, m, ln, pr, wa, sl, h1, h0, h2, h3, -⟩ := h
  exact ⟨H, n, m, ln, pr, wa, sl, h1, h0, h2, h3⟩
theorem zwe_sum {n : Nat} {wa : Nat → Bool} {es w : Nat → Int32} (hn : n ≤ 24) (hb : ∀ i, i < 24 → w i = zbi (wa i)) : fX0_wantedEstimates (Int32.ofNat n) es w = some (zsum (fun i => zbi (wa i) * es i) 0 n) := by
  rw [e_wantedEstimates hn]
  exact congrArg some (zsum_congr n 0 (fun i _ hi => by rw [hb i (by omega), zwe]))
section ZCS
variable {H n m : Nat} {ln : Nat → Nat} {pr wa sl : Nat → Bool} {hh cc rr ac dc : Int32} {co es se li p w s lots : Nat → Int32} {no pg l us lo fi : Nat → Int32} {P K T : Int32}
theorem c_state (hw : NW H n m ln pr wa) (hb : BV H n m ln pr wa sl hh cc rr li p w s) (hy : YOK H ln pr n (no, pg, l, us, lo, fi, P, K, T)) (hc : CV n pr wa lots dc) (k : Nat) (hk : k < 12) :
    fX5_state (Int32.ofNat k) hh cc rr ac es w s us P K dc = some (.inr (zstate H n m ln pr wa sl ac es k)) := by
  obtain ⟨b1, b2, b3, b4, b5, b6, b7⟩ := id hb
  have hn := hw.2.2.1
  have hP : P = Int32.ofNat (zP H ln pr n) := hy.2.2.2.1
  have hK : K = Int32.ofNat (zK H ln pr n) := hy.2.2.2.2.1
  have z1 := (zP_le H ln pr n).1
  subst b1 b2 b3
  match k, hk with
  | 0, _ => rfl
  | 1, _ => rfl
  | 2, _ =>
    show some (Sum.inr K) = some (.inr (Int32.ofNat (zct pr n)))
    rw [hK, zK_ct]
  | 3, _ =>
    show o_bind (fX0_wantedLots _ _) _ = _
    rw [(c_wanted hn b6).1, n_bind]
    rfl
  | 4, _ =>
    show some (Sum.inr dc) = some (.inr (Int32.ofNat (zct (zdfb pr wa) n)))
    rw [hc.1]
  | 5, _ =>
    show o_bind (fX0_slippedLots _ _) _ = _
    rw [(c_wanted hn b7).2, n_bind]
    rfl
  | 6, _ =>
    show some (Sum.inr P) = some (.inr (Int32.ofNat (zP H ln pr n)))
    rw [hP]
  | 7, _ =>
    have e : Int32.ofNat (zP H ln pr n) + 4 - 1 = Int32.ofNat (zP H ln pr n + 4 - 1) := by
      rw [show (4 : Int32) = Int32.ofNat 4 from rfl, ← Int32.ofNat_add, show zP H ln pr n + 4 = (zP H ln pr n + 4 - 1) + 1 by omega, n_p, Nat.add_sub_cancel]
    have e2 : (Int32.ofNat (zP H ln pr n) + 4 - 1) / 4 = Int32.ofNat ((zP H ln pr n + 4 - 1) / 4) := by
      rw [e, show (4 : Int32) = Int32.ofNat 4 from rfl, n_div (by omega) (by omega)]
    rw [hP]
    show some (Sum.inr ((Int32.ofNat (zP H ln pr n) + 4 - 1) / 4)) = some (.inr (Int32.ofNat ((zP H ln pr n + 4 - 1) / 4)))
    rw [e2]
  | 8, _ => rfl
  | 9, _ =>
    show o_bind (fX0_wantedEstimates _ _ _) _ = _
    rw [zwe_sum hn b6, n_bind]
    rfl
  | 10, _ =>
    show o_bind (fX3_blankLinesAheadOfLastPage _ _ _) _ = _
    rw [e_blank5 hn hy, n_bind]
    rfl
  | 11, _ => rfl
theorem c_lot (hw : NW H n m ln pr wa) (hb : BV H n m ln pr wa sl hh cc rr li p w s) (hy : YOK H ln pr n (no, pg, l, us, lo, fi, P, K, T)) {i : Nat} (hi : i < n) (k : Nat) (hk : k < 9) :
    fX5_lot (Int32.ofNat i) (Int32.ofNat k) cc li es se p w s no pg l = some (.inr (zlotv H ln pr wa sl es se i k)) := by
  obtain ⟨b1, b2, b3, b4, b5, b6, b7⟩ := id hb
  have hn := hw.2.2.1
  subst b1 b2 b3
  obtain ⟨y1, y2, y3⟩ := hy.1 i hi
  have y1 : no i = _ := y1
  have y2 : pg i = _ := y2
  have y3 : l i = _ := y3
  unfold fX5_lot
  rw [needLot_t (by omega) hi, o_tryR]
  have rdc : ∀ (f : Nat → Int32), o_rd 24 (Int32.ofNat i) (some (Sum.inr (f (Int32.ofNat i).toNatClampNeg) : String ⊕ Int32)) = some (.inr (f i)) := fun f => by rw [n_rd (by omega) (by omega), n_cl (by omega)]
  have rdb : ∀ (f : Nat → Int32) (b : Bool), f i = zbi b → o_rd 24 (Int32.ofNat i) (if f (Int32.ofNat i).toNatClampNeg = 0 then some (Sum.inr (0 : Int32) : String ⊕ Int32) else some (.inr 1)) = some (.inr (zbi b)) := fun f b h => by
    rw [n_rd (by omega) (by omega), n_cl (by omega), h]
    cases b <;> rfl
  match k, hk with
  | 0, _ => exact (rdc li).trans (by rw [b4 i hi]; rfl)
  | 1, _ => exact rdc es
  | 2, _ => exact rdc se
  | 3, _ => exact rdb p _ (b5 i (by omega))
  | 4, _ => exact rdb w _ (b6 i (by omega))
  | 5, _ => exact rdb s _ (b7 i (by omega))
  | 6, _ => exact (rdc no).trans (by rw [y1]; rfl)
  | 7, _ => exact (rdc pg).trans (by rw [y2]; rfl)
  | 8, _ => exact (rdc l).trans (by rw [y3]; rfl)
theorem c_checksum (hw : NW H n m ln pr wa) (hb : BV H n m ln pr wa sl hh cc rr li p w s) (hy : YOK H ln pr n (no, pg, l, us, lo, fi, P, K, T)) (hc : CV n pr wa lots dc) (fg vno vpg vl vus vlo vfi : Nat → Int32) (vP vK vT : Int32) (pb ch prices : Nat → Int32) (priced : Int32) (hp : PV H n m ln pr wa sl co prices priced) :
    ∃ v1 v2 v3 v4 v5 v6 v7 v8 v9 v10 v11 v12 o z, fX5_checksum hh cc rr ac co li es se p w s no pg l us P K lots fg dc vno vpg vl vus vlo vfi vP vK vT pb ch prices priced = some (zck H n m ln pr wa sl ac co es se, v1, v2, v3, v4, v5, v6, v7, v8, v9, v10, v11, v12, o, z) ∧ PV H n m ln pr wa sl co o z := by
  have hn := hw.2.2.1
  have hD := hw.2.2.2.2.2.2
  obtain ⟨pw, pw1⟩ := n_pow2 hD
  have hcc : cc = Int32.ofNat n := hb.2.1
  have s1 : ∀ j, fX5_checksum_L4 j hh cc rr ac es w s us P K dc 1024 0 0 = j (zck1 H n m ln pr wa sl ac es) := fun j =>
    n_for0 (fun f k W => fX5_checksum_L4 j hh cc rr ac es w s us P K dc f W (Int32.ofNat k)) 12 (fun k W => 31 * W + (zstate H n m ln pr wa sl ac es k).toInt64) j (fun f W => by
      simp only [fX5_checksum_L4, show ((12 : Int32) ≤ Int32.ofNat 12) from by decide, if_true]) (fun f k W hk => by
      have hle : ¬ (12 : Int32) ≤ Int32.ofNat k := fun h => by
        have := (n_le (a := 12) (by omega) (by omega)).mp h; omega
      simp only [fX5_checksum_L4, hle, if_false, c_state hw hb hy hc k hk, o_runR, n_let, n_s]) 12 0 1024 0 (by omega) (by omega)
  have t1 : ∀ j (W0 : Int64), fX5_checksum_L31 cc j li es se p w s no pg l 1024 W0 0 = j (zfold (fun i (W : Int64) => zfold (fun k (W : Int64) => 31 * W + (zlotv H ln pr wa sl es se i k).toInt64) 0 9 W) 0 n W0) := fun j W0 =>
    n_for0 (fun f i W => fX5_checksum_L31 cc j li es se p w s no pg l f W (Int32.ofNat i)) n (fun i (W : Int64) => zfold (fun k (W : Int64) => 31 * W + (zlotv H ln pr wa sl es se i k).toInt64) 0 9 W) j (fun f W => by
      simp only [fX5_checksum_L31, hcc, Int32.le_refl, if_true]) (fun f i W hi => by
      have hle : ¬ Int32.ofNat n ≤ Int32.ofNat i := fun h => by
        have := (n_le (by omega) (by omega)).mp h; omega
      have s3 : ∀ j (W0 : Int64), fX5_checksum_L45 j (Int32.ofNat i) cc li es se p w s no pg l 1024 W0 0 = j (zfold (fun k (W : Int64) => 31 * W + (zlotv H ln pr wa sl es se i k).toInt64) 0 9 W0) := fun j W0 =>
        n_for0 (fun f k W => fX5_checksum_L45 j (Int32.ofNat i) cc li es se p w s no pg l f W (Int32.ofNat k)) 9 (fun k W => 31 * W + (zlotv H ln pr wa sl es se i k).toInt64) j (fun f W => by
          simp only [fX5_checksum_L45, show ((9 : Int32) ≤ Int32.ofNat 9) from by decide, if_true]) (fun f k W hk => by
          have hle : ¬ (9 : Int32) ≤ Int32.ofNat k := fun h => by
            have := (n_le (a := 9) (by omega) (by omega)).mp h; omega
          simp only [fX5_checksum_L45, hle, if_false, c_lot hw hb hy hi k hk, o_runR, n_let, n_s]) 9 0 1024 W0 (by omega) (by omega)
      rw [hcc] at s3 ⊢
      simp only [fX5_checksum_L31, hle, if_false, n_let, s3, n_s]) n 0 1024 W0 (by omega) (by omega)
  obtain ⟨v1, v2, v3, v4, v5, v6, v7, v8, v9, v10, v11, v12, o, z, h1, h2⟩ := c_cheapest hw hb hc hy 0 0 fg vno vpg vl vus vlo vfi vP vK vT pb ch prices priced hp
  have ebst : zbst (fun c => decide (Int32.ofNat c &&& 0 = 0)) (fun c => zcost H n m ln pr wa sl co (Int32.ofNat c)) (2 ^ zct (zdfb pr wa) n) = zbest H n m ln pr wa sl co := zbst_congr _ (fun c _ => by simp)
  obtain ⟨B, hB, hlt⟩ := zbest_some (H := H) (n := n) (m := m) (ln := ln) (pr := pr) (wa := wa) (sl := sl) (co := co)
  rw [ebst, hB] at h1
  have c7 : ∀ W0 : Int64, ∃ q1 q2 q3 q4 q5 q6 q7 q8 q9 q10 q11 q12, fX5_checksum_L96 o z (Int32.ofNat B) hh cc rr co li p w s no pg l us P lots dc 1024 W0 0 v1 v2 v3 v4 v5 v6 v7 v8 v9 v10 v11 v12 = some (zfold (fun k W => 31 * W + (zfig H n m ln pr wa sl co (Int32.ofNat B) k).toInt64) 0 7 W0, q1, q2, q3, q4, q5, q6, q7, q8, q9, q10, q11, q12, o, z) := fun W0 => by
    have key := n_inv (fun f k (q : Int64 × (Nat → Int32) × (Nat → Int32) × (Nat → Int32) × (Nat → Int32) × (Nat → Int32) × (Nat → Int32) × (Nat → Int32) × Int32 × Int32 × Int32 × (Nat → Int32) × (Nat → Int32)) => fX5_checksum_L96 o z (Int32.ofNat B) hh cc rr co li p w s no pg l us P lots dc f q.1 (Int32.ofNat k) q.2.1 q.2.2.1 q.2.2.2.1 q.2.2.2.2.1 q.2.2.2.2.2.1 q.2.2.2.2.2.2.1 q.2.2.2.2.2.2.2.1 q.2.2.2.2.2.2.2.2.1 q.2.2.2.2.2.2.2.2.2.1 q.2.2.2.2.2.2.2.2.2.2.1 q.2.2.2.2.2.2.2.2.2.2.2.1 q.2.2.2.2.2.2.2.2.2.2.2.2) 7
      (fun q => some (q.1, q.2.1, q.2.2.1, q.2.2.2.1, q.2.2.2.2.1, q.2.2.2.2.2.1, q.2.2.2.2.2.2.1, q.2.2.2.2.2.2.2.1, q.2.2.2.2.2.2.2.2.1, q.2.2.2.2.2.2.2.2.2.1, q.2.2.2.2.2.2.2.2.2.2.1, q.2.2.2.2.2.2.2.2.2.2.2.1, q.2.2.2.2.2.2.2.2.2.2.2.2, o, z))
      (fun k q => q.1 = zfold (fun k W => 31 * W + (zfig H n m ln pr wa sl co (Int32.ofNat B) k).toInt64) 0 k W0)
      (fun f q hq => by simp only [fX5_checksum_L96, show ((7 : Int32) ≤ Int32.ofNat 7) from by decide, if_true])
      (fun f k q hk hq => by
        obtain ⟨W, a1, a2, a3, a4, a5, a6, a7, x8, x9, x10, a11, a12⟩ := q
        have hq : W = _ := hq
        obtain ⟨u1, u2, u3, u4, u5, u6, u7, u8, u9, u10, u11, u12, hu⟩ := c_choice (co := co) hw hb hy hc hlt hk a1 a2 a3 a4 a5 a6 a7 x8 x9 x10 a11 a12
        have hle : ¬ (7 : Int32) ≤ Int32.ofNat k := fun h => by
          have := (n_le (a := 7) (by omega) (by omega)).mp h; omega
        refine ⟨(31 * W + (zfig H n m ln pr wa sl co (Int32.ofNat B) k).toInt64, u1, u2, u3, u4, u5, u6, u7, u8, u9, u10, u11, u12), ?_, ?_⟩
        · rw [zfold_last, ← hq, Nat.zero_add]
        · simp only [fX5_checksum_L96, hle, if_false, hu, o_runR, n_let, n_s])
      7 0 1024 (W0, v1, v2, v3, v4, v5, v6, v7, v8, v9, v10, v11, v12) (by omega) (by omega) rfl
    obtain ⟨⟨W, a1, a2, a3, a4, a5, a6, a7, x8, x9, x10, a11, a12⟩, k1, k2⟩ := key
    have k1 : W = _ := k1
    subst k1
    exact ⟨a1, a2, a3, a4, a5, a6, a7, x8, x9, x10, a11, a12, k2⟩
  obtain ⟨q1, q2, q3, q4, q5, q6, q7, q8, q9, q10, q11, q12, hq⟩ := c7 (31 * zck2 H n m ln pr wa sl ac es se + (Int32.ofNat B).toInt64)
  refine ⟨q1, q2, q3, q4, q5, q6, q7, q8, q9, q10, q11, q12, o, z, ?_, Or.inr h2⟩
  unfold fX5_checksum fX5_best
  rw [n_let, n_let, s1, n_let, t1, h1, n_bind]
  show o_bind (some _) _ = _
  rw [n_bind]
  show o_let (31 * zck2 H n m ln pr wa sl ac es se + (Int32.ofNat B).toInt64) _ = _
  rw [n_let]
  unfold zck
  rw [hB]
  exact hq
end ZCS
/-- the law's look at the class: all agrees -/
theorem l_agrees {hh cc rr ac : Int32} {co li es se p w s lots prices : Nat → Int32} {dc priced : Int32} {no pg l us lo fi : Nat → Int32} {P K T : Int32} {B : ZB} (h : SV (hh, cc, rr, ac, co, li, es, se, p, w, s) B (no, pg, l, us, lo, fi, P, K, T) lots dc prices priced) (fg vno vpg vl vus vlo vfi : Nat → Int32) (vP vK vT : Int32) (pb ch : Nat → Int32) :
    ∃ v1 v2 v3 v4 v5 v6 v7 v8 v9 v10 v11 v12 o z, fL_agrees hh cc rr ac co li es se p w s no pg l us lo fi P K lots fg dc vno vpg vl vus vlo vfi vP vK vT pb ch prices priced B.1 B.2.1 B.2.2.1 B.2.2.2.1 B.2.2.2.2.1 B.2.2.2.2.2 = some (1, v1, v2, v3, v4, v5, v6, v7, v8, v9, v10, v11, v12, o, z) ∧ SV (hh, cc, rr, ac, co, li, es, se, p, w, s) B (no, pg, l, us, lo, fi, P, K, T) lots dc o z := by
  obtain ⟨H, n, m, ln, pr, wa, sl, hw, hnl, hb, hv, hy, hc, hp⟩ := h
  have hw0 := hw
  have hb' : BV H n m ln pr wa sl hh cc rr li p w s := hb
  obtain ⟨h1, h2, h3, h4, h5, h6⟩ := id hv
  have h3 : B.2.2.1 = ac := h3
  have h4 : ∀ k, k < 5 → B.2.2.2.1 k = co k := h4
  have h6 : VV n ln pr wa sl es se B.2.2.2.2.2 := h6
  have hn10 := hnl.1
  have hn : n ≤ 16 := by omega
  have hD := hnl.2
  have hcc : cc = Int32.ofNat n := hb.2.1
  have hP : P = Int32.ofNat (zP H ln pr n) := hy.2.2.2.1
  have z1 := (zP_le H ln pr n).1
  obtain ⟨v1, v2, v3, v4, v5, v6, v7, v8, v9, v10, v11, v12, o, z, c1, c2⟩ := c_checksum (ac := ac) (co := co) (es := es) (se := se) hw hb' hy hc fg vno vpg vl vus vlo vfi vP vK vT pb ch prices priced hp
  refine ⟨v1, v2, v3, v4, v5, v6, v7, v8, v9, v10, v11, v12, o, z, ?_, ⟨H, n, m, ln, pr, wa, sl, hw, hnl, hb, hv, hy, hc, c2⟩⟩
  have k0 : lg_cmp (zck H n m ln pr wa sl ac co es se) (zck H n m ln pr wa sl ac co es se) = 0 := by
    unfold lg_cmp
    rw [if_neg (by exact Int64.lt_irrefl), if_pos rfl]
  have a1 : fL_state 12 hh cc rr ac es w s us P K dc = some (-2000000098) := by
    unfold fL_state
    rw [q_stateX (Or.inr (by decide))]
    rfl
  have a2 : fL_lot (Int32.ofNat n) 0 cc li es se p w s no pg l = some (-2000000097) := by
    unfold fL_lot fX5_lot
    rw [hcc, needLot_f (by omega) (Or.inr (Int32.le_refl _)), o_tryL]
    rfl
  have a3 : fL_different (Int32.ofNat (zct (zdfb pr wa) n)) lots dc = some (-2000000100) := by
    unfold fL_different fX5_different
    rw [hc.1, if_neg (n_lt0 (by omega)), if_neg (by rw [n_lt (by omega) (by omega)]; omega)]
    rfl
  have a4 : fL_page (Int32.ofNat (zP H ln pr n)) 0 hh cc es w pg us lo fi P = some (-2000000097) := by
    unfold fL_page fX5_page
    rw [hP, needPage_f (by omega) (Or.inr (Int32.le_refl _)), o_tryL]
    rfl
  have t6 : fX6_told 6 (Int32.ofNat H) (Int32.ofNat m) ac n B.2.2.2.2.2 = some (Int32.ofNat (zP H ln pr n)) := l_told hn hw h6 6 (by omega)
  have lp : ∀ f j, fL_agrees_L75 v1 v2 v3 v4 v5 v6 v7 v8 v9 v10 v11 v12 o z hh cc rr ac es w s us P K dc (Int32.ofNat H) (Int32.ofNat m) ac n B.2.2.2.2.2 f 1 j = fL_agrees_L75 v1 v2 v3 v4 v5 v6 v7 v8 v9 v10 v11 v12 o z hh cc rr ac es w s us P K dc (Int32.ofNat H) (Int32.ofNat m) ac n B.2.2.2.2.2 f 1 j := fun _ _ => rfl
  have key : fL_agrees_L75 v1 v2 v3 v4 v5 v6 v7 v8 v9 v10 v11 v12 o z hh cc rr ac es w s us P K dc (Int32.ofNat H) (Int32.ofNat m) ac n B.2.2.2.2.2 14 1 0 = some (1, v1, v2, v3, v4, v5, v6, v7, v8, v9, v10, v11, v12, o, z) :=
    n_for0 (fun f k (_ : Unit) => fL_agrees_L75 v1 v2 v3 v4 v5 v6 v7 v8 v9 v10 v11 v12 o z hh cc rr ac es w s us P K dc (Int32.ofNat H) (Int32.ofNat m) ac n B.2.2.2.2.2 f 1 (Int32.ofNat k)) 12 (fun _ u => u) (fun _ => some (1, v1, v2, v3, v4, v5, v6, v7, v8, v9, v10, v11, v12, o, z)) (fun f _ => by
      simp only [fL_agrees_L75, show ((12 : Int32) ≤ Int32.ofNat 12) from by decide, if_true]
      exact n_as rfl) (fun f k _ hk => by
      have hle : ¬ (12 : Int32) ≤ Int32.ofNat k := fun h => by
        have := (n_le (a := 12) (by omega) (by omega)).mp h; omega
      have e1 : fL_state (Int32.ofNat k) hh cc rr ac es w s us P K dc = some (zstate H n m ln pr wa sl ac es k) := by
        unfold fL_state
        rw [c_state hw hb' hy hc k hk]
        rfl
      simp only [fL_agrees_L75, hle, if_false, n10, e1, n_bind, l_told hn hw h6 k hk, if_true, n_let, n_s]) 12 0 14 () (by omega) (by omega)
  unfold fL_agrees
  rw [c1, n_bind]
  show o_bind (fX6_checksum B.1 B.2.1 B.2.2.1 B.2.2.2.1 B.2.2.2.2.1 B.2.2.2.2.2) _ = _
  rw [h1, h2, h3, h5, l_checksum hn hw hD h6 h4, n_bind, n_let, if_pos k0, a1, n_bind, if_pos rfl, a2, n_bind, if_pos rfl, l_different hn h6, n_bind, a3, n_bind, if_pos rfl, t6, n_bind, a4, n_bind, if_pos rfl]
  exact key
