section ZQ7
variable {H n m : Nat} {ln : Nat → Nat} {pr wa sl : Nat → Bool} {hh cc rr ac dc : Int32} {co es se d li p w s lots : Nat → Int32} {no pg l us lo fi : Nat → Int32} {P K T : Int32}
def zsel (what : Nat) (pr wa : Nat → Bool) (ln : Nat → Nat) (es : Nat → Int32) (i : Nat) : Int32 := if what = 0 then zbi (wa i) else if what = 1 then zbi (wa i) * es i else zbi (pr i) * Int32.ofNat (ln i)
theorem m_seller (hn : n ≤ 24) (hm : MV H n m ln pr wa sl ac co es se d) (q : Int32) {k : Nat} (hk : k < 3) : fX6_seller_L44 d 0 q (Int32.ofNat k) 1024 0 0 = some (zsum (fun i => if se i = q then zsel k pr wa ln es i else 0) 0 n, 0) := by
  have h1' : d (1 : Int32).toNatClampNeg = Int32.ofNat n := hm.2.1
  refine (n_for0 (fun f i s => fX6_seller_L44 d 0 q (Int32.ofNat k) f s (Int32.ofNat i)) n (fun i s => s + (if se i = q then zsel k pr wa ln es i else 0)) (fun s => some (s, 0)) (fun f s => ?_) (fun f i s hi => ?_) n 0 1024 0 (by omega) (by omega)).trans ?_
  · simp only [fX6_seller_L44, h1', Int32.le_refl, if_true]
  · obtain ⟨d0, d1, d2, d3, d4, d5⟩ := hm.2.2.2.2.2 i hi
    by_cases hs : se i = q
    · unfold zsel
      have h3 : k = 0 ∨ k = 1 ∨ k = 2 := by omega
      rcases h3 with rfl | rfl | rfl
      · simp (disch := omega) only [fX6_seller_L44, h1', n_le, n_bind, n_let, n_s, e_of2, e_of4, d2, d4, hs, show (Int32.ofNat 0 = 0) from rfl, show ¬ n ≤ i from by omega, if_true, if_false]
      · simp (disch := omega) only [fX6_seller_L44, h1', n_le, n_bind, n_let, n_s, e_of2, e_of4, e_of1, d2, d4, d1, hs, show (Int32.ofNat 1 = 1) from rfl, n10, show ¬ n ≤ i from by omega, if_true, if_false, show ¬ (1 = 0) from by omega]
      · simp (disch := omega) only [fX6_seller_L44, h1', n_le, n_bind, n_let, n_s, e_of2, e_of3, e_of0, d2, d3, d0, hs, show (Int32.ofNat 2 = 2) from rfl, g_not.1, g_not.2.2.1, show ¬ n ≤ i from by omega, if_true, if_false, show ¬ (2 = 0) from by omega, show ¬ (2 = 1) from by omega]
    · simp (disch := omega) only [fX6_seller_L44, h1', n_le, n_bind, n_let, n_s, e_of2, d2, hs, show ¬ n ≤ i from by omega, if_true, if_false, Int32.add_zero]
  · rw [zfold_sum, Int32.zero_add]
theorem c_seller (hn : n ≤ 24) (hb : BV H n m ln pr wa sl hh cc rr li p w s) {q : Nat} (hq : q < 10) {k : Nat} (hk : k < 3) : fX5_seller (Int32.ofNat q) (Int32.ofNat k) cc li es se p w = some (.inr (zsum (fun i => if se i = Int32.ofNat q then zsel k pr wa ln es i else 0) 0 n)) := by
  obtain ⟨b1, b2, b3, b4, b5, b6, b7⟩ := id hb
  subst b2
  unfold fX5_seller
  rw [if_neg (n_lt0 (by omega)), if_pos (show Int32.ofNat q ≤ 9 from (n_le (b := 9) (by omega) (by omega)).mpr (by omega))]
  have h3 : k = 0 ∨ k = 1 ∨ k = 2 := by omega
  rcases h3 with rfl | rfl | rfl
  · rw [if_pos (show Int32.ofNat 0 = 0 from rfl), e_wantedLotsOf hn, n_bind]
    refine congrArg (fun v => some (Sum.inr v)) (zsum_congr n 0 (fun i _ hi => ?_))
    rw [b6 i (by omega)]
    unfold zsel
    cases wa i <;> rfl
  · rw [if_neg (by decide), if_pos (show Int32.ofNat 1 = 1 from rfl), e_wantedEstimatesOf hn, n_bind]
    refine congrArg (fun v => some (Sum.inr v)) (zsum_congr n 0 (fun i _ hi => ?_))
    rw [b6 i (by omega), zwe]
    rfl
  · rw [if_neg (by decide), if_neg (by decide), if_pos (show Int32.ofNat 2 = 2 from rfl), e_printedLinesOf hn, n_bind]
    refine congrArg (fun v => some (Sum.inr v)) (zsum_congr n 0 (fun i _ hi => ?_))
    rw [b5 i (by omega), b4 i (by omega), zwe]
    rfl
theorem s_13 (x x2 th : Int32) (hw : NW H n m ln pr wa) (hb : BV H n m ln pr wa sl hh cc rr li p w s) (hm : MV H n m ln pr wa sl ac co es se d) (told : Nat → Int64) :
    ∃ th' t', fS13 x x2 cc li es se p w th d told = some (th', t') := by
  have hn := hw.2.2.1
  rcases n_range (show 10 < 2147483648 by omega) x with hx | ⟨q, hq, rfl⟩
  · have h5 : fX5_seller x x2 cc li es se p w = some (.inl "java/lang/IllegalArgumentException") := by
      unfold fX5_seller
      by_cases h1 : x < 0
      · rw [if_pos h1]
      · rw [if_neg h1, if_neg (fun h => by
          have h2 : Int32.ofNat 10 ≤ x := hx.resolve_left h1
          rw [Int32.le_iff_toInt_le] at h h2
          have e1 : (9 : Int32).toInt = 9 := rfl
          have e2 : (Int32.ofNat 10).toInt = 10 := rfl
          omega)]
    have h6 : fX6_seller x x2 th d = some (0, 1) := by
      unfold fX6_seller
      rw [inL_f (n := 10) (by omega) (by decide) hx, n_bind]
      rfl
    refine ⟨1, told, ?_⟩
    unfold fS13 fL_seller
    rw [h5, h6]
    rfl
  · rcases n_range (show 3 < 2147483648 by omega) x2 with hx | ⟨k, hk, rfl⟩
    · have h := fun k hk => n_ne (n := 3) (by omega) hx (k := k) hk
      have h5 : fX5_seller (Int32.ofNat q) x2 cc li es se p w = some (.inl "java/lang/IllegalArgumentException") := by
        unfold fX5_seller
        rw [if_neg (n_lt0 (by omega)), if_pos (show Int32.ofNat q ≤ 9 from (n_le (b := 9) (by omega) (by omega)).mpr (by omega)), if_neg (show ¬ x2 = (0 : Int32) from h 0 (by omega)), if_neg (show ¬ x2 = (1 : Int32) from h 1 (by omega)), if_neg (show ¬ x2 = (2 : Int32) from h 2 (by omega))]
      have h6 : fX6_seller (Int32.ofNat q) x2 th d = some (0, 1) := by
        unfold fX6_seller
        rw [inL_t (n := 10) (by omega) (by decide) hq, n_bind, n_let, if_neg (by decide), inL_f (n := 3) (by omega) (by decide) hx, n_bind]
        rfl
      refine ⟨1, told, ?_⟩
      unfold fS13 fL_seller
      rw [h5, h6]
      rfl
    · have h5 := c_seller (es := es) (se := se) hn hb hq hk
      have h6 : fX6_seller (Int32.ofNat q) (Int32.ofNat k) th d = some (zsum (fun i => if se i = Int32.ofNat q then zsel k pr wa ln es i else 0) 0 n, 0) := by
        unfold fX6_seller
        rw [inL_t (n := 10) (by omega) (by decide) hq, n_bind, n_let, if_neg (by decide), inL_t (n := 3) (by omega) (by decide) hk, n_bind, if_neg (by decide)]
        exact m_seller hn hm (Int32.ofNat q) hk
      refine ⟨0, vp_updL told (0 : Int32).toNatClampNeg (zsum (fun i => if se i = Int32.ofNat q then zsel k pr wa ln es i else 0) 0 n).toInt64, ?_⟩
      unfold fS13 fL_seller
      rw [h5, h6]
      simp only [o_hlp, n_bind, if_true, fX6_thrown, g_fin]
/-- the lines of the printed lots ahead -/
def zpl (ln : Nat → Nat) (pr : Nat → Bool) : Nat → Nat
  | 0 => 0
  | k + 1 => zpl ln pr k + (if pr k = true then ln k else 0)
theorem zpl_le : ∀ k : Nat, (∀ i, i < k → ln i ≤ 9) → zpl ln pr k ≤ 9 * k
  | 0, _ => Nat.le_refl _
  | k + 1, h => by
    have h1 := zpl_le k (fun i hi => h i (by omega))
    have h2 := h k (by omega)
    unfold zpl
    split <;> omega
theorem zpl_mono (k : Nat) : ∀ m : Nat, zpl ln pr k ≤ zpl ln pr (k + m)
  | 0 => Nat.le_refl _
  | m + 1 => by
    have := zpl_mono k m
    have e : zpl ln pr (k + (m + 1)) = zpl ln pr (k + m) + (if pr (k + m) = true then ln (k + m) else 0) := rfl
    omega
theorem m_printedLines (hn : n ≤ 24) (hm : MV H n m ln pr wa sl ac co es se d) : fX6_printedLines d = some (Int32.ofNat (zpl ln pr n)) := by
  rw [e_mPrintedLines hn d hm.2.1]
  refine congrArg some ?_
  have key : ∀ k, k ≤ n → zsum (fun i => d (9 + 6 * i + 3) * d (9 + 6 * i)) 0 k = Int32.ofNat (zpl ln pr k) := fun k => by
    induction k with
    | zero => intro _; rfl
    | succ k ih =>
      intro hk
      obtain ⟨d0, d1, d2, d3, d4, d5⟩ := hm.2.2.2.2.2 k (by omega)
      rw [zsum_end, ih (by omega), d3, show d (9 + 6 * k) = Int32.ofNat (ln k) from d0]
      show _ = Int32.ofNat (zpl ln pr k + (if pr k = true then ln k else 0))
      rw [Int32.ofNat_add]
      cases pr k
      · simp [zbi]
      · simp [zbi]
  exact key n (Nat.le_refl _)
theorem zsum_T : ∀ k : Nat, zsum (fun i => if pr i = true then Int32.ofNat (ln i) else 0) 0 k = Int32.ofNat (zpl ln pr k)
  | 0 => rfl
  | k + 1 => by
    rw [zsum_end, zsum_T k]
    show _ = Int32.ofNat (zpl ln pr k + (if pr k = true then ln k else 0))
    rw [Int32.ofNat_add]
    cases pr k <;> rfl
theorem s_14 (x th : Int32) (hw : NW H n m ln pr wa) (hb : BV H n m ln pr wa sl hh cc rr li p w s) (hm : MV H n m ln pr wa sl ac co es se d) (told : Nat → Int64) :
    ∃ th' t', fS14 x cc li p th d told = some (th', t') := by
  have hn := hw.2.2.1
  have w6 := hw.2.2.2.2.2.1
  obtain ⟨b1, b2, b3, b4, b5, b6, b7⟩ := id hb
  subst b2
  have hS := zpl_le (ln := ln) (pr := pr) n (fun i hi => (w6 i hi).2.1)
  have hle : ∀ k, k ≤ n → zpl ln pr k ≤ zpl ln pr n := fun k hk => by
    have := zpl_mono (ln := ln) (pr := pr) k (n - k)
    rw [show k + (n - k) = n by omega] at this
    exact this
  have hpl := m_printedLines hn hm
  have st5 : ∀ y, y < 10000 → ∀ f k, k < n → ¬ (pr k = true ∧ y < zpl ln pr (k + 1)) → fX5_through_L25 (Int32.ofNat n) p li (Int32.ofNat y) (f + 1) (Int32.ofNat (zpl ln pr k)) (Int32.ofNat k) = fX5_through_L25 (Int32.ofNat n) p li (Int32.ofNat y) f (Int32.ofNat (zpl ln pr (k + 1))) (Int32.ofNat (k + 1)) := fun y hy f k hk hne => by
    have ep := b5 k (by omega)
    have e1 : zpl ln pr (k + 1) = zpl ln pr k + (if pr k = true then ln k else 0) := rfl
    have h2 := hle (k + 1) (by omega)
    cases hp : pr k
    · rw [hp] at ep e1
      have e1 : zpl ln pr (k + 1) = zpl ln pr k := by rw [e1, if_neg (by simp), Nat.add_zero]
      rw [e1]
      simp (disch := omega) only [fX5_through_L25, n_le, n_rd, n_cl, n_let, n_s, ep, zbF, show ¬ n ≤ k from by omega, if_true, if_false]
    · rw [hp] at ep e1
      rw [if_pos rfl] at e1
      have h3 : ¬ y < zpl ln pr (k + 1) := fun h => hne ⟨hp, h⟩
      have h4 : Int32.ofNat (zpl ln pr k) + Int32.ofNat (ln k) = Int32.ofNat (zpl ln pr (k + 1)) := by rw [← Int32.ofNat_add, e1]
      simp (disch := omega) only [fX5_through_L25, n_le, n_rd, n_cl, n_let, n_s, ep, zbT, n10, b4 k hk, h4, show ¬ n ≤ k from by omega, show zpl ln pr (k + 1) ≤ y from by omega, if_true, if_false]
  rcases n_range (show zpl ln pr n < 2147483648 by omega) x with hx | ⟨y, hy, rfl⟩
  · have h6 : fX6_through x th d = some (0, 1) := by
      unfold fX6_through
      rw [hpl, n_bind, inN_f (by omega) hx, n_bind]
      rfl
    have h5 : fX5_through x (Int32.ofNat n) li p = some (.inl "java/util/NoSuchElementException") := by
      unfold fX5_through
      by_cases h1 : x < 0
      · rw [if_pos h1]
      · rw [if_neg h1]
        have h2 := hx.resolve_left h1
        by_cases h3 : x ≤ 9999
        · rw [if_pos h3]
          obtain ⟨z, hz, rfl⟩ := n_of h1
          rw [n_le (by omega) hz] at h2
          have h3 := (n_le (b := 9999) hz (by omega)).mp h3
          refine n_walk (fun f k => fX5_through_L25 (Int32.ofNat n) p li (Int32.ofNat z) f (Int32.ofNat (zpl ln pr k)) (Int32.ofNat k)) n _ (fun f => ?_) (fun f k hk => st5 z (by omega) f k hk (fun h => ?_)) 1024 (by omega)
          · simp only [fX5_through_L25, Int32.le_refl, if_true]
          · have := hle (k + 1) (by omega)
            omega
        · rw [if_neg h3]
    refine ⟨1, told, ?_⟩
    unfold fS14 fL_through
    rw [h5, h6]
    rfl
  · rcases n_first (fun i => pr i = true ∧ y < zpl ln pr (i + 1)) n with ⟨i, i1, ⟨i2, i3⟩, i4⟩ | hno
    · have hk : ∀ k, k ≤ i → zpl ln pr k ≤ y := fun k => by
        induction k with
        | zero => intro _; exact Nat.zero_le _
        | succ k ih =>
          intro hk
          have h1 := ih (by omega)
          have h2 := i4 k (by omega)
          have e1 : zpl ln pr (k + 1) = zpl ln pr k + (if pr k = true then ln k else 0) := rfl
          by_cases hp : pr k = true
          · exact Nat.le_of_not_lt (fun h => h2 ⟨hp, h⟩)
          · rw [if_neg hp] at e1; omega
      have e1 : zpl ln pr (i + 1) = zpl ln pr i + ln i := by
        show zpl ln pr i + (if pr i = true then ln i else 0) = _
        rw [if_pos i2]
      have h7 := hle (i + 1) (by omega)
      have h8 := hk i (Nat.le_refl _)
      have h5 : fX5_through (Int32.ofNat y) (Int32.ofNat n) li p = some (.inr (Int32.ofNat i)) := by
        unfold fX5_through
        rw [if_neg (n_lt0 (by omega)), if_pos (show Int32.ofNat y ≤ 9999 from (n_le (b := 9999) (by omega) (by omega)).mpr (by omega))]
        refine n_walk (fun f k => fX5_through_L25 (Int32.ofNat n) p li (Int32.ofNat y) f (Int32.ofNat (zpl ln pr k)) (Int32.ofNat k)) i _ (fun f => ?_) (fun f k hk => st5 y (by omega) f k (by omega) (i4 k hk)) 1024 (by omega)
        have ep := b5 i (by omega)
        rw [i2] at ep
        have h4 : Int32.ofNat (zpl ln pr i) + Int32.ofNat (ln i) = Int32.ofNat (zpl ln pr (i + 1)) := by rw [← Int32.ofNat_add, e1]
        simp (disch := omega) only [fX5_through_L25, n_le, n_rd, n_cl, n_let, n_s, ep, zbT, n10, b4 i i1, h4, show ¬ n ≤ i from by omega, show ¬ zpl ln pr (i + 1) ≤ y from by omega, if_true, if_false]
      have h6 : fX6_through (Int32.ofNat y) th d = some (Int32.ofNat i, 0) := by
        unfold fX6_through
        rw [hpl, n_bind, inN_t (by omega) hy, n_bind, n_let, if_neg (by decide)]
        show fX6_through_L38 d 0 1024 (Int32.ofNat y) 0 = _
        refine n_walk (fun f k => fX6_through_L38 d 0 f (Int32.ofNat (y - zpl ln pr k)) (Int32.ofNat k)) i _ (fun f => ?_) (fun f k hk' => ?_) 1024 (by omega)
        · obtain ⟨d0, d1, d2, d3, d4, d5⟩ := hm.2.2.2.2.2 i i1
          rw [i2] at d3
          have hl9 := (w6 i i1).2.1
          have e2 : (1 : Int32) = 1 := rfl
          simp (disch := omega) only [fX6_through_L38, e_isPrinted, n_bind, n_let, d3, zbT, e2, if_true, n10, if_false, e_of0, d0, n_lt, show y - zpl ln pr i < ln i from by omega]
        · obtain ⟨d0, d1, d2, d3, d4, d5⟩ := hm.2.2.2.2.2 k (by omega)
          have hl9 := (w6 k (by omega)).2.1
          have h9 := hk k (by omega)
          have h10 := hk (k + 1) (by omega)
          have e3 : zpl ln pr (k + 1) = zpl ln pr k + (if pr k = true then ln k else 0) := rfl
          have h01 : ((0 : Int32) = 1) = False := by decide
          cases hp : pr k
          · rw [hp] at d3 e3
            have e3 : zpl ln pr (k + 1) = zpl ln pr k := by rw [e3, if_neg (by simp), Nat.add_zero]
            simp (disch := omega) only [fX6_through_L38, e_isPrinted, n_bind, n_let, n_s, d3, zbF, h01, if_true, if_false, e_of0, e_of3, d0, Int32.zero_mul, Int32.sub_zero, e3]
          · rw [hp] at d3 e3
            rw [if_pos rfl] at e3
            have e4 : Int32.ofNat (y - zpl ln pr k) - 1 * Int32.ofNat (ln k) = Int32.ofNat (y - zpl ln pr (k + 1)) := by
              rw [Int32.one_mul]
              exact n_sub (by omega)
            have e2 : ((1 : Int32) = 1) = True := eq_true rfl
            simp (disch := omega) only [fX6_through_L38, e_isPrinted, n_bind, n_let, n_s, d3, zbT, e2, n10, if_true, if_false, e_of0, e_of3, d0, n_lt, show ¬ y - zpl ln pr k < ln k from by omega, e4]
      refine ⟨0, vp_updL told (0 : Int32).toNatClampNeg (Int32.ofNat i).toInt64, ?_⟩
      unfold fS14 fL_through
      rw [h5, h6]
      simp only [o_hlp, n_bind, if_true, fX6_thrown, g_fin]
    · exfalso
      have hk : ∀ k, k ≤ n → zpl ln pr k ≤ y := fun k => by
        induction k with
        | zero => intro _; exact Nat.zero_le _
        | succ k ih =>
          intro hk
          have h1 := ih (by omega)
          have h2 := hno k (by omega)
          have e1 : zpl ln pr (k + 1) = zpl ln pr k + (if pr k = true then ln k else 0) := rfl
          by_cases hp : pr k = true
          · exact Nat.le_of_not_lt (fun h => h2 ⟨hp, h⟩)
          · rw [if_neg hp] at e1; omega
      have := hk n (Nat.le_refl _)
      omega
end ZQ7
