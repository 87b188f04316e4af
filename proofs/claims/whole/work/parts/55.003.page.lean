theorem n_subI {a b : Nat} (ha : a < 1073741824) (hb : b < 1073741824) : (Int32.ofNat a - Int32.ofNat b).toInt = (a : Int) - b := by
  rw [Int32.toInt_sub, n_ti (by omega), n_ti (by omega)]
  exact Int.bmod_eq_of_le (by omega) (by omega)
theorem n_first (Q : Nat → Prop) [DecidablePred Q] : ∀ n : Nat, (∃ i, i < n ∧ Q i ∧ ∀ j, j < i → ¬ Q j) ∨ ∀ i, i < n → ¬ Q i
  | 0 => Or.inr (fun i h => absurd h (Nat.not_lt_zero _))
  | n + 1 => by
    rcases n_first Q n with ⟨i, h1, h2⟩ | h
    · exact Or.inl ⟨i, by omega, h2⟩
    · by_cases hq : Q n
      · exact Or.inl ⟨n, by omega, hq, h⟩
      · exact Or.inr (fun i hi => by
          by_cases e : i = n
          · subst e; exact hq
          · exact h i (by omega))
/-- a loop that goes on ahead of i, and ends there -/
theorem n_walk {ρ : Type} (F : Nat → Nat → Option ρ) (i : Nat) (r : Option ρ) (hx : ∀ f, F (f + 1) i = r) (hs : ∀ f k, k < i → F (f + 1) k = F f (k + 1)) (fuel : Nat) (hf : i < fuel) : F fuel 0 = r :=
  n_for0 (fun f k (_ : Unit) => F f k) i (fun _ s => s) (fun _ => r) (fun f _ => hx f) (fun f k _ hk => hs f k hk) i 0 fuel () (by omega) hf
section ZQ3
variable {H n m : Nat} {ln : Nat → Nat} {pr wa sl : Nat → Bool} {hh cc rr ac dc : Int32} {co es se d li p w s lots : Nat → Int32} {no pg l us lo fi : Nat → Int32} {P K T : Int32}
theorem s_5 (x x2 th : Int32) (hw : NW H n m ln pr wa) (hb : BV H n m ln pr wa sl hh cc rr li p w s) (hm : MV H n m ln pr wa sl ac co es se d) (hy : YOK H ln pr n (no, pg, l, us, lo, fi, P, K, T)) (a b c e : Nat → Int32) (f : Int32) (told : Nat → Int64) :
    ∃ th' a' b' c' e' f' t', fS5 x x2 hh cc es w pg us lo fi P th d a b c e f told = some (th', a', b', c', e', f', t') := by
  have hn := hw.2.2.1
  obtain ⟨b1, b2, b3, b4, b5, b6, b7⟩ := id hb
  have hPle := (zP_le H ln pr n).1
  have hP : P = Int32.ofNat (zP H ln pr n) := hy.2.2.2.1
  obtain ⟨a', b', c', e', f', l1, l2⟩ := m_noPage hw hm x a b c e f
  rcases n_range (show zP H ln pr n < 2147483648 by omega) x with hx | ⟨q, hq, rfl⟩
  · rw [if_pos hx] at l2
    refine ⟨1, a', b', c', e', f', told, ?_⟩
    unfold fS5 fL_page fX6_page fX5_page
    rw [l2, hP, needPage_f (by omega) hx]
    rfl
  · rw [if_neg (fun hh => by
      rcases hh with h | h
      · exact n_lt0 (by omega) h
      · have := (n_le (by omega) (by omega)).mp h; omega)] at l2
    rcases n_range (show 4 < 2147483648 by omega) x2 with hx | ⟨k, hk, rfl⟩
    · refine ⟨2, a', b', c', e', f', told, ?_⟩
      have h := fun k hk => n_ne (n := 4) (by omega) hx (k := k) hk
      have h5 : fX5_page (Int32.ofNat q) x2 hh cc es w pg us lo fi P = some (.inl "java/lang/IllegalArgumentException") := by
        unfold fX5_page
        rw [hP, needPage_t (by omega) hq, o_tryR, if_neg (show ¬ x2 = (0 : Int32) from h 0 (by omega)), if_neg (show ¬ x2 = (1 : Int32) from h 1 (by omega)), if_neg (show ¬ x2 = (2 : Int32) from h 2 (by omega)), if_neg (show ¬ x2 = (3 : Int32) from h 3 (by omega))]
      have h6 : fX6_page (Int32.ofNat q) x2 th d a b c e f = some (0, 2, a', b', c', e', f') := by
        unfold fX6_page
        rw [l2, n_bind]
        show o_bind (fX6_in x2 0 3) _ = _
        rw [inL_f (n := 4) (by omega) (by decide) hx, n_bind]
        rfl
      unfold fS5 fL_page
      rw [h5, h6]
      rfl
    · obtain ⟨y1, y2, i, i1, i2, i3, i4⟩ := hy.2.1 q hq
      have y1 : us q = _ := y1
      have y2 : lo q = _ := y2
      have i2 : fi q = _ := i2
      have hpg : ∀ i, i < n → b' i = zPg H ln pr i := fun i hi => (l1.1 i hi).2.1
      obtain ⟨ff, o1, o2⟩ := e_ofPage hn hm (Int32.ofNat q) (Int32.ofNat k) b'
      have hff : ff = Int32.ofNat i := by
        rcases o2 with ⟨-, h⟩ | ⟨i', j1, j2, j3, j4⟩
        · exact absurd ((hpg i i1).trans i3) (h i i1)
        · rw [j2]
          rw [hpg i' j1] at j3
          rcases Nat.lt_trichotomy i i' with h | h | h
          · exact absurd ((hpg i i1).trans i3) (j4 i h)
          · rw [h]
          · exact absurd j3 (i4 i' h)
      have z1 : zsum (fun i => if b' i = Int32.ofNat q then 1 else 0) 0 n = lo q := by
        rw [y2]; exact zsum_congr n 0 (fun i _ hi => by rw [hpg i (by omega)])
      have z2 : zsum (fun i => if b' i = Int32.ofNat q then Int32.ofNat (ln i) else 0) 0 n = us q := by
        rw [y1]; exact zsum_congr n 0 (fun i _ hi => by rw [hpg i (by omega)])
      have z3 : zsum (fun i => if b' i = Int32.ofNat q then zbi (wa i) * es i else 0) 0 n = zsum (fun i => if pg i = Int32.ofNat q then (if w i = 0 then 0 else es i) else 0) 0 n :=
        zsum_congr n 0 (fun i _ hi => by
          rw [hpg i (by omega), ← (hy.1 i (by omega)).2.1, b6 i (by omega), zwe])
      have c5 : ∃ v, fX5_page (Int32.ofNat q) (Int32.ofNat k) hh cc es w pg us lo fi P = some (.inr v) ∧ fX6_ofPage (Int32.ofNat q) (Int32.ofNat k) d b' = some v := by
        rw [o1]
        unfold fX5_page
        rw [hP, needPage_t (by omega) hq, o_tryR, z1, z2, z3, hff, ← i2]
        clear o1
        have h4 : k = 0 ∨ k = 1 ∨ k = 2 ∨ k = 3 := by omega
        rcases h4 with rfl | rfl | rfl | rfl
        · refine ⟨lo q, ?_, congrArg some (if_pos rfl)⟩
          show o_rd 24 (Int32.ofNat q) (some (Sum.inr (lo (Int32.ofNat q).toNatClampNeg))) = _
          rw [n_rd (by omega) (by omega), n_cl (by omega)]
        · refine ⟨fi q, ?_, congrArg some ((if_neg (by decide)).trans (if_pos rfl))⟩
          show o_rd 24 (Int32.ofNat q) (some (Sum.inr (fi (Int32.ofNat q).toNatClampNeg))) = _
          rw [n_rd (by omega) (by omega), n_cl (by omega)]
        · refine ⟨Int32.ofNat H - us q, ?_, congrArg some ((if_neg (by decide)).trans ((if_neg (by decide)).trans (if_pos rfl)))⟩
          show o_rd 24 (Int32.ofNat q) (some (Sum.inr (hh - us (Int32.ofNat q).toNatClampNeg))) = _
          rw [n_rd (by omega) (by omega), n_cl (by omega), b1]
        · refine ⟨zsum (fun i => if pg i = Int32.ofNat q then (if w i = 0 then 0 else es i) else 0) 0 n, ?_, congrArg some ((if_neg (by decide)).trans ((if_neg (by decide)).trans (if_neg (by decide))))⟩
          show o_bind (fX5_wantedEstimatesOn _ _ _ _ _) _ = _
          rw [b2, e_wantedEstimatesOn hn, n_bind]
      obtain ⟨v, v1, v2⟩ := c5
      refine ⟨0, a', b', c', e', f', vp_updL told (0 : Int32).toNatClampNeg v.toInt64, ?_⟩
      unfold fS5 fL_page fX6_page
      rw [v1, l2, inL_t (n := 4) (by omega) (by decide) hk]
      simp only [o_hlp, n_bind, n_let, n10, if_false, fails_0, if_true, v2, fX6_thrown, g_fin]
theorem zcv_uniq {i j q x : Nat} (hi : zcv H ln pr i q x = true) (hj : zcv H ln pr j q x = true) : i = j := by
  have key : ∀ i j, i < j → zcv H ln pr i q x = true → ¬ zcv H ln pr j q x = true := fun i j hij hi hj => by
    have h1 := zs2_fresh hj
    rw [zs2_zero] at h1
    have : ∀ m, zus H ln pr (i + 1) q ≤ zus H ln pr (i + 1 + m) q := fun m => by
      induction m with
      | zero => exact Nat.le_refl _
      | succ m ih =>
        have : zus H ln pr (i + 1 + (m + 1)) q = zus H ln pr (i + 1 + m) q + (if pr (i + 1 + m) = true ∧ pgN H ln pr (i + 1 + m) = q then ln (i + 1 + m) else 0) := rfl
        omega
    have h2 := this (j - (i + 1))
    rw [show i + 1 + (j - (i + 1)) = j by omega] at h2
    have h3 : zs2 H ln pr (i + 1) q x = 0 := (zs2_zero q x (i + 1)).mpr (Nat.le_trans h2 h1)
    unfold zs2 at h3
    rw [if_pos hi] at h3
    omega
  rcases Nat.lt_trichotomy i j with h | h | h
  · exact absurd hj (key i j h hi)
  · exact h
  · exact absurd hi (key j i h hj)
theorem s_6 (x x2 th : Int32) (hw : NW H n m ln pr wa) (hb : BV H n m ln pr wa sl hh cc rr li p w s) (hm : MV H n m ln pr wa sl ac co es se d) (hy : YOK H ln pr n (no, pg, l, us, lo, fi, P, K, T)) (a b c e : Nat → Int32) (f : Int32) (told : Nat → Int64) :
    ∃ th' a' b' c' e' f' t', fS6 x x2 hh cc li pg l P th d a b c e f told = some (th', a', b', c', e', f', t') := by
  obtain ⟨w1, w2, w3, w4, w5, w6, w7⟩ := id hw
  have hn := hw.2.2.1
  obtain ⟨b1, b2, b3, b4, b5, b6, b7⟩ := id hb
  have hPle := (zP_le H ln pr n).1
  have hP : P = Int32.ofNat (zP H ln pr n) := hy.2.2.2.1
  have h0 : d (0 : Int32).toNatClampNeg = Int32.ofNat H := hm.1
  obtain ⟨a', b', c', e', f', l1, l2⟩ := m_noPage hw hm x a b c e f
  rcases n_range (show zP H ln pr n < 2147483648 by omega) x with hx | ⟨q, hq, rfl⟩
  · rw [if_pos hx] at l2
    refine ⟨1, a', b', c', e', f', told, ?_⟩
    unfold fS6 fL_standing fX6_standing fX5_standing
    rw [l2, hP, needPage_f (by omega) hx]
    rfl
  · rw [if_neg (fun hh => by
      rcases hh with h | h
      · exact n_lt0 (by omega) h
      · have := (n_le (by omega) (by omega)).mp h; omega)] at l2
    rcases n_range (show H < 2147483648 by omega) x2 with hx | ⟨y, hk, rfl⟩
    · refine ⟨2, a', b', c', e', f', told, ?_⟩
      have h5 : fX5_standing (Int32.ofNat q) x2 hh cc li pg l P = some (.inl "java/lang/IllegalArgumentException") := by
        unfold fX5_standing
        rw [hP, needPage_t (by omega) hq, o_tryR]
        by_cases h1 : x2 < 0
        · rw [if_pos h1]
        · rw [if_neg h1, b1, if_neg (n_out (by omega) hx h1)]
      have h6 : fX6_standing (Int32.ofNat q) x2 th d a b c e f = some (0, 2, a', b', c', e', f') := by
        unfold fX6_standing
        rw [l2, n_bind, h0]
        show o_bind (fX6_in x2 0 (Int32.ofNat H - 1)) _ = _
        rw [inN_f (by omega) hx, n_bind]
        rfl
      unfold fS6 fL_standing
      rw [h5, h6]
      rfl
    · have hg1 : H * q + y < 960 := by
        have : H * q + H ≤ H * 24 := by
          have := Nat.mul_le_mul_left H (show q + 1 ≤ 24 by omega)
          rw [Nat.mul_add, Nat.mul_one] at this
          exact this
        omega
      have hgd : (H * q + y) / H = q := by
        rw [Nat.add_comm, Nat.add_mul_div_left _ _ (by omega), Nat.div_eq_of_lt hk, Nat.zero_add]
      have hgm : (H * q + y) % H = y := by
        rw [Nat.add_comm, Nat.add_mul_mod_self_left, Nat.mod_eq_of_lt hk]
      have hcv : ∀ i, i < n → (zcv H ln pr i q y = true ↔ pg i = Int32.ofNat q ∧ liN H ln pr i ≤ y ∧ y < liN H ln pr i + ln i) := fun i hi => by
        have e1 : pg i = zPg H ln pr i := (hy.1 i hi).2.1
        rw [e1, zPg_iff (by omega) (by omega), zcv_iff, and_assoc]
      have hline : ∀ i, i < n → pg i = Int32.ofNat q → l i = Int32.ofNat (liN H ln pr i) ∧ liN H ln pr i ≤ 40 := fun i hi hp => by
        have e1 : pg i = zPg H ln pr i := (hy.1 i hi).2.1
        have e2 : l i = zLi H ln pr i := (hy.1 i hi).2.2
        rw [e1, zPg_iff (by omega) (by omega)] at hp
        have := zli_le (H := H) hp.1 (fun j hj => (w6 j (by omega)).2.2)
        rw [e2, zLi_t hp.1]
        exact ⟨rfl, by omega⟩
      have hstep : ∀ f k, k < n → ¬ zcv H ln pr k q y = true → fX5_standing_L32 cc (Int32.ofNat y) l pg (Int32.ofNat q) li (fun (x4 : Int32) (x5 : Int32) => some (.inr ((((10 : Int32) * x4) + x5)))) (f + 1) (Int32.ofNat k) = fX5_standing_L32 cc (Int32.ofNat y) l pg (Int32.ofNat q) li (fun (x4 : Int32) (x5 : Int32) => some (.inr ((((10 : Int32) * x4) + x5)))) f (Int32.ofNat (k + 1)) := fun f k hk1 hz => by
        by_cases c1 : pg k = Int32.ofNat q
        · obtain ⟨c2, c3⟩ := hline k hk1 c1
          by_cases c4 : (Int32.ofNat y - Int32.ofNat (liN H ln pr k)) < 0
          · simp (disch := omega) only [fX5_standing_L32, b2, n_le, n_rd, n_cl, n_let, n_s, c1, c2, c4, show ¬ n ≤ k from by omega, if_false, if_true]
          · have c5 : Int32.ofNat (ln k) ≤ (Int32.ofNat y - Int32.ofNat (liN H ln pr k)) := by
              have hl9 := (w6 k hk1).2.1
              rw [Int32.lt_iff_toInt_lt, n_subI (by omega) (by omega)] at c4
              rw [Int32.le_iff_toInt_le, n_subI (by omega) (by omega), n_ti (by omega)]
              have h00 : (0 : Int32).toInt = 0 := rfl
              have : ¬ (liN H ln pr k ≤ y ∧ y < liN H ln pr k + ln k) := fun h => hz ((hcv k hk1).mpr ⟨c1, h⟩)
              omega
            simp (disch := omega) only [fX5_standing_L32, b2, n_le, n_rd, n_cl, n_let, n_s, c1, c2, c4, b4 k hk1, c5, show ¬ n ≤ k from by omega, if_false, if_true]
        · simp (disch := omega) only [fX5_standing_L32, b2, n_le, n_rd, n_cl, n_let, n_s, c1, show ¬ n ≤ k from by omega, if_false, if_true]
      have c6 : ∃ v, fX5_standing_L32 cc (Int32.ofNat y) l pg (Int32.ofNat q) li (fun (x4 : Int32) (x5 : Int32) => some (.inr ((((10 : Int32) * x4) + x5)))) 1024 0 = some (.inr v) ∧ e' (H * q + y) = v := by
        have hst : e' (H * q + y) = zst H ln pr n (H * q + y) := l1.2.1 _ hg1
        rcases zst_cases (H := H) (ln := ln) (pr := pr) (g := H * q + y) (by omega) n (fun j hj => ⟨(w6 j hj).1, (w6 j hj).2.2⟩) with ⟨e1, e2⟩ | ⟨i, i1, i2, e1, e2⟩
        · rw [hgd, hgm, zs2_zero] at e2
          refine ⟨-1, ?_, hst.trans e1⟩
          refine n_walk (fun f k => fX5_standing_L32 cc (Int32.ofNat y) l pg (Int32.ofNat q) li (fun (x4 : Int32) (x5 : Int32) => some (.inr ((((10 : Int32) * x4) + x5)))) f (Int32.ofNat k)) n _ (fun f => ?_) (fun f k hk1 => hstep f k hk1 (fun hz => ?_)) 1024 (by omega)
          · simp only [fX5_standing_L32, b2, Int32.le_refl, if_true]
          · have h1 : zs2 H ln pr n q y = 0 := (zs2_zero q y n).mpr e2
            have : ∀ m, zs2 H ln pr (k + 1 + m) q y ≠ 0 := fun m => by
              induction m with
              | zero => 
                show (if zcv H ln pr k q y = true then _ else _) ≠ 0
                rw [if_pos hz]; omega
              | succ m ih =>
                show (if zcv H ln pr (k + 1 + m) q y = true then _ else _) ≠ 0
                split
                · omega
                · exact ih
            have := this (n - (k + 1))
            rw [show k + 1 + (n - (k + 1)) = n by omega] at this
            exact this h1
        · rw [hgd, hgm] at i2 
          rw [hgm] at e1
          obtain ⟨d1, d2, d3⟩ := (hcv i i1).mp i2
          obtain ⟨d4, d5⟩ := hline i i1 d1
          refine ⟨Int32.ofNat (10 * i + (y - liN H ln pr i)), ?_, hst.trans e1⟩
          refine n_walk (fun f k => fX5_standing_L32 cc (Int32.ofNat y) l pg (Int32.ofNat q) li (fun (x4 : Int32) (x5 : Int32) => some (.inr ((((10 : Int32) * x4) + x5)))) f (Int32.ofNat k)) i _ (fun f => ?_) (fun f k hk1 => hstep f k (by omega) (fun hz => ?_)) 1024 (by omega)
          · have hl9 := (w6 i i1).2.1
            have e5 : Int32.ofNat y - Int32.ofNat (liN H ln pr i) = Int32.ofNat (y - liN H ln pr i) := n_sub (by omega)
            have e6 : (10 : Int32) * Int32.ofNat i + Int32.ofNat (y - liN H ln pr i) = Int32.ofNat (10 * i + (y - liN H ln pr i)) := by
              rw [Int32.ofNat_add, Int32.ofNat_mul]; rfl
            simp (disch := omega) only [fX5_standing_L32, b2, n_le, n_rd, n_cl, n_let, n_s, d1, d4, e5, n_lt0, b4 i i1, show ¬ n ≤ i from by omega, show ¬ ln i ≤ y - liN H ln pr i from by omega, if_false, if_true, e6]
          · have := zcv_uniq hz i2
            omega
      obtain ⟨v, v1, v2⟩ := c6
      refine ⟨0, a', b', c', e', f', vp_updL told (0 : Int32).toNatClampNeg v.toInt64, ?_⟩
      have e7 : Int32.ofNat H * Int32.ofNat q + Int32.ofNat y = Int32.ofNat (H * q + y) := by rw [Int32.ofNat_add, Int32.ofNat_mul]
      have h5 : fX5_standing (Int32.ofNat q) (Int32.ofNat y) hh cc li pg l P = some (.inr v) := by
        unfold fX5_standing
        rw [hP, needPage_t (by omega) hq, o_tryR, if_neg (n_lt0 (by omega)), b1, if_pos (n_nge (by omega) hk), n_let, v1]
      have h6 : fX6_standing (Int32.ofNat q) (Int32.ofNat y) th d a b c e f = some (v, 0, a', b', c', e', f') := by
        unfold fX6_standing
        rw [l2, n_bind, h0]
        show o_bind (fX6_in (Int32.ofNat y) 0 (Int32.ofNat H - 1)) _ = _
        rw [inN_t (by omega) hk, n_bind, n_let, if_neg (by decide)]
        show o_rd 960 (Int32.ofNat H * Int32.ofNat q + Int32.ofNat y) (some (e' (Int32.ofNat H * Int32.ofNat q + Int32.ofNat y).toNatClampNeg, (0 : Int32), a', b', c', e', f')) = _
        rw [e7, n_rd hg1 (by omega), n_cl (by omega), v2]
      unfold fS6 fL_standing
      rw [h5, h6]
      simp only [o_hlp, n_bind, if_true, fX6_thrown, g_fin]
end ZQ3
