theorem n_lt0 {a : Nat} (ha : a < 2147483648) : ¬ (Int32.ofNat a < 0) := by
  rw [show (0 : Int32) = Int32.ofNat 0 from rfl, n_lt ha (by omega)]; omega
theorem n_ltm1 : ((-1 : Int32) < 0) := by decide
theorem n_sub {a b c : Nat} (h : a + b = c) : Int32.ofNat c - Int32.ofNat b = Int32.ofNat a := by
  rw [← h, Int32.ofNat_add]; exact Int32.add_sub_cancel _ _
section ZCH
variable {H n : Nat} {ln : Nat → Nat} {pr : Nat → Bool}
theorem pgN_le {k : Nat} : pgN H ln pr k ≤ k := by
  have := (zP_le H ln pr (k + 1)).1
  unfold pgN; omega
theorem zPg_t {i : Nat} (h : pr i = true) : zPg H ln pr i = Int32.ofNat (pgN H ln pr i) := by unfold zPg; rw [if_pos h]; rfl
theorem zPg_f {i : Nat} (h : ¬ pr i = true) : zPg H ln pr i = -1 := by unfold zPg; rw [if_neg h]
theorem zLi_t {i : Nat} (h : pr i = true) : zLi H ln pr i = Int32.ofNat (liN H ln pr i) := by unfold zLi; rw [if_pos h]; rfl
theorem zLi_f {i : Nat} (h : ¬ pr i = true) : zLi H ln pr i = -1 := by unfold zLi; rw [if_neg h]
theorem zNo_t {i : Nat} (h : pr i = true) : zNo_ H ln pr i = Int32.ofNat (zK H ln pr (i + 1)) := by unfold zNo_; rw [if_pos h]
theorem zNo_f {i : Nat} (h : ¬ pr i = true) : zNo_ H ln pr i = 0 := by unfold zNo_; rw [if_neg h]
theorem zPg_iff {i p : Nat} (hi : i < 24) (hp : p < 2147483648) : zPg H ln pr i = Int32.ofNat p ↔ pr i = true ∧ pgN H ln pr i = p := by
  by_cases h : pr i = true
  · have := pgN_le (H := H) (ln := ln) (pr := pr) (k := i)
    rw [zPg_t h, n_eq (by omega) hp]
    exact ⟨fun e => ⟨h, e⟩, fun e => e.2⟩
  · rw [zPg_f h]
    exact ⟨fun e => absurd e (n_m1' hp), fun e => absurd e.1 h⟩
theorem zsum_us {p : Nat} (hp : p < 2147483648) : ∀ n : Nat, n ≤ 24 → zsum (fun i => if zPg H ln pr i = Int32.ofNat p then Int32.ofNat (ln i) else 0) 0 n = Int32.ofNat (zus H ln pr n p)
  | 0, _ => rfl
  | n + 1, hn => by
    rw [zsum_end, zsum_us hp n (by omega), show zus H ln pr (n + 1) p = zus H ln pr n p + (if pr n = true ∧ pgN H ln pr n = p then ln n else 0) from rfl]
    by_cases h : pr n = true ∧ pgN H ln pr n = p
    · rw [if_pos ((zPg_iff (by omega) hp).mpr h), if_pos h, Int32.ofNat_add]
    · rw [if_neg (fun e => h ((zPg_iff (by omega) hp).mp e)), if_neg h, Int32.add_zero, Nat.add_zero]
theorem e_linesUsed {p : Nat} {no pg li us lo fi : Nat → Int32} {P K T : Int32} (hn : n ≤ 24) (hp : p < 24) (h : YOK H ln pr n (no, pg, li, us, lo, fi, P, K, T)) : fX3_linesUsedOn (Int32.ofNat p) us P = some (Int32.ofNat (zus H ln pr n p)) := by
  obtain ⟨h1, h2, h3, h4, h5, h6⟩ := h
  have h4 : P = Int32.ofNat (zP H ln pr n) := h4
  have hP := (zP_le H ln pr n).1
  subst h4
  unfold fX3_linesUsedOn
  rw [if_neg (n_lt0 (by omega))]
  by_cases e : zP H ln pr n ≤ p
  · rw [if_pos ((n_le (by omega) (by omega)).mpr e), (zus_last (H := H) (ln := ln) (pr := pr) n).1 p e]; rfl
  · rw [if_neg (fun h => e ((n_le (by omega) (by omega)).mp h)), n_rd hp (by omega), n_cl (by omega)]
    exact congrArg some (((h2 p (by omega)).1).trans (zsum_us (by omega) n hn))
end ZCH
section ZFC
variable {H n M : Nat} {ln : Nat → Nat} {pa pb : Nat → Bool}
theorem e_findChanged (hH : H ≤ 40) (hn : n ≤ 24) (hM : M ≤ 24) {lines no pg li us lo fi no' pg' li' us' lo' fi' : Nat → Int32} {P K T P' K' T' : Int32} (hl : ∀ i, i < n → lines i = Int32.ofNat (ln i) ∧ 1 ≤ ln i ∧ ln i ≤ 9 ∧ ln i ≤ H) (hA : YOK H ln pa n (no, pg, li, us, lo, fi, P, K, T)) (hB : YOK H ln pb n (no', pg', li', us', lo', fi', P', K', T')) (ch : Nat → Int32) :
    ∃ a, fX1_findChangedLines (Int32.ofNat M) no' pg' li' us' P' ch (Int32.ofNat n) lines no pg li us P = some a ∧ ∀ p, p < M → a p = Int32.ofNat (zchg H ln pa pb n p) := by
  have h3 : ∀ (j : (Nat → Int32) → Option (Nat → Int32)), fX1_findChangedLines_L3 (Int32.ofNat M) j us P us' P' 1024 0 ch = j (fun g => if 0 ≤ g ∧ g < 0 + M then Int32.ofNat (if zus H ln pa n (g - 0) < zus H ln pb n (g - 0) then zus H ln pb n (g - 0) else zus H ln pa n (g - 0)) else ch g) := fun j => by
    refine (n_for0 (fun f i s => fX1_findChangedLines_L3 (Int32.ofNat M) j us P us' P' f (Int32.ofNat i) s) M (fun i s => upd s (0 + i) (Int32.ofNat (if zus H ln pa n i < zus H ln pb n i then zus H ln pb n i else zus H ln pa n i))) j (fun f s => ?_) (fun f i s hi => ?_) M 0 1024 ch (by omega) (by omega)).trans (congrArg j (zfold_rng 0 (fun i => Int32.ofNat (if zus H ln pa n i < zus H ln pb n i then zus H ln pb n i else zus H ln pa n i)) ch M))
    · simp only [fX1_findChangedLines_L3, Int32.le_refl, if_true]
    · have u1 := zus_le (H := H) (pr := pa) i n (fun j hj => (hl j hj).2.2.2)
      have u2 := zus_le (H := H) (pr := pb) i n (fun j hj => (hl j hj).2.2.2)
      have e1 : (if Int32.ofNat (zus H ln pa n i) < Int32.ofNat (zus H ln pb n i) then Int32.ofNat (zus H ln pb n i) else Int32.ofNat (zus H ln pa n i)) = Int32.ofNat (if zus H ln pa n i < zus H ln pb n i then zus H ln pb n i else zus H ln pa n i) := by
        by_cases e : zus H ln pa n i < zus H ln pb n i
        · rw [if_pos e, if_pos ((n_lt (by omega) (by omega)).mpr e)]
        · rw [if_neg e, if_neg (fun h => e ((n_lt (by omega) (by omega)).mp h))]
      simp (disch := omega) only [fX1_findChangedLines_L3, n_le, n_rd, n_cl, n_let, n_bind, n_s, n_24, show ¬ M ≤ i from by omega, if_false, Nat.zero_add, e_linesUsed hn (show i < 24 by omega) hA, e_linesUsed hn (show i < 24 by omega) hB, e1]
  unfold fX1_findChangedLines
  simp only [n_let, h3]
  obtain ⟨a, ha1, ha2⟩ := n_inv (fun f k (s : Nat → Int32) => fX1_findChangedLines_L50 (Int32.ofNat n) pg' lines no' no pg li' li f (Int32.ofNat k) s) n some (fun k s => ∀ p, p < M → s p = Int32.ofNat (if zus H ln pa n p < zus H ln pb n p then zus H ln pb n p else zus H ln pa n p) - Int32.ofNat (zct (zkp H ln pa pb k p) H)) (fun f s hs => by simp only [fX1_findChangedLines_L50, Int32.le_refl, if_true]) (fun f k s hk hs => by
    obtain ⟨l1, l2, l3, l4⟩ := hl k hk
    obtain ⟨m, hm⟩ : ∃ m, ln k = m + 1 := ⟨ln k - 1, by omega⟩
    obtain ⟨y1, y2, y3⟩ := hA.1 k hk
    obtain ⟨v1, v2, v3⟩ := hB.1 k hk
    have y1 : no k = _ := y1
    have y2 : pg k = _ := y2
    have y3 : li k = _ := y3
    have v1 : no' k = _ := v1
    have v2 : pg' k = _ := v2
    have v3 : li' k = _ := v3
    have hst := fun p => zkp_step (H := H) (pa := pa) (pb := pb) (k := k) (p := p) (by omega) (fun j hj => (hl j (by omega)).2)
    have no_ : (∀ p, ¬ zkc H ln pa pb k p) → ∀ p, p < M → s p = Int32.ofNat (if zus H ln pa n p < zus H ln pb n p then zus H ln pb n p else zus H ln pa n p) - Int32.ofNat (zct (zkp H ln pa pb (k + 1) p) H) := fun hz p hp => by
      rw [hst p]
      unfold zkk
      rw [if_neg (hz p)]
      exact hs p hp
    by_cases hb : pb k = true
    · rw [zPg_t hb] at v2
      rw [zLi_t hb] at v3
      rw [zNo_t hb] at v1
      by_cases ha : pa k = true
      · rw [zPg_t ha] at y2
        rw [zLi_t ha] at y3
        rw [zNo_t ha] at y1
        have q1 := pgN_le (H := H) (ln := ln) (pr := pa) (k := k)
        have q2 := pgN_le (H := H) (ln := ln) (pr := pb) (k := k)
        have r1 := zli_le (H := H) ha (fun j hj => (hl j (by omega)).2.2.2)
        have r2 := zli_le (H := H) hb (fun j hj => (hl j (by omega)).2.2.2)
        have w1 := (zP_le H ln pa (k + 1)).2
        have w2 := (zP_le H ln pb (k + 1)).2
        by_cases c1 : pgN H ln pb k = pgN H ln pa k ∧ liN H ln pb k = liN H ln pa k
        · obtain ⟨c1, c2⟩ := c1
          refine ⟨upd s (pgN H ln pb k) (s (pgN H ln pb k) - Int32.ofNat (zkk H ln pa pb k (pgN H ln pb k))), fun p hp => ?_, ?_⟩
          · rw [hst p]
            by_cases e : p = pgN H ln pb k
            · subst e
              rw [upd_same, hs _ hp, Int32.ofNat_add, Int32.sub_sub]
            · rw [upd_ne e]
              have hz : ¬ zkc H ln pa pb k p := fun h => e h.2.2.2.1.symm
              unfold zkk
              rw [if_neg hz]
              exact hs p hp
          · have hz : zkc H ln pa pb k (pgN H ln pb k) := ⟨ha, hb, c1.symm, rfl, c2.symm⟩
            have e5 : (1 : Int32) = 0 ↔ False := by decide
            by_cases c3 : zK H ln pa (k + 1) = zK H ln pb (k + 1)
            · have e6 : zkk H ln pa pb k (pgN H ln pb k) = ln k := by unfold zkk; rw [if_pos hz, if_pos c3]
              rw [e6]
              simp (disch := omega) only [fX1_findChangedLines_L50, n_le, n_rd, n_cl, n_let, n_bind, n_s, n_24, show ¬ n ≤ k from by omega, if_false, if_true, l1, v2, v3, v1, y2, y3, y1, n_eq, c1, c2, c3, n_lt0, e5]
            · have e6 : zkk H ln pa pb k (pgN H ln pb k) = m := by unfold zkk; rw [if_pos hz, if_neg c3]; omega
              have e7 : ¬ zK H ln pb (k + 1) = zK H ln pa (k + 1) := fun h => c3 h.symm
              rw [e6]
              simp (disch := omega) only [fX1_findChangedLines_L50, n_le, n_rd, n_cl, n_let, n_bind, n_s, n_24, show ¬ n ≤ k from by omega, if_false, if_true, l1, v2, v3, v1, y2, y3, y1, n_eq, c1, c2, e7, n_lt0, e5, hm, n_p]
        · refine ⟨s, no_ (fun p h => c1 ⟨h.2.2.2.1.trans h.2.2.1.symm, h.2.2.2.2.symm⟩), ?_⟩
          by_cases c2 : pgN H ln pb k = pgN H ln pa k
          · have c3 : ¬ liN H ln pb k = liN H ln pa k := fun h => c1 ⟨c2, h⟩
            simp (disch := omega) only [fX1_findChangedLines_L50, n_le, n_rd, n_cl, n_let, n_bind, n_s, n_24, show ¬ n ≤ k from by omega, if_false, if_true, v2, v3, y2, y3, n_eq, c2, c3]
          · simp (disch := omega) only [fX1_findChangedLines_L50, n_le, n_rd, n_cl, n_let, n_bind, n_s, n_24, show ¬ n ≤ k from by omega, if_false, if_true, v2, y2, n_eq, c2]
      · rw [zPg_f ha] at y2
        have q2 := pgN_le (H := H) (ln := ln) (pr := pb) (k := k)
        have e : ¬ (Int32.ofNat (pgN H ln pb k) = -1) := n_m1 (by omega)
        refine ⟨s, no_ (fun p h => ha h.1), ?_⟩
        simp (disch := omega) only [fX1_findChangedLines_L50, n_le, n_rd, n_cl, n_let, n_bind, n_s, n_24, show ¬ n ≤ k from by omega, if_false, if_true, v2, y2, e]
    · rw [zPg_f hb] at v2
      refine ⟨s, no_ (fun p h => hb h.2.1), ?_⟩
      have e5 : (1 : Int32) = 0 ↔ False := by decide
      by_cases c2 : (-1 : Int32) = pg k
      · by_cases c3 : li' k = li k
        · simp (disch := omega) only [fX1_findChangedLines_L50, n_le, n_rd, n_cl, n_let, n_bind, n_s, n_24, show ¬ n ≤ k from by omega, if_false, if_true, v2, ← c2, c3, e5, n_ltm1]
        · simp (disch := omega) only [fX1_findChangedLines_L50, n_le, n_rd, n_cl, n_let, n_bind, n_s, n_24, show ¬ n ≤ k from by omega, if_false, if_true, v2, ← c2, c3]
      · simp (disch := omega) only [fX1_findChangedLines_L50, n_le, n_rd, n_cl, n_let, n_bind, n_s, n_24, show ¬ n ≤ k from by omega, if_false, if_true, v2, c2]) n 0 1024 (fun g => if 0 ≤ g ∧ g < 0 + M then Int32.ofNat (if zus H ln pa n (g - 0) < zus H ln pb n (g - 0) then zus H ln pb n (g - 0) else zus H ln pa n (g - 0)) else ch g) (by omega) (by omega) (fun p hp => by
      have e : zct (zkp H ln pa pb 0 p) H = 0 := zct_false H (fun l _ => by unfold zkp zs2; simp)
      rw [e]
      refine (if_pos (show 0 ≤ p ∧ p < 0 + M by omega)).trans ?_
      rw [Nat.sub_zero]
      exact (Int32.sub_zero _).symm)
  refine ⟨a, ha2, fun p hp => ?_⟩
  rw [ha1 p hp]
  exact n_sub (zchg_max (fun j hj => (hl j hj).2.2.2))
end ZFC
