/-! ===== what is told of pages ===== -/
theorem in_t {p a b : Int32} (h1 : ¬ p < a) (h2 : ¬ b < p) : fX6_in p a b = some 1 := by unfold fX6_in; rw [if_neg h1, if_neg h2]
theorem in_f {p a b : Int32} (h : p < a ∨ b < p) : fX6_in p a b = some 0 := by
  unfold fX6_in
  by_cases h1 : p < a
  · rw [if_pos h1]
  · rw [if_neg h1, if_pos (h.resolve_left h1)]
theorem fails_0 (k : Int32) : fX6_fails 0 k 0 = some (0, 0) := rfl
theorem fails_1 : fX6_fails 1 1 0 = some (1, 1) := rfl
theorem fails_2 : fX6_fails 1 2 0 = some (1, 2) := rfl
section ZPG
variable {H n m : Nat} {ln : Nat → Nat} {pr wa sl : Nat → Bool} {ac : Int32} {co es se d : Nat → Int32}
theorem e_ofPage (hn : n ≤ 24) (h : MV H n m ln pr wa sl ac co es se d) (q what : Int32) (pg : Nat → Int32) :
    ∃ fi, fX6_ofPage q what d pg = some (if what = 0 then zsum (fun i => if pg i = q then 1 else 0) 0 n else if what = 1 then fi else if what = 2 then Int32.ofNat H - zsum (fun i => if pg i = q then Int32.ofNat (ln i) else 0) 0 n else zsum (fun i => if pg i = q then zbi (wa i) * es i else 0) 0 n) ∧
      ((fi = -1 ∧ ∀ i, i < n → pg i ≠ q) ∨ ∃ i, i < n ∧ fi = Int32.ofNat i ∧ pg i = q ∧ ∀ j, j < i → pg j ≠ q) := by
  have h0 : d (0 : Int32).toNatClampNeg = Int32.ofNat H := h.1
  have h1 : d (1 : Int32).toNatClampNeg = Int32.ofNat n := h.2.1
  have key := n_inv (fun f k (s : Int32 × Int32 × Int32 × Int32) => fX6_ofPage_L19 d (fun (x2 : Int32) (x3 : Int32) (x4 : Int32) (x5 : Int32) => (if what = 0 then some (x2) else (if what = (1 : Int32) then some (x3) else (if what = (2 : Int32) then some (x4) else some (x5))))) pg q f s.1 s.2.1 s.2.2.1 s.2.2.2 (Int32.ofNat k)) n
    (fun s => if what = 0 then some s.1 else if what = 1 then some s.2.1 else if what = 2 then some s.2.2.1 else some s.2.2.2)
    (fun k s => s.1 = zsum (fun i => if pg i = q then 1 else 0) 0 k ∧ ((s.2.1 = -1 ∧ ∀ i, i < k → pg i ≠ q) ∨ ∃ i, i < k ∧ s.2.1 = Int32.ofNat i ∧ pg i = q ∧ ∀ j, j < i → pg j ≠ q) ∧ s.2.2.1 = Int32.ofNat H - zsum (fun i => if pg i = q then Int32.ofNat (ln i) else 0) 0 k ∧ s.2.2.2 = zsum (fun i => if pg i = q then zbi (wa i) * es i else 0) 0 k)
    (fun f s hs => by simp only [fX6_ofPage_L19, h1, Int32.le_refl, if_true])
    (fun f k s hk hs => by
      obtain ⟨a, b, c, e⟩ := s
      obtain ⟨s1, s2, s3, s4⟩ := hs
      have s1 : a = _ := s1
      have s2 : (b = -1 ∧ ∀ i, i < k → pg i ≠ q) ∨ ∃ i, i < k ∧ b = Int32.ofNat i ∧ pg i = q ∧ ∀ j, j < i → pg j ≠ q := s2
      have s3 : c = _ := s3
      have s4 : e = _ := s4
      obtain ⟨d0, d1, d2, d3, d4, d5⟩ := h.2.2.2.2.2 k hk
      by_cases hp : pg k = q
      · have fin : ∀ b', (((b' = -1 ∧ ∀ i, i < k + 1 → pg i ≠ q) ∨ ∃ i, i < k + 1 ∧ b' = Int32.ofNat i ∧ pg i = q ∧ ∀ j, j < i → pg j ≠ q)) → (a + 1, b', c - Int32.ofNat (ln k), e + zbi (wa k) * es k).1 = zsum (fun i => if pg i = q then 1 else 0) 0 (k + 1) ∧ ((b' = -1 ∧ ∀ i, i < k + 1 → pg i ≠ q) ∨ ∃ i, i < k + 1 ∧ b' = Int32.ofNat i ∧ pg i = q ∧ ∀ j, j < i → pg j ≠ q) ∧ c - Int32.ofNat (ln k) = Int32.ofNat H - zsum (fun i => if pg i = q then Int32.ofNat (ln i) else 0) 0 (k + 1) ∧ e + zbi (wa k) * es k = zsum (fun i => if pg i = q then zbi (wa i) * es i else 0) 0 (k + 1) := fun b' hb => by
          rw [zsum_end, zsum_end, zsum_end, if_pos hp, if_pos hp, if_pos hp, s1, s3, s4]
          exact ⟨rfl, hb, Int32.sub_sub _ _ _, rfl⟩
        rcases s2 with ⟨e1, e2⟩ | ⟨i, i1, i2, i3, i4⟩
        · refine ⟨(a + 1, Int32.ofNat k, c - Int32.ofNat (ln k), e + zbi (wa k) * es k), fin (Int32.ofNat k) (Or.inr ⟨k, by omega, rfl, hp, e2⟩), ?_⟩
          simp (disch := omega) only [fX6_ofPage_L19, h1, n_le, n_rd, n_cl, n_bind, n_let, n_s, e_of0, e_of1, e_of4, d0, d1, d4, hp, e1, show ¬ n ≤ k from by omega, if_false, if_true]
        · have e1 : ¬ b = -1 := by rw [i2]; exact n_m1 (by omega)
          refine ⟨(a + 1, b, c - Int32.ofNat (ln k), e + zbi (wa k) * es k), fin b (Or.inr ⟨i, by omega, i2, i3, i4⟩), ?_⟩
          simp (disch := omega) only [fX6_ofPage_L19, h1, n_le, n_rd, n_cl, n_bind, n_let, n_s, e_of0, e_of1, e_of4, d0, d1, d4, hp, e1, show ¬ n ≤ k from by omega, if_false, if_true]
      · refine ⟨(a, b, c, e), ?_, ?_⟩
        · rw [zsum_end, zsum_end, zsum_end, if_neg hp, if_neg hp, if_neg hp, Int32.add_zero, Int32.add_zero, Int32.add_zero]
          refine ⟨s1, ?_, s3, s4⟩
          rcases s2 with ⟨e1, e2⟩ | ⟨i, i1, i2, i3, i4⟩
          · exact Or.inl ⟨e1, fun i hi => by
              by_cases e : i = k
              · subst e; exact hp
              · exact e2 i (by omega)⟩
          · exact Or.inr ⟨i, by omega, i2, i3, i4⟩
        · simp (disch := omega) only [fX6_ofPage_L19, h1, n_le, n_rd, n_cl, n_bind, n_let, n_s, hp, show ¬ n ≤ k from by omega, if_false, if_true])
    n 0 1024 (0, -1, Int32.ofNat H, 0) (by omega) (by omega) ⟨rfl, Or.inl ⟨rfl, fun i hi => absurd hi (Nat.not_lt_zero _)⟩, (Int32.sub_zero _).symm, rfl⟩
  obtain ⟨⟨a, b, c, e⟩, ⟨k1, k2, k3, k4⟩, k5⟩ := key
  have k1 : a = _ := k1
  have k3 : c = _ := k3
  have k4 : e = _ := k4
  refine ⟨b, ?_, k2⟩
  unfold fX6_ofPage
  rw [n_let, n_let, h0]
  refine k5.trans ?_
  rw [← k1, ← k3, ← k4]
  split
  · rfl
  · split
    · rfl
    · split <;> rfl
theorem e_wantedEstimatesOn (hn : n ≤ 24) (q : Int32) (es w pg : Nat → Int32) : fX5_wantedEstimatesOn q (Int32.ofNat n) es w pg = some (zsum (fun i => if pg i = q then (if w i = 0 then 0 else es i) else 0) 0 n) := by
  refine (n_for0 (fun f k s => fX5_wantedEstimatesOn_L4 (Int32.ofNat n) pg q w es f s (Int32.ofNat k)) n (fun k s => s + (if pg k = q then (if w k = 0 then 0 else es k) else 0)) some (fun f s => ?_) (fun f k s hk => ?_) n 0 1024 0 (by omega) (by omega)).trans ?_
  · simp only [fX5_wantedEstimatesOn_L4, Int32.le_refl, if_true]
  · by_cases h1 : pg k = q
    · by_cases h2 : w k = 0
      · simp (disch := omega) only [fX5_wantedEstimatesOn_L4, n_le, n_rd, n_cl, n_let, n_s, show ¬ n ≤ k from by omega, h1, h2, if_true, if_false, Int32.add_zero]
      · simp (disch := omega) only [fX5_wantedEstimatesOn_L4, n_le, n_rd, n_cl, n_let, n_s, show ¬ n ≤ k from by omega, h1, h2, if_true, if_false]
    · simp (disch := omega) only [fX5_wantedEstimatesOn_L4, n_le, n_rd, n_cl, n_let, n_s, show ¬ n ≤ k from by omega, h1, if_true, if_false, Int32.add_zero]
  · rw [zfold_sum, Int32.zero_add]
theorem zwe (b : Bool) (e : Int32) : (if zbi b = 0 then 0 else e) = zbi b * e := by cases b <;> simp [zbi]
theorem e_blanks (hn : n ≤ 24) (hw : NW H n m ln pr wa) (h : MV H n m ln pr wa sl ac co es se d) {pg : Nat → Int32} (hpg : ∀ i, i < n → pg i = zPg H ln pr i) :
    fX6_blanks d pg (Int32.ofNat (zP H ln pr n)) = some (zsum (fun p => Int32.ofNat H - Int32.ofNat (zus H ln pr n p)) 0 (zP H ln pr n - 1)) := by
  have hP := (zP_le H ln pr n).1
  have hx : ∀ f k s, zP H ln pr n ≤ k + 1 → fX6_blanks_L4 (Int32.ofNat (zP H ln pr n)) d pg (f + 1) s (Int32.ofNat k) = if k < 1000 then some s else fX6_blanks_L4 (Int32.ofNat (zP H ln pr n)) d pg (f + 1) s (Int32.ofNat k) := fun f k s hk => by
    by_cases hk2 : k < 1000
    · rw [if_pos hk2]
      simp (disch := omega) only [fX6_blanks_L4, n_s, n_le, hk, if_true]
    · rw [if_neg hk2]
  refine (n_for0 (fun f k s => fX6_blanks_L4 (Int32.ofNat (zP H ln pr n)) d pg f s (Int32.ofNat k)) (zP H ln pr n - 1) (fun p s => s + (Int32.ofNat H - Int32.ofNat (zus H ln pr n p))) some (fun f s => ?_) (fun f k s hk => ?_) (zP H ln pr n - 1) 0 1024 0 (by omega) (by omega)).trans ?_
  · show fX6_blanks_L4 (Int32.ofNat (zP H ln pr n)) d pg (f + 1) s (Int32.ofNat (zP H ln pr n - 1)) = some s
    rw [hx f _ s (by omega), if_pos (by omega)]
  · obtain ⟨fi, h1, h2⟩ := e_ofPage hn h (Int32.ofNat k) 2 pg
    have h3 : zsum (fun i => if pg i = Int32.ofNat k then Int32.ofNat (ln i) else 0) 0 n = Int32.ofNat (zus H ln pr n k) :=
      (zsum_congr n 0 (fun i _ hi => by rw [hpg i (by omega)])).trans (zsum_us (by omega) n hn)
    rw [h3] at h1
    simp only [show ¬ ((2 : Int32) = 0) from by decide, show ¬ ((2 : Int32) = 1) from by decide, if_false, if_true] at h1
    simp (disch := omega) only [fX6_blanks_L4, n_le, n_s, n_bind, n_let, h1, show ¬ zP H ln pr n ≤ k + 1 from by omega, if_false]
  · rw [zfold_sum, Int32.zero_add]
theorem e_blank5 (hn : n ≤ 24) {no pg l us lo fi : Nat → Int32} {P K T : Int32} (hy : YOK H ln pr n (no, pg, l, us, lo, fi, P, K, T)) : fX3_blankLinesAheadOfLastPage (Int32.ofNat H) us P = some (zsum (fun p => Int32.ofNat H - Int32.ofNat (zus H ln pr n p)) 0 (zP H ln pr n - 1)) := by
  have hP := (zP_le H ln pr n).1
  have hP2 : P = Int32.ofNat (zP H ln pr n) := hy.2.2.2.1
  subst hP2
  by_cases h0 : zP H ln pr n = 0
  · unfold fX3_blankLinesAheadOfLastPage
    rw [h0]
    rfl
  · obtain ⟨Q, hQ⟩ : ∃ Q, zP H ln pr n = Q + 1 := ⟨zP H ln pr n - 1, by omega⟩
    refine (n_for0 (fun f k s => fX3_blankLinesAheadOfLastPage_L4 (Int32.ofNat (zP H ln pr n)) (Int32.ofNat H) us f s (Int32.ofNat k)) Q (fun p s => s + (Int32.ofNat H - Int32.ofNat (zus H ln pr n p))) some (fun f s => ?_) (fun f k s hk => ?_) Q 0 1024 0 (by omega) (by omega)).trans ?_
    · simp only [fX3_blankLinesAheadOfLastPage_L4, hQ, n_p, Int32.le_refl, if_true]
    · have e1 : us k = Int32.ofNat (zus H ln pr n k) := ((hy.2.1 k (by omega)).1).trans (zsum_us (by omega) n hn)
      simp (disch := omega) only [fX3_blankLinesAheadOfLastPage_L4, hQ, n_p, n_le, n_rd, n_cl, n_let, n_s, e1, show ¬ Q ≤ k from by omega, if_false]
    · rw [zfold_sum, Int32.zero_add, hQ, Nat.add_sub_cancel]
end ZPG
