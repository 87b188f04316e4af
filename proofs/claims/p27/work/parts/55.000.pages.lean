/-! ===== what is told of pages ===== -/
section ZPG
variable {H n m : Nat} {ln : Nat → Nat} {pr wa sl : Nat → Bool} {ac : Int32} {co es se d : Nat → Int32}
theorem e_wantedEstimatesOn (hn : n ≤ 24) (q : Int32) (es w pg : Nat → Int32) : fX5_wantedEstimatesOn q (Int32.ofNat n) es w pg = some (zsum (fun i => if pg i = q then (if w i = 0 then 0 else es i) else 0) 0 n) := by
  refine (n_for0 (fun f k s => fX5_wantedEstimatesOn_L4 (Int32.ofNat n) pg q w es f s (Int32.ofNat k)) n (fun k s => s + (if pg k = q then (if w k = 0 then 0 else es k) else 0)) some (fun f s => ?_) (fun f k s hk => ?_) n 0 1024 0 (by omega) (by omega)).trans ?_
  · simp only [fX5_wantedEstimatesOn_L4, Int32.le_refl, if_true]
  · by_cases h1 : pg k = q
    · by_cases h2 : w k = 0
      · simp (disch := omega) only [fX5_wantedEstimatesOn_L4, n_le, n_rd, n_cl, n_let, n_s, show ¬ n ≤ k from by omega, h1, h2, if_true, if_false, Int32.add_zero]
      · simp (disch := omega) only [fX5_wantedEstimatesOn_L4, n_le, n_rd, n_cl, n_let, n_s, show ¬ n ≤ k from by omega, h1, h2, if_true, if_false]
    · simp (disch := omega) only [fX5_wantedEstimatesOn_L4, n_le, n_rd, n_cl, n_let, n_s, show ¬ n ≤ k from by omega, h1, if_true, if_false, Int32.add_zero]
  · rw [zfold_sum, Int32.zero_add]
theorem zwe (b : Bool) (e : Int32) : (if zbi b = 0 then 0 else e) = zbi b * e := by cases b <;> simp [zbi]
theorem e_blank5 (hn : n ≤ 24) {no pg l us lo fi : Nat → Int32} {P K T : Int32} (hy : YOK H ln pr n (no, pg, l, us, lo, fi, P, K, T)) : fX3_blankLinesAheadOfLastPage (Int32.ofNat H) us P = some (zsum (fun p => Int32.ofNat H - Int32.ofNat (zus H ln pr n p)) 0 (zP H ln pr n - 1)) := by
  have hP := (zP_le H ln pr n).1
  have hP2 : P = Int32.ofNat (zP H ln pr n) := hy.2.2.2.1
  subst hP2
  by_cases h0 : zP H ln pr n = 0
  · unfold fX3_blankLinesAheadOfLastPage
    rw [h0]
    rfl
  · obtain ⟨Q, hQ⟩ : ∃ Q, zP H ln pr n = Q + 1 := ⟨zP H ln pr n - 1, by omega⟩
    refine (n_for0 (fun f k s => fX3_blankLinesAheadOfLastPage_L4 (Int32.ofNat (zP H ln pr n)) (Int32.ofNat H) us f s (Int32.ofNat k)) Q (fun p s => s + (Int32.ofNat H - Int32.ofNat (zus H ln pr n p))) some (fun f s => ?_) (fun f k s hk => ?_) Q 0 1024 0 (by omega) (by omega)).trans ?_
    · simp only [fX3_blankLinesAheadOfLastPage_L4, hQ, n_p, Int32.le_refl, if_true]
    · have e1 : us k = Int32.ofNat (zus H ln pr n k) := ((hy.2.1 k (by omega)).1).trans (zsum_us (by omega) n hn)
      simp (disch := omega) only [fX3_blankLinesAheadOfLastPage_L4, hQ, n_p, n_le, n_rd, n_cl, n_let, n_s, e1, show ¬ Q ≤ k from by omega, if_false]
    · rw [zfold_sum, Int32.zero_add, hQ, Nat.add_sub_cancel]
end ZPG
