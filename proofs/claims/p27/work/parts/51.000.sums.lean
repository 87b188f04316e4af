theorem e_wantedLots {n : Nat} (hn : n ≤ 24) (w : Nat → Int32) : fX0_wantedLots (Int32.ofNat n) w = some (zsum (fun i => if w i = 0 then 0 else 1) 0 n) := by
  refine (n_for0 (fun f k s => fX0_wantedLots_L4 (Int32.ofNat n) w f s (Int32.ofNat k)) n (fun k s => s + if w k = 0 then 0 else 1) some (fun f s => ?_) (fun f k s hk => ?_) n 0 1024 0 (by omega) (by omega)).trans ?_
  · simp (disch := omega) only [fX0_wantedLots_L4, n_le, Nat.le_refl, if_true]
  · simp (disch := omega) only [fX0_wantedLots_L4, n_le, n_rd, n_cl, n_let, n_s, show ¬ n ≤ k from by omega, if_false]
    split <;> simp only [*, if_true, if_false, Int32.add_zero]
  · rw [zfold_sum, Int32.zero_add]
theorem e_slippedLots {n : Nat} (hn : n ≤ 24) (w : Nat → Int32) : fX0_slippedLots (Int32.ofNat n) w = some (zsum (fun i => if w i = 0 then 0 else 1) 0 n) := by
  refine (n_for0 (fun f k s => fX0_slippedLots_L4 (Int32.ofNat n) w f s (Int32.ofNat k)) n (fun k s => s + if w k = 0 then 0 else 1) some (fun f s => ?_) (fun f k s hk => ?_) n 0 1024 0 (by omega) (by omega)).trans ?_
  · simp (disch := omega) only [fX0_slippedLots_L4, n_le, Nat.le_refl, if_true]
  · simp (disch := omega) only [fX0_slippedLots_L4, n_le, n_rd, n_cl, n_let, n_s, show ¬ n ≤ k from by omega, if_false]
    split <;> simp only [*, if_true, if_false, Int32.add_zero]
  · rw [zfold_sum, Int32.zero_add]
theorem e_wantedEstimates {n : Nat} (hn : n ≤ 24) (e w : Nat → Int32) : fX0_wantedEstimates (Int32.ofNat n) e w = some (zsum (fun i => if w i = 0 then 0 else e i) 0 n) := by
  refine (n_for0 (fun f k s => fX0_wantedEstimates_L4 (Int32.ofNat n) w e f s (Int32.ofNat k)) n (fun k s => s + if w k = 0 then 0 else e k) some (fun f s => ?_) (fun f k s hk => ?_) n 0 1024 0 (by omega) (by omega)).trans ?_
  · simp (disch := omega) only [fX0_wantedEstimates_L4, n_le, Nat.le_refl, if_true]
  · simp (disch := omega) only [fX0_wantedEstimates_L4, n_le, n_rd, n_cl, n_let, n_s, show ¬ n ≤ k from by omega, if_false]
    split <;> simp only [*, if_true, if_false, Int32.add_zero]
  · rw [zfold_sum, Int32.zero_add]
