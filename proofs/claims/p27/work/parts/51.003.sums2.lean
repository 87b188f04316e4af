theorem e_wantedLotsOf {n : Nat} (hn : n ≤ 24) (q : Int32) (se w : Nat → Int32) : fX0_wantedLotsOf q (Int32.ofNat n) se w = some (zsum (fun i => if se i = q then (if w i = 0 then 0 else 1) else 0) 0 n) := by
  refine (n_for0 (fun f k s => fX0_wantedLotsOf_L4 (Int32.ofNat n) se q w f s (Int32.ofNat k)) n (fun k s => s + if se k = q then (if w k = 0 then 0 else 1) else 0) some (fun f s => ?_) (fun f k s hk => ?_) n 0 1024 0 (by omega) (by omega)).trans ?_
  · simp (disch := omega) only [fX0_wantedLotsOf_L4, n_le, Nat.le_refl, if_true]
  · simp (disch := omega) only [fX0_wantedLotsOf_L4, n_le, n_rd, n_cl, n_let, n_s, show ¬ n ≤ k from by omega, if_false]
    repeat' split
    all_goals simp_all
  · rw [zfold_sum, Int32.zero_add]
theorem e_wantedEstimatesOf {n : Nat} (hn : n ≤ 24) (q : Int32) (e se w : Nat → Int32) : fX0_wantedEstimatesOf q (Int32.ofNat n) e se w = some (zsum (fun i => if se i = q then (if w i = 0 then 0 else e i) else 0) 0 n) := by
  refine (n_for0 (fun f k s => fX0_wantedEstimatesOf_L4 (Int32.ofNat n) se q w e f s (Int32.ofNat k)) n (fun k s => s + if se k = q then (if w k = 0 then 0 else e k) else 0) some (fun f s => ?_) (fun f k s hk => ?_) n 0 1024 0 (by omega) (by omega)).trans ?_
  · simp (disch := omega) only [fX0_wantedEstimatesOf_L4, n_le, Nat.le_refl, if_true]
  · simp (disch := omega) only [fX0_wantedEstimatesOf_L4, n_le, n_rd, n_cl, n_let, n_s, show ¬ n ≤ k from by omega, if_false]
    repeat' split
    all_goals simp_all
  · rw [zfold_sum, Int32.zero_add]
theorem e_printedLinesOf {n : Nat} (hn : n ≤ 24) (q : Int32) (li se w : Nat → Int32) : fX0_printedLinesOf q (Int32.ofNat n) li se w = some (zsum (fun i => if se i = q then (if w i = 0 then 0 else li i) else 0) 0 n) := by
  refine (n_for0 (fun f k s => fX0_printedLinesOf_L4 (Int32.ofNat n) se q w li f s (Int32.ofNat k)) n (fun k s => s + if se k = q then (if w k = 0 then 0 else li k) else 0) some (fun f s => ?_) (fun f k s hk => ?_) n 0 1024 0 (by omega) (by omega)).trans ?_
  · simp (disch := omega) only [fX0_printedLinesOf_L4, n_le, Nat.le_refl, if_true]
  · simp (disch := omega) only [fX0_printedLinesOf_L4, n_le, n_rd, n_cl, n_let, n_s, show ¬ n ≤ k from by omega, if_false]
    repeat' split
    all_goals simp_all
  · rw [zfold_sum, Int32.zero_add]
theorem e_isDifferent {k : Nat} (hk : k < 24) (p w : Nat → Int32) : fX0_isDifferent (Int32.ofNat k) p w = some (if p k = w k then 0 else 1) := by
  unfold fX0_isDifferent
  rw [n_rd hk (by omega), n_rd hk (by omega), n_cl (by omega)]
  split <;> rfl
/-- a lot is dearer than the lot q -/
def zdear (e : Nat → Int32) (q i : Nat) : Bool := decide (e q < e i) || (decide (e i = e q) && decide (i < q))
def zdearI (e w : Nat → Int32) (q i : Nat) : Int32 := if w i = 0 then 0 else if zdear e q i = true then 1 else 0
theorem e_dearerLots {n q : Nat} (hn : n ≤ 24) (hq : q < 24) (e w : Nat → Int32) : fX0_dearerLots (Int32.ofNat q) (Int32.ofNat n) e w = some (zsum (zdearI e w q) 0 n) := by
  refine (n_for0 (fun f k s => fX0_dearerLots_L4 (Int32.ofNat n) (Int32.ofNat q) w e f s (Int32.ofNat k)) n (fun k s => s + zdearI e w q k) some (fun f s => ?_) (fun f k s hk => ?_) n 0 1024 0 (by omega) (by omega)).trans ?_
  · simp (disch := omega) only [fX0_dearerLots_L4, n_le, Nat.le_refl, if_true]
  · simp (disch := omega) only [fX0_dearerLots_L4, n_le, n_rd, n_cl, n_let, n_s, show ¬ n ≤ k from by omega, if_false]
    by_cases h4 : w k = 0
    · simp [zdearI, h4]
    · by_cases h1 : e q < e k
      · simp [zdearI, zdear, h4, h1]
      · by_cases h2 : e k = e q
        · by_cases h3 : q ≤ k
          · have h5 : ¬ k < q := by omega
            simp [zdearI, zdear, h4, h2, h3, h5]
          · have h5 : k < q := by omega
            simp [zdearI, zdear, h4, h2, h3, h5]
        · simp [zdearI, zdear, h4, h1, h2]
  · rw [zfold_sum, Int32.zero_add]
/-- 1 where a lot of the class is different -/
def zdfc (p w : Nat → Int32) (i : Nat) : Int32 := if p i = w i then 0 else 1
theorem e_differentLots {n : Nat} (hn : n ≤ 24) (p w : Nat → Int32) : fX0_differentLots (Int32.ofNat n) p w = some (zsum (zdfc p w) 0 n) := by
  refine (n_for0 (fun f k s => fX0_differentLots_L4 (Int32.ofNat n) p w f s (Int32.ofNat k)) n (fun k s => s + zdfc p w k) some (fun f s => ?_) (fun f k s hk => ?_) n 0 1024 0 (by omega) (by omega)).trans ?_
  · simp (disch := omega) only [fX0_differentLots_L4, n_le, Nat.le_refl, if_true]
  · simp (disch := omega) only [fX0_differentLots_L4, n_le, e_isDifferent, n_bind, n_let, n_s, show ¬ n ≤ k from by omega, if_false, zdfc]
    split <;> simp
  · rw [zfold_sum, Int32.zero_add]
