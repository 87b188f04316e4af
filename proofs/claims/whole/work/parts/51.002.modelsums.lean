theorem e_of0 {k : Nat} (hk : k < 24) (d : Nat → Int32) : fX6_of (Int32.ofNat k) (0 : Int32) d = some (d (9 + 6 * k + 0)) := e_of (j := 0) hk (by omega) d
theorem e_set0 {k : Nat} (hk : k < 24) (v : Int32) (d : Nat → Int32) : fX6_set (Int32.ofNat k) (0 : Int32) v d = some (upd d (9 + 6 * k + 0) v) := e_set (j := 0) hk (by omega) v d
theorem e_of1 {k : Nat} (hk : k < 24) (d : Nat → Int32) : fX6_of (Int32.ofNat k) (1 : Int32) d = some (d (9 + 6 * k + 1)) := e_of (j := 1) hk (by omega) d
theorem e_set1 {k : Nat} (hk : k < 24) (v : Int32) (d : Nat → Int32) : fX6_set (Int32.ofNat k) (1 : Int32) v d = some (upd d (9 + 6 * k + 1) v) := e_set (j := 1) hk (by omega) v d
theorem e_of2 {k : Nat} (hk : k < 24) (d : Nat → Int32) : fX6_of (Int32.ofNat k) (2 : Int32) d = some (d (9 + 6 * k + 2)) := e_of (j := 2) hk (by omega) d
theorem e_set2 {k : Nat} (hk : k < 24) (v : Int32) (d : Nat → Int32) : fX6_set (Int32.ofNat k) (2 : Int32) v d = some (upd d (9 + 6 * k + 2) v) := e_set (j := 2) hk (by omega) v d
theorem e_of3 {k : Nat} (hk : k < 24) (d : Nat → Int32) : fX6_of (Int32.ofNat k) (3 : Int32) d = some (d (9 + 6 * k + 3)) := e_of (j := 3) hk (by omega) d
theorem e_set3 {k : Nat} (hk : k < 24) (v : Int32) (d : Nat → Int32) : fX6_set (Int32.ofNat k) (3 : Int32) v d = some (upd d (9 + 6 * k + 3) v) := e_set (j := 3) hk (by omega) v d
theorem e_of4 {k : Nat} (hk : k < 24) (d : Nat → Int32) : fX6_of (Int32.ofNat k) (4 : Int32) d = some (d (9 + 6 * k + 4)) := e_of (j := 4) hk (by omega) d
theorem e_set4 {k : Nat} (hk : k < 24) (v : Int32) (d : Nat → Int32) : fX6_set (Int32.ofNat k) (4 : Int32) v d = some (upd d (9 + 6 * k + 4) v) := e_set (j := 4) hk (by omega) v d
theorem e_of5 {k : Nat} (hk : k < 24) (d : Nat → Int32) : fX6_of (Int32.ofNat k) (5 : Int32) d = some (d (9 + 6 * k + 5)) := e_of (j := 5) hk (by omega) d
theorem e_set5 {k : Nat} (hk : k < 24) (v : Int32) (d : Nat → Int32) : fX6_set (Int32.ofNat k) (5 : Int32) v d = some (upd d (9 + 6 * k + 5) v) := e_set (j := 5) hk (by omega) v d
theorem e_differs {k : Nat} (hk : k < 24) (d : Nat → Int32) : fX6_differs (Int32.ofNat k) d = some (if d (9 + 6 * k + 3) = d (9 + 6 * k + 4) then 0 else 1) := by
  unfold fX6_differs
  have h3 : Int32.ofNat (9 + 6 * k) + (3 : Int32) = Int32.ofNat (9 + 6 * k + 3) := (Int32.ofNat_add _ 3).symm
  have h4 : Int32.ofNat (9 + 6 * k) + (4 : Int32) = Int32.ofNat (9 + 6 * k + 4) := (Int32.ofNat_add _ 4).symm
  rw [e_lotAt, n_bind, n_bind, h3, h4, n_rd (by omega) (by omega), n_rd (by omega) (by omega), n_cl (by omega), n_cl (by omega)]
  split <;> rfl
theorem e_mWantedEstimates {n : Nat} (hn : n ≤ 24) (d : Nat → Int32) (hd : d 1 = Int32.ofNat n) : fX6_wantedEstimates d = some (zsum (fun i => d (9 + 6 * i + 4) * d (9 + 6 * i + 1)) 0 n) := by
  have hd' : d (1 : Int32).toNatClampNeg = Int32.ofNat n := hd
  refine (n_for0 (fun f k s => fX6_wantedEstimates_L4 d f s (Int32.ofNat k)) n (fun k s => s + d (9 + 6 * k + 4) * d (9 + 6 * k + 1)) some (fun f s => ?_) (fun f k s hk => ?_) n 0 1024 0 (by omega) (by omega)).trans ?_
  · simp (disch := omega) only [fX6_wantedEstimates_L4, hd', n_le, Nat.le_refl, if_true]
  · simp (disch := omega) only [fX6_wantedEstimates_L4, hd', n_le, e_of4, e_of1, n_bind, n_let, n_s, show ¬ n ≤ k from by omega, if_false]
  · rw [zfold_sum, Int32.zero_add]
theorem e_mPrintedLines {n : Nat} (hn : n ≤ 24) (d : Nat → Int32) (hd : d 1 = Int32.ofNat n) : fX6_printedLines d = some (zsum (fun i => d (9 + 6 * i + 3) * d (9 + 6 * i)) 0 n) := by
  have hd' : d (1 : Int32).toNatClampNeg = Int32.ofNat n := hd
  refine (n_for0 (fun f k s => fX6_printedLines_L4 d f s (Int32.ofNat k)) n (fun k s => s + d (9 + 6 * k + 3) * d (9 + 6 * k)) some (fun f s => ?_) (fun f k s hk => ?_) n 0 1024 0 (by omega) (by omega)).trans ?_
  · simp (disch := omega) only [fX6_printedLines_L4, hd', n_le, Nat.le_refl, if_true]
  · simp (disch := omega) only [fX6_printedLines_L4, hd', n_le, e_of3, e_of0, n_bind, n_let, n_s, show ¬ n ≤ k from by omega, if_false, Nat.add_zero]
  · rw [zfold_sum, Int32.zero_add]
/-- 1 where a lot of the model is different -/
def zdf (d : Nat → Int32) (i : Nat) : Int32 := if d (9 + 6 * i + 3) = d (9 + 6 * i + 4) then 0 else 1
theorem e_mDifferent {n : Nat} (hn : n ≤ 24) (d : Nat → Int32) (hd : d 1 = Int32.ofNat n) : fX6_different d = some (zsum (zdf d) 0 n) := by
  have hd' : d (1 : Int32).toNatClampNeg = Int32.ofNat n := hd
  refine (n_for0 (fun f k s => fX6_different_L4 d f s (Int32.ofNat k)) n (fun k s => s + zdf d k) some (fun f s => ?_) (fun f k s hk => ?_) n 0 1024 0 (by omega) (by omega)).trans ?_
  · simp (disch := omega) only [fX6_different_L4, hd', n_le, Nat.le_refl, if_true]
  · simp (disch := omega) only [fX6_different_L4, hd', n_le, e_differs, n_bind, n_let, n_s, show ¬ n ≤ k from by omega, if_false, zdf]
    split <;> simp
  · rw [zfold_sum, Int32.zero_add]
theorem e_mPlaceOf {p : Nat} (hp : p ≤ 24) (d : Nat → Int32) : fX6_placeOf (Int32.ofNat p) d = some (zsum (zdf d) 0 p) := by
  refine (n_for0 (fun f k s => fX6_placeOf_L4 (Int32.ofNat p) d f s (Int32.ofNat k)) p (fun k s => s + zdf d k) some (fun f s => ?_) (fun f k s hk => ?_) p 0 1024 0 (by omega) (by omega)).trans ?_
  · simp (disch := omega) only [fX6_placeOf_L4, n_le, Nat.le_refl, if_true]
  · simp (disch := omega) only [fX6_placeOf_L4, n_le, e_differs, n_bind, n_let, n_s, show ¬ p ≤ k from by omega, if_false, zdf]
    split <;> simp
  · rw [zfold_sum, Int32.zero_add]
