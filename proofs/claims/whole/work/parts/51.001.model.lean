theorem e_lotAt (k : Nat) : fX6_lotAt (Int32.ofNat k) = some (Int32.ofNat (9 + 6 * k)) := by
  unfold fX6_lotAt
  rw [Int32.ofNat_add, Int32.ofNat_mul]; rfl
theorem e_of {k j : Nat} (hk : k < 24) (hj : j < 6) (d : Nat → Int32) : fX6_of (Int32.ofNat k) (Int32.ofNat j) d = some (d (9 + 6 * k + j)) := by
  unfold fX6_of
  rw [e_lotAt, n_bind, ← Int32.ofNat_add, n_rd (by omega) (by omega), n_cl (by omega)]
theorem e_set {k j : Nat} (hk : k < 24) (hj : j < 6) (v : Int32) (d : Nat → Int32) : fX6_set (Int32.ofNat k) (Int32.ofNat j) v d = some (upd d (9 + 6 * k + j) v) := by
  unfold fX6_set
  rw [e_lotAt, n_bind, ← Int32.ofNat_add, n_rd (by omega) (by omega), n_cl (by omega)]; rfl
theorem e_sumOf {n j : Nat} (hn : n ≤ 24) (hj : j < 6) (d : Nat → Int32) (hd : d 1 = Int32.ofNat n) : fX6_sumOf (Int32.ofNat j) d = some (zsum (fun i => d (9 + 6 * i + j)) 0 n) := by
  have hd' : d (1 : Int32).toNatClampNeg = Int32.ofNat n := hd
  refine (n_for0 (fun f k s => fX6_sumOf_L4 d (Int32.ofNat j) f s (Int32.ofNat k)) n (fun k s => s + d (9 + 6 * k + j)) some (fun f s => ?_) (fun f k s hk => ?_) n 0 1024 0 (by omega) (by omega)).trans ?_
  · simp (disch := omega) only [fX6_sumOf_L4, hd', n_le, Nat.le_refl, if_true]
  · simp (disch := omega) only [fX6_sumOf_L4, hd', n_le, e_of, n_bind, n_let, n_s, show ¬ n ≤ k from by omega, if_false]
  · rw [zfold_sum, Int32.zero_add]
