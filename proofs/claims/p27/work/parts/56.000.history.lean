/-! ===== the bills ahead of the latest changes ===== -/
/-- the same bill, as far as it is read -/
def QE (q q' : TB) : Prop := q'.1 = q.1 ∧ q'.2.1 = q.2.1 ∧ q'.2.2.1 = q.2.2.1 ∧ q'.2.2.2.1 = q.2.2.2.1 ∧ (∀ k, k < 5 → q'.2.2.2.2.1 k = q.2.2.2.2.1 k) ∧ (∀ k, k < 24 → q'.2.2.2.2.2.1 k = q.2.2.2.2.2.1 k) ∧ (∀ k, k < 24 → q'.2.2.2.2.2.2.1 k = q.2.2.2.2.2.2.1 k) ∧ (∀ k, k < 24 → q'.2.2.2.2.2.2.2.1 k = q.2.2.2.2.2.2.2.1 k) ∧ (∀ k, k < 24 → q'.2.2.2.2.2.2.2.2.1 k = q.2.2.2.2.2.2.2.2.1 k) ∧ (∀ k, k < 24 → q'.2.2.2.2.2.2.2.2.2.1 k = q.2.2.2.2.2.2.2.2.2.1 k) ∧ (∀ k, k < 24 → q'.2.2.2.2.2.2.2.2.2.2 k = q.2.2.2.2.2.2.2.2.2.2 k)
def zcp (o b : Nat → Int32) (n : Nat) : Nat → Int32 := va_cpy o b 0 0 n
theorem zcp_lt {o b : Nat → Int32} {n k : Nat} (hk : k < n) : va_cpy o b 0 0 n k = o k := by
  unfold va_cpy
  rw [if_pos ⟨Nat.zero_le _, by omega⟩, Nat.zero_add, Nat.sub_zero]
theorem c_L93 (hh cc rr ac : Int32) (co li es se p w s : Nat → Int32) (hp : o_bo 24 p) (hw : o_bo 24 w) (hs : o_bo 24 s) (a b c : Nat → Int32) :
    fX0_copyFrom_L93 hh cc rr ac co li es se p w s 1024 0 a b c = some (hh, cc, rr, ac, co, li, es, se, va_cpy p a 0 0 24, va_cpy w b 0 0 24, va_cpy s c 0 0 24) := by
  have key := zfold_inv (g := fun k (q : (Nat → Int32) × (Nat → Int32) × (Nat → Int32)) => (zgcp p k q.1, zgcp w k q.2.1, zgcp s k q.2.2)) (fun k q => q = (va_cpy p a 0 0 k, va_cpy w b 0 0 k, va_cpy s c 0 0 k)) 24 (fun k q _ hq => by rw [hq]; simp only [zgcp_step]) 24 0 (a, b, c) (by omega) (by rw [zgcp_0, zgcp_0, zgcp_0])
  refine (n_for0 (fun f k (q : (Nat → Int32) × (Nat → Int32) × (Nat → Int32)) => fX0_copyFrom_L93 hh cc rr ac co li es se p w s f (Int32.ofNat k) q.1 q.2.1 q.2.2) 24 (fun k (q : (Nat → Int32) × (Nat → Int32) × (Nat → Int32)) => (zgcp p k q.1, zgcp w k q.2.1, zgcp s k q.2.2)) (fun q => some (hh, cc, rr, ac, co, li, es, se, q.1, q.2.1, q.2.2)) (fun f q => ?_) (fun f k q hk => ?_) 24 0 1024 (a, b, c) (by omega) (by omega)).trans (by rw [key])
  · show fX0_copyFrom_L93 hh cc rr ac co li es se p w s (f + 1) (Int32.ofNat 24) q.1 q.2.1 q.2.2 = _
    unfold fX0_copyFrom_L93
    exact if_pos (Int32.le_refl _)
  · show fX0_copyFrom_L93 hh cc rr ac co li es se p w s (f + 1) (Int32.ofNat k) q.1 q.2.1 q.2.2 = fX0_copyFrom_L93 hh cc rr ac co li es se p w s f (Int32.ofNat (k + 1)) (zgcp p k q.1) (zgcp w k q.2.1) (zgcp s k q.2.2)
    have h1 : ¬ (24 : Int32) ≤ Int32.ofNat k := fun h => by
      have := (n_le (a := 24) (by omega) (by omega)).mp h
      omega
    rw [fX0_copyFrom_L93, if_neg h1, n_rd hk (by omega), n_rd hk (by omega), n_let, n_rd hk (by omega), n_rd hk (by omega), n_let, n_rd hk (by omega), n_rd hk (by omega), n_let, n_let, n_cl (by omega), o_bo_nar hp hk, o_bo_nar hw hk, o_bo_nar hs hk, n_s]
    rfl
theorem c_copyFrom (a1 a2 a3 a4 : Int32) (a5 a6 a7 a8 a9 a10 a11 : Nat → Int32) (hh cc rr ac : Int32) (co li es se p w s : Nat → Int32) (hp : o_bo 24 p) (hw : o_bo 24 w) (hs : o_bo 24 s) :
    fX0_copyFrom a1 a2 a3 a4 a5 a6 a7 a8 a9 a10 a11 hh cc rr ac co li es se p w s = some (hh, cc, rr, ac, va_cpy co a5 0 0 5, va_cpy li a6 0 0 24, va_cpy es a7 0 0 24, va_cpy se a8 0 0 24, va_cpy p a9 0 0 24, va_cpy w a10 0 0 24, va_cpy s a11 0 0 24) := by
  unfold fX0_copyFrom
  rw [n_let, n_let, n_let, n_let]
  exact c_L93 hh cc rr ac _ _ _ _ p w s hp hw hs a9 a10 a11
theorem QE_copy (q q0 : TB) : QE q (q.1, q.2.1, q.2.2.1, q.2.2.2.1, va_cpy q.2.2.2.2.1 q0.2.2.2.2.1 0 0 5, va_cpy q.2.2.2.2.2.1 q0.2.2.2.2.2.1 0 0 24, va_cpy q.2.2.2.2.2.2.1 q0.2.2.2.2.2.2.1 0 0 24, va_cpy q.2.2.2.2.2.2.2.1 q0.2.2.2.2.2.2.2.1 0 0 24, va_cpy q.2.2.2.2.2.2.2.2.1 q0.2.2.2.2.2.2.2.2.1 0 0 24, va_cpy q.2.2.2.2.2.2.2.2.2.1 q0.2.2.2.2.2.2.2.2.2.1 0 0 24, va_cpy q.2.2.2.2.2.2.2.2.2.2 q0.2.2.2.2.2.2.2.2.2.2 0 0 24) :=
  ⟨rfl, rfl, rfl, rfl, fun k hk => zcp_lt hk, fun k hk => zcp_lt hk, fun k hk => zcp_lt hk, fun k hk => zcp_lt hk, fun k hk => zcp_lt hk, fun k hk => zcp_lt hk, fun k hk => zcp_lt hk⟩
theorem n_8 {n : Nat} (h : n < 8) : n = 0 ∨ n = 1 ∨ n = 2 ∨ n = 3 ∨ n = 4 ∨ n = 5 ∨ n = 6 ∨ n = 7 := by omega
def zcpy (hh cc rr ac : Int32) (co li es se p w s : Nat → Int32) (q0 : TB) : TB := (hh, cc, rr, ac, va_cpy co q0.2.2.2.2.1 0 0 5, va_cpy li q0.2.2.2.2.2.1 0 0 24, va_cpy es q0.2.2.2.2.2.2.1 0 0 24, va_cpy se q0.2.2.2.2.2.2.2.1 0 0 24, va_cpy p q0.2.2.2.2.2.2.2.2.1 0 0 24, va_cpy w q0.2.2.2.2.2.2.2.2.2.1 0 0 24, va_cpy s q0.2.2.2.2.2.2.2.2.2.2 0 0 24)
theorem c_remember (past : Nat → TB) {nx kp : Nat} (hx : nx < 8) (hk : kp ≤ 8) (hh cc rr ac : Int32) (co li es se p w s : Nat → Int32) (hp : o_bo 24 p) (hw : o_bo 24 w) (hs : o_bo 24 s) :
    fX2_remember past (Int32.ofNat nx) (Int32.ofNat kp) hh cc rr ac co li es se p w s = some (va_up past nx (zcpy hh cc rr ac co li es se p w s (past nx)), Int32.ofNat ((nx + 1) % 8), Int32.ofNat (if 8 < kp + 1 then 8 else kp + 1)) := by
  have hk2 : (if (8 : Int32) < Int32.ofNat kp + 1 then (8 : Int32) else Int32.ofNat kp + 1) = Int32.ofNat (if 8 < kp + 1 then 8 else kp + 1) := by
    rw [n_s]
    by_cases h : 8 < kp + 1
    · rw [if_pos h, if_pos (show (8 : Int32) < Int32.ofNat (kp + 1) from (n_lt (a := 8) (by omega) (by omega)).mpr h)]; rfl
    · rw [if_neg h, if_neg (show ¬ (8 : Int32) < Int32.ofNat (kp + 1) from fun hh => h ((n_lt (a := 8) (by omega) (by omega)).mp hh))]
  rcases n_8 hx with rfl | rfl | rfl | rfl | rfl | rfl | rfl | rfl
  · show fX2_remember_at0 past (Int32.ofNat kp) hh cc rr ac co li es se p w s = _
    unfold fX2_remember_at0
    rw [c_copyFrom _ _ _ _ _ _ _ _ _ _ _ hh cc rr ac co li es se p w s hp hw hs, n_bind]
    show some (_, _, (if (8 : Int32) < Int32.ofNat kp + 1 then (8 : Int32) else Int32.ofNat kp + 1)) = _
    rw [hk2]
    rfl
  · show fX2_remember_at1 past (Int32.ofNat kp) hh cc rr ac co li es se p w s = _
    unfold fX2_remember_at1
    rw [c_copyFrom _ _ _ _ _ _ _ _ _ _ _ hh cc rr ac co li es se p w s hp hw hs, n_bind]
    show some (_, _, (if (8 : Int32) < Int32.ofNat kp + 1 then (8 : Int32) else Int32.ofNat kp + 1)) = _
    rw [hk2]
    rfl
  · show fX2_remember_at2 past (Int32.ofNat kp) hh cc rr ac co li es se p w s = _
    unfold fX2_remember_at2
    rw [c_copyFrom _ _ _ _ _ _ _ _ _ _ _ hh cc rr ac co li es se p w s hp hw hs, n_bind]
    show some (_, _, (if (8 : Int32) < Int32.ofNat kp + 1 then (8 : Int32) else Int32.ofNat kp + 1)) = _
    rw [hk2]
    rfl
  · show fX2_remember_at3 past (Int32.ofNat kp) hh cc rr ac co li es se p w s = _
    unfold fX2_remember_at3
    rw [c_copyFrom _ _ _ _ _ _ _ _ _ _ _ hh cc rr ac co li es se p w s hp hw hs, n_bind]
    show some (_, _, (if (8 : Int32) < Int32.ofNat kp + 1 then (8 : Int32) else Int32.ofNat kp + 1)) = _
    rw [hk2]
    rfl
  · show fX2_remember_at4 past (Int32.ofNat kp) hh cc rr ac co li es se p w s = _
    unfold fX2_remember_at4
    rw [c_copyFrom _ _ _ _ _ _ _ _ _ _ _ hh cc rr ac co li es se p w s hp hw hs, n_bind]
    show some (_, _, (if (8 : Int32) < Int32.ofNat kp + 1 then (8 : Int32) else Int32.ofNat kp + 1)) = _
    rw [hk2]
    rfl
  · show fX2_remember_at5 past (Int32.ofNat kp) hh cc rr ac co li es se p w s = _
    unfold fX2_remember_at5
    rw [c_copyFrom _ _ _ _ _ _ _ _ _ _ _ hh cc rr ac co li es se p w s hp hw hs, n_bind]
    show some (_, _, (if (8 : Int32) < Int32.ofNat kp + 1 then (8 : Int32) else Int32.ofNat kp + 1)) = _
    rw [hk2]
    rfl
  · show fX2_remember_at6 past (Int32.ofNat kp) hh cc rr ac co li es se p w s = _
    unfold fX2_remember_at6
    rw [c_copyFrom _ _ _ _ _ _ _ _ _ _ _ hh cc rr ac co li es se p w s hp hw hs, n_bind]
    show some (_, _, (if (8 : Int32) < Int32.ofNat kp + 1 then (8 : Int32) else Int32.ofNat kp + 1)) = _
    rw [hk2]
    rfl
  · show fX2_remember_at7 past (Int32.ofNat kp) hh cc rr ac co li es se p w s = _
    unfold fX2_remember_at7
    rw [c_copyFrom _ _ _ _ _ _ _ _ _ _ _ hh cc rr ac co li es se p w s hp hw hs, n_bind]
    show some (_, _, (if (8 : Int32) < Int32.ofNat kp + 1 then (8 : Int32) else Int32.ofNat kp + 1)) = _
    rw [hk2]
    rfl
theorem c_bringBack (past : Nat → TB) {nx kp : Nat} (hx : nx < 8) (hk : kp < 8) (hh cc rr ac : Int32) (co li es se p w s : Nat → Int32) (hq : o_bo 24 (past ((nx + 7) % 8)).2.2.2.2.2.2.2.2.1 ∧ o_bo 24 (past ((nx + 7) % 8)).2.2.2.2.2.2.2.2.2.1 ∧ o_bo 24 (past ((nx + 7) % 8)).2.2.2.2.2.2.2.2.2.2) :
    fX2_bringBack past (Int32.ofNat nx) (Int32.ofNat (kp + 1)) hh cc rr ac co li es se p w s = some (Int32.ofNat kp, Int32.ofNat ((nx + 7) % 8), Int32.ofNat kp, zcpy (past ((nx + 7) % 8)).1 (past ((nx + 7) % 8)).2.1 (past ((nx + 7) % 8)).2.2.1 (past ((nx + 7) % 8)).2.2.2.1 (past ((nx + 7) % 8)).2.2.2.2.1 (past ((nx + 7) % 8)).2.2.2.2.2.1 (past ((nx + 7) % 8)).2.2.2.2.2.2.1 (past ((nx + 7) % 8)).2.2.2.2.2.2.2.1 (past ((nx + 7) % 8)).2.2.2.2.2.2.2.2.1 (past ((nx + 7) % 8)).2.2.2.2.2.2.2.2.2.1 (past ((nx + 7) % 8)).2.2.2.2.2.2.2.2.2.2 (hh, cc, rr, ac, co, li, es, se, p, w, s)) := by
  have hk0 : ¬ Int32.ofNat (kp + 1) ≤ 0 := fun h => by
    have := (n_le0 (by omega)).mp h
    omega
  rcases n_8 hx with rfl | rfl | rfl | rfl | rfl | rfl | rfl | rfl
  · show fX2_bringBack_at0 past (Int32.ofNat (kp + 1)) hh cc rr ac co li es se p w s = _
    unfold fX2_bringBack_at0
    rw [if_neg hk0, c_copyFrom hh cc rr ac co li es se p w s _ _ _ _ _ _ _ _ _ _ _ hq.1 hq.2.1 hq.2.2, n_bind]
    show some (Int32.ofNat (kp + 1) - 1, _, Int32.ofNat (kp + 1) - 1, _) = _
    rw [n_p]
    rfl
  · show fX2_bringBack_at1 past (Int32.ofNat (kp + 1)) hh cc rr ac co li es se p w s = _
    unfold fX2_bringBack_at1
    rw [if_neg hk0, c_copyFrom hh cc rr ac co li es se p w s _ _ _ _ _ _ _ _ _ _ _ hq.1 hq.2.1 hq.2.2, n_bind]
    show some (Int32.ofNat (kp + 1) - 1, _, Int32.ofNat (kp + 1) - 1, _) = _
    rw [n_p]
    rfl
  · show fX2_bringBack_at2 past (Int32.ofNat (kp + 1)) hh cc rr ac co li es se p w s = _
    unfold fX2_bringBack_at2
    rw [if_neg hk0, c_copyFrom hh cc rr ac co li es se p w s _ _ _ _ _ _ _ _ _ _ _ hq.1 hq.2.1 hq.2.2, n_bind]
    show some (Int32.ofNat (kp + 1) - 1, _, Int32.ofNat (kp + 1) - 1, _) = _
    rw [n_p]
    rfl
  · show fX2_bringBack_at3 past (Int32.ofNat (kp + 1)) hh cc rr ac co li es se p w s = _
    unfold fX2_bringBack_at3
    rw [if_neg hk0, c_copyFrom hh cc rr ac co li es se p w s _ _ _ _ _ _ _ _ _ _ _ hq.1 hq.2.1 hq.2.2, n_bind]
    show some (Int32.ofNat (kp + 1) - 1, _, Int32.ofNat (kp + 1) - 1, _) = _
    rw [n_p]
    rfl
  · show fX2_bringBack_at4 past (Int32.ofNat (kp + 1)) hh cc rr ac co li es se p w s = _
    unfold fX2_bringBack_at4
    rw [if_neg hk0, c_copyFrom hh cc rr ac co li es se p w s _ _ _ _ _ _ _ _ _ _ _ hq.1 hq.2.1 hq.2.2, n_bind]
    show some (Int32.ofNat (kp + 1) - 1, _, Int32.ofNat (kp + 1) - 1, _) = _
    rw [n_p]
    rfl
  · show fX2_bringBack_at5 past (Int32.ofNat (kp + 1)) hh cc rr ac co li es se p w s = _
    unfold fX2_bringBack_at5
    rw [if_neg hk0, c_copyFrom hh cc rr ac co li es se p w s _ _ _ _ _ _ _ _ _ _ _ hq.1 hq.2.1 hq.2.2, n_bind]
    show some (Int32.ofNat (kp + 1) - 1, _, Int32.ofNat (kp + 1) - 1, _) = _
    rw [n_p]
    rfl
  · show fX2_bringBack_at6 past (Int32.ofNat (kp + 1)) hh cc rr ac co li es se p w s = _
    unfold fX2_bringBack_at6
    rw [if_neg hk0, c_copyFrom hh cc rr ac co li es se p w s _ _ _ _ _ _ _ _ _ _ _ hq.1 hq.2.1 hq.2.2, n_bind]
    show some (Int32.ofNat (kp + 1) - 1, _, Int32.ofNat (kp + 1) - 1, _) = _
    rw [n_p]
    rfl
  · show fX2_bringBack_at7 past (Int32.ofNat (kp + 1)) hh cc rr ac co li es se p w s = _
    unfold fX2_bringBack_at7
    rw [if_neg hk0, c_copyFrom hh cc rr ac co li es se p w s _ _ _ _ _ _ _ _ _ _ _ hq.1 hq.2.1 hq.2.2, n_bind]
    show some (Int32.ofNat (kp + 1) - 1, _, Int32.ofNat (kp + 1) - 1, _) = _
    rw [n_p]
    rfl
