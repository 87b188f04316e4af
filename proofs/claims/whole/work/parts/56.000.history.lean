/-! ===== the bills ahead of the latest changes ===== -/
def QB (q : TB) (d : Nat → Int32) : Prop := ∃ H n m ln pr wa sl, NW H n m ln pr wa ∧ BV H n m ln pr wa sl q.1 q.2.1 q.2.2.1 q.2.2.2.2.2.1 q.2.2.2.2.2.2.2.2.1 q.2.2.2.2.2.2.2.2.2.1 q.2.2.2.2.2.2.2.2.2.2 ∧ MV H n m ln pr wa sl q.2.2.2.1 q.2.2.2.2.1 q.2.2.2.2.2.2.1 q.2.2.2.2.2.2.2.1 d
/-- the same bill, as far as it is read -/
def QE (q q' : TB) : Prop := q'.1 = q.1 ∧ q'.2.1 = q.2.1 ∧ q'.2.2.1 = q.2.2.1 ∧ q'.2.2.2.1 = q.2.2.2.1 ∧ (∀ k, k < 5 → q'.2.2.2.2.1 k = q.2.2.2.2.1 k) ∧ (∀ k, k < 24 → q'.2.2.2.2.2.1 k = q.2.2.2.2.2.1 k) ∧ (∀ k, k < 24 → q'.2.2.2.2.2.2.1 k = q.2.2.2.2.2.2.1 k) ∧ (∀ k, k < 24 → q'.2.2.2.2.2.2.2.1 k = q.2.2.2.2.2.2.2.1 k) ∧ (∀ k, k < 24 → q'.2.2.2.2.2.2.2.2.1 k = q.2.2.2.2.2.2.2.2.1 k) ∧ (∀ k, k < 24 → q'.2.2.2.2.2.2.2.2.2.1 k = q.2.2.2.2.2.2.2.2.2.1 k) ∧ (∀ k, k < 24 → q'.2.2.2.2.2.2.2.2.2.2 k = q.2.2.2.2.2.2.2.2.2.2 k)
theorem QB_ext {q q' : TB} {d d' : Nat → Int32} (h : QB q d) (hq : QE q q') (hd : ∀ k, k < 153 → d' k = d k) : QB q' d' := by
  obtain ⟨H, n, m, ln, pr, wa, sl, hw, ⟨b1, b2, b3, b4, b5, b6, b7⟩, ⟨m1, m2, m3, m4, m5, m6⟩⟩ := h
  obtain ⟨q1, q2, q3, q4, q5, q6, q7, q8, q9, q10, q11⟩ := hq
  have hn := hw.2.2.1
  refine ⟨H, n, m, ln, pr, wa, sl, hw, ⟨q1.trans b1, q2.trans b2, q3.trans b3, fun i hi => (q6 i (by omega)).trans (b4 i hi), fun i hi => (q9 i hi).trans (b5 i hi), fun i hi => (q10 i hi).trans (b6 i hi), fun i hi => (q11 i hi).trans (b7 i hi)⟩, ⟨(hd 0 (by omega)).trans m1, (hd 1 (by omega)).trans m2, ((hd 2 (by omega)).trans m3).trans q4.symm, (hd 3 (by omega)).trans m4, fun k hk => ((hd _ (by omega)).trans (m5 k hk)).trans (q5 k hk).symm, fun i hi => ?_⟩⟩
  obtain ⟨d0, d1, d2, d3, d4, d5⟩ := m6 i hi
  exact ⟨(hd _ (by omega)).trans d0, ((hd _ (by omega)).trans d1).trans (q7 i (by omega)).symm, ((hd _ (by omega)).trans d2).trans (q8 i (by omega)).symm, (hd _ (by omega)).trans d3, (hd _ (by omega)).trans d4, (hd _ (by omega)).trans d5⟩
def zcp (o b : Nat → Int32) (n : Nat) : Nat → Int32 := va_cpy o b 0 0 n
theorem zcp_lt {o b : Nat → Int32} {n k : Nat} (hk : k < n) : va_cpy o b 0 0 n k = o k := by
  unfold va_cpy
  rw [if_pos ⟨Nat.zero_le _, by omega⟩, Nat.zero_add, Nat.sub_zero]
theorem c_L93 (hh cc rr ac : Int32) (co li es se p w s : Nat → Int32) (hp : o_bo 24 p) (hw : o_bo 24 w) (hs : o_bo 24 s) (a b c : Nat → Int32) :
    fX0_copyFrom_L93 hh cc rr ac co li es se p w s 1024 0 a b c = some (hh, cc, rr, ac, co, li, es, se, va_cpy p a 0 0 24, va_cpy w b 0 0 24, va_cpy s c 0 0 24) := by
  have key := zfold_inv (g := fun k (q : (Nat → Int32) × (Nat → Int32) × (Nat → Int32)) => (zgcp p k q.1, zgcp w k q.2.1, zgcp s k q.2.2)) (fun k q => q = (va_cpy p a 0 0 k, va_cpy w b 0 0 k, va_cpy s c 0 0 k)) 24 (fun k q _ hq => by rw [hq]; simp only [zgcp_step]) 24 0 (a, b, c) (by omega) (by rw [zgcp_0, zgcp_0, zgcp_0])
  refine (n_for0 (fun f k (q : (Nat → Int32) × (Nat → Int32) × (Nat → Int32)) => fX0_copyFrom_L93 hh cc rr ac co li es se p w s f (Int32.ofNat k) q.1 q.2.1 q.2.2) 24 (fun k (q : (Nat → Int32) × (Nat → Int32) × (Nat → Int32)) => (zgcp p k q.1, zgcp w k q.2.1, zgcp s k q.2.2)) (fun q => some (hh, cc, rr, ac, co, li, es, se, q.1, q.2.1, q.2.2)) (fun f q => ?_) (fun f k q hk => ?_) 24 0 1024 (a, b, c) (by omega) (by omega)).trans (by rw [key])
  · show fX0_copyFrom_L93 hh cc rr ac co li es se p w s (f + 1) (Int32.ofNat 24) q.1 q.2.1 q.2.2 = _
    unfold fX0_copyFrom_L93
    exact if_pos (Int32.le_refl _)
  · show fX0_copyFrom_L93 hh cc rr ac co li es se p w s (f + 1) (Int32.ofNat k) q.1 q.2.1 q.2.2 = fX0_copyFrom_L93 hh cc rr ac co li es se p w s f (Int32.ofNat (k + 1)) (zgcp p k q.1) (zgcp w k q.2.1) (zgcp s k q.2.2)
    have h1 : ¬ (24 : Int32) ≤ Int32.ofNat k := fun h => by
      have := (n_le (a := 24) (by omega) (by omega)).mp h
      omega
    rw [fX0_copyFrom_L93, if_neg h1, n_rd hk (by omega), n_rd hk (by omega), n_let, n_rd hk (by omega), n_rd hk (by omega), n_let, n_rd hk (by omega), n_rd hk (by omega), n_let, n_let, n_cl (by omega), o_bo_nar hp hk, o_bo_nar hw hk, o_bo_nar hs hk, n_s]
    rfl
theorem c_copyFrom (a1 a2 a3 a4 : Int32) (a5 a6 a7 a8 a9 a10 a11 : Nat → Int32) (hh cc rr ac : Int32) (co li es se p w s : Nat → Int32) (hp : o_bo 24 p) (hw : o_bo 24 w) (hs : o_bo 24 s) :
    fX0_copyFrom a1 a2 a3 a4 a5 a6 a7 a8 a9 a10 a11 hh cc rr ac co li es se p w s = some (hh, cc, rr, ac, va_cpy co a5 0 0 5, va_cpy li a6 0 0 24, va_cpy es a7 0 0 24, va_cpy se a8 0 0 24, va_cpy p a9 0 0 24, va_cpy w a10 0 0 24, va_cpy s a11 0 0 24) := by
  unfold fX0_copyFrom
  rw [n_let, n_let, n_let, n_let]
  exact c_L93 hh cc rr ac _ _ _ _ p w s hp hw hs a9 a10 a11
theorem QE_copy (q q0 : TB) : QE q (q.1, q.2.1, q.2.2.1, q.2.2.2.1, va_cpy q.2.2.2.2.1 q0.2.2.2.2.1 0 0 5, va_cpy q.2.2.2.2.2.1 q0.2.2.2.2.2.1 0 0 24, va_cpy q.2.2.2.2.2.2.1 q0.2.2.2.2.2.2.1 0 0 24, va_cpy q.2.2.2.2.2.2.2.1 q0.2.2.2.2.2.2.2.1 0 0 24, va_cpy q.2.2.2.2.2.2.2.2.1 q0.2.2.2.2.2.2.2.2.1 0 0 24, va_cpy q.2.2.2.2.2.2.2.2.2.1 q0.2.2.2.2.2.2.2.2.2.1 0 0 24, va_cpy q.2.2.2.2.2.2.2.2.2.2 q0.2.2.2.2.2.2.2.2.2.2 0 0 24) :=
  ⟨rfl, rfl, rfl, rfl, fun k hk => zcp_lt hk, fun k hk => zcp_lt hk, fun k hk => zcp_lt hk, fun k hk => zcp_lt hk, fun k hk => zcp_lt hk, fun k hk => zcp_lt hk, fun k hk => zcp_lt hk⟩
theorem n_8 {n : Nat} (h : n < 8) : n = 0 ∨ n = 1 ∨ n = 2 ∨ n = 3 ∨ n = 4 ∨ n = 5 ∨ n = 6 ∨ n = 7 := by omega
def zcpy (hh cc rr ac : Int32) (co li es se p w s : Nat → Int32) (q0 : TB) : TB := (hh, cc, rr, ac, va_cpy co q0.2.2.2.2.1 0 0 5, va_cpy li q0.2.2.2.2.2.1 0 0 24, va_cpy es q0.2.2.2.2.2.2.1 0 0 24, va_cpy se q0.2.2.2.2.2.2.2.1 0 0 24, va_cpy p q0.2.2.2.2.2.2.2.2.1 0 0 24, va_cpy w q0.2.2.2.2.2.2.2.2.2.1 0 0 24, va_cpy s q0.2.2.2.2.2.2.2.2.2.2 0 0 24)
theorem c_remember (past : Nat → TB) {nx kp : Nat} (hx : nx < 8) (hk : kp ≤ 8) (hh cc rr ac : Int32) (co li es se p w s : Nat → Int32) (hp : o_bo 24 p) (hw : o_bo 24 w) (hs : o_bo 24 s) :
    fX2_remember past (Int32.ofNat nx) (Int32.ofNat kp) hh cc rr ac co li es se p w s = some (va_up past nx (zcpy hh cc rr ac co li es se p w s (past nx)), Int32.ofNat ((nx + 1) % 8), Int32.ofNat (if 8 < kp + 1 then 8 else kp + 1)) := by
  have hk2 : (if (8 : Int32) < Int32.ofNat kp + 1 then (8 : Int32) else Int32.ofNat kp + 1) = Int32.ofNat (if 8 < kp + 1 then 8 else kp + 1) := by
    rw [n_s]
    by_cases h : 8 < kp + 1
    · rw [if_pos h, if_pos (show (8 : Int32) < Int32.ofNat (kp + 1) from (n_lt (a := 8) (by omega) (by omega)).mpr h)]; rfl
    · rw [if_neg h, if_neg (show ¬ (8 : Int32) < Int32.ofNat (kp + 1) from fun hh => h ((n_lt (a := 8) (by omega) (by omega)).mp hh))]
  rcases n_8 hx with rfl | rfl | rfl | rfl | rfl | rfl | rfl | rfl
  · show fX2_remember_at0 past (Int32.ofNat kp) hh cc rr ac co li es se p w s = _
    unfold fX2_remember_at0
    rw [c_copyFrom _ _ _ _ _ _ _ _ _ _ _ hh cc rr ac co li es se p w s hp hw hs, n_bind]
    show some (_, _, (if (8 : Int32) < Int32.ofNat kp + 1 then (8 : Int32) else Int32.ofNat kp + 1)) = _
    rw [hk2]
    rfl
  · show fX2_remember_at1 past (Int32.ofNat kp) hh cc rr ac co li es se p w s = _
    unfold fX2_remember_at1
    rw [c_copyFrom _ _ _ _ _ _ _ _ _ _ _ hh cc rr ac co li es se p w s hp hw hs, n_bind]
    show some (_, _, (if (8 : Int32) < Int32.ofNat kp + 1 then (8 : Int32) else Int32.ofNat kp + 1)) = _
    rw [hk2]
    rfl
  · show fX2_remember_at2 past (Int32.ofNat kp) hh cc rr ac co li es se p w s = _
    unfold fX2_remember_at2
    rw [c_copyFrom _ _ _ _ _ _ _ _ _ _ _ hh cc rr ac co li es se p w s hp hw hs, n_bind]
    show some (_, _, (if (8 : Int32) < Int32.ofNat kp + 1 then (8 : Int32) else Int32.ofNat kp + 1)) = _
    rw [hk2]
    rfl
  · show fX2_remember_at3 past (Int32.ofNat kp) hh cc rr ac co li es se p w s = _
    unfold fX2_remember_at3
    rw [c_copyFrom _ _ _ _ _ _ _ _ _ _ _ hh cc rr ac co li es se p w s hp hw hs, n_bind]
    show some (_, _, (if (8 : Int32) < Int32.ofNat kp + 1 then (8 : Int32) else Int32.ofNat kp + 1)) = _
    rw [hk2]
    rfl
  · show fX2_remember_at4 past (Int32.ofNat kp) hh cc rr ac co li es se p w s = _
    unfold fX2_remember_at4
    rw [c_copyFrom _ _ _ _ _ _ _ _ _ _ _ hh cc rr ac co li es se p w s hp hw hs, n_bind]
    show some (_, _, (if (8 : Int32) < Int32.ofNat kp + 1 then (8 : Int32) else Int32.ofNat kp + 1)) = _
    rw [hk2]
    rfl
  · show fX2_remember_at5 past (Int32.ofNat kp) hh cc rr ac co li es se p w s = _
    unfold fX2_remember_at5
    rw [c_copyFrom _ _ _ _ _ _ _ _ _ _ _ hh cc rr ac co li es se p w s hp hw hs, n_bind]
    show some (_, _, (if (8 : Int32) < Int32.ofNat kp + 1 then (8 : Int32) else Int32.ofNat kp + 1)) = _
    rw [hk2]
    rfl
  · show fX2_remember_at6 past (Int32.ofNat kp) hh cc rr ac co li es se p w s = _
    unfold fX2_remember_at6
    rw [c_copyFrom _ _ _ _ _ _ _ _ _ _ _ hh cc rr ac co li es se p w s hp hw hs, n_bind]
    show some (_, _, (if (8 : Int32) < Int32.ofNat kp + 1 then (8 : Int32) else Int32.ofNat kp + 1)) = _
    rw [hk2]
    rfl
  · show fX2_remember_at7 past (Int32.ofNat kp) hh cc rr ac co li es se p w s = _
    unfold fX2_remember_at7
    rw [c_copyFrom _ _ _ _ _ _ _ _ _ _ _ hh cc rr ac co li es se p w s hp hw hs, n_bind]
    show some (_, _, (if (8 : Int32) < Int32.ofNat kp + 1 then (8 : Int32) else Int32.ofNat kp + 1)) = _
    rw [hk2]
    rfl
theorem c_bringBack (past : Nat → TB) {nx kp : Nat} (hx : nx < 8) (hk : kp < 8) (hh cc rr ac : Int32) (co li es se p w s : Nat → Int32) (hq : o_bo 24 (past ((nx + 7) % 8)).2.2.2.2.2.2.2.2.1 ∧ o_bo 24 (past ((nx + 7) % 8)).2.2.2.2.2.2.2.2.2.1 ∧ o_bo 24 (past ((nx + 7) % 8)).2.2.2.2.2.2.2.2.2.2) :
    fX2_bringBack past (Int32.ofNat nx) (Int32.ofNat (kp + 1)) hh cc rr ac co li es se p w s = some (Int32.ofNat kp, Int32.ofNat ((nx + 7) % 8), Int32.ofNat kp, zcpy (past ((nx + 7) % 8)).1 (past ((nx + 7) % 8)).2.1 (past ((nx + 7) % 8)).2.2.1 (past ((nx + 7) % 8)).2.2.2.1 (past ((nx + 7) % 8)).2.2.2.2.1 (past ((nx + 7) % 8)).2.2.2.2.2.1 (past ((nx + 7) % 8)).2.2.2.2.2.2.1 (past ((nx + 7) % 8)).2.2.2.2.2.2.2.1 (past ((nx + 7) % 8)).2.2.2.2.2.2.2.2.1 (past ((nx + 7) % 8)).2.2.2.2.2.2.2.2.2.1 (past ((nx + 7) % 8)).2.2.2.2.2.2.2.2.2.2 (hh, cc, rr, ac, co, li, es, se, p, w, s)) := by
  have hk0 : ¬ Int32.ofNat (kp + 1) ≤ 0 := fun h => by
    have := (n_le0 (by omega)).mp h
    omega
  rcases n_8 hx with rfl | rfl | rfl | rfl | rfl | rfl | rfl | rfl
  · show fX2_bringBack_at0 past (Int32.ofNat (kp + 1)) hh cc rr ac co li es se p w s = _
    unfold fX2_bringBack_at0
    rw [if_neg hk0, c_copyFrom hh cc rr ac co li es se p w s _ _ _ _ _ _ _ _ _ _ _ hq.1 hq.2.1 hq.2.2, n_bind]
    show some (Int32.ofNat (kp + 1) - 1, _, Int32.ofNat (kp + 1) - 1, _) = _
    rw [n_p]
    rfl
  · show fX2_bringBack_at1 past (Int32.ofNat (kp + 1)) hh cc rr ac co li es se p w s = _
    unfold fX2_bringBack_at1
    rw [if_neg hk0, c_copyFrom hh cc rr ac co li es se p w s _ _ _ _ _ _ _ _ _ _ _ hq.1 hq.2.1 hq.2.2, n_bind]
    show some (Int32.ofNat (kp + 1) - 1, _, Int32.ofNat (kp + 1) - 1, _) = _
    rw [n_p]
    rfl
  · show fX2_bringBack_at2 past (Int32.ofNat (kp + 1)) hh cc rr ac co li es se p w s = _
    unfold fX2_bringBack_at2
    rw [if_neg hk0, c_copyFrom hh cc rr ac co li es se p w s _ _ _ _ _ _ _ _ _ _ _ hq.1 hq.2.1 hq.2.2, n_bind]
    show some (Int32.ofNat (kp + 1) - 1, _, Int32.ofNat (kp + 1) - 1, _) = _
    rw [n_p]
    rfl
  · show fX2_bringBack_at3 past (Int32.ofNat (kp + 1)) hh cc rr ac co li es se p w s = _
    unfold fX2_bringBack_at3
    rw [if_neg hk0, c_copyFrom hh cc rr ac co li es se p w s _ _ _ _ _ _ _ _ _ _ _ hq.1 hq.2.1 hq.2.2, n_bind]
    show some (Int32.ofNat (kp + 1) - 1, _, Int32.ofNat (kp + 1) - 1, _) = _
    rw [n_p]
    rfl
  · show fX2_bringBack_at4 past (Int32.ofNat (kp + 1)) hh cc rr ac co li es se p w s = _
    unfold fX2_bringBack_at4
    rw [if_neg hk0, c_copyFrom hh cc rr ac co li es se p w s _ _ _ _ _ _ _ _ _ _ _ hq.1 hq.2.1 hq.2.2, n_bind]
    show some (Int32.ofNat (kp + 1) - 1, _, Int32.ofNat (kp + 1) - 1, _) = _
    rw [n_p]
    rfl
  · show fX2_bringBack_at5 past (Int32.ofNat (kp + 1)) hh cc rr ac co li es se p w s = _
    unfold fX2_bringBack_at5
    rw [if_neg hk0, c_copyFrom hh cc rr ac co li es se p w s _ _ _ _ _ _ _ _ _ _ _ hq.1 hq.2.1 hq.2.2, n_bind]
    show some (Int32.ofNat (kp + 1) - 1, _, Int32.ofNat (kp + 1) - 1, _) = _
    rw [n_p]
    rfl
  · show fX2_bringBack_at6 past (Int32.ofNat (kp + 1)) hh cc rr ac co li es se p w s = _
    unfold fX2_bringBack_at6
    rw [if_neg hk0, c_copyFrom hh cc rr ac co li es se p w s _ _ _ _ _ _ _ _ _ _ _ hq.1 hq.2.1 hq.2.2, n_bind]
    show some (Int32.ofNat (kp + 1) - 1, _, Int32.ofNat (kp + 1) - 1, _) = _
    rw [n_p]
    rfl
  · show fX2_bringBack_at7 past (Int32.ofNat (kp + 1)) hh cc rr ac co li es se p w s = _
    unfold fX2_bringBack_at7
    rw [if_neg hk0, c_copyFrom hh cc rr ac co li es se p w s _ _ _ _ _ _ _ _ _ _ _ hq.1 hq.2.1 hq.2.2, n_bind]
    show some (Int32.ofNat (kp + 1) - 1, _, Int32.ofNat (kp + 1) - 1, _) = _
    rw [n_p]
    rfl
theorem m_copy (r q : Nat → Int32) : fX6_copy r q = some (fun g => if g < 153 then r g else q g) := by
  unfold fX6_copy
  refine (n_for0 (fun f k s => fX6_copy_L2 r f (Int32.ofNat k) s) 153 (fun k s => upd s (0 + k) (r k)) some (fun f s => ?_) (fun f k s hk => ?_) 153 0 1024 q (by omega) (by omega)).trans ?_
  · simp only [fX6_copy_L2, show ((153 : Int32) ≤ Int32.ofNat 153) from by decide, if_true]
  · simp (disch := omega) only [fX6_copy_L2, show (153 : Int32) = Int32.ofNat 153 from rfl, n_le, n_rd, n_cl, n_let, n_s, show ¬ 153 ≤ k from by omega, if_false, Nat.zero_add]
  · rw [zfold_rng 0 r q 153]
    refine congrArg some (funext fun g => ?_)
    rw [Nat.sub_zero]
    by_cases h : g < 153
    · rw [if_pos h, if_pos ⟨Nat.zero_le _, by omega⟩]
    · rw [if_neg h, if_neg (by omega)]
/-- the model's history behind a change: the bill last, and ahead of it the ones of before -/
def MR (kp : Nat) (d : Nat → Int32) (hist hist' : Nat → Nat → Int32) : Prop := (∀ k, k < 153 → hist' ((if 8 < kp + 1 then 8 else kp + 1) - 1) k = d k) ∧ ∀ e, e < (if 8 < kp + 1 then 8 else kp + 1) - 1 → ∀ k, k < 153 → hist' ((if 8 < kp + 1 then 8 else kp + 1) - 1 - 1 - e) k = hist (kp - 1 - e) k
theorem m_rem_lt {kp : Nat} (hk : kp < 8) (d : Nat → Int32) (hist : Nat → Nat → Int32) (a : Nat → Int32) (ha : ∀ k, k < 153 → a k = d k) : MR kp d hist (va_up hist kp a) := by
  unfold MR
  rw [if_neg (show ¬ 8 < kp + 1 by omega)]
  refine ⟨fun k hk2 => ?_, fun e he k hk2 => ?_⟩
  · unfold va_up; rw [if_pos (by omega)]; exact ha k hk2
  · unfold va_up; rw [if_neg (by omega), show kp + 1 - 1 - 1 - e = kp - 1 - e by omega]
theorem m_remember {kp : Nat} (hk : kp ≤ 8) (d : Nat → Int32) (hist : Nat → Nat → Int32) :
    ∃ hist', fX6_remember d hist (Int32.ofNat kp) = some (hist', Int32.ofNat (if 8 < kp + 1 then 8 else kp + 1)) ∧ MR kp d hist hist' := by
  have h9 : kp = 0 ∨ kp = 1 ∨ kp = 2 ∨ kp = 3 ∨ kp = 4 ∨ kp = 5 ∨ kp = 6 ∨ kp = 7 ∨ kp = 8 := by omega
  rcases h9 with rfl | rfl | rfl | rfl | rfl | rfl | rfl | rfl | rfl
  · show ∃ hist', fX6_remember_at0 d hist = _ ∧ _
    unfold fX6_remember_at0
    rw [m_copy, n_bind]
    refine ⟨_, rfl, ?_⟩
    exact m_rem_lt (kp := 0) (by omega) d hist _ (fun k hk => if_pos hk)
  · show ∃ hist', fX6_remember_at1 d hist = _ ∧ _
    unfold fX6_remember_at1
    rw [m_copy, n_bind]
    refine ⟨_, rfl, ?_⟩
    exact m_rem_lt (kp := 1) (by omega) d hist _ (fun k hk => if_pos hk)
  · show ∃ hist', fX6_remember_at2 d hist = _ ∧ _
    unfold fX6_remember_at2
    rw [m_copy, n_bind]
    refine ⟨_, rfl, ?_⟩
    exact m_rem_lt (kp := 2) (by omega) d hist _ (fun k hk => if_pos hk)
  · show ∃ hist', fX6_remember_at3 d hist = _ ∧ _
    unfold fX6_remember_at3
    rw [m_copy, n_bind]
    refine ⟨_, rfl, ?_⟩
    exact m_rem_lt (kp := 3) (by omega) d hist _ (fun k hk => if_pos hk)
  · show ∃ hist', fX6_remember_at4 d hist = _ ∧ _
    unfold fX6_remember_at4
    rw [m_copy, n_bind]
    refine ⟨_, rfl, ?_⟩
    exact m_rem_lt (kp := 4) (by omega) d hist _ (fun k hk => if_pos hk)
  · show ∃ hist', fX6_remember_at5 d hist = _ ∧ _
    unfold fX6_remember_at5
    rw [m_copy, n_bind]
    refine ⟨_, rfl, ?_⟩
    exact m_rem_lt (kp := 5) (by omega) d hist _ (fun k hk => if_pos hk)
  · show ∃ hist', fX6_remember_at6 d hist = _ ∧ _
    unfold fX6_remember_at6
    rw [m_copy, n_bind]
    refine ⟨_, rfl, ?_⟩
    exact m_rem_lt (kp := 6) (by omega) d hist _ (fun k hk => if_pos hk)
  · show ∃ hist', fX6_remember_at7 d hist = _ ∧ _
    unfold fX6_remember_at7
    rw [m_copy, n_bind]
    refine ⟨_, rfl, ?_⟩
    exact m_rem_lt (kp := 7) (by omega) d hist _ (fun k hk => if_pos hk)
  · show ∃ hist', fX6_remember_at8 d hist = _ ∧ _
    unfold fX6_remember_at8
    rw [m_copy, n_bind, m_copy, n_bind, m_copy, n_bind, m_copy, n_bind, m_copy, n_bind, m_copy, n_bind, m_copy, n_bind, m_copy, n_bind]
    refine ⟨_, rfl, fun k hk2 => if_pos hk2, fun e he k hk2 => ?_⟩
    have he : e < 7 := he
    have h7 : e = 0 ∨ e = 1 ∨ e = 2 ∨ e = 3 ∨ e = 4 ∨ e = 5 ∨ e = 6 := by omega
    rcases h7 with rfl | rfl | rfl | rfl | rfl | rfl | rfl <;> exact if_pos hk2
theorem m_undo {kp : Nat} (hk : kp < 8) (th : Int32) (d : Nat → Int32) (hist : Nat → Nat → Int32) :
    ∃ d', fX6_undo th d hist (Int32.ofNat (kp + 1)) = some (Int32.ofNat kp, 0, d', Int32.ofNat kp) ∧ ∀ k, k < 153 → d' k = hist kp k := by
  rcases n_8 hk with rfl | rfl | rfl | rfl | rfl | rfl | rfl | rfl
  · show ∃ d', fX6_undo_at1 th d hist = _ ∧ _
    unfold fX6_undo_at1
    rw [m_copy, n_bind]
    exact ⟨_, rfl, fun k hk => if_pos hk⟩
  · show ∃ d', fX6_undo_at2 th d hist = _ ∧ _
    unfold fX6_undo_at2
    rw [m_copy, n_bind]
    exact ⟨_, rfl, fun k hk => if_pos hk⟩
  · show ∃ d', fX6_undo_at3 th d hist = _ ∧ _
    unfold fX6_undo_at3
    rw [m_copy, n_bind]
    exact ⟨_, rfl, fun k hk => if_pos hk⟩
  · show ∃ d', fX6_undo_at4 th d hist = _ ∧ _
    unfold fX6_undo_at4
    rw [m_copy, n_bind]
    exact ⟨_, rfl, fun k hk => if_pos hk⟩
  · show ∃ d', fX6_undo_at5 th d hist = _ ∧ _
    unfold fX6_undo_at5
    rw [m_copy, n_bind]
    exact ⟨_, rfl, fun k hk => if_pos hk⟩
  · show ∃ d', fX6_undo_at6 th d hist = _ ∧ _
    unfold fX6_undo_at6
    rw [m_copy, n_bind]
    exact ⟨_, rfl, fun k hk => if_pos hk⟩
  · show ∃ d', fX6_undo_at7 th d hist = _ ∧ _
    unfold fX6_undo_at7
    rw [m_copy, n_bind]
    exact ⟨_, rfl, fun k hk => if_pos hk⟩
  · show ∃ d', fX6_undo_at8 th d hist = _ ∧ _
    unfold fX6_undo_at8
    rw [m_copy, n_bind]
    exact ⟨_, rfl, fun k hk => if_pos hk⟩
/-- the history of the class and of the model -/
def HV (past : Nat → TB) (next kept : Int32) (hist : Nat → Nat → Int32) (depth : Int32) : Prop := ∃ nx kp : Nat, nx < 8 ∧ kp ≤ 8 ∧ next = Int32.ofNat nx ∧ kept = Int32.ofNat kp ∧ depth = Int32.ofNat kp ∧ ∀ e, e < kp → QB (past ((nx + 7 - e) % 8)) (hist (kp - 1 - e))
theorem h_remember {past : Nat → TB} {next kept : Int32} {hist : Nat → Nat → Int32} {depth : Int32} (h : HV past next kept hist depth) {hh cc rr ac : Int32} {co li es se p w s d : Nat → Int32} (hq : QB (hh, cc, rr, ac, co, li, es, se, p, w, s) d) :
    ∃ past' next' kept' hist' depth', fX2_remember past next kept hh cc rr ac co li es se p w s = some (past', next', kept') ∧ fX6_remember d hist depth = some (hist', depth') ∧ HV past' next' kept' hist' depth' := by
  obtain ⟨nx, kp, h1, h2, h3, h4, h5, h6⟩ := h
  subst h3 h4 h5
  have hb := hq
  obtain ⟨H, n, m, ln, pr, wa, sl, hw, ⟨b1, b2, b3, b4, b5, b6, b7⟩, -⟩ := hb
  obtain ⟨hist', r1, r2, r3⟩ := m_remember h2 d hist
  refine ⟨_, _, _, hist', _, c_remember past h1 h2 hh cc rr ac co li es se p w s (o_bo_of b5) (o_bo_of b6) (o_bo_of b7), r1, ⟨(nx + 1) % 8, if 8 < kp + 1 then 8 else kp + 1, Nat.mod_lt _ (by omega), by split <;> omega, rfl, rfl, rfl, fun e he => ?_⟩⟩
  by_cases e0 : e = 0
  · subst e0
    rw [show ((nx + 1) % 8 + 7 - 0) % 8 = nx by omega]
    have e1 : va_up past nx (zcpy hh cc rr ac co li es se p w s (past nx)) nx = zcpy hh cc rr ac co li es se p w s (past nx) := if_pos rfl
    rw [e1, Nat.sub_zero]
    exact QB_ext hq (QE_copy (hh, cc, rr, ac, co, li, es, se, p, w, s) (past nx)) r2
  · obtain ⟨e', rfl⟩ : ∃ e', e = e' + 1 := ⟨e - 1, by omega⟩
    have he2 : e' < kp ∧ e' < 7 ∧ e' < (if 8 < kp + 1 then 8 else kp + 1) - 1 := by
      split at he <;> (try split) <;> omega
    rw [show ((nx + 1) % 8 + 7 - (e' + 1)) % 8 = (nx + 7 - e') % 8 by omega]
    have e1 : va_up past nx (zcpy hh cc rr ac co li es se p w s (past nx)) ((nx + 7 - e') % 8) = past ((nx + 7 - e') % 8) := if_neg (by omega)
    rw [e1]
    refine QB_ext (h6 e' he2.1) ⟨rfl, rfl, rfl, rfl, fun _ _ => rfl, fun _ _ => rfl, fun _ _ => rfl, fun _ _ => rfl, fun _ _ => rfl, fun _ _ => rfl, fun _ _ => rfl⟩ (fun k hk => ?_)
    have := r3 e' he2.2.2 k hk
    rw [show (if 8 < kp + 1 then 8 else kp + 1) - 1 - (e' + 1) = (if 8 < kp + 1 then 8 else kp + 1) - 1 - 1 - e' by omega]
    exact this
