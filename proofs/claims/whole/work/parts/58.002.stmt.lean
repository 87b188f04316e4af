/-! ===== behind an error, and semicolons ===== -/
section ZER
variable {L : Nat} {bytes buf : Nat → Int32}
theorem c_num_err (hL : L ≤ 500) (hb : ∀ i, i < L → bytes i &&& 255 = buf i) {a : Nat} (ha : a < 8000) {er : Int32} (he : ¬ er = 0) (lo hi ea : Int32) :
    ∃ v, ∃ a' : Nat, (a' ≤ a ∨ a' ≤ L) ∧ fX4_takeNumber lo hi ea bytes (Int32.ofNat L) (Int32.ofNat a) er = some (v, ea, Int32.ofNat a', er) := by
  obtain ⟨a1, k1, k2, k3, k4, k5⟩ := r_next (bytes := bytes) (buf := buf) hL hb (show a < 10000 by omega)
  unfold fX4_takeNumber
  rw [k4, n_bind]
  rcases r_digit (btx buf L a1) with ⟨d1, d2⟩ | ⟨d1, d2, v0, d3, d4⟩
  · refine ⟨lo, a1, k2, ?_⟩
    show o_bind (fX4_isDigit (btx buf L a1)) _ = _
    rw [d1, n_bind, if_pos rfl, c_fail1 he, n_bind]
  · obtain ⟨e, mv, e1, e2, e3, e4, e5⟩ := r_digits (bytes := bytes) (buf := buf) hL hb L a1 1024 0 (by omega) (by omega) (by omega) (by omega)
    refine ⟨Int32.ofNat (if mv < 10000 then mv else 10000), e, by omega, ?_⟩
    show o_bind (fX4_isDigit (btx buf L a1)) _ = _
    rw [d1, n_bind, if_neg (by decide), n_let, show (0 : Int32) = Int32.ofNat (if 0 < 10000 then 0 else 10000) from rfl, e4]
    show o_let _ _ = _
    rw [n_let, n_let, c_fail1 he, n_bind]
    clear e4
    generalize (if mv < 10000 then mv else 10000) = cv
    split
    · rfl
    · split <;> rfl
theorem m_num_err {er : Int32} (he : ¬ er = 0) (lo hi pos ea ns : Int32) : fX6_number lo hi buf (Int32.ofNat L) pos er ea ns = some (0, pos, er, ea, ns) := by
  unfold fX6_number
  rw [m_good1 he, n_bind, if_pos rfl]
theorem m_exp_err {er : Int32} (he : ¬ er = 0) (c pos ea : Int32) : fX6_expect c buf (Int32.ofNat L) pos er ea = some (pos, er, ea) := by
  unfold fX6_expect
  rw [m_good1 he, n_bind, if_pos rfl]
theorem c_semi_err (hL : L ≤ 500) (hb : ∀ i, i < L → bytes i &&& 255 = buf i) {a : Nat} (ha : a < 8000) {er : Int32} (he : ¬ er = 0) (ea : Int32) :
    ∃ a' : Nat, (a' ≤ a + 1 ∨ a' ≤ L + 1) ∧ fX4_takeSemicolon ea bytes (Int32.ofNat L) (Int32.ofNat a) er = some (ea, Int32.ofNat a', er) := by
  obtain ⟨a1, k1, k2, k3, k4, k5⟩ := r_next (bytes := bytes) (buf := buf) hL hb (show a < 10000 by omega)
  refine ⟨a1 + 1, by omega, ?_⟩
  unfold fX4_takeSemicolon
  rw [k4, n_bind]
  show o_let _ _ = _
  rw [n_let, c_fail1 he, n_bind]
  split <;> exact congrArg (fun v => some (ea, v, er)) (n_s a1)
theorem r_semi (hL : L ≤ 500) (hb : ∀ i, i < L → bytes i &&& 255 = buf i) {a : Nat} (ha : a < 8000) (ea ea' : Int32) :
    ∃ a1 : Nat, a ≤ a1 ∧ (a1 ≤ a ∨ a1 ≤ L) ∧ ((a1 < L ∧ fX4_takeSemicolon ea bytes (Int32.ofNat L) (Int32.ofNat a) 0 = some (ea, Int32.ofNat (a1 + 1), 0) ∧ fX6_expect 59 buf (Int32.ofNat L) (Int32.ofNat a) 0 ea' = some (Int32.ofNat (a1 + 1), 0, ea')) ∨
      (fX4_takeSemicolon ea bytes (Int32.ofNat L) (Int32.ofNat a) 0 = some (Int32.ofNat a1, Int32.ofNat (a1 + 1), -2) ∧ fX6_expect 59 buf (Int32.ofNat L) (Int32.ofNat a) 0 ea' = some (Int32.ofNat a1, -2, Int32.ofNat a1))) := by
  obtain ⟨a1, k1, k2, k3, k4, k5⟩ := r_next (bytes := bytes) (buf := buf) hL hb (show a < 10000 by omega)
  refine ⟨a1, k1, k2, ?_⟩
  unfold fX4_takeSemicolon fX6_expect
  rw [k4, n_bind, m_good0, n_bind, if_neg (by decide), k5, n_bind]
  by_cases h : btx buf L a1 = 59
  · left
    refine ⟨?_, ?_, ?_⟩
    · apply Nat.lt_of_not_le
      intro hle
      rw [btx_end hle] at h
      exact absurd h (by decide)
    · show o_let _ _ = _
      rw [n_let, if_pos h]
      exact congrArg (fun v => some (ea, v, (0 : Int32))) (n_s a1)
    · show (if btx buf L a1 = 59 then _ else _) = _
      rw [if_pos h, n_let, n_s]
  · right
    constructor
    · show o_let _ _ = _
      rw [n_let, if_neg h, c_fail0, n_bind]
      exact congrArg (fun v => some (Int32.ofNat a1, v, (-2 : Int32))) (n_s a1)
    · show (if btx buf L a1 = 59 then _ else _) = _
      rw [if_neg h, m_rep0, n_bind]
theorem c_word_any {sw : List Int32} (hs : sw.length < 100) (hL : L ≤ 500) (hb : ∀ i, i < L → bytes i &&& 255 = buf i) {a : Nat} (ha : a < 8000) :
    ∃ b : Bool, ∃ a' : Nat, a ≤ a' ∧ (a' ≤ a ∨ a' ≤ L) ∧ ¬ btx buf L a' = 32 ∧ fX4_nextIsWord sw bytes (Int32.ofNat L) (Int32.ofNat a) = some (zbi b, Int32.ofNat a') ∧ fX6_takeWord sw buf (Int32.ofNat L) (Int32.ofNat a) 0 = some (zbi b, Int32.ofNat (if b = true then a' + sw.length else a')) ∧ (b = true → zword buf L sw a') := by
  obtain ⟨a1, k1, k2, k3, k4, k5⟩ := r_next (bytes := bytes) (buf := buf) hL hb (show a < 10000 by omega)
  obtain ⟨b, w1, w2, w3⟩ := r_word (bytes := bytes) hs hL hb (show a1 < 9000 by omega) k3
  obtain ⟨n1, n2⟩ := r_stay (bytes := bytes) hL hb (show a1 < 10000 by omega) k3
  refine ⟨b, a1, k1, k2, k3, ?_, ?_, w3⟩
  · rw [← w1]
    unfold fX4_nextIsWord
    rw [k4, n1]
  · rw [← w2]
    unfold fX6_takeWord
    simp only [m_good0, n_bind, n10, if_false, k5, n2]
theorem zword_end {sw : List Int32} {a : Nat} (h : zword buf L sw a) (hp : ∀ i, i < sw.length → ¬ zch (sw.getD i 0) = -1) : a + sw.length ≤ L ∨ sw.length = 0 := by
  by_cases h0 : sw.length = 0
  · exact Or.inr h0
  · left
    have h1 := h.1 (sw.length - 1) (by omega)
    apply Nat.le_of_not_lt
    intro hlt
    rw [btx_end (by omega)] at h1
    exact hp (sw.length - 1) (by omega) h1.symm
theorem zword_one {sw sw' : List Int32} {a : Nat} (h : zword buf L sw a) (h' : zword buf L sw' a) (h0 : 0 < sw.length) (h0' : 0 < sw'.length) (hne : ¬ zch (sw.getD 0 0) = zch (sw'.getD 0 0)) : False :=
  hne ((h.1 0 h0).symm.trans (h'.1 0 h0'))
end ZER
