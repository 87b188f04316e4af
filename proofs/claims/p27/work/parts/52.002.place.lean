theorem n_le0 {a : Nat} (ha : a < 2147483648) : (Int32.ofNat a ≤ 0) ↔ a = 0 := by
  rw [show (0 : Int32) = Int32.ofNat 0 from rfl, n_le ha (by omega)]; omega
theorem n_24 {a : Nat} (ha : a < 24) : ¬ ((24 : Int32) ≤ Int32.ofNat a) := by
  rw [show (24 : Int32) = Int32.ofNat 24 from rfl, n_le (by omega) (by omega)]; omega
theorem e_placeNew {k P : Nat} (hk : k < 24) (hP : P < 24) (l h : Int32) (no pg li us lo fi : Nat → Int32) (K T : Int32) (hc : P = 0 ∨ h < us (P - 1) + l) :
    fX3_place (Int32.ofNat k) l h no pg li us lo fi (Int32.ofNat P) K T = some (upd no k (K + 1), upd pg k (Int32.ofNat P), upd li k 0, upd (upd us P 0) P (0 + l), upd (upd lo P 0) P (0 + 1), upd fi P (Int32.ofNat k), Int32.ofNat (P + 1), K + 1, T + l) := by
  unfold fX3_place
  by_cases h0 : P = 0
  · subst h0
    simp (disch := omega) only [n_let, n_le0, if_true, n_24, if_false, n_rd, n_cl, n_s, n_p, upd_same, show ((0 : Int32) = 0) = True from eq_self 0]
  · obtain ⟨Q, rfl⟩ : ∃ Q, P = Q + 1 := ⟨P - 1, by omega⟩
    have hc1 : h < us Q + l := by
      rcases hc with hc | hc
      · omega
      · exact hc
    simp (disch := omega) only [n_let, n_le0, if_true, n_24, if_false, n_rd, n_cl, n_s, n_p, upd_same, hc1, h0, show ((0 : Int32) = 0) = True from eq_self 0]
theorem e_placeGo {k Q : Nat} (hk : k < 24) (hP : Q + 1 ≤ 24) (l h : Int32) (no pg li us lo fi : Nat → Int32) (K T : Int32) (hc : ¬ h < us Q + l) :
    fX3_place (Int32.ofNat k) l h no pg li us lo fi (Int32.ofNat (Q + 1)) K T = some (upd no k (K + 1), upd pg k (Int32.ofNat Q), upd li k (us Q), upd us Q (us Q + l), upd lo Q (lo Q + 1), fi, Int32.ofNat (Q + 1), K + 1, T + l) := by
  unfold fX3_place
  simp (disch := omega) only [n_let, n_le0, if_true, if_false, n_rd, n_cl, n_p, hc, show (Q + 1 = 0) = False from by simp, show ((1 : Int32) = 0) = False from by decide]
theorem e_leaveOut {k : Nat} (hk : k < 24) (no pg li : Nat → Int32) : fX3_leaveOut (Int32.ofNat k) no pg li = some (upd no k 0, upd pg k (-1), upd li k (-1)) := by
  unfold fX3_leaveOut
  simp (disch := omega) only [n_let, n_rd, n_cl]
