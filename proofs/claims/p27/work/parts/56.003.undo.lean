theorem c_bring0 (past : Nat → TB) {nx : Nat} (hx : nx < 8) (hh cc rr ac : Int32) (co li es se p w s : Nat → Int32) :
    fX2_bringBack past (Int32.ofNat nx) (Int32.ofNat 0) hh cc rr ac co li es se p w s = some (-1, Int32.ofNat nx, Int32.ofNat 0, hh, cc, rr, ac, co, li, es, se, p, w, s) := by
  rcases n_8 hx with rfl | rfl | rfl | rfl | rfl | rfl | rfl | rfl
  · show fX2_bringBack_at0 past (Int32.ofNat 0) hh cc rr ac co li es se p w s = _
    unfold fX2_bringBack_at0
    rw [if_pos (show Int32.ofNat 0 ≤ 0 from by decide)]
    rfl
  · show fX2_bringBack_at1 past (Int32.ofNat 0) hh cc rr ac co li es se p w s = _
    unfold fX2_bringBack_at1
    rw [if_pos (show Int32.ofNat 0 ≤ 0 from by decide)]
    rfl
  · show fX2_bringBack_at2 past (Int32.ofNat 0) hh cc rr ac co li es se p w s = _
    unfold fX2_bringBack_at2
    rw [if_pos (show Int32.ofNat 0 ≤ 0 from by decide)]
    rfl
  · show fX2_bringBack_at3 past (Int32.ofNat 0) hh cc rr ac co li es se p w s = _
    unfold fX2_bringBack_at3
    rw [if_pos (show Int32.ofNat 0 ≤ 0 from by decide)]
    rfl
  · show fX2_bringBack_at4 past (Int32.ofNat 0) hh cc rr ac co li es se p w s = _
    unfold fX2_bringBack_at4
    rw [if_pos (show Int32.ofNat 0 ≤ 0 from by decide)]
    rfl
  · show fX2_bringBack_at5 past (Int32.ofNat 0) hh cc rr ac co li es se p w s = _
    unfold fX2_bringBack_at5
    rw [if_pos (show Int32.ofNat 0 ≤ 0 from by decide)]
    rfl
  · show fX2_bringBack_at6 past (Int32.ofNat 0) hh cc rr ac co li es se p w s = _
    unfold fX2_bringBack_at6
    rw [if_pos (show Int32.ofNat 0 ≤ 0 from by decide)]
    rfl
  · show fX2_bringBack_at7 past (Int32.ofNat 0) hh cc rr ac co li es se p w s = _
    unfold fX2_bringBack_at7
    rw [if_pos (show Int32.ofNat 0 ≤ 0 from by decide)]
    rfl
