/-! ===== what is derived from the bill ===== -/
section ZSE
variable {H n m : Nat} {ln : Nat → Nat} {pr wa sl : Nat → Bool} {hh cc rr ac : Int32} {co es se d li p w s : Nat → Int32}
theorem c_listFor (hw : NW H n m ln pr wa) (hb : BV H n m ln pr wa sl hh cc rr li p w s) (lots : Nat → Int32) (dc z : Int32) :
    ∃ lots' dc', fX1_listFor lots dc z cc p w = some (lots', dc', 0) ∧ CV n pr wa lots' dc' := by
  have hn := hw.2.2.1
  have hD := hw.2.2.2.2.2.2
  obtain ⟨b1, b2, b3, b4, b5, b6, b7⟩ := id hb
  subst b2
  have key := n_inv (fun f k (q : (Nat → Int32) × Int32) => fX1_listFor_L12 (Int32.ofNat n) p w f (Int32.ofNat k) q.1 q.2) n (fun q => some (q.1, q.2, 0)) (fun k q => q.2 = Int32.ofNat (zct (zdfb pr wa) k) ∧ ∀ i, i < k → zdfb pr wa i = true → q.1 (zct (zdfb pr wa) i) = Int32.ofNat i) (fun f q hs => by simp only [fX1_listFor_L12, Int32.le_refl, if_true]) (fun f k q hk hs => by
    obtain ⟨a, c⟩ := q
    obtain ⟨q1, q2⟩ := hs
    have q1 : c = _ := q1
    have q2 : ∀ i, i < k → zdfb pr wa i = true → a (zct (zdfb pr wa) i) = Int32.ofNat i := q2
    subst q1
    have e1 : fX0_isDifferent (Int32.ofNat k) p w = some (zbi (zdfb pr wa k)) := by
      rw [e_isDifferent (by omega), b5 k (by omega), b6 k (by omega)]
      unfold zdfb
      cases pr k <;> cases wa k <;> rfl
    have e2 : zct (zdfb pr wa) (k + 1) = zct (zdfb pr wa) k + (if zdfb pr wa k = true then 1 else 0) := rfl
    cases hz : zdfb pr wa k
    · rw [hz] at e1 e2
      refine ⟨(a, Int32.ofNat (zct (zdfb pr wa) k)), ⟨by rw [e2]; rfl, fun i hi hd => ?_⟩, ?_⟩
      · by_cases e : i = k
        · subst e; rw [hz] at hd; cases hd
        · exact q2 i (by omega) hd
      · simp (disch := omega) only [fX1_listFor_L12, n_le, n_bind, n_let, n_s, e1, zbF, show ¬ n ≤ k from by omega, if_true, if_false]
    · have h8 := zct_lt_of hk hz
      rw [hz] at e1 e2
      rw [if_pos rfl] at e2
      refine ⟨(upd a (zct (zdfb pr wa) k) (Int32.ofNat k), Int32.ofNat (zct (zdfb pr wa) k + 1)), ⟨by rw [e2], fun i hi hd => ?_⟩, ?_⟩
      · by_cases e : i = k
        · subst e; exact upd_same
        · have := zct_lt_of (show i < k by omega) hd
          exact (upd_ne (by omega)).trans (q2 i (by omega) hd)
      · simp (disch := omega) only [fX1_listFor_L12, n_le, n_rd, n_cl, n_bind, n_let, n_s, e1, zbT, n10, show (8 : Int32) = Int32.ofNat 8 from rfl, show ¬ 8 ≤ zct (zdfb pr wa) k from by omega, show ¬ n ≤ k from by omega, if_true, if_false])
    n 0 1024 (lots, 0) (by omega) (by omega) ⟨rfl, fun i hi => absurd hi (Nat.not_lt_zero _)⟩
  obtain ⟨⟨a, c⟩, k1, k2⟩ := key
  refine ⟨a, c, ?_, k1⟩
  unfold fX1_listFor
  exact k2
end ZSE
section ZTW
variable {H n m : Nat} {ln : Nat → Nat} {pr wa sl : Nat → Bool} {hh cc rr ac dc : Int32} {co es se d li p w s lots : Nat → Int32}
/-- wanted turned for a lot -/
def zwa (wa : Nat → Bool) (i j : Nat) : Bool := if j = i then !wa i else wa j
def zsl0 (sl : Nat → Bool) (i j : Nat) : Bool := if j = i then false else sl j
/-- turning in the class, where it may be done -/
theorem c_turn (hw : NW H n m ln pr wa) (hb : BV H n m ln pr wa sl hh cc rr li p w s) (hc : CV n pr wa lots dc) {i : Nat} (hi : i < n) (hd : zdfb pr wa i = true ∨ zct (zdfb pr wa) n < 8) {past past' : Nat → TB} {next kept next' kept' : Int32} {no pg l us lo fi no' pg' l' us' lo' fi' lots' : Nat → Int32} {P K T P' K' T' dc' z : Int32} (hr : fX2_remember past next kept hh cc rr ac co li es se p w s = some (past', next', kept'))
    (hs : fX5_settle hh cc li p (upd w i (zbi (!wa i))) no pg l us lo fi P K T lots dc z = some (no', pg', l', us', lo', fi', P', K', T', lots', dc', 0)) :
    fX5_turnWanted (Int32.ofNat i) hh cc rr ac co li es se p w s past next kept no pg l us lo fi P K T lots dc z = some (.inr (upd w i (zbi (!wa i)), upd s i (zbi false), past', next', kept', no', pg', l', us', lo', fi', P', K', T', lots', dc', 0)) := by
  have hn := hw.2.2.1
  have hD := hw.2.2.2.2.2.2
  obtain ⟨b1, b2, b3, b4, b5, b6, b7⟩ := id hb
  have e1 : fX0_isDifferent (Int32.ofNat i) p w = some (zbi (zdfb pr wa i)) := by
    rw [e_isDifferent (by omega), b5 i (by omega), b6 i (by omega)]
    unfold zdfb
    cases pr i <;> cases wa i <;> rfl
  have e2 : (if w (Int32.ofNat i).toNatClampNeg = 0 then (1 : Int32) else 0) = zbi (!wa i) := by
    rw [n_cl (by omega), b6 i (by omega)]
    cases wa i <;> rfl
  have body : ∀ r, (o_bind (fX2_remember past next kept hh cc rr ac co li es se p w s) (fun (a5, x6, x7) => o_rd 24 (Int32.ofNat i) (o_let (fun (x11 : Int32) => o_rd 24 (Int32.ofNat i) (o_let (upd w (Int32.ofNat i).toNatClampNeg (vp_nar .boolean x11)) (fun a14 => o_rd 24 (Int32.ofNat i) (o_let (upd s (Int32.ofNat i).toNatClampNeg (vp_nar .boolean (0 : Int32))) (fun a16 => o_bind (fX5_settle hh cc li p a14 no pg l us lo fi P K T lots dc z) (fun (a17, a18, a19, a20, a21, a22, x23, x24, x25, a26, x27, x28) => some (.inr (a14, a16, a5, x6, x7, a17, a18, a19, a20, a21, a22, x23, x24, x25, a26, x27, x28)))))))) (fun (j70_12 : Int32 → Option (String ⊕ ((Nat → Int32) × (Nat → Int32) × (Nat → Int32 × Int32 × Int32 × Int32 × (Nat → Int32) × (Nat → Int32) × (Nat → Int32) × (Nat → Int32) × (Nat → Int32) × (Nat → Int32) × (Nat → Int32)) × Int32 × Int32 × (Nat → Int32) × (Nat → Int32) × (Nat → Int32) × (Nat → Int32) × (Nat → Int32) × (Nat → Int32) × Int32 × Int32 × Int32 × (Nat → Int32) × Int32 × Int32))) => (if (w (Int32.ofNat i).toNatClampNeg) = 0 then (j70_12 (1 : Int32)) else (j70_12 (0 : Int32))))))) = r → some (Sum.inr (upd w i (zbi (!wa i)), upd s i (zbi false), past', next', kept', no', pg', l', us', lo', fi', P', K', T', lots', dc', 0)) = r := fun r h => by
    rw [← h, hr, n_bind]
    have e3 : vp_nar .boolean (1 : Int32) = zbi true := vp_narB true
    have e4 : vp_nar .boolean (0 : Int32) = zbi false := vp_narB false
    simp (disch := omega) only [n_rd, n_cl, n_let, e3, e4, b6 i (show i < 24 by omega)]
    cases hz : wa i
    · rw [hz] at hs
      simp only [zbF, if_true]
      rw [show (zbi true) = zbi (!false) from rfl, hs, n_bind]
    · rw [hz] at hs
      simp only [zbT, n10, if_false]
      rw [show (zbi false) = zbi (!true) from rfl, hs, n_bind]
  unfold fX5_turnWanted
  rw [e1, n_bind, n_let]
  cases hz : zdfb pr wa i
  · have h8 : zct (zdfb pr wa) n < 8 := hd.resolve_left (by rw [hz]; simp)
    have h9 : dc < 8 := by
      rw [hc.1]
      exact (n_lt (b := 8) (by omega) (by omega)).mpr h8
    rw [zbF, if_pos rfl, if_pos h9]
    exact (body _ rfl).symm
  · rw [zbT, if_neg (by decide)]
    exact (body _ rfl).symm
end ZTW
