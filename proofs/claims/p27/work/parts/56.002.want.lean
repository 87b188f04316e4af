section ZWT
variable {H n m : Nat} {ln : Nat → Nat} {pr wa sl : Nat → Bool} {hh cc rr ac dc : Int32} {co es se d li p w s lots : Nat → Int32}
theorem c_turn_no (hw : NW H n m ln pr wa) (hb : BV H n m ln pr wa sl hh cc rr li p w s) (hc : CV n pr wa lots dc) {i : Nat} (hi : i < n) (hd : ¬ (zdfb pr wa i = true ∨ zct (zdfb pr wa) n < 8)) {past : Nat → TB} {next kept : Int32} {no pg l us lo fi : Nat → Int32} {P K T z : Int32} :
    fX5_turnWanted (Int32.ofNat i) hh cc rr ac co li es se p w s past next kept no pg l us lo fi P K T lots dc z = some (.inl "java/lang/IllegalStateException") := by
  have hn := hw.2.2.1
  have hD := hw.2.2.2.2.2.2
  obtain ⟨b1, b2, b3, b4, b5, b6, b7⟩ := id hb
  have e1 : fX0_isDifferent (Int32.ofNat i) p w = some (zbi (zdfb pr wa i)) := by
    rw [e_isDifferent (by omega), b5 i (by omega), b6 i (by omega)]
    unfold zdfb
    cases pr i <;> cases wa i <;> rfl
  have hz : zdfb pr wa i = false := by
    cases hz : zdfb pr wa i
    · rfl
    · exact absurd (Or.inl hz) hd
  have h9 : ¬ dc < 8 := by
    rw [hc.1]
    exact fun h => hd (Or.inr ((n_lt (b := 8) (by omega) (by omega)).mp h))
  unfold fX5_turnWanted
  rw [e1, n_bind, n_let, hz, zbF, if_pos rfl, if_neg h9]
end ZWT
