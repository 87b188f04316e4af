section ZQ5
variable {H n m : Nat} {ln : Nat → Nat} {pr wa sl : Nat → Bool} {hh cc rr ac dc : Int32} {co es se d li p w s lots : Nat → Int32} {no pg l us lo fi : Nat → Int32} {P K T : Int32}
theorem c_placeOf (hn : n ≤ 24) (hD : zct (zdfb pr wa) n ≤ 8) (hc : CV n pr wa lots dc) {i : Nat} (hi : i < n) : fX1_placeOf (Int32.ofNat i) lots dc = some (if zdfb pr wa i = true then Int32.ofNat (zct (zdfb pr wa) i) else -1) := by
  obtain ⟨c1, c2⟩ := hc
  subst c1
  unfold fX1_placeOf
  have st : ∀ f j, j < zct (zdfb pr wa) n → (∀ i', i' < n → zdfb pr wa i' = true → zct (zdfb pr wa) i' = j → i' ≠ i) → fX1_placeOf_L2 (Int32.ofNat (zct (zdfb pr wa) n)) lots (Int32.ofNat i) (f + 1) (Int32.ofNat j) = fX1_placeOf_L2 (Int32.ofNat (zct (zdfb pr wa) n)) lots (Int32.ofNat i) f (Int32.ofNat (j + 1)) := fun f j hj hne => by
    obtain ⟨i', i1, i2, i3⟩ := zct_find n hj
    have hl := c2 i' i1 i2
    rw [i3] at hl
    have hz := hne i' i1 i2 i3
    simp (disch := omega) only [fX1_placeOf_L2, n_le, n_rd, n_cl, n_let, n_s, hl, n_eq, hz, show ¬ zct (zdfb pr wa) n ≤ j from by omega, if_false]
  by_cases hd : zdfb pr wa i = true
  · rw [if_pos hd]
    have h1 := zct_lt_of hi hd
    have hl := c2 i hi hd
    refine n_walk (fun f k => fX1_placeOf_L2 (Int32.ofNat (zct (zdfb pr wa) n)) lots (Int32.ofNat i) f (Int32.ofNat k)) (zct (zdfb pr wa) i) _ (fun f => ?_) (fun f k hk => st f k (by omega) (fun i' i1 i2 i3 e => by subst e; omega)) 1024 (by omega)
    simp (disch := omega) only [fX1_placeOf_L2, n_le, n_rd, n_cl, hl, show ¬ zct (zdfb pr wa) n ≤ zct (zdfb pr wa) i from by omega, if_true, if_false]
  · rw [if_neg hd]
    refine n_walk (fun f k => fX1_placeOf_L2 (Int32.ofNat (zct (zdfb pr wa) n)) lots (Int32.ofNat i) f (Int32.ofNat k)) (zct (zdfb pr wa) n) _ (fun f => ?_) (fun f k hk => st f k hk (fun i' i1 i2 i3 e => by subst e; exact hd i2)) 1024 (by omega)
    simp only [fX1_placeOf_L2, Int32.le_refl, if_true]
end ZQ5
