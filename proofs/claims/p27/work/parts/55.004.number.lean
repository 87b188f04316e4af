section ZQ4
variable {H n m : Nat} {ln : Nat → Nat} {pr wa sl : Nat → Bool} {hh cc rr ac dc : Int32} {co es se d li p w s lots : Nat → Int32} {no pg l us lo fi : Nat → Int32} {P K T : Int32}
theorem zbst_best : zbst (fun c => decide (Int32.ofNat c &&& 0 = 0)) (fun c => zcost H n m ln pr wa sl co (Int32.ofNat c)) (2 ^ zct (zdfb pr wa) n) = zbst (fun c => decide (Int32.ofNat c &&& (0 : Int32) = 0) && decide (Int32.ofNat c &&& (0 : Int32) = 0)) (fun c => zcost H n m ln pr wa sl co (Int32.ofNat c)) (2 ^ zct (zdfb pr wa) n) := zbst_congr _ (fun c _ => by simp)
theorem c_needChoice_t (hD : zct (zdfb pr wa) n ≤ 8) (hc : CV n pr wa lots dc) {k : Nat} (hk : k < 2 ^ zct (zdfb pr wa) n) : fX5_needChoice (Int32.ofNat k) dc = some (.inr ()) := by
  have pw := (n_pow2 hD).1
  unfold fX5_needChoice fX1_has
  rw [if_neg (n_lt0 (by omega)), hc.1, n_pow hD, if_neg (fun h => by
    have := (n_le (by omega) (by omega)).mp h
    omega), n_bind, if_neg (by decide)]
theorem c_needChoice_f (hD : zct (zdfb pr wa) n ≤ 8) (hc : CV n pr wa lots dc) {x : Int32} (hx : x < 0 ∨ Int32.ofNat (2 ^ zct (zdfb pr wa) n) ≤ x) : fX5_needChoice x dc = some (.inl "java/lang/IllegalArgumentException") := by
  unfold fX5_needChoice fX1_has
  by_cases h1 : x < 0
  · rw [if_pos h1, n_bind, if_pos rfl]
  · rw [if_neg h1, hc.1, n_pow hD, if_pos (hx.resolve_left h1), n_bind, if_pos rfl]
end ZQ4
