theorem n_subI {a b : Nat} (ha : a < 1073741824) (hb : b < 1073741824) : (Int32.ofNat a - Int32.ofNat b).toInt = (a : Int) - b := by
  rw [Int32.toInt_sub, n_ti (by omega), n_ti (by omega)]
  exact Int.bmod_eq_of_le (by omega) (by omega)
theorem n_first (Q : Nat → Prop) [DecidablePred Q] : ∀ n : Nat, (∃ i, i < n ∧ Q i ∧ ∀ j, j < i → ¬ Q j) ∨ ∀ i, i < n → ¬ Q i
  | 0 => Or.inr (fun i h => absurd h (Nat.not_lt_zero _))
  | n + 1 => by
    rcases n_first Q n with ⟨i, h1, h2⟩ | h
    · exact Or.inl ⟨i, by omega, h2⟩
    · by_cases hq : Q n
      · exact Or.inl ⟨n, by omega, hq, h⟩
      · exact Or.inr (fun i hi => by
          by_cases e : i = n
          · subst e; exact hq
          · exact h i (by omega))
/-- a loop that goes on ahead of i, and ends there -/
theorem n_walk {ρ : Type} (F : Nat → Nat → Option ρ) (i : Nat) (r : Option ρ) (hx : ∀ f, F (f + 1) i = r) (hs : ∀ f k, k < i → F (f + 1) k = F f (k + 1)) (fuel : Nat) (hf : i < fuel) : F fuel 0 = r :=
  n_for0 (fun f k (_ : Unit) => F f k) i (fun _ s => s) (fun _ => r) (fun f _ => hx f) (fun f k _ hk => hs f k hk) i 0 fuel () (by omega) hf
section ZQ3
variable {H n m : Nat} {ln : Nat → Nat} {pr wa sl : Nat → Bool} {hh cc rr ac dc : Int32} {co es se d li p w s lots : Nat → Int32} {no pg l us lo fi : Nat → Int32} {P K T : Int32}
theorem zcv_uniq {i j q x : Nat} (hi : zcv H ln pr i q x = true) (hj : zcv H ln pr j q x = true) : i = j := by
  have key : ∀ i j, i < j → zcv H ln pr i q x = true → ¬ zcv H ln pr j q x = true := fun i j hij hi hj => by
    have h1 := zs2_fresh hj
    rw [zs2_zero] at h1
    have : ∀ m, zus H ln pr (i + 1) q ≤ zus H ln pr (i + 1 + m) q := fun m => by
      induction m with
      | zero => exact Nat.le_refl _
      | succ m ih =>
        have : zus H ln pr (i + 1 + (m + 1)) q = zus H ln pr (i + 1 + m) q + (if pr (i + 1 + m) = true ∧ pgN H ln pr (i + 1 + m) = q then ln (i + 1 + m) else 0) := rfl
        omega
    have h2 := this (j - (i + 1))
    rw [show i + 1 + (j - (i + 1)) = j by omega] at h2
    have h3 : zs2 H ln pr (i + 1) q x = 0 := (zs2_zero q x (i + 1)).mpr (Nat.le_trans h2 h1)
    unfold zs2 at h3
    rw [if_pos hi] at h3
    omega
  rcases Nat.lt_trichotomy i j with h | h | h
  · exact absurd hj (key i j h hi)
  · exact h
  · exact absurd hi (key j i h hj)
end ZQ3
