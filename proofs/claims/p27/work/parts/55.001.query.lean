/-! ===== queries: ranges and answers ===== -/
theorem n_pm {n : Nat} (hn : n < 2147483648) : (Int32.ofNat n - 1).toInt = (n : Int) - 1 := by
  cases n with
  | zero => rfl
  | succ n => rw [n_p, n_ti (by omega)]; omega
theorem n_range {n : Nat} (hn : n < 2147483648) (x : Int32) : (x < 0 ∨ Int32.ofNat n ≤ x) ∨ ∃ k, k < n ∧ x = Int32.ofNat k := by
  by_cases h : x < 0
  · exact Or.inl (Or.inl h)
  · obtain ⟨k, hk, rfl⟩ := n_of h
    by_cases h2 : n ≤ k
    · exact Or.inl (Or.inr ((n_le hn hk).mpr h2))
    · exact Or.inr ⟨k, by omega, rfl⟩
theorem n_nge {n k : Nat} (hn : n < 2147483648) (hk : k < n) : Int32.ofNat k < Int32.ofNat n := (n_lt (by omega) hn).mpr hk
/-- out of the range: not below it, and not in it -/
theorem n_out {n : Nat} {x : Int32} (hn : n < 2147483648) (h : x < 0 ∨ Int32.ofNat n ≤ x) : ¬ x < 0 → ¬ x < Int32.ofNat n := fun h1 h2 => by
  rcases h with h | h
  · exact h1 h
  · exact Int32.not_le.mpr h2 h
theorem n_ne {n : Nat} {x : Int32} (hn : n < 2147483648) (h : x < 0 ∨ Int32.ofNat n ≤ x) {k : Nat} (hk : k < n) : ¬ x = Int32.ofNat k := fun e => by
  subst e
  rcases h with h | h
  · exact n_lt0 (by omega) h
  · have := (n_le hn (by omega)).mp h; omega
theorem g_not : ((2 : Int32) = 0) = False ∧ ((1 : Int32) = 0) = False ∧ ((2 : Int32) = 1) = False ∧ ((0 : Int32) = 1) = False := by decide
theorem g_sA : ("java/lang/IllegalArgumentException" = "java/lang/IndexOutOfBoundsException") = False := by simp
theorem g_sS : ("java/lang/IllegalStateException" = "java/lang/IndexOutOfBoundsException") = False := by simp
theorem g_sT : ("java/lang/IllegalStateException" = "java/lang/IllegalArgumentException") = False := by simp
theorem o_tryR {α β : Type} (a : α) (k : α → Option (String ⊕ β)) : o_try (some (.inr a)) k = k a := rfl
theorem o_tryL {α β : Type} (E : String) (k : α → Option (String ⊕ β)) : o_try (some (.inl E)) k = some (.inl E) := rfl
theorem needLot_t {n k : Nat} (hn : n < 2147483648) (hk : k < n) : fX5_needLot (Int32.ofNat k) (Int32.ofNat n) = some (.inr ()) := by
  unfold fX5_needLot
  rw [if_neg (n_lt0 (by omega)), if_pos (n_nge hn hk)]
theorem needLot_f {n : Nat} {x : Int32} (hn : n < 2147483648) (h : x < 0 ∨ Int32.ofNat n ≤ x) : fX5_needLot x (Int32.ofNat n) = some (.inl "java/lang/IndexOutOfBoundsException") := by
  unfold fX5_needLot
  by_cases h1 : x < 0
  · rw [if_pos h1]
  · rw [if_neg h1, if_neg (n_out hn h h1)]
theorem needPage_t {n k : Nat} (hn : n < 2147483648) (hk : k < n) : fX5_needPage (Int32.ofNat k) (Int32.ofNat n) = some (.inr ()) := by
  unfold fX5_needPage
  rw [if_neg (n_lt0 (by omega)), if_pos (n_nge hn hk)]
theorem needPage_f {n : Nat} {x : Int32} (hn : n < 2147483648) (h : x < 0 ∨ Int32.ofNat n ≤ x) : fX5_needPage x (Int32.ofNat n) = some (.inl "java/lang/IndexOutOfBoundsException") := by
  unfold fX5_needPage
  by_cases h1 : x < 0
  · rw [if_pos h1]
  · rw [if_neg h1, if_neg (n_out hn h h1)]
section ZQ1
variable {H n m : Nat} {ln : Nat → Nat} {pr wa sl : Nat → Bool} {ac : Int32} {co es se d : Nat → Int32}
/-- printed lots have the numbers from 1 on -/
theorem zK_ct : ∀ k : Nat, zK H ln pr k = zct pr k
  | 0 => rfl
  | k + 1 => by
    have ih := zK_ct k
    show _ = zct pr k + (if pr k = true then 1 else 0)
    cases hp : pr k with
    | false =>
      obtain ⟨-, -, c⟩ := zlay_no (H := H) (ln := ln) hp
      rw [c, ih]; simp
    | true =>
      by_cases hc : zP H ln pr k = 0 ∨ H < zUs H ln pr k + ln k
      · obtain ⟨-, -, c⟩ := zlay_new hp hc
        rw [c, ih]; simp
      · obtain ⟨-, -, c⟩ := zlay_go hp hc
        rw [c, ih]; simp
theorem c_wanted {w : Nat → Int32} (hn : n ≤ 24) (h : ∀ i, i < 24 → w i = zbi (wa i)) : fX0_wantedLots (Int32.ofNat n) w = some (Int32.ofNat (zct wa n)) ∧ fX0_slippedLots (Int32.ofNat n) w = some (Int32.ofNat (zct wa n)) := by
  have e : zsum (fun i => if w i = 0 then 0 else 1) 0 n = Int32.ofNat (zct wa n) := zsum_ct wa n (fun i hi => by
    rw [h i (by omega)]
    cases wa i <;> rfl)
  exact ⟨by rw [e_wantedLots hn, e], by rw [e_slippedLots hn, e]⟩
end ZQ1
