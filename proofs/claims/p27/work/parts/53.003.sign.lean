theorem n_div {a b : Nat} (ha : a < 2147483648) (hb : b < 2147483648) : Int32.ofNat a / Int32.ofNat b = Int32.ofNat (a / b) := by
  apply Int32.toInt_inj.mp
  have h : a / b < 2147483648 := Nat.lt_of_le_of_lt (Nat.div_le_self a b) ha
  rw [Int32.toInt_div, n_ti ha, n_ti hb, n_ti h]
  have e : (a : Int).tdiv (b : Int) = ((a / b : Nat) : Int) := by
    rw [Int.tdiv_eq_ediv_of_nonneg (by omega)]; exact (Int.natCast_ediv a b).symm
  rw [e]
  clear e
  generalize a / b = q at h
  exact Int.bmod_eq_of_le (by omega) (by omega)
section ZSG
variable {H n : Nat} {ln : Nat → Nat} {pr : Nat → Bool}
theorem n_cov {q u l g : Nat} (hH : 0 < H) (hu : u + l ≤ H) (hl : 1 ≤ l) : (H * q + u ≤ g ∧ g < H * q + u + l) ↔ (q = g / H ∧ u ≤ g % H ∧ g % H < u + l) := by
  have e := Nat.div_add_mod g H
  have hm := Nat.mod_lt g hH
  rcases Nat.lt_trichotomy q (g / H) with h | h | h
  · have := Nat.mul_le_mul_left H (show q + 1 ≤ g / H from h)
    rw [Nat.mul_add, Nat.mul_one] at this
    constructor <;> intro hh <;> omega
  · rw [← h] at e ⊢
    constructor <;> intro hh <;> omega
  · have := Nat.mul_le_mul_left H (show g / H + 1 ≤ q from h)
    rw [Nat.mul_add, Nat.mul_one] at this
    constructor <;> intro hh <;> omega
theorem zs2_lt {k p l : Nat} (hk : k ≤ 24) (hl : ∀ j, j < k → ln j ≤ 9) : zs2 H ln pr k p l < 100000 := by
  by_cases h : zs2 H ln pr k p l = 0
  · omega
  · obtain ⟨i, i1, i2, i3⟩ := zs2_lot p l k h
    obtain ⟨-, -, c3, c4⟩ := zcv_iff.mp i2
    have := hl i i1
    have := (zP_le H ln pr (i + 1)).2
    rw [i3]
    split <;> omega
theorem n_pinj {a b : Nat} (ha : a < 2147483648) (hb : b < 2147483648) : (Int32.ofNat a - 1 = Int32.ofNat b - 1) ↔ a = b := by
  constructor
  · intro h
    have h1 := congrArg (· + (1 : Int32)) h
    simp only [Int32.sub_add_cancel] at h1
    exact (n_eq ha hb).mp h1
  · rintro rfl; rfl
end ZSG
