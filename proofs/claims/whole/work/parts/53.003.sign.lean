theorem n_div {a b : Nat} (ha : a < 2147483648) (hb : b < 2147483648) : Int32.ofNat a / Int32.ofNat b = Int32.ofNat (a / b) := by
  apply Int32.toInt_inj.mp
  have h : a / b < 2147483648 := Nat.lt_of_le_of_lt (Nat.div_le_self a b) ha
  rw [Int32.toInt_div, n_ti ha, n_ti hb, n_ti h]
  have e : (a : Int).tdiv (b : Int) = ((a / b : Nat) : Int) := by
    rw [Int.tdiv_eq_ediv_of_nonneg (by omega)]; exact (Int.natCast_ediv a b).symm
  rw [e]
  clear e
  generalize a / b = q at h
  exact Int.bmod_eq_of_le (by omega) (by omega)
section ZSG
variable {H n : Nat} {ln : Nat → Nat} {pr : Nat → Bool}
theorem n_cov {q u l g : Nat} (hH : 0 < H) (hu : u + l ≤ H) (hl : 1 ≤ l) : (H * q + u ≤ g ∧ g < H * q + u + l) ↔ (q = g / H ∧ u ≤ g % H ∧ g % H < u + l) := by
  have e := Nat.div_add_mod g H
  have hm := Nat.mod_lt g hH
  rcases Nat.lt_trichotomy q (g / H) with h | h | h
  · have := Nat.mul_le_mul_left H (show q + 1 ≤ g / H from h)
    rw [Nat.mul_add, Nat.mul_one] at this
    constructor <;> intro hh <;> omega
  · rw [← h] at e ⊢
    constructor <;> intro hh <;> omega
  · have := Nat.mul_le_mul_left H (show g / H + 1 ≤ q from h)
    rw [Nat.mul_add, Nat.mul_one] at this
    constructor <;> intro hh <;> omega
theorem zst_cases {g : Nat} (hH : 0 < H) : ∀ k : Nat, (∀ j, j < k → 1 ≤ ln j ∧ ln j ≤ H) → (zst H ln pr k g = -1 ∧ zs2 H ln pr k (g / H) (g % H) = 0) ∨ ∃ i, i < k ∧ zcv H ln pr i (g / H) (g % H) = true ∧ zst H ln pr k g = Int32.ofNat (10 * i + (g % H - liN H ln pr i)) ∧ zs2 H ln pr k (g / H) (g % H) = 1 + 10 * i + (g % H - liN H ln pr i) + (if g % H = liN H ln pr i then 1000 * zK H ln pr (i + 1) else 0)
  | 0, _ => Or.inl ⟨rfl, rfl⟩
  | k + 1, hl => by
    have ih := zst_cases (g := g) hH k (fun j hj => hl j (by omega))
    unfold zst zs2
    by_cases hp : pr k = true
    · have h1 := zli_le (H := H) hp (fun j hj => (hl j hj).2)
      have h2 : (zpos H ln pr k ≤ g ∧ g < zpos H ln pr k + ln k) ↔ _ := n_cov (q := pgN H ln pr k) (u := liN H ln pr k) (l := ln k) (g := g) hH h1 (hl k (by omega)).1
      by_cases hc : zcv H ln pr k (g / H) (g % H) = true
      · obtain ⟨c1, c2, c3, c4⟩ := zcv_iff.mp hc
        have e1 : zpos H ln pr k = H * (g / H) + liN H ln pr k := by
          show H * pgN H ln pr k + liN H ln pr k = _
          rw [c2]
        have e2 := Nat.div_add_mod g H
        rw [if_pos ⟨hp, h2.mpr ⟨c2, c3, c4⟩⟩, if_pos hc, show g - zpos H ln pr k = g % H - liN H ln pr k by omega]
        exact Or.inr ⟨k, by omega, hc, rfl, rfl⟩
      · rw [if_neg (fun h => hc (zcv_iff.mpr ⟨hp, h2.mp h.2⟩)), if_neg hc]
        rcases ih with ih | ⟨i, i1, i2, i3, i4⟩
        · exact Or.inl ih
        · exact Or.inr ⟨i, by omega, i2, i3, i4⟩
    · rw [if_neg (fun h => hp h.1), if_neg (fun h => hp (zcv_iff.mp h).1)]
      rcases ih with ih | ⟨i, i1, i2, i3, i4⟩
      · exact Or.inl ih
      · exact Or.inr ⟨i, by omega, i2, i3, i4⟩
theorem e_signOf {no pg li st : Nat → Int32} {P : Int32} {g : Nat} (hH : 0 < H) (hn : n ≤ 24) (hl : ∀ j, j < n → 1 ≤ ln j ∧ ln j ≤ 9 ∧ ln j ≤ H) (h : MOK H ln pr n no pg li st P) (hg : g < 960) : fX6_signOf (Int32.ofNat g) no st = some (Int32.ofNat (zs2 H ln pr n (g / H) (g % H)) - 1) := by
  obtain ⟨h1, h2, -⟩ := h
  unfold fX6_signOf
  rw [n_rd hg (by omega), n_cl (by omega), h2 g hg]
  rcases zst_cases (H := H) (ln := ln) (pr := pr) (g := g) hH n (fun j hj => ⟨(hl j hj).1, (hl j hj).2.2⟩) with ⟨e1, e2⟩ | ⟨i, i1, i2, e1, e2⟩
  · rw [e1, e2, if_pos rfl]; rfl
  · obtain ⟨c1, c2, c3, c4⟩ := zcv_iff.mp i2
    have hli := (hl i i1).2.1
    rw [e1, e2]
    obtain ⟨o, ho⟩ : ∃ o, o = g % H - liN H ln pr i := ⟨_, rfl⟩
    rw [← ho]
    have d1 : Int32.ofNat (10 * i + o) / 10 = Int32.ofNat i := by
      rw [show (10 : Int32) = Int32.ofNat 10 from rfl, n_div (by omega) (by omega), show (10 * i + o) / 10 = i by omega]
    have d2 : Int32.ofNat (10 * i + o) - Int32.ofNat i * 10 = Int32.ofNat o := by
      rw [show (10 : Int32) = Int32.ofNat 10 from rfl, ← Int32.ofNat_mul]
      exact n_sub (by omega)
    rw [if_neg (n_m1 (by omega)), n_rd hg (by omega), n_rd hg (by omega), d1, d2]
    by_cases e : o = 0
    · have e' : Int32.ofNat o = 0 := by rw [e]; rfl
      have hz := (h1 i i1).1
      rw [zNo_t c1] at hz
      have hK := (zP_le H ln pr (i + 1)).2
      rw [if_pos e', if_pos (by omega), n_rd hg (by omega), n_rd (by omega) (by omega), n_cl (by omega), hz, show (1000 : Int32) = Int32.ofNat 1000 from rfl, ← Int32.ofNat_mul, ← Int32.ofNat_add]
      rw [show 1 + 10 * i + o + 1000 * zK H ln pr (i + 1) = (10 * i + o + 1000 * zK H ln pr (i + 1)) + 1 by omega, n_p]
    · have e' : ¬ Int32.ofNat o = 0 := fun h => e ((n_eq (b := 0) (by omega) (by omega)).mp h)
      rw [if_neg e', if_neg (by omega), Int32.add_zero, Nat.add_zero, show 1 + 10 * i + o = (10 * i + o) + 1 by omega, n_p]
theorem zs2_lt {k p l : Nat} (hk : k ≤ 24) (hl : ∀ j, j < k → ln j ≤ 9) : zs2 H ln pr k p l < 100000 := by
  by_cases h : zs2 H ln pr k p l = 0
  · omega
  · obtain ⟨i, i1, i2, i3⟩ := zs2_lot p l k h
    obtain ⟨-, -, c3, c4⟩ := zcv_iff.mp i2
    have := hl i i1
    have := (zP_le H ln pr (i + 1)).2
    rw [i3]
    split <;> omega
theorem n_pinj {a b : Nat} (ha : a < 2147483648) (hb : b < 2147483648) : (Int32.ofNat a - 1 = Int32.ofNat b - 1) ↔ a = b := by
  constructor
  · intro h
    have h1 := congrArg (· + (1 : Int32)) h
    simp only [Int32.sub_add_cancel] at h1
    exact (n_eq ha hb).mp h1
  · rintro rfl; rfl
end ZSG
