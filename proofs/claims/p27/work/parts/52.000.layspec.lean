/-! ===== what laying gives: pages, lines in use of the last page, numbers, behind the first i lots ===== -/
theorem n_inv {σ ρ : Type} (F : Nat → Nat → σ → Option ρ) (n : Nat) (ex : σ → Option ρ) (P : Nat → σ → Prop) (hx : ∀ f s, P n s → F (f + 1) n s = ex s) (hs : ∀ f k s, k < n → P k s → ∃ s', P (k + 1) s' ∧ F (f + 1) k s = F f (k + 1) s') :
    ∀ (m k fuel : Nat) (s : σ), k + m = n → m < fuel → P k s → ∃ s', P n s' ∧ F fuel k s = ex s'
  | 0, k, fuel, s, h, hf, hp => by
    obtain ⟨f, rfl⟩ : ∃ f, fuel = f + 1 := ⟨fuel - 1, by omega⟩
    have e : k = n := by omega
    subst e
    exact ⟨s, hp, hx f s hp⟩
  | m + 1, k, fuel, s, h, hf, hp => by
    obtain ⟨f, rfl⟩ : ∃ f, fuel = f + 1 := ⟨fuel - 1, by omega⟩
    obtain ⟨s1, hp1, h1⟩ := hs f k s (by omega) hp
    obtain ⟨s2, hp2, h2⟩ := n_inv F n ex P hx hs m (k + 1) f s1 (by omega) (by omega) hp1
    exact ⟨s2, hp2, h1.trans h2⟩
section ZLAY
variable (H : Nat) (ln : Nat → Nat) (pr : Nat → Bool)
def zlay : Nat → Nat × Nat × Nat
  | 0 => (0, 0, 0)
  | i + 1 => if pr i = true then (if (zlay i).1 = 0 ∨ H < (zlay i).2.1 + ln i then ((zlay i).1 + 1, ln i, (zlay i).2.2 + 1) else ((zlay i).1, (zlay i).2.1 + ln i, (zlay i).2.2 + 1)) else zlay i
def zP (i : Nat) : Nat := (zlay H ln pr i).1
def zUs (i : Nat) : Nat := (zlay H ln pr i).2.1
def zK (i : Nat) : Nat := (zlay H ln pr i).2.2
end ZLAY
section ZLAY2
variable {H : Nat} {ln : Nat → Nat} {pr : Nat → Bool} {i : Nat}
theorem zlay_no (h : pr i = false) : zP H ln pr (i + 1) = zP H ln pr i ∧ zUs H ln pr (i + 1) = zUs H ln pr i ∧ zK H ln pr (i + 1) = zK H ln pr i := by
  unfold zP zUs zK
  rw [show zlay H ln pr (i + 1) = zlay H ln pr i by rw [zlay]; simp [h]]
  exact ⟨rfl, rfl, rfl⟩
theorem zlay_new (h : pr i = true) (hc : zP H ln pr i = 0 ∨ H < zUs H ln pr i + ln i) : zP H ln pr (i + 1) = zP H ln pr i + 1 ∧ zUs H ln pr (i + 1) = ln i ∧ zK H ln pr (i + 1) = zK H ln pr i + 1 := by
  unfold zP zUs zK at *
  rw [zlay, if_pos h, if_pos hc]
  exact ⟨rfl, rfl, rfl⟩
theorem zlay_go (h : pr i = true) (hc : ¬ (zP H ln pr i = 0 ∨ H < zUs H ln pr i + ln i)) : zP H ln pr (i + 1) = zP H ln pr i ∧ zUs H ln pr (i + 1) = zUs H ln pr i + ln i ∧ zK H ln pr (i + 1) = zK H ln pr i + 1 := by
  unfold zP zUs zK at *
  rw [zlay, if_pos h, if_neg hc]
  exact ⟨rfl, rfl, rfl⟩
theorem zP_le (H : Nat) (ln : Nat → Nat) (pr : Nat → Bool) : ∀ i : Nat, zP H ln pr i ≤ i ∧ zK H ln pr i ≤ i
  | 0 => ⟨Nat.le_refl _, Nat.le_refl _⟩
  | i + 1 => by
    obtain ⟨h1, h2⟩ := zP_le H ln pr i
    cases hp : pr i with
    | false =>
      obtain ⟨a, b, c⟩ := zlay_no (H := H) (ln := ln) hp
      omega
    | true =>
      by_cases hc : zP H ln pr i = 0 ∨ H < zUs H ln pr i + ln i
      · obtain ⟨a, b, c⟩ := zlay_new hp hc
        omega
      · obtain ⟨a, b, c⟩ := zlay_go hp hc
        omega
theorem zUs_le (H : Nat) (ln : Nat → Nat) (pr : Nat → Bool) : ∀ i : Nat, (∀ j, j < i → ln j ≤ H) → zUs H ln pr i ≤ H
  | 0, _ => Nat.zero_le _
  | i + 1, hl => by
    have h1 := zUs_le H ln pr i (fun j hj => hl j (by omega))
    have h2 := hl i (by omega)
    cases hp : pr i with
    | false =>
      obtain ⟨a, b, c⟩ := zlay_no (H := H) (ln := ln) hp
      omega
    | true =>
      by_cases hc : zP H ln pr i = 0 ∨ H < zUs H ln pr i + ln i
      · obtain ⟨a, b, c⟩ := zlay_new hp hc
        omega
      · obtain ⟨a, b, c⟩ := zlay_go hp hc
        omega
/-- a printed lot: there is a page, and its lines are in use -/
theorem zP_pos (h : pr i = true) : 1 ≤ zP H ln pr (i + 1) ∧ ln i ≤ zUs H ln pr (i + 1) ∧ 1 ≤ zK H ln pr (i + 1) := by
  by_cases hc : zP H ln pr i = 0 ∨ H < zUs H ln pr i + ln i
  · obtain ⟨a, b, c⟩ := zlay_new h hc
    omega
  · obtain ⟨a, b, c⟩ := zlay_go h hc
    omega
end ZLAY2
/-- a lot's page, line and number -/
def zPg (H : Nat) (ln : Nat → Nat) (pr : Nat → Bool) (i : Nat) : Int32 := if pr i = true then Int32.ofNat (zP H ln pr (i + 1) - 1) else -1
def zLi (H : Nat) (ln : Nat → Nat) (pr : Nat → Bool) (i : Nat) : Int32 := if pr i = true then Int32.ofNat (zUs H ln pr (i + 1) - ln i) else -1
def zNo_ (H : Nat) (ln : Nat → Nat) (pr : Nat → Bool) (i : Nat) : Int32 := if pr i = true then Int32.ofNat (zK H ln pr (i + 1)) else 0
