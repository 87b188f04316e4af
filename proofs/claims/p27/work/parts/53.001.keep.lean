section ZKP
variable (H : Nat) (ln : Nat → Nat) (pa pb : Nat → Bool)
/-- a line that is in use and keeps its sign -/
def zkp (k p l : Nat) : Bool := decide (zs2 H ln pa k p l = zs2 H ln pb k p l) && !decide (zs2 H ln pa k p l = 0)
/-- the lot keeps its place, on the page p -/
abbrev zkc (k p : Nat) : Prop := pa k = true ∧ pb k = true ∧ pgN H ln pa k = p ∧ pgN H ln pb k = p ∧ liN H ln pa k = liN H ln pb k
def zkk (k p : Nat) : Nat := if zkc H ln pa pb k p then (if zK H ln pa (k + 1) = zK H ln pb (k + 1) then ln k else ln k - 1) else 0
/-- the lines of a page that change -/
def zchg (n p : Nat) : Nat := zct (fun l => !decide (zs2 H ln pa n p l = zs2 H ln pb n p l)) H
end ZKP
section ZKP2
variable {H : Nat} {ln : Nat → Nat} {pa pb : Nat → Bool}
theorem zkp_step {k p : Nat} (hk : k < 24) (hl : ∀ j, j < k + 1 → 1 ≤ ln j ∧ ln j ≤ 9 ∧ ln j ≤ H) : zct (zkp H ln pa pb (k + 1) p) H = zct (zkp H ln pa pb k p) H + zkk H ln pa pb k p := by
  have hk1 := hl k (by omega)
  have key : ∀ l : Nat, (if zkp H ln pa pb k p l = true then 1 else 0) + (if (decide (zkc H ln pa pb k p) && (decide (liN H ln pa k ≤ l) && decide (l < liN H ln pa k + ln k) && (decide (zK H ln pa (k + 1) = zK H ln pb (k + 1)) || !decide (l = liN H ln pa k)))) = true then 1 else 0) = (if zkp H ln pa pb (k + 1) p l = true then 1 else 0) := by
    intro l
    by_cases ca : zcv H ln pa k p l = true
    · obtain ⟨a1, a2, a3, a4⟩ := zcv_iff.mp ca
      have fa := zs2_fresh ca
      have f0 : zkp H ln pa pb k p l = false := by unfold zkp; simp [fa]
      rw [f0]
      by_cases cb : zcv H ln pb k p l = true
      · obtain ⟨b1, b2, b3, b4⟩ := zcv_iff.mp cb
        unfold zkp zs2
        rw [if_pos ca, if_pos cb]
        by_cases hz : zkc H ln pa pb k p
        · obtain ⟨-, -, -, -, h5⟩ := id hz
          rw [decide_eq_true hz, Bool.true_and]
          clear hz
          rw [← h5]
          by_cases e1 : l = liN H ln pa k <;> by_cases e2 : zK H ln pa (k + 1) = zK H ln pb (k + 1) <;> simp [e1, e2, a3, a4] <;> omega
        · have h5 : ¬ liN H ln pa k = liN H ln pb k := fun h => hz ⟨a1, b1, a2, b2, h⟩
          have : ¬ (1 + 10 * k + (l - liN H ln pa k) + (if l = liN H ln pa k then 1000 * zK H ln pa (k + 1) else 0) = 1 + 10 * k + (l - liN H ln pb k) + (if l = liN H ln pb k then 1000 * zK H ln pb (k + 1) else 0)) := by
            split <;> split <;> omega
          simp [hz, this]
      · have hz : ¬ zkc H ln pa pb k p := fun h => cb (zcv_iff.mpr ⟨h.2.1, h.2.2.2.1, by have := h.2.2.2.2; omega, by have := h.2.2.2.2; omega⟩)
        unfold zkp zs2
        rw [if_pos ca, if_neg cb]
        have : ¬ (1 + 10 * k + (l - liN H ln pa k) + (if l = liN H ln pa k then 1000 * zK H ln pa (k + 1) else 0) = zs2 H ln pb k p l) := by
          by_cases h0 : zs2 H ln pb k p l = 0
          · rw [h0]; omega
          · obtain ⟨i, i1, i2, i3⟩ := zs2_lot p l k h0
            obtain ⟨-, -, c3, c4⟩ := zcv_iff.mp i2
            have := hl i (by omega)
            rw [i3]
            split <;> split <;> omega
        simp [hz, this]
    · have hz : ¬ (zkc H ln pa pb k p ∧ liN H ln pa k ≤ l ∧ l < liN H ln pa k + ln k) := fun h => ca (zcv_iff.mpr ⟨h.1.1, h.1.2.2.1, h.2.1, h.2.2⟩)
      have hz' : (decide (zkc H ln pa pb k p) && (decide (liN H ln pa k ≤ l) && decide (l < liN H ln pa k + ln k) && (decide (zK H ln pa (k + 1) = zK H ln pb (k + 1)) || !decide (l = liN H ln pa k)))) = false := by
        rw [Bool.eq_false_iff]
        intro h
        simp only [Bool.and_eq_true, decide_eq_true_eq] at h
        exact hz ⟨h.1, h.2.1⟩
      rw [hz']
      by_cases cb : zcv H ln pb k p l = true
      · obtain ⟨b1, b2, b3, b4⟩ := zcv_iff.mp cb
        have fb := zs2_fresh cb
        have f0 : zkp H ln pa pb k p l = false := by
          unfold zkp
          rw [fb]
          by_cases h : zs2 H ln pa k p l = 0 <;> simp [h]
        rw [f0]
        unfold zkp
        conv => rhs; unfold zs2
        rw [if_neg ca, if_pos cb]
        have : ¬ (zs2 H ln pa k p l = 1 + 10 * k + (l - liN H ln pb k) + (if l = liN H ln pb k then 1000 * zK H ln pb (k + 1) else 0)) := by
          by_cases h0 : zs2 H ln pa k p l = 0
          · rw [h0]; omega
          · obtain ⟨i, i1, i2, i3⟩ := zs2_lot p l k h0
            obtain ⟨-, -, c3, c4⟩ := zcv_iff.mp i2
            have := hl i (by omega)
            rw [i3]
            split <;> split <;> omega
        simp [this]
      · unfold zkp
        conv => rhs; unfold zs2
        rw [if_neg ca, if_neg cb]
        simp
  rw [← zct_add H (fun l _ => key l)]
  congr 1
  unfold zkk
  by_cases hz : zkc H ln pa pb k p
  · rw [if_pos hz]
    have h1 := zli_le hz.1 (fun j hj => (hl j hj).2.2)
    have h2 := zct_rng (u := liN H ln pa k) (l := ln k) (decide (zK H ln pa (k + 1) = zK H ln pb (k + 1))) hk1.1 H h1
    have hd : ∀ b : Bool, (decide (zkc H ln pa pb k p) && b) = b := fun b => by rw [decide_eq_true hz, Bool.true_and]
    simp only [hd]
    rw [h2]
    by_cases e : zK H ln pa (k + 1) = zK H ln pb (k + 1) <;> simp [e]
  · rw [if_neg hz]
    exact zct_false H (fun l _ => by simp [hz])
theorem zchg_max {n p : Nat} (hl : ∀ j, j < n → ln j ≤ H) : zchg H ln pa pb n p + zct (zkp H ln pa pb n p) H = if zus H ln pa n p < zus H ln pb n p then zus H ln pb n p else zus H ln pa n p := by
  have h1 := zus_le (H := H) (pr := pa) p n hl
  have h2 := zus_le (H := H) (pr := pb) p n hl
  have hM : (if zus H ln pa n p < zus H ln pb n p then zus H ln pb n p else zus H ln pa n p) ≤ H := by split <;> omega
  have h4 : zct (fun l => decide (l < if zus H ln pa n p < zus H ln pb n p then zus H ln pb n p else zus H ln pa n p)) H = if zus H ln pa n p < zus H ln pb n p then zus H ln pb n p else zus H ln pa n p := by
    generalize (if zus H ln pa n p < zus H ln pb n p then zus H ln pb n p else zus H ln pa n p) = M at hM
    rw [zct_lt]
    split <;> omega
  refine Eq.trans ?_ h4
  refine zct_add H (fun l hl => ?_)
  have ea := zs2_zero (H := H) (ln := ln) (pr := pa) p l n
  have eb := zs2_zero (H := H) (ln := ln) (pr := pb) p l n
  unfold zkp
  generalize zs2 H ln pa n p l = x at *
  generalize zs2 H ln pb n p l = y at *
  generalize zus H ln pa n p = u at *
  generalize zus H ln pb n p = v at *
  by_cases e1 : x = y
  · subst e1
    by_cases e2 : x = 0
    · have := ea.mp e2; have := eb.mp e2
      simp [e2]
      split <;> omega
    · have : ¬ u ≤ l := fun h => e2 (ea.mpr h)
      have : ¬ v ≤ l := fun h => e2 (eb.mpr h)
      simp [e2]
      split <;> omega
  · simp [e1]
    by_cases e2 : x = 0
    · have : ¬ v ≤ l := fun h => e1 (e2.trans (eb.mpr h).symm)
      split <;> omega
    · have : ¬ u ≤ l := fun h => e2 (ea.mpr h)
      split <;> omega
end ZKP2
