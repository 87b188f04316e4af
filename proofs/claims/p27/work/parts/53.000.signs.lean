/-! ===== lines of pages: what stands on them, in numbers ===== -/
def zct (f : Nat → Bool) : Nat → Nat
  | 0 => 0
  | n + 1 => zct f n + (if f n = true then 1 else 0)
theorem zct_congr {f g : Nat → Bool} : ∀ n : Nat, (∀ i, i < n → f i = g i) → zct f n = zct g n
  | 0, _ => rfl
  | n + 1, h => by unfold zct; rw [zct_congr n (fun i hi => h i (by omega)), h n (by omega)]
theorem zct_le (f : Nat → Bool) : ∀ n : Nat, zct f n ≤ n
  | 0 => Nat.le_refl _
  | n + 1 => by
    have := zct_le f n
    unfold zct; split <;> omega
theorem zct_lt (a : Nat) : ∀ n : Nat, zct (fun l => decide (l < a)) n = if n ≤ a then n else a
  | 0 => by rw [if_pos (Nat.zero_le _)]; rfl
  | n + 1 => by
    unfold zct
    rw [zct_lt a n]
    simp only [decide_eq_true_eq]
    (repeat' split) <;> omega
theorem zct_add {f g h : Nat → Bool} : ∀ n : Nat, (∀ i, i < n → (if f i = true then 1 else 0) + (if g i = true then 1 else 0) = (if h i = true then 1 else 0)) → zct f n + zct g n = zct h n
  | 0, _ => rfl
  | n + 1, hi => by
    have h1 := zct_add n (fun i h => hi i (by omega))
    have h2 := hi n (by omega)
    unfold zct
    omega
theorem zct_false {f : Nat → Bool} : ∀ n : Nat, (∀ i, i < n → f i = false) → zct f n = 0
  | 0, _ => rfl
  | n + 1, h => by
    unfold zct
    rw [zct_false n (fun i hi => h i (by omega)), h n (by omega)]
    rfl
/-- the lines from u on, l of them, without the first or with it -/
theorem zct_rng {u l : Nat} (q : Bool) (hl : 1 ≤ l) : ∀ n : Nat, u + l ≤ n → zct (fun x => decide (u ≤ x) && decide (x < u + l) && (q || !decide (x = u))) n = if q = true then l else l - 1 := by
  have h : ∀ n : Nat, zct (fun x => decide (u ≤ x) && decide (x < u + l) && (q || !decide (x = u))) n = if n ≤ u then 0 else (if n ≤ u + l then n - u else l) - (if q = true then 0 else 1) := by
    intro n
    induction n with
    | zero => rw [if_pos (Nat.zero_le _)]; rfl
    | succ n ih =>
      unfold zct
      rw [ih]
      cases q <;> simp only [Bool.true_or, Bool.and_true, Bool.false_or, if_true, reduceCtorEq, if_false, Bool.and_eq_true, decide_eq_true_eq, Bool.not_eq_true', decide_eq_false_iff_not] <;> (repeat' split) <;> omega
  intro n hn
  rw [h n, if_neg (by omega)]
  cases q <;> simp only [if_true, reduceCtorEq, if_false] <;> (repeat' split) <;> omega
section ZS2
variable (H : Nat) (ln : Nat → Nat) (pr : Nat → Bool)
def pgN (k : Nat) : Nat := zP H ln pr (k + 1) - 1
def liN (k : Nat) : Nat := zUs H ln pr (k + 1) - ln k
def zcv (k p l : Nat) : Bool := pr k && decide (pgN H ln pr k = p) && decide (liN H ln pr k ≤ l) && decide (l < liN H ln pr k + ln k)
/-- the sign of a line of a page, behind k lots: 0 where nothing stands -/
def zs2 : Nat → Nat → Nat → Nat
  | 0, _, _ => 0
  | k + 1, p, l => if zcv H ln pr k p l = true then 1 + 10 * k + (l - liN H ln pr k) + (if l = liN H ln pr k then 1000 * zK H ln pr (k + 1) else 0) else zs2 k p l
def zus : Nat → Nat → Nat
  | 0, _ => 0
  | k + 1, p => zus k p + (if pr k = true ∧ pgN H ln pr k = p then ln k else 0)
end ZS2
section ZS3
variable {H : Nat} {ln : Nat → Nat} {pr : Nat → Bool}
theorem zUs_zero : ∀ k : Nat, zP H ln pr k = 0 → zUs H ln pr k = 0
  | 0, _ => rfl
  | k + 1, h => by
    cases hp : pr k with
    | false =>
      obtain ⟨a, b, -⟩ := zlay_no (H := H) (ln := ln) hp
      rw [b]; exact zUs_zero k (by omega)
    | true =>
      have := (zP_pos (H := H) (ln := ln) hp).1
      omega
theorem zus_last : ∀ k : Nat, (∀ p, zP H ln pr k ≤ p → zus H ln pr k p = 0) ∧ (∀ Q, zP H ln pr k = Q + 1 → zus H ln pr k Q = zUs H ln pr k)
  | 0 => ⟨fun _ _ => rfl, fun Q h => absurd h.symm (Nat.succ_ne_zero Q)⟩
  | k + 1 => by
    obtain ⟨h1, h2⟩ := zus_last k
    cases hp : pr k with
    | false =>
      obtain ⟨a, b, -⟩ := zlay_no (H := H) (ln := ln) hp
      refine ⟨fun p hq => ?_, fun Q hQ => ?_⟩
      · unfold zus; rw [if_neg (by rw [hp]; simp), h1 p (by omega)]
      · unfold zus; rw [if_neg (by rw [hp]; simp), h2 Q (by omega), b]; rfl
    | true =>
      by_cases hc : zP H ln pr k = 0 ∨ H < zUs H ln pr k + ln k
      · obtain ⟨a, b, -⟩ := zlay_new hp hc
        have e : pgN H ln pr k = zP H ln pr k := by unfold pgN; omega
        refine ⟨fun p hq => ?_, fun Q hQ => ?_⟩
        · unfold zus; rw [if_neg (by rw [e]; omega), h1 p (by omega)]
        · have : Q = zP H ln pr k := by omega
          subst this
          unfold zus; rw [if_pos ⟨hp, e⟩, h1 _ (Nat.le_refl _), b, Nat.zero_add]
      · obtain ⟨a, b, -⟩ := zlay_go hp hc
        have e : pgN H ln pr k = zP H ln pr k - 1 := by unfold pgN; omega
        refine ⟨fun p hq => ?_, fun Q hQ => ?_⟩
        · unfold zus; rw [if_neg (by rw [e]; omega), h1 p (by omega)]
        · have h3 : zP H ln pr k = Q + 1 := by omega
          unfold zus; rw [if_pos ⟨hp, by omega⟩, h2 Q h3, b]
/-- a printed lot stands behind the lines in use of its page -/
theorem zus_li {k : Nat} (hp : pr k = true) : liN H ln pr k = zus H ln pr k (pgN H ln pr k) := by
  obtain ⟨h1, h2⟩ := zus_last (H := H) (ln := ln) (pr := pr) k
  by_cases hc : zP H ln pr k = 0 ∨ H < zUs H ln pr k + ln k
  · obtain ⟨a, b, -⟩ := zlay_new hp hc
    have e : pgN H ln pr k = zP H ln pr k := by unfold pgN; omega
    rw [e, h1 _ (Nat.le_refl _)]
    unfold liN; omega
  · obtain ⟨a, b, -⟩ := zlay_go hp hc
    have e : zP H ln pr k = pgN H ln pr k + 1 := by unfold pgN; omega
    rw [h2 _ e]
    unfold liN; omega
theorem zus_le (p : Nat) : ∀ k : Nat, (∀ j, j < k → ln j ≤ H) → zus H ln pr k p ≤ H
  | 0, _ => Nat.zero_le _
  | k + 1, hl => by
    by_cases h : pr k = true ∧ pgN H ln pr k = p
    · obtain ⟨h1, h2⟩ := zus_last (H := H) (ln := ln) (pr := pr) (k + 1)
      have h3 := (zP_pos (H := H) (ln := ln) h.1).1
      rw [h2 p (by have := h.2; unfold pgN at this; omega)]
      exact zUs_le H ln pr (k + 1) hl
    · unfold zus
      rw [if_neg h]
      exact zus_le p k (fun j hj => hl j (by omega))
theorem zli_le {k : Nat} (hp : pr k = true) (hl : ∀ j, j < k + 1 → ln j ≤ H) : liN H ln pr k + ln k ≤ H := by
  have h1 := zUs_le H ln pr (k + 1) hl
  have h2 := (zP_pos (H := H) (ln := ln) hp).2.1
  unfold liN; omega
theorem zcv_iff {k p l : Nat} : zcv H ln pr k p l = true ↔ pr k = true ∧ pgN H ln pr k = p ∧ liN H ln pr k ≤ l ∧ l < liN H ln pr k + ln k := by
  unfold zcv
  simp [and_assoc]
theorem zs2_zero (p l : Nat) : ∀ k : Nat, zs2 H ln pr k p l = 0 ↔ zus H ln pr k p ≤ l
  | 0 => by unfold zs2 zus; simp
  | k + 1 => by
    have ih := zs2_zero p l k
    unfold zs2 zus
    by_cases hc : zcv H ln pr k p l = true
    · obtain ⟨h1, h2, h3, h4⟩ := zcv_iff.mp hc
      rw [if_pos hc, if_pos (show pr k = true ∧ pgN H ln pr k = p from ⟨h1, h2⟩)]
      have := zus_li (H := H) (ln := ln) h1
      rw [h2] at this
      omega
    · rw [if_neg hc]
      by_cases h : pr k = true ∧ pgN H ln pr k = p
      · rw [if_pos h]
        have h1 := zus_li (H := H) (ln := ln) h.1
        rw [h.2] at h1
        have h2 : ¬ (liN H ln pr k ≤ l ∧ l < liN H ln pr k + ln k) := fun hh => hc (zcv_iff.mpr ⟨h.1, h.2, hh⟩)
        omega
      · rw [if_neg h, Nat.add_zero]; exact ih
theorem zs2_fresh {k p l : Nat} (h : zcv H ln pr k p l = true) : zs2 H ln pr k p l = 0 := by
  obtain ⟨h1, h2, h3, h4⟩ := zcv_iff.mp h
  rw [zs2_zero]
  have := zus_li (H := H) (ln := ln) h1
  rw [h2] at this
  omega
theorem zs2_lot (p l : Nat) : ∀ k : Nat, zs2 H ln pr k p l ≠ 0 → ∃ i, i < k ∧ zcv H ln pr i p l = true ∧ zs2 H ln pr k p l = 1 + 10 * i + (l - liN H ln pr i) + (if l = liN H ln pr i then 1000 * zK H ln pr (i + 1) else 0)
  | 0, h => absurd rfl h
  | k + 1, h => by
    unfold zs2 at h ⊢
    by_cases hc : zcv H ln pr k p l = true
    · rw [if_pos hc]; exact ⟨k, by omega, hc, rfl⟩
    · rw [if_neg hc] at h ⊢
      obtain ⟨i, h1, h2, h3⟩ := zs2_lot p l k h
      exact ⟨i, by omega, h2, h3⟩
end ZS3
