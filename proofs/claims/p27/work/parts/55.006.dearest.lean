/-! ===== the dearest lots ===== -/
theorem zct_one {q : Nat} : ∀ n : Nat, q < n → zct (fun i => decide (i = q)) n = 1
  | 0, h => absurd h (Nat.not_lt_zero _)
  | n + 1, h => by
    show zct (fun i => decide (i = q)) n + (if decide (n = q) = true then 1 else 0) = 1
    by_cases e : n = q
    · subst e
      rw [zct_false n (fun i hi => by simp; omega)]; simp
    · rw [zct_one n (by omega)]; simp [e]
theorem zct_sub {f g : Nat → Bool} : ∀ n : Nat, (∀ i, i < n → f i = true → g i = true) → zct f n ≤ zct g n
  | 0, _ => Nat.le_refl _
  | n + 1, h => by
    have h1 := zct_sub n (fun i hi => h i (by omega))
    show zct f n + (if f n = true then 1 else 0) ≤ zct g n + (if g n = true then 1 else 0)
    by_cases hf : f n = true
    · rw [if_pos hf, if_pos (h n (by omega) hf)]; omega
    · rw [if_neg hf]; omega
theorem zct_ins {f g : Nat → Bool} {q n : Nat} (hq : q < n) (hf : f q = false) (h : ∀ i, i < n → (g i = true ↔ f i = true ∨ i = q)) : zct g n = zct f n + 1 := by
  rw [← zct_one n hq]
  refine (zct_add n (fun i hi => ?_)).symm
  have := h i hi
  by_cases e : i = q
  · subst e; rw [hf, this.mpr (Or.inr rfl)]; simp
  · by_cases e2 : f i = true
    · rw [e2, this.mpr (Or.inl e2)]; simp [e]
    · have e3 : ¬ g i = true := fun hg => by
        rcases this.mp hg with h | h
        · exact e2 h
        · exact e h
      simp [e, e2, e3]
/-- i comes ahead of q -/
theorem zdear_iff {e : Nat → Int32} {q i : Nat} : zdear e q i = true ↔ (e q).toInt < (e i).toInt ∨ ((e i).toInt = (e q).toInt ∧ i < q) := by
  unfold zdear
  simp only [Bool.or_eq_true, Bool.and_eq_true, decide_eq_true_eq, Int32.lt_iff_toInt_lt, ← Int32.toInt_inj]
def zrk (e : Nat → Int32) (wa : Nat → Bool) (n q : Nat) : Nat := zct (fun i => wa i && zdear e q i) n
theorem zrk_lt {e : Nat → Int32} {wa : Nat → Bool} {n q : Nat} (hq : q < n) (hw : wa q = true) : zrk e wa n q < zct wa n := by
  have h1 : zct (fun i => (wa i && zdear e q i) || decide (i = q)) n = zrk e wa n q + 1 := zct_ins hq (by
    cases h : zdear e q q
    · simp
    · have := zdear_iff.mp h; omega) (fun i _ => by simp)
  have h2 : zct (fun i => (wa i && zdear e q i) || decide (i = q)) n ≤ zct wa n := zct_sub n (fun i _ h => by
    simp only [Bool.or_eq_true, Bool.and_eq_true, decide_eq_true_eq] at h
    rcases h with h | h
    · exact h.1
    · rw [h]; exact hw)
  omega
theorem zrk_mono {e : Nat → Int32} {wa : Nat → Bool} {n q i : Nat} (hi : i < n) (hw : wa i = true) (hd : zdear e q i = true) : zrk e wa n i < zrk e wa n q := by
  have h1 : zct (fun j => (wa j && zdear e i j) || decide (j = i)) n = zrk e wa n i + 1 := zct_ins hi (by
    cases h : zdear e i i
    · simp
    · have := zdear_iff.mp h; omega) (fun i _ => by simp)
  have h2 : zct (fun j => (wa j && zdear e i j) || decide (j = i)) n ≤ zrk e wa n q := zct_sub n (fun j _ h => by
    simp only [Bool.or_eq_true, Bool.and_eq_true, decide_eq_true_eq] at h ⊢
    rcases h with h | h
    · refine ⟨h.1, zdear_iff.mpr ?_⟩
      have a := zdear_iff.mp h.2
      have b := zdear_iff.mp hd
      omega
    · subst h; exact ⟨hw, hd⟩)
  omega
theorem zrk_uniq {e : Nat → Int32} {wa : Nat → Bool} {n i j : Nat} (hi : i < n) (hj : j < n) (wi : wa i = true) (wj : wa j = true) (h : zrk e wa n i = zrk e wa n j) : i = j := by
  by_cases e1 : zdear e i j = true
  · have := zrk_mono hj wj e1; omega
  · by_cases e2 : zdear e j i = true
    · have := zrk_mono hi wi e2; omega
    · have a : ¬ ((e i).toInt < (e j).toInt ∨ ((e j).toInt = (e i).toInt ∧ j < i)) := fun h => e1 (zdear_iff.mpr h)
      have b : ¬ ((e j).toInt < (e i).toInt ∨ ((e i).toInt = (e j).toInt ∧ i < j)) := fun h => e2 (zdear_iff.mpr h)
      omega
theorem zobN : zob none = -1 := rfl
theorem zobS (b : Nat) : zob (some b) = Int32.ofNat b := rfl
section ZQ6
variable {H n m : Nat} {ln : Nat → Nat} {pr wa sl : Nat → Bool} {hh cc rr ac dc : Int32} {co es se d li p w s lots : Nat → Int32} {no pg l us lo fi : Nat → Int32} {P K T : Int32}
/-- behind a lot, or behind none -/
def zbh (es : Nat → Int32) : Option Nat → Nat → Bool
  | none, _ => true
  | some q, i => zdear es i q
theorem zdearI_ct (hb : ∀ i, i < 24 → w i = zbi (wa i)) (hn : n ≤ 24) (q : Nat) : zsum (zdearI es w q) 0 n = Int32.ofNat (zrk es wa n q) := zsum_ct _ n (fun i hi => by
  unfold zdearI
  rw [hb i (by omega)]
  cases wa i <;> cases zdear es q i <;> simp [zbi])
end ZQ6
