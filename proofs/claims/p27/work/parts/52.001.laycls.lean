theorem zsum_last (g : Nat → Int32) : ∀ (m k : Nat), zsum g k (m + 1) = zsum g k m + g (k + m)
  | 0, k => by
    show g k + zsum g (k + 1) 0 = zsum g k 0 + g (k + 0)
    show g k + 0 = 0 + g k
    rw [Int32.add_zero, Int32.zero_add]
  | m + 1, k => by
    show g k + zsum g (k + 1) (m + 1) = (g k + zsum g (k + 1) m) + g (k + (m + 1))
    rw [zsum_last g m (k + 1), Int32.add_assoc, show k + 1 + m = k + (m + 1) by omega]
theorem zsum_end (g : Nat → Int32) (n : Nat) : zsum g 0 (n + 1) = zsum g 0 n + g n := by
  rw [zsum_last, Nat.zero_add]
theorem n_p (a : Nat) : Int32.ofNat (a + 1) - 1 = Int32.ofNat a := by
  rw [Int32.ofNat_add]; exact Int32.add_sub_cancel _ _
theorem upd_same {f : Nat → Int32} {k : Nat} {v : Int32} : upd f k v k = v := by unfold upd; simp
theorem upd_ne {f : Nat → Int32} {k j : Nat} {v : Int32} (h : j ≠ k) : upd f k v j = f j := by unfold upd; simp [h]
/-- a layout of the class behind k lots -/
def YOK (H : Nat) (ln : Nat → Nat) (pr : Nat → Bool) (k : Nat) (Y : ZY) : Prop :=
  (∀ i, i < k → Y.1 i = zNo_ H ln pr i ∧ Y.2.1 i = zPg H ln pr i ∧ Y.2.2.1 i = zLi H ln pr i) ∧
  (∀ p, p < zP H ln pr k → Y.2.2.2.1 p = zsum (fun i => if zPg H ln pr i = Int32.ofNat p then Int32.ofNat (ln i) else 0) 0 k ∧ Y.2.2.2.2.1 p = zsum (fun i => if zPg H ln pr i = Int32.ofNat p then 1 else 0) 0 k ∧
    ∃ i, i < k ∧ Y.2.2.2.2.2.1 p = Int32.ofNat i ∧ zPg H ln pr i = Int32.ofNat p ∧ ∀ j, j < i → zPg H ln pr j ≠ Int32.ofNat p) ∧
  (0 < zP H ln pr k → Y.2.2.2.1 (zP H ln pr k - 1) = Int32.ofNat (zUs H ln pr k)) ∧
  Y.2.2.2.2.2.2.1 = Int32.ofNat (zP H ln pr k) ∧ Y.2.2.2.2.2.2.2.1 = Int32.ofNat (zK H ln pr k) ∧ Y.2.2.2.2.2.2.2.2 = zsum (fun i => if pr i = true then Int32.ofNat (ln i) else 0) 0 k
/-- pages only grow: a lot's page is one of those that there are -/
theorem zP_mono (H : Nat) (ln : Nat → Nat) (pr : Nat → Bool) (i : Nat) : zP H ln pr i ≤ zP H ln pr (i + 1) := by
  cases hp : pr i with
  | false => obtain ⟨a, -, -⟩ := zlay_no (H := H) (ln := ln) hp; omega
  | true =>
    by_cases hc : zP H ln pr i = 0 ∨ H < zUs H ln pr i + ln i
    · obtain ⟨a, -, -⟩ := zlay_new hp hc; omega
    · obtain ⟨a, -, -⟩ := zlay_go hp hc; omega
theorem zP_mono2 (H : Nat) (ln : Nat → Nat) (pr : Nat → Bool) (i : Nat) : ∀ m : Nat, zP H ln pr i ≤ zP H ln pr (i + m)
  | 0 => Nat.le_refl _
  | m + 1 => Nat.le_trans (zP_mono2 H ln pr i m) (zP_mono H ln pr (i + m))
theorem zPg_lt {H : Nat} {ln : Nat → Nat} {pr : Nat → Bool} {i k p : Nat} (hi : i < k) (hk : k ≤ 24) (hp : p < 2147483648) (h : zPg H ln pr i = Int32.ofNat p) : p < zP H ln pr k := by
  unfold zPg at h
  split at h
  · next h1 =>
    have h2 := (zP_pos (H := H) (ln := ln) h1).1
    have h3 := zP_mono2 H ln pr (i + 1) (k - (i + 1))
    rw [show i + 1 + (k - (i + 1)) = k by omega] at h3
    have h4 := (zP_le H ln pr k).1
    rw [n_eq (by omega) hp] at h
    omega
  · have h5 := congrArg Int32.toInt h
    rw [n_ti hp] at h5
    have h6 : (-1 : Int32).toInt = -1 := rfl
    omega
