/-! ===== the model's layout ===== -/
theorem zfold_rng (b : Nat) (v : Nat → Int32) (a : Nat → Int32) (l : Nat) : zfold (fun j s => upd s (b + j) (v j)) 0 l a = fun g => if b ≤ g ∧ g < b + l then v (g - b) else a g := by
  refine zfold_inv (g := fun j s => upd s (b + j) (v j)) (fun k s => s = fun g => if b ≤ g ∧ g < b + k then v (g - b) else a g) l (fun k s hk hs => ?_) l 0 a (by omega) ?_
  · subst hs
    funext g
    by_cases e : g = b + k
    · subst e
      refine upd_same.trans ?_
      rw [if_pos (by omega), Nat.add_sub_cancel_left]
    · refine (upd_ne e).trans ?_
      show (if b ≤ g ∧ g < b + k then v (g - b) else a g) = (if b ≤ g ∧ g < b + (k + 1) then v (g - b) else a g)
      by_cases h : b ≤ g ∧ g < b + k
      · rw [if_pos h, if_pos (by omega)]
      · rw [if_neg h, if_neg (by omega)]
  · funext g
    rw [if_neg (by omega)]
section ZST
variable (H : Nat) (ln : Nat → Nat) (pr : Nat → Bool)
/-- the line at which a lot begins, of all pages one behind another -/
def zpos (i : Nat) : Nat := H * (zP H ln pr (i + 1) - 1) + (zU H ln pr (i + 1) - ln i)
def zst : Nat → Nat → Int32
  | 0, _ => -1
  | k + 1, g => if pr k = true ∧ zpos H ln pr k ≤ g ∧ g < zpos H ln pr k + ln k then Int32.ofNat (10 * k + (g - zpos H ln pr k)) else zst k g
/-- the model's layout behind k lots -/
def MOK (k : Nat) (no pg li st : Nat → Int32) (P : Int32) : Prop :=
  (∀ i, i < k → no i = zNo_ H ln pr i ∧ pg i = zPg H ln pr i ∧ li i = zLi H ln pr i) ∧ (∀ g, g < 960 → st g = zst H ln pr k g) ∧ P = Int32.ofNat (zP H ln pr k)
end ZST
section ZML
variable {H n : Nat} {ln : Nat → Nat} {pr : Nat → Bool}
theorem zpos_le {k : Nat} (hk : k < 24) (hH : H ≤ 40) (hp : pr k = true) (hl : ∀ j, j < k + 1 → ln j ≤ H) : zpos H ln pr k + ln k ≤ 960 := by
  obtain ⟨h1, h2, -⟩ := zP_pos (H := H) (ln := ln) hp
  have h3 := (zP_le H ln pr (k + 1)).1
  have h4 := zU_le H ln pr (k + 1) hl
  obtain ⟨Q, hQ⟩ : ∃ Q, zP H ln pr (k + 1) = Q + 1 := ⟨zP H ln pr (k + 1) - 1, by omega⟩
  unfold zpos
  rw [hQ, Nat.add_sub_cancel]
  have h5 : H * Q ≤ 40 * Q := Nat.mul_le_mul_right Q hH
  omega
theorem e_L158 {k Q u l : Nat} {d : Nat → Int32} (hk : k < 24) (hl : l ≤ 40) (hb : H * Q + u + l ≤ 960) (hd : d (9 + 6 * k + 0) = Int32.ofNat l) (j : (Nat → Int32) → Option ((Nat → Int32) × (Nat → Int32) × (Nat → Int32) × (Nat → Int32) × Int32)) (a : Nat → Int32) :
    fX6_lay_L158 (Int32.ofNat k) d j (Int32.ofNat H) (Int32.ofNat (Q + 1)) (Int32.ofNat u) 1024 0 a = j (fun g => if H * Q + u ≤ g ∧ g < H * Q + u + l then Int32.ofNat (10 * k + (g - (H * Q + u))) else a g) := by
  have e0 : ∀ d : Nat → Int32, fX6_of (Int32.ofNat k) 0 d = some (d (9 + 6 * k + 0)) := fun d => e_of (j := 0) hk (by omega) d
  refine (n_for0 (fun f i s => fX6_lay_L158 (Int32.ofNat k) d j (Int32.ofNat H) (Int32.ofNat (Q + 1)) (Int32.ofNat u) f (Int32.ofNat i) s) l (fun i s => upd s (H * Q + u + i) (Int32.ofNat (10 * k + i))) j (fun f s => ?_) (fun f i s hi => ?_) l 0 1024 a (by omega) (by omega)).trans (congrArg j (zfold_rng _ _ a l))
  · simp (disch := omega) only [fX6_lay_L158, e0, hd, n_bind, Int32.le_refl, if_true]
  · have e1 : Int32.ofNat H * (Int32.ofNat (Q + 1) - 1) + Int32.ofNat u + Int32.ofNat i = Int32.ofNat (H * Q + u + i) := by
      rw [n_p, Int32.ofNat_add, Int32.ofNat_add, Int32.ofNat_mul]
    have e2 : (10 : Int32) * Int32.ofNat k + Int32.ofNat i = Int32.ofNat (10 * k + i) := by
      rw [Int32.ofNat_add, Int32.ofNat_mul]; rfl
    simp (disch := omega) only [fX6_lay_L158, e0, hd, n_bind, n_let, e1, e2, n_le, n_rd, n_cl, n_s, show ¬ l ≤ i from by omega, if_false]
end ZML
