/-! ===== the model's layout ===== -/
theorem zfold_rng (b : Nat) (v : Nat → Int32) (a : Nat → Int32) (l : Nat) : zfold (fun j s => upd s (b + j) (v j)) 0 l a = fun g => if b ≤ g ∧ g < b + l then v (g - b) else a g := by
  refine zfold_inv (g := fun j s => upd s (b + j) (v j)) (fun k s => s = fun g => if b ≤ g ∧ g < b + k then v (g - b) else a g) l (fun k s hk hs => ?_) l 0 a (by omega) ?_
  · subst hs
    funext g
    by_cases e : g = b + k
    · subst e
      refine upd_same.trans ?_
      rw [if_pos (by omega), Nat.add_sub_cancel_left]
    · refine (upd_ne e).trans ?_
      show (if b ≤ g ∧ g < b + k then v (g - b) else a g) = (if b ≤ g ∧ g < b + (k + 1) then v (g - b) else a g)
      by_cases h : b ≤ g ∧ g < b + k
      · rw [if_pos h, if_pos (by omega)]
      · rw [if_neg h, if_neg (by omega)]
  · funext g
    rw [if_neg (by omega)]
section ZST
variable (H : Nat) (ln : Nat → Nat) (pr : Nat → Bool)
/-- the line at which a lot begins, of all pages one behind another -/
def zpo (i : Nat) : Nat := H * (zP H ln pr (i + 1) - 1) + (zUs H ln pr (i + 1) - ln i)
end ZST
