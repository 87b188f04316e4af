/-! ===== the best choice ===== -/
def zbp (cost : Nat → Int32) (c : Nat) : Option Nat → Option Nat
  | none => some c
  | some b => if cost c < cost b then some c else some b
def zbst (sel : Nat → Bool) (cost : Nat → Int32) : Nat → Option Nat
  | 0 => none
  | c + 1 => if sel c = true then zbp cost c (zbst sel cost c) else zbst sel cost c
theorem zbst_s {sel : Nat → Bool} {cost : Nat → Int32} {c : Nat} : zbst sel cost (c + 1) = if sel c = true then zbp cost c (zbst sel cost c) else zbst sel cost c := rfl
def zob : Option Nat → Int32
  | none => -1
  | some b => Int32.ofNat b
theorem zbst_lt {sel : Nat → Bool} {cost : Nat → Int32} : ∀ (N b : Nat), zbst sel cost N = some b → b < N
  | 0, _, h => by cases h
  | c + 1, b, h => by
    rw [zbst_s] at h
    split at h
    · cases hz : zbst sel cost c with
      | none => rw [hz] at h; unfold zbp at h; injection h with h; omega
      | some b' =>
        rw [hz] at h
        have := zbst_lt c b' hz
        unfold zbp at h
        simp only at h
        split at h <;> injection h with h <;> omega
    · have := zbst_lt c b h; omega
theorem zbst_some {sel : Nat → Bool} {cost : Nat → Int32} {c0 : Nat} (hs : sel c0 = true) : ∀ N : Nat, c0 < N → ∃ b, zbst sel cost N = some b
  | 0, h => absurd h (Nat.not_lt_zero _)
  | c + 1, h => by
    rw [zbst_s]
    by_cases e : sel c = true
    · rw [if_pos e]
      cases zbst sel cost c with
      | none => exact ⟨_, rfl⟩
      | some b' =>
        by_cases e2 : cost c < cost b'
        · exact ⟨c, if_pos e2⟩
        · exact ⟨b', if_neg e2⟩
    · rw [if_neg e]
      refine zbst_some hs c ?_
      by_cases e2 : c0 = c
      · subst e2; exact absurd hs e
      · omega
theorem zbst_congr {sel sel' : Nat → Bool} {cost : Nat → Int32} : ∀ N : Nat, (∀ c, c < N → sel c = sel' c) → zbst sel cost N = zbst sel' cost N
  | 0, _ => rfl
  | c + 1, h => by
    unfold zbst
    rw [h c (by omega), zbst_congr c (fun i hi => h i (by omega))]
theorem n_pow {D : Nat} (hD : D ≤ 8) : (1 : Int32) <<< (Int32.ofNat D &&& 31) = Int32.ofNat (2 ^ D) := by
  have : ∀ D : Fin 9, (1 : Int32) <<< (Int32.ofNat D.val &&& 31) = Int32.ofNat (2 ^ D.val) := by decide
  exact this ⟨D, by omega⟩
theorem n_pow2 {D : Nat} (hD : D ≤ 8) : 2 ^ D ≤ 256 ∧ 1 ≤ 2 ^ D := by
  have : ∀ D : Fin 9, 2 ^ D.val ≤ 256 ∧ 1 ≤ 2 ^ D.val := by decide
  exact this ⟨D, by omega⟩
