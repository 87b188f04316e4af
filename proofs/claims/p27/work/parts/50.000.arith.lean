/-! ===== the pure side: numbers ===== -/
theorem n_ti {a : Nat} (h : a < 2147483648) : (Int32.ofNat a).toInt = a := Int32.toInt_ofNat_of_lt h
theorem n_cl {a : Nat} (h : a < 2147483648) : (Int32.ofNat a).toNatClampNeg = a := by
  show (Int32.ofNat a).toInt.toNat = a
  rw [n_ti h]; rfl
theorem n_lt {a b : Nat} (ha : a < 2147483648) (hb : b < 2147483648) : (Int32.ofNat a < Int32.ofNat b) ↔ a < b := by
  rw [Int32.lt_iff_toInt_lt, n_ti ha, n_ti hb]; omega
theorem n_le {a b : Nat} (ha : a < 2147483648) (hb : b < 2147483648) : (Int32.ofNat a ≤ Int32.ofNat b) ↔ a ≤ b := by
  rw [Int32.le_iff_toInt_le, n_ti ha, n_ti hb]; omega
theorem n_eq {a b : Nat} (ha : a < 2147483648) (hb : b < 2147483648) : (Int32.ofNat a = Int32.ofNat b) ↔ a = b := by
  constructor
  · intro h
    have h1 := congrArg Int32.toInt h
    rw [n_ti ha, n_ti hb] at h1
    omega
  · rintro rfl; rfl
theorem n_s (a : Nat) : Int32.ofNat a + 1 = Int32.ofNat (a + 1) := (Int32.ofNat_add a 1).symm
theorem n_rd {β : Type} {n k : Nat} {a : Option β} (hk : k < n) (hn : n < 2147483648) : o_rd n (Int32.ofNat k) a = a := by
  unfold o_rd
  rw [if_neg]
  rintro (h | h)
  · rw [Int32.lt_iff_toInt_lt, n_ti (by omega)] at h
    have : (0 : Int32).toInt = 0 := rfl
    omega
  · rw [n_cl (by omega)] at h; omega
theorem n_let {α β : Type} (a : α) (f : α → β) : o_let a f = f a := rfl
theorem n_bind {α β : Type} (a : α) (f : α → Option β) : o_bind (some a) f = f a := rfl
theorem n_as {β : Type} {c : Prop} {ic : Decidable c} {a : Option β} (h : c) : @o_as β c ic a = a := by
  unfold o_as; exact if_pos h
/-- any Int32 that isn't below 0 is a number -/
theorem n_of {x : Int32} (h : ¬ x < 0) : ∃ k : Nat, k < 2147483648 ∧ x = Int32.ofNat k := by
  refine ⟨x.toInt.toNat, ?_, ?_⟩
  · have := x.toInt_lt; omega
  · apply Int32.toInt_inj.mp
    rw [Int32.lt_iff_toInt_lt] at h
    have h0 : (0 : Int32).toInt = 0 := rfl
    have h1 := x.toInt_lt
    rw [n_ti (by omega)]
    omega
/-! sums of Int32 -/
def zsum (g : Nat → Int32) (k : Nat) : Nat → Int32
  | 0 => 0
  | m + 1 => g k + zsum g (k + 1) m
theorem zsum_congr {g g' : Nat → Int32} : ∀ (m k : Nat), (∀ i, k ≤ i → i < k + m → g i = g' i) → zsum g k m = zsum g' k m
  | 0, _, _ => rfl
  | m + 1, k, h => by
    unfold zsum
    rw [h k (Nat.le_refl _) (by omega), zsum_congr m (k + 1) (fun i h1 h2 => h i (by omega) (by omega))]
