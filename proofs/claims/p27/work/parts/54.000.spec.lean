/-! ===== what a bill is, of the class and of the model; what a choice changes ===== -/
def zbi (b : Bool) : Int32 := if b = true then 1 else 0
theorem zbi_0 {b : Bool} : (zbi b = 0) ↔ b = false := by cases b <;> simp [zbi]
theorem zbi_1 {b : Bool} : (zbi b = 1) ↔ b = true := by cases b <;> simp [zbi]
theorem zbi_eq {a b : Bool} : (zbi a = zbi b) ↔ a = b := by cases a <;> cases b <;> simp [zbi]
def zdfb (pr wa : Nat → Bool) (i : Nat) : Bool := pr i != wa i
def NW (H n m : Nat) (ln : Nat → Nat) (pr wa : Nat → Bool) : Prop := 4 ≤ H ∧ H ≤ 40 ∧ n ≤ 24 ∧ 1 ≤ m ∧ m ≤ 9 ∧ (∀ i, i < n → 1 ≤ ln i ∧ ln i ≤ 9 ∧ ln i ≤ H) ∧ zct (zdfb pr wa) n ≤ 8
def BV (H n m : Nat) (ln : Nat → Nat) (pr wa sl : Nat → Bool) (hh cc rr : Int32) (li p w s : Nat → Int32) : Prop := hh = Int32.ofNat H ∧ cc = Int32.ofNat n ∧ rr = Int32.ofNat m ∧ (∀ i, i < n → li i = Int32.ofNat (ln i)) ∧ (∀ i, i < 24 → p i = zbi (pr i)) ∧ (∀ i, i < 24 → w i = zbi (wa i)) ∧ (∀ i, i < 24 → s i = zbi (sl i))
def CV (n : Nat) (pr wa : Nat → Bool) (lots : Nat → Int32) (cc : Int32) : Prop := cc = Int32.ofNat (zct (zdfb pr wa) n) ∧ ∀ i, i < n → zdfb pr wa i = true → lots (zct (zdfb pr wa) i) = Int32.ofNat i
def zbit (x : Int32) (j : Nat) : Bool := decide ((x >>> (Int32.ofNat j &&& 31)) &&& 1 = 1)
def zcho (pr wa : Nat → Bool) (x : Int32) (i : Nat) : Bool := zdfb pr wa i && zbit x (zct (zdfb pr wa) i)
def zprB (pr wa : Nat → Bool) (x : Int32) (i : Nat) : Bool := if zcho pr wa x i = true then wa i else pr i
def zent (pr wa sl : Nat → Bool) (x : Int32) (n : Nat) : Nat := zct (fun i => zdfb pr wa i && !zbit x (zct (zdfb pr wa) i) && !sl i) n
section ZFG
variable (H n m : Nat) (ln : Nat → Nat) (pr wa sl : Nat → Bool) (co : Nat → Int32) (x : Int32)
def zMx : Nat := if zP H ln pr n < zP H ln (zprB pr wa x) n then zP H ln (zprB pr wa x) n else zP H ln pr n
def zXx : Int32 × Int32 × Int32 × Int32 × Int32 := zX (zchg H ln pr (zprB pr wa x) n) (zMx H n ln pr wa x)
def zsl : Int32 := (Int32.ofNat (zent pr wa sl x n) + Int32.ofNat m - 1) / Int32.ofNat m
def zcost : Int32 := ((((zXx H n ln pr wa x).1 * co 0 + (zXx H n ln pr wa x).2.1 * co 1) + (zXx H n ln pr wa x).2.2.1 * co 2) + zsl n m pr wa sl x * co 3) + Int32.ofNat (zent pr wa sl x n) * co 4
def zfig : Nat → Int32
  | 0 => zcost H n m ln pr wa sl co x
  | 1 => (zXx H n ln pr wa x).1
  | 2 => (zXx H n ln pr wa x).2.1
  | 3 => (zXx H n ln pr wa x).2.2.1
  | 4 => zsl n m pr wa sl x
  | 5 => Int32.ofNat (zent pr wa sl x n)
  | _ => Int32.ofNat (zP H ln (zprB pr wa x) n)
end ZFG
/-! the different lots, one behind another -/
theorem zfold_last {σ : Type} (g : Nat → σ → σ) : ∀ (m k : Nat) (s : σ), zfold g k (m + 1) s = g (k + m) (zfold g k m s)
  | 0, k, s => rfl
  | m + 1, k, s => by
    show zfold g (k + 1) (m + 1) (g k s) = _
    rw [zfold_last g m (k + 1) (g k s), show k + 1 + m = k + (m + 1) by omega]
    rfl
theorem zfold_ct {σ : Type} (df : Nat → Bool) (G : Nat → σ → σ) : ∀ (n : Nat) (s : σ), zfold G 0 (zct df n) s = zfold (fun i s => if df i = true then G (zct df i) s else s) 0 n s
  | 0, s => rfl
  | n + 1, s => by
    rw [zfold_last _ n 0 s, ← zfold_ct df G n s, show zct df (n + 1) = zct df n + (if df n = true then 1 else 0) from rfl]
    simp only [Nat.zero_add]
    by_cases h : df n = true
    · rw [if_pos h, if_pos h, zfold_last G (zct df n) 0 s, Nat.zero_add]
    · rw [if_neg h, if_neg h]; rfl
theorem zct_mono (df : Nat → Bool) (i : Nat) : ∀ m : Nat, zct df i ≤ zct df (i + m)
  | 0 => Nat.le_refl _
  | m + 1 => by
    have h : zct df (i + (m + 1)) = zct df (i + m) + (if df (i + m) = true then 1 else 0) := rfl
    have := zct_mono df i m
    omega
theorem zct_lt_of {df : Nat → Bool} {i n : Nat} (hi : i < n) (h : df i = true) : zct df i < zct df n := by
  have h1 := zct_mono df (i + 1) (n - (i + 1))
  rw [show i + 1 + (n - (i + 1)) = n by omega] at h1
  have h2 : zct df (i + 1) = zct df i + (if df i = true then 1 else 0) := rfl
  rw [if_pos h] at h2
  omega
theorem zct_find {df : Nat → Bool} {j : Nat} : ∀ n : Nat, j < zct df n → ∃ i, i < n ∧ df i = true ∧ zct df i = j
  | 0, h => absurd h (Nat.not_lt_zero _)
  | n + 1, h => by
    have h2 : zct df (n + 1) = zct df n + (if df n = true then 1 else 0) := rfl
    by_cases hn : j < zct df n
    · obtain ⟨i, h3, h4⟩ := zct_find n hn
      exact ⟨i, by omega, h4⟩
    · by_cases hd : df n = true
      · rw [if_pos hd] at h2
        exact ⟨n, by omega, hd, by omega⟩
      · rw [if_neg hd] at h2; omega
theorem zsum_ct (df : Nat → Bool) {g : Nat → Int32} : ∀ n : Nat, (∀ i, i < n → g i = if df i = true then 1 else 0) → zsum g 0 n = Int32.ofNat (zct df n)
  | 0, _ => rfl
  | n + 1, h => by
    rw [zsum_end, zsum_ct df n (fun i hi => h i (by omega)), h n (by omega)]
    show _ = Int32.ofNat (zct df n + (if df n = true then 1 else 0))
    rw [Int32.ofNat_add]
    split <;> rfl
/-! bits -/
theorem n_sh {j : Nat} (hj : j < 24) : (Int32.ofNat j &&& 31).toBitVec.smod 32 = BitVec.ofNat 32 j := by
  have : ∀ j : Fin 24, (Int32.ofNat j.val &&& 31).toBitVec.smod 32 = BitVec.ofNat 32 j.val := by decide
  exact this ⟨j, hj⟩
theorem n_and1 (x : Int32) : (x &&& 1 = 1) ↔ x.toBitVec.getLsbD 0 = true := by
  rw [← Int32.toBitVec_inj, Int32.toBitVec_and]
  have e1 : (1 : Int32).toBitVec = 1#32 := rfl
  rw [e1]
  constructor
  · intro h
    have h1 := congrArg (fun v => v.getLsbD 0) h
    simpa using h1
  · intro h
    apply BitVec.eq_of_getLsbD_eq
    intro i hi
    rw [BitVec.getLsbD_and, BitVec.getLsbD_one]
    by_cases hz : i = 0
    · subst hz; simp [h]
    · simp [hz]
theorem n_bit (x : Int32) {j : Nat} (hj : j < 24) : zbit x j = x.toBitVec.getLsbD j := by
  unfold zbit
  have h : ((x >>> (Int32.ofNat j &&& 31)) &&& 1 = 1) ↔ x.toBitVec.getLsbD j = true := by
    rw [n_and1, Int32.toBitVec_shiftRight, n_sh hj, BitVec.sshiftRight', BitVec.getLsbD_sshiftRight]
    have e : (BitVec.ofNat 32 j).toNat = j := by rw [BitVec.toNat_ofNat]; exact Nat.mod_eq_of_lt (by omega)
    rw [e, Nat.add_zero]
    simp
    omega
  cases hb : x.toBitVec.getLsbD j
  · rw [hb] at h; exact decide_eq_false (fun hh => absurd (h.mp hh) (by simp))
  · rw [hb] at h; exact decide_eq_true (h.mpr rfl)
theorem n_or (x : Int32) {j k : Nat} (hj : j < 24) (hk : k < 24) : zbit (x ||| ((1 : Int32) <<< (Int32.ofNat k &&& 31))) j = (zbit x j || decide (j = k)) := by
  rw [n_bit _ hj, n_bit _ hj, Int32.toBitVec_or, BitVec.getLsbD_or, Int32.toBitVec_shiftLeft, n_sh hk, BitVec.shiftLeft_eq', BitVec.getLsbD_shiftLeft]
  have e : (BitVec.ofNat 32 k).toNat = k := by rw [BitVec.toNat_ofNat]; exact Nat.mod_eq_of_lt (by omega)
  rw [e]
  have e1 : (1 : Int32).toBitVec = 1#32 := rfl
  rw [e1, BitVec.getLsbD_one]
  congr 1
  simp
  by_cases h : j = k
  · subst h; simp; omega
  · simp [h]; omega
theorem n_bit0 {j : Nat} (hj : j < 24) : zbit 0 j = false := by
  rw [n_bit 0 hj]
  show (0#32).getLsbD j = false
  simp
