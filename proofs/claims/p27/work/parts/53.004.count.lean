/-! ===== counting changed lines, pages and gatherings ===== -/
def zcb (c p : Nat) (s : Int32 × Int32 × Int32 × Int32 × Int32) : Int32 × Int32 × Int32 × Int32 × Int32 :=
  if c = 0 then s else (s.1 + Int32.ofNat c, s.2.1 + 1, s.2.2.1 + (if Int32.ofNat (p / 4) = s.2.2.2.2 then 0 else 1), Int32.ofNat p, Int32.ofNat (p / 4))
def zX (c : Nat → Nat) : Nat → Int32 × Int32 × Int32 × Int32 × Int32
  | 0 => (0, 0, 0, -1, -1)
  | p + 1 => zcb (c p) p (zX c p)
theorem zX_stay {c : Nat → Nat} {M : Nat} (h : ∀ p, M ≤ p → c p = 0) : ∀ m : Nat, zX c (M + m) = zX c M
  | 0 => rfl
  | m + 1 => by
    show zcb (c (M + m)) (M + m) (zX c (M + m)) = _
    unfold zcb
    rw [if_pos (h _ (by omega)), zX_stay h m]
theorem zX_last (c : Nat → Nat) : ∀ p : Nat, p ≤ 1000 → ∀ q : Nat, p ≤ q → q < 100000 → ¬ Int32.ofNat q = (zX c p).2.2.2.1
  | 0, _, q, _, hq => n_m1 (by omega)
  | p + 1, hp, q, h, hq => by
    show ¬ Int32.ofNat q = (zcb (c p) p (zX c p)).2.2.2.1
    unfold zcb
    split
    · exact zX_last c p (by omega) q (by omega) hq
    · show ¬ Int32.ofNat q = Int32.ofNat p
      rw [n_eq (by omega) (by omega)]
      omega
theorem e_countChanged {M : Nat} (hM : M ≤ 24) (c : Nat → Nat) (a fi : Nat → Int32) (ha : ∀ p, p < M → a p = Int32.ofNat (c p) ∧ c p ≤ 40) :
    fX1_countChanged (Int32.ofNat M) fi a = some (upd (upd (upd fi 1 (zX c M).1) 2 (zX c M).2.1) 3 (zX c M).2.2.1) := by
  unfold fX1_countChanged
  rw [n_let]
  have key := n_inv (fun f k (s : Int32 × Int32 × Int32 × Int32 × Int32) => fX1_countChanged_L13 (Int32.ofNat M) (fun x1 x2 x3 => some (upd (upd (upd fi (Int32.toNatClampNeg 1) x1) (Int32.toNatClampNeg 2) x2) (Int32.toNatClampNeg 3) x3)) a f s.1 s.2.1 s.2.2.1 s.2.2.2.2 (Int32.ofNat k)) M (fun s => some (upd (upd (upd fi (Int32.toNatClampNeg 1) s.1) (Int32.toNatClampNeg 2) s.2.1) (Int32.toNatClampNeg 3) s.2.2.1)) (fun k s => s = zX c k) (fun f s hs => by simp only [fX1_countChanged_L13, Int32.le_refl, if_true]) (fun f k s hk hs => by
    obtain ⟨h1, h2⟩ := ha k hk
    have d4 : Int32.ofNat k / 4 = Int32.ofNat (k / 4) := by
      rw [show (4 : Int32) = Int32.ofNat 4 from rfl, n_div (by omega) (by omega)]
    refine ⟨zcb (c k) k s, by rw [hs]; rfl, ?_⟩
    obtain ⟨x, y, z, u, v⟩ := s
    unfold zcb
    by_cases e : c k = 0
    · rw [if_pos e]
      simp (disch := omega) only [fX1_countChanged_L13, n_le, n_rd, n_cl, n_let, n_bind, n_s, n_24, show ¬ M ≤ k from by omega, if_false, if_true, h1, n_le0, e]
    · rw [if_neg e]
      by_cases e2 : Int32.ofNat (k / 4) = v
      · simp (disch := omega) only [fX1_countChanged_L13, n_le, n_rd, n_cl, n_let, n_bind, n_s, n_24, show ¬ M ≤ k from by omega, if_false, if_true, h1, n_le0, e, d4, e2, Int32.add_zero]
      · simp (disch := omega) only [fX1_countChanged_L13, n_le, n_rd, n_cl, n_let, n_bind, n_s, n_24, show ¬ M ≤ k from by omega, if_false, if_true, h1, n_le0, e, d4, e2]) M 0 1024 (0, 0, 0, -1, -1) (by omega) (by omega) rfl
  obtain ⟨s, hs1, hs2⟩ := key
  rw [hs1] at hs2
  exact hs2
section ZDF
variable {H n : Nat} {ln : Nat → Nat} {pa pb : Nat → Bool}
/-- the changed lines of a page among its first j -/
def zcj (H : Nat) (ln : Nat → Nat) (pa pb : Nat → Bool) (n p j : Nat) : Nat := zct (fun l => !decide (zs2 H ln pa n p l = zs2 H ln pb n p l)) j
theorem zcj_far {M p j : Nat} (hA : zP H ln pa n ≤ M) (hB : zP H ln pb n ≤ M) (hp : M ≤ p) : zcj H ln pa pb n p j = 0 := by
  refine zct_false j (fun l _ => ?_)
  have a := (zs2_zero (H := H) (ln := ln) (pr := pa) p l n).mpr (by rw [(zus_last (H := H) (ln := ln) (pr := pa) n).1 p (by omega)]; exact Nat.zero_le _)
  have b := (zs2_zero (H := H) (ln := ln) (pr := pb) p l n).mpr (by rw [(zus_last (H := H) (ln := ln) (pr := pb) n).1 p (by omega)]; exact Nat.zero_le _)
  rw [a, b]; rfl
theorem n_div1 {g : Nat} (hH : 0 < H) (h : g % H + 1 < H) : (g + 1) / H = g / H ∧ (g + 1) % H = g % H + 1 := by
  have e := Nat.div_add_mod g H
  have h1 : (g + 1) / H = g / H := by
    apply Nat.div_eq_of_lt_le
    · rw [Nat.mul_comm]; omega
    · rw [Nat.mul_comm, Nat.mul_add, Nat.mul_one]; omega
  refine ⟨h1, ?_⟩
  have e2 := Nat.div_add_mod (g + 1) H
  rw [h1] at e2
  omega
theorem n_div2 {g : Nat} (hH : 0 < H) (h : g % H + 1 = H) : (g + 1) / H = g / H + 1 ∧ (g + 1) % H = 0 := by
  have e := Nat.div_add_mod g H
  have h1 : g + 1 = H * (g / H + 1) := by rw [Nat.mul_add, Nat.mul_one]; omega
  constructor
  · rw [h1, Nat.mul_div_cancel_left _ hH]
  · rw [h1, Nat.mul_mod_right]
end ZDF
