/-! ===== counting changed lines, pages and gatherings ===== -/
def zcb (c p : Nat) (s : Int32 × Int32 × Int32 × Int32 × Int32) : Int32 × Int32 × Int32 × Int32 × Int32 :=
  if c = 0 then s else (s.1 + Int32.ofNat c, s.2.1 + 1, s.2.2.1 + (if Int32.ofNat (p / 4) = s.2.2.2.2 then 0 else 1), Int32.ofNat p, Int32.ofNat (p / 4))
def zX (c : Nat → Nat) : Nat → Int32 × Int32 × Int32 × Int32 × Int32
  | 0 => (0, 0, 0, -1, -1)
  | p + 1 => zcb (c p) p (zX c p)
theorem zX_stay {c : Nat → Nat} {M : Nat} (h : ∀ p, M ≤ p → c p = 0) : ∀ m : Nat, zX c (M + m) = zX c M
  | 0 => rfl
  | m + 1 => by
    show zcb (c (M + m)) (M + m) (zX c (M + m)) = _
    unfold zcb
    rw [if_pos (h _ (by omega)), zX_stay h m]
theorem zX_last (c : Nat → Nat) : ∀ p : Nat, p ≤ 1000 → ∀ q : Nat, p ≤ q → q < 100000 → ¬ Int32.ofNat q = (zX c p).2.2.2.1
  | 0, _, q, _, hq => n_m1 (by omega)
  | p + 1, hp, q, h, hq => by
    show ¬ Int32.ofNat q = (zcb (c p) p (zX c p)).2.2.2.1
    unfold zcb
    split
    · exact zX_last c p (by omega) q (by omega) hq
    · show ¬ Int32.ofNat q = Int32.ofNat p
      rw [n_eq (by omega) (by omega)]
      omega
theorem e_countChanged {M : Nat} (hM : M ≤ 24) (c : Nat → Nat) (a fi : Nat → Int32) (ha : ∀ p, p < M → a p = Int32.ofNat (c p) ∧ c p ≤ 40) :
    fX1_countChanged (Int32.ofNat M) fi a = some (upd (upd (upd fi 1 (zX c M).1) 2 (zX c M).2.1) 3 (zX c M).2.2.1) := by
  unfold fX1_countChanged
  rw [n_let]
  have key := n_inv (fun f k (s : Int32 × Int32 × Int32 × Int32 × Int32) => fX1_countChanged_L13 (Int32.ofNat M) (fun x1 x2 x3 => some (upd (upd (upd fi (Int32.toNatClampNeg 1) x1) (Int32.toNatClampNeg 2) x2) (Int32.toNatClampNeg 3) x3)) a f s.1 s.2.1 s.2.2.1 s.2.2.2.2 (Int32.ofNat k)) M (fun s => some (upd (upd (upd fi (Int32.toNatClampNeg 1) s.1) (Int32.toNatClampNeg 2) s.2.1) (Int32.toNatClampNeg 3) s.2.2.1)) (fun k s => s = zX c k) (fun f s hs => by simp only [fX1_countChanged_L13, Int32.le_refl, if_true]) (fun f k s hk hs => by
    obtain ⟨h1, h2⟩ := ha k hk
    have d4 : Int32.ofNat k / 4 = Int32.ofNat (k / 4) := by
      rw [show (4 : Int32) = Int32.ofNat 4 from rfl, n_div (by omega) (by omega)]
    refine ⟨zcb (c k) k s, by rw [hs]; rfl, ?_⟩
    obtain ⟨x, y, z, u, v⟩ := s
    unfold zcb
    by_cases e : c k = 0
    · rw [if_pos e]
      simp (disch := omega) only [fX1_countChanged_L13, n_le, n_rd, n_cl, n_let, n_bind, n_s, n_24, show ¬ M ≤ k from by omega, if_false, if_true, h1, n_le0, e]
    · rw [if_neg e]
      by_cases e2 : Int32.ofNat (k / 4) = v
      · simp (disch := omega) only [fX1_countChanged_L13, n_le, n_rd, n_cl, n_let, n_bind, n_s, n_24, show ¬ M ≤ k from by omega, if_false, if_true, h1, n_le0, e, d4, e2, Int32.add_zero]
      · simp (disch := omega) only [fX1_countChanged_L13, n_le, n_rd, n_cl, n_let, n_bind, n_s, n_24, show ¬ M ≤ k from by omega, if_false, if_true, h1, n_le0, e, d4, e2]) M 0 1024 (0, 0, 0, -1, -1) (by omega) (by omega) rfl
  obtain ⟨s, hs1, hs2⟩ := key
  rw [hs1] at hs2
  exact hs2
section ZDF
variable {H n : Nat} {ln : Nat → Nat} {pa pb : Nat → Bool}
/-- the changed lines of a page among its first j -/
def zcj (H : Nat) (ln : Nat → Nat) (pa pb : Nat → Bool) (n p j : Nat) : Nat := zct (fun l => !decide (zs2 H ln pa n p l = zs2 H ln pb n p l)) j
theorem zcj_far {M p j : Nat} (hA : zP H ln pa n ≤ M) (hB : zP H ln pb n ≤ M) (hp : M ≤ p) : zcj H ln pa pb n p j = 0 := by
  refine zct_false j (fun l _ => ?_)
  have a := (zs2_zero (H := H) (ln := ln) (pr := pa) p l n).mpr (by rw [(zus_last (H := H) (ln := ln) (pr := pa) n).1 p (by omega)]; exact Nat.zero_le _)
  have b := (zs2_zero (H := H) (ln := ln) (pr := pb) p l n).mpr (by rw [(zus_last (H := H) (ln := ln) (pr := pb) n).1 p (by omega)]; exact Nat.zero_le _)
  rw [a, b]; rfl
theorem n_div1 {g : Nat} (hH : 0 < H) (h : g % H + 1 < H) : (g + 1) / H = g / H ∧ (g + 1) % H = g % H + 1 := by
  have e := Nat.div_add_mod g H
  have h1 : (g + 1) / H = g / H := by
    apply Nat.div_eq_of_lt_le
    · rw [Nat.mul_comm]; omega
    · rw [Nat.mul_comm, Nat.mul_add, Nat.mul_one]; omega
  refine ⟨h1, ?_⟩
  have e2 := Nat.div_add_mod (g + 1) H
  rw [h1] at e2
  omega
theorem n_div2 {g : Nat} (hH : 0 < H) (h : g % H + 1 = H) : (g + 1) / H = g / H + 1 ∧ (g + 1) % H = 0 := by
  have e := Nat.div_add_mod g H
  have h1 : g + 1 = H * (g / H + 1) := by rw [Nat.mul_add, Nat.mul_one]; omega
  constructor
  · rw [h1, Nat.mul_div_cancel_left _ hH]
  · rw [h1, Nat.mul_mod_right]
theorem e_L204 (h4 : 4 ≤ H) (hH : H ≤ 40) (hn : n ≤ 24) (hl : ∀ j, j < n → 1 ≤ ln j ∧ ln j ≤ 9 ∧ ln j ≤ H) {no pg li st be : Nat → Int32} {P : Int32} (h : MOK H ln pb n no pg li st P) (hb : ∀ g, g < 960 → be g = Int32.ofNat (zs2 H ln pa n (g / H) (g % H)) - 1) (M : Nat) (hM : M ≤ 24) (hA : zP H ln pa n ≤ M) (hB : zP H ln pb n ≤ M) (j : Int32 → Int32 → Int32 → Option ((Nat → Int32) × (Nat → Int32) × (Nat → Int32) × (Nat → Int32) × (Nat → Int32) × Int32 × (Nat → Int32) × (Nat → Int32) × (Nat → Int32))) :
    fX6_layChoice_L204 j no st be (Int32.ofNat H) 1024 0 0 0 (-1) (-1) 0 = j (zX (zchg H ln pa pb n) M).1 (zX (zchg H ln pa pb n) M).2.1 (zX (zchg H ln pa pb n) M).2.2.1 := by
  have key := n_inv (fun f k (s : Int32 × Int32 × Int32 × Int32 × Int32) => fX6_layChoice_L204 j no st be (Int32.ofNat H) f s.1 s.2.1 s.2.2.1 s.2.2.2.1 s.2.2.2.2 (Int32.ofNat k)) 960 (fun s => j s.1 s.2.1 s.2.2.1) (fun k s => s = zcb (zcj H ln pa pb n (k / H) (k % H)) (k / H) (zX (zchg H ln pa pb n) (k / H))) (fun f s hs => by simp only [fX6_layChoice_L204, show ((960 : Int32) ≤ Int32.ofNat 960) from by decide, if_true]) (fun f k s hk hs => by
    have e1 := e_signOf (by omega) hn hl h hk
    have e2 := hb k hk
    have hdm := Nat.div_add_mod k H
    have hmod := Nat.mod_lt k (show 0 < H by omega)
    have hpq : k / H ≤ 240 := by
      have : k / H ≤ k / 4 := Nat.div_le_div_left h4 (by omega)
      omega
    have l1 := zs2_lt (H := H) (pr := pa) (k := n) (p := k / H) (l := k % H) hn (fun j hj => (hl j hj).2.1)
    have l2 := zs2_lt (H := H) (pr := pb) (k := n) (p := k / H) (l := k % H) hn (fun j hj => (hl j hj).2.1)
    have hcl : zcj H ln pa pb n (k / H) (k % H) ≤ 40 := Nat.le_trans (zct_le _ _) (by omega)
    have hlast := zX_last (zchg H ln pa pb n) (k / H) (by omega) (k / H) (Nat.le_refl _) (by omega)
    have hH0 : ¬ Int32.ofNat H = 0 := fun e => by
      have := (n_eq (b := 0) (by omega) (by omega)).mp e
      omega
    have dv : Int32.ofNat k / Int32.ofNat H = Int32.ofNat (k / H) := n_div (by omega) (by omega)
    have d4 : Int32.ofNat (k / H) / 4 = Int32.ofNat (k / H / 4) := by
      rw [show (4 : Int32) = Int32.ofNat 4 from rfl, n_div (by omega) (by omega)]
    have hsucc : zcj H ln pa pb n (k / H) (k % H + 1) = zcj H ln pa pb n (k / H) (k % H) + (if (!decide (zs2 H ln pa n (k / H) (k % H) = zs2 H ln pb n (k / H) (k % H))) = true then 1 else 0) := rfl
    -- the state behind the next line
    have nx : zcb (zcj H ln pa pb n (k / H) (k % H + 1)) (k / H) (zX (zchg H ln pa pb n) (k / H)) = zcb (zcj H ln pa pb n ((k + 1) / H) ((k + 1) % H)) ((k + 1) / H) (zX (zchg H ln pa pb n) ((k + 1) / H)) := by
      by_cases hc : k % H + 1 = H
      · obtain ⟨q1, q2⟩ := n_div2 (by omega) hc
        rw [q1, q2, hc]
        rfl
      · obtain ⟨q1, q2⟩ := n_div1 (H := H) (g := k) (by omega) (by omega)
        rw [q1, q2]
    refine ⟨_, nx, ?_⟩
    clear nx
    rw [hsucc]
    generalize zcj H ln pa pb n (k / H) (k % H) = c at *
    generalize zX (zchg H ln pa pb n) (k / H) = X at *
    obtain ⟨x, y, z, u, v⟩ := X
    subst hs
    by_cases e : zs2 H ln pa n (k / H) (k % H) = zs2 H ln pb n (k / H) (k % H)
    · rw [if_neg (by simp [e])]
      simp (disch := omega) only [Nat.add_zero, fX6_layChoice_L204, show (960 : Int32) = Int32.ofNat 960 from rfl, n_le, n_rd, n_cl, n_let, n_bind, n_s, show ¬ 960 ≤ k from by omega, if_false, if_true, e1, e2, n_pinj, e]
    · rw [if_pos (by simp [e])]
      have hlast : ¬ Int32.ofNat (k / H) = u := hlast
      by_cases c0 : c = 0
      · subst c0
        have z1 : zcb 0 (k / H) (x, y, z, u, v) = (x, y, z, u, v) := rfl
        rw [z1]
        unfold zcb
        rw [if_neg (by omega)]
        by_cases e4 : Int32.ofNat (k / H / 4) = v
        · simp (disch := omega) only [fX6_layChoice_L204, show (960 : Int32) = Int32.ofNat 960 from rfl, n_le, n_rd, n_cl, n_let, n_bind, n_s, n_as hH0, show ¬ 960 ≤ k from by omega, if_false, if_true, e1, e2, n_pinj, e, dv, d4, hlast, e4]
          rfl
        · simp (disch := omega) only [fX6_layChoice_L204, show (960 : Int32) = Int32.ofNat 960 from rfl, n_le, n_rd, n_cl, n_let, n_bind, n_s, n_as hH0, show ¬ 960 ≤ k from by omega, if_false, if_true, e1, e2, n_pinj, e, dv, d4, hlast, e4]
          rfl
      · have z1 : zcb c (k / H) (x, y, z, u, v) = (x + Int32.ofNat c, y + 1, z + (if Int32.ofNat (k / H / 4) = v then 0 else 1), Int32.ofNat (k / H), Int32.ofNat (k / H / 4)) := by
          unfold zcb; rw [if_neg c0]
        have z2 : zcb (c + 1) (k / H) (x, y, z, u, v) = (x + Int32.ofNat (c + 1), y + 1, z + (if Int32.ofNat (k / H / 4) = v then 0 else 1), Int32.ofNat (k / H), Int32.ofNat (k / H / 4)) := by
          unfold zcb; rw [if_neg (by omega)]
        rw [z1, z2, Int32.ofNat_add, ← Int32.add_assoc]
        generalize (z + (if Int32.ofNat (k / H / 4) = v then 0 else 1)) = z'
        simp (disch := omega) only [fX6_layChoice_L204, show (960 : Int32) = Int32.ofNat 960 from rfl, n_le, n_rd, n_cl, n_let, n_bind, n_s, n_as hH0, show ¬ 960 ≤ k from by omega, if_false, if_true, e1, e2, n_pinj, e, dv, d4, Int32.add_zero]
        rfl) 960 0 1024 (0, 0, 0, -1, -1) (by omega) (by omega) (by
      rw [Nat.zero_div, Nat.zero_mod]; rfl)
  obtain ⟨s, hs1, hs2⟩ := key
  have hq : M ≤ 960 / H := by
    have : 960 / 40 ≤ 960 / H := Nat.div_le_div_left hH (by omega)
    omega
  have h1 : zcj H ln pa pb n (960 / H) (960 % H) = 0 := zcj_far hA hB hq
  obtain ⟨m, hm⟩ : ∃ m, 960 / H = M + m := ⟨960 / H - M, by omega⟩
  have h2 : s = zX (zchg H ln pa pb n) M := by
    rw [hs1, h1, hm]
    unfold zcb
    rw [if_pos rfl]
    exact zX_stay (fun p hp => zcj_far hA hB hp) m
  rw [h2] at hs2
  exact hs2
end ZDF
