/-! ===== the law's own measuring of a choice ===== -/
theorem n_mod {a b : Nat} (ha : a < 2147483648) (hb : b < 2147483648) : Int32.ofNat a - Int32.ofNat a / Int32.ofNat b * Int32.ofNat b = Int32.ofNat (a % b) := by
  rw [n_div ha hb, ← Int32.ofNat_mul]
  refine n_sub ?_
  have := Nat.mod_add_div a b
  rw [Nat.mul_comm] at this
  exact this
theorem n_eq0 {a : Nat} (ha : a < 2147483648) : (Int32.ofNat a = 0) ↔ a = 0 := n_eq (b := 0) ha (by omega)
theorem zX_last4 (c : Nat → Nat) : ∀ p : Nat, p ≤ 1000 → ∀ q : Nat, p ≤ 4 * q → q < 100000 → ¬ Int32.ofNat q = (zX c p).2.2.2.2
  | 0, _, q, _, hq => n_m1 (by omega)
  | p + 1, hp, q, h, hq => by
    show ¬ Int32.ofNat q = (zcb (c p) p (zX c p)).2.2.2.2
    unfold zcb
    split
    · exact zX_last4 c p (by omega) q (by omega) hq
    · show ¬ Int32.ofNat q = Int32.ofNat (p / 4)
      rw [n_eq (by omega) (by omega)]
      omega
/-- one more line that changes -/
def ztw (ip pp : Int32) (t : Nat → Int32) : Nat → Int32 := if pp = 0 then upd (if ip = 0 then upd (upd t 1 (t 1 + 1)) 2 ((upd t 1 (t 1 + 1)) 2 + 1) else upd t 1 (t 1 + 1)) 3 ((if ip = 0 then upd (upd t 1 (t 1 + 1)) 2 ((upd t 1 (t 1 + 1)) 2 + 1) else upd t 1 (t 1 + 1)) 3 + 1) else (if ip = 0 then upd (upd t 1 (t 1 + 1)) 2 ((upd t 1 (t 1 + 1)) 2 + 1) else upd t 1 (t 1 + 1))
theorem ztw_eq (ip pp : Int32) (t : Nat → Int32) : ztw ip pp t 0 = t 0 ∧ ztw ip pp t 1 = t 1 + 1 ∧ ztw ip pp t 2 = t 2 + (if ip = 0 then 1 else 0) ∧ ztw ip pp t 3 = t 3 + (if pp = 0 then 1 else 0) ∧ ztw ip pp t 4 = t 4 ∧ ztw ip pp t 5 = t 5 ∧ ztw ip pp t 6 = t 6 := by
  unfold ztw
  by_cases h1 : ip = 0
  · by_cases h2 : pp = 0
    · simp only [h1, h2, if_true]
      simp [upd]
    · simp only [h1, h2, if_true, if_false]
      simp [upd]
  · by_cases h2 : pp = 0
    · simp only [h1, h2, if_true, if_false]
      simp [upd]
    · simp only [h1, h2, if_false]
      simp [upd]
section ZLB
variable {H n m : Nat} {ln : Nat → Nat} {pr wa sl pa pb : Nat → Bool} {es se : Nat → Int32} {v : Nat → ZL} {r r' : Nat → Int32}
/-- the same stands there, ahead and behind -/
theorem l_same (hn : n ≤ 16) (h4 : 4 ≤ H) (hH : H ≤ 40) (hl : ∀ j, j < n → 1 ≤ ln j ∧ ln j ≤ 9 ∧ ln j ≤ H) (h : VV n ln pr wa sl es se v) (hr : ∀ i, i < n → r i = zpl H ln pa i) (hr' : ∀ i, i < n → r' i = zpl H ln pb i) {g : Nat} (hg : g < 1000) :
    ∃ was is : Int32, fX6_standing (Int32.ofNat g) n v n r = some was ∧ fX6_standing (Int32.ofNat g) n v n r' = some is ∧ ∀ {R : Type} (j : Int32 → Option R),
      o_let j (fun (j : Int32 → Option R) => (if was = is then (if was < 0 then (j (1 : Int32)) else o_let (was - was / (10 : Int32) * (10 : Int32)) (fun x84 => (if 0 < x84 then (j (1 : Int32)) else o_let (was / (10 : Int32)) (fun x86 => o_bind (fX6_number x86 n r) (fun x87 => o_let (was / (10 : Int32)) (fun x89 => o_bind (fX6_number x89 n r') (fun x90 => (if x87 = x90 then (j (1 : Int32)) else (j (0 : Int32)))))))))) else (j (0 : Int32))))
        = if zs2 H ln pa n (g / H) (g % H) = zs2 H ln pb n (g / H) (g % H) then j 1 else j 0 := by
  have hl2 : ∀ j, j < n → 1 ≤ ln j ∧ ln j ≤ H := fun j hj => ⟨(hl j hj).1, (hl j hj).2.2⟩
  have hl3 : ∀ j, j < n → ln j ≤ H := fun j hj => (hl j hj).2.2
  rcases l_standing hn h4 hH hl2 h hr hg with ⟨a1, a2⟩ | ⟨i, i1, i2, a1, a2⟩
  · rcases l_standing hn h4 hH hl2 h hr' hg with ⟨b1, b2⟩ | ⟨k, k1, k2, b1, b2⟩
    · refine ⟨_, _, a1, b1, fun j => ?_⟩
      rw [n_let]
      rw [if_pos rfl, if_pos (by decide), a2, b2, if_pos rfl]
    · obtain ⟨-, -, c3, c4⟩ := zcv_iff.mp k2
      have := hl k k1
      refine ⟨_, _, a1, b1, fun j => ?_⟩
      rw [n_let]
      rw [if_neg (n_m1' (by omega)), a2, b2, if_neg (by split <;> omega)]
  · obtain ⟨c1, c2, c3, c4⟩ := zcv_iff.mp i2
    have hli := hl i i1
    rcases l_standing hn h4 hH hl2 h hr' hg with ⟨b1, b2⟩ | ⟨k, k1, k2, b1, b2⟩
    · refine ⟨_, _, a1, b1, fun j => ?_⟩
      rw [n_let]
      rw [if_neg (n_m1 (by omega)), a2, b2, if_neg (by split <;> omega)]
    · obtain ⟨d1, d2, d3, d4⟩ := zcv_iff.mp k2
      have hlk := hl k k1
      refine ⟨_, _, a1, b1, fun j => ?_⟩
      rw [n_let]
      rw [a2, b2]
      obtain ⟨o, ho⟩ : ∃ o, o = g % H - liN H ln pa i := ⟨_, rfl⟩
      obtain ⟨u, hu⟩ : ∃ u, u = g % H - liN H ln pb k := ⟨_, rfl⟩
      rw [← ho, ← hu]
      by_cases e : 10 * i + o = 10 * k + u
      · have ei : i = k := by omega
        have eo : o = u := by omega
        subst ei eo
        have q1 : Int32.ofNat (10 * i + o) - Int32.ofNat (10 * i + o) / 10 * 10 = Int32.ofNat o := by
          rw [show (10 : Int32) = Int32.ofNat 10 from rfl, n_mod (by omega) (by omega), show (10 * i + o) % 10 = o by omega]
        have q2 : Int32.ofNat (10 * i + o) / 10 = Int32.ofNat i := by
          rw [show (10 : Int32) = Int32.ofNat 10 from rfl, n_div (by omega) (by omega), show (10 * i + o) / 10 = i by omega]
        rw [if_pos rfl, if_neg (n_lt0 (by omega)), n_let, q1]
        by_cases e0 : o = 0
        · have f1 : ¬ (0 : Int32) < Int32.ofNat o := by
            rw [show (0 : Int32) = Int32.ofNat 0 from rfl, n_lt (by omega) (by omega)]; omega
          have t1 := (zP_le H ln pa (i + 1)).2
          have t2 := (zP_le H ln pb (i + 1)).2
          rw [if_neg f1, n_let, q2, l_number hn hH hl3 hr i1, n_bind, n_let, l_number hn hH hl3 hr' i1, n_bind, zNo_t c1, zNo_t d1, if_pos (show g % H = liN H ln pa i by omega), if_pos (show g % H = liN H ln pb i by omega)]
          by_cases ek : zK H ln pa (i + 1) = zK H ln pb (i + 1)
          · rw [if_pos (by rw [ek]), if_pos (by omega)]
          · rw [if_neg (by rw [n_eq (by omega) (by omega)]; exact ek), if_neg (by omega)]
        · have f1 : (0 : Int32) < Int32.ofNat o := by
            rw [show (0 : Int32) = Int32.ofNat 0 from rfl, n_lt (by omega) (by omega)]; omega
          rw [if_pos f1, if_neg (show ¬ g % H = liN H ln pa i by omega), if_neg (show ¬ g % H = liN H ln pb i by omega), if_pos rfl]
      · rw [if_neg (by rw [n_eq (by omega) (by omega)]; exact e), if_neg (by split <;> split <;> omega)]
theorem l_step47 (hn : n ≤ 16) (h4 : 4 ≤ H) (hH : H ≤ 40) (hl : ∀ j, j < n → 1 ≤ ln j ∧ ln j ≤ 9 ∧ ln j ≤ H) (h : VV n ln pr wa sl es se v) (hr : ∀ i, i < n → r i = zpl H ln pa i) (hr' : ∀ i, i < n → r' i = zpl H ln pb i) {N k : Nat} (hN : N < 1000) (hk : k < N) (j : (Nat → Int32) → Option (Nat → Int32)) (f : Nat) (ip pp : Int32) (t : Nat → Int32) :
    fX6_choice_L47 (Int32.ofNat N) j (Int32.ofNat H) n v r r' (f + 1) ip pp (Int32.ofNat k) t =
      if zs2 H ln pa n (k / H) (k % H) = zs2 H ln pb n (k / H) (k % H) then fX6_choice_L47 (Int32.ofNat N) j (Int32.ofNat H) n v r r' f (if k % H = 0 then 0 else ip) (if k % (4 * H) = 0 then 0 else pp) (Int32.ofNat (k + 1)) t
      else fX6_choice_L47 (Int32.ofNat N) j (Int32.ofNat H) n v r r' f 1 1 (Int32.ofNat (k + 1)) (ztw (if k % H = 0 then 0 else ip) (if k % (4 * H) = 0 then 0 else pp) t) := by
  obtain ⟨was, is, w1, w2, w3⟩ := l_same hn h4 hH hl h hr hr' (show k < 1000 by omega)
  have hH0 : ¬ Int32.ofNat H = 0 := fun e => by
    have := (n_eq0 (by omega)).mp e
    omega
  have hH4 : (4 : Int32) * Int32.ofNat H = Int32.ofNat (4 * H) := by
    rw [show (4 : Int32) = Int32.ofNat 4 from rfl, ← Int32.ofNat_mul]
  have hH40 : ¬ Int32.ofNat (4 * H) = 0 := fun e => by
    have := (n_eq0 (by omega)).mp e
    omega
  have hm1 := Nat.mod_lt k (show 0 < H by omega)
  have hm2 := Nat.mod_lt k (show 0 < 4 * H by omega)
  have e1 : ∀ {R : Type} (a b : Option R), (if Int32.ofNat (k % H) = 0 then a else b) = if k % H = 0 then a else b := fun a b => by
    by_cases e : k % H = 0
    · rw [if_pos e, if_pos ((n_eq0 (by omega)).mpr e)]
    · rw [if_neg e, if_neg (fun q => e ((n_eq0 (by omega)).mp q))]
  have e2 : ∀ {R : Type} (a b : Option R), (if Int32.ofNat (k % (4 * H)) = 0 then a else b) = if k % (4 * H) = 0 then a else b := fun a b => by
    by_cases e : k % (4 * H) = 0
    · rw [if_pos e, if_pos ((n_eq0 (by omega)).mpr e)]
    · rw [if_neg e, if_neg (fun q => e ((n_eq0 (by omega)).mp q))]
  have hf : ∀ (ip' pp' : Int32), o_bind (fX6_standing (Int32.ofNat k) n v n r) (fun x64 => o_bind (fX6_standing (Int32.ofNat k) n v n r') (fun x66 => o_let (fun (x69 : Int32) => (if x69 = 0 then o_let (upd t (1 : Int32).toNatClampNeg ((t (1 : Int32).toNatClampNeg) + (1 : Int32))) (fun a72 => o_let (fun (a74 : Nat → Int32) => o_let (fun (a77 : Nat → Int32) => o_let (Int32.ofNat k + (1 : Int32)) (fun x79 => (fX6_choice_L47 (Int32.ofNat N) j (Int32.ofNat H) n v r r' f (1 : Int32) (1 : Int32) x79 a77))) (fun (j192_78 : (Nat → Int32) → Option ((Nat → Int32))) => (if pp' = 0 then o_let (upd a74 (3 : Int32).toNatClampNeg ((a74 (3 : Int32).toNatClampNeg) + (1 : Int32))) (fun a80 => (j192_78 a80)) else (j192_78 a74)))) (fun (j179_75 : (Nat → Int32) → Option ((Nat → Int32))) => (if ip' = 0 then o_let (upd a72 (2 : Int32).toNatClampNeg ((a72 (2 : Int32).toNatClampNeg) + (1 : Int32))) (fun a81 => (j179_75 a81)) else (j179_75 a72)))) else o_let (Int32.ofNat k + (1 : Int32)) (fun x82 => (fX6_choice_L47 (Int32.ofNat N) j (Int32.ofNat H) n v r r' f ip' pp' x82 t)))) (fun (j148_70 : Int32 → Option ((Nat → Int32))) => (if x64 = x66 then (if x64 < 0 then (j148_70 (1 : Int32)) else o_let (x64 - x64 / (10 : Int32) * (10 : Int32)) (fun x84 => (if 0 < x84 then (j148_70 (1 : Int32)) else o_let (x64 / (10 : Int32)) (fun x86 => o_bind (fX6_number x86 n r) (fun x87 => o_let (x64 / (10 : Int32)) (fun x89 => o_bind (fX6_number x89 n r') (fun x90 => (if x87 = x90 then (j148_70 (1 : Int32)) else (j148_70 (0 : Int32)))))))))) else (j148_70 (0 : Int32))))))
      = if zs2 H ln pa n (k / H) (k % H) = zs2 H ln pb n (k / H) (k % H) then fX6_choice_L47 (Int32.ofNat N) j (Int32.ofNat H) n v r r' f ip' pp' (Int32.ofNat (k + 1)) t
      else fX6_choice_L47 (Int32.ofNat N) j (Int32.ofNat H) n v r r' f 1 1 (Int32.ofNat (k + 1)) (ztw ip' pp' t) := fun ip' pp' => by
    rw [w1, n_bind, w2, n_bind, w3]
    by_cases hz : zs2 H ln pa n (k / H) (k % H) = zs2 H ln pb n (k / H) (k % H)
    · rw [if_pos hz, if_pos hz, if_neg (by decide), n_let, n_s]
    · rw [if_neg hz, if_neg hz, if_pos rfl, n_let, n_let]
      unfold ztw
      by_cases i1 : ip' = 0
      · by_cases i2 : pp' = 0
        · simp only [i1, i2, n_let, n_s, if_true]
          rfl
        · simp only [i1, i2, n_let, n_s, if_true, if_false]
          rfl
      · by_cases i2 : pp' = 0
        · simp only [i1, i2, n_let, n_s, if_true, if_false]
          rfl
        · simp only [i1, i2, n_let, n_s, if_false]
          rfl
  rw [fX6_choice_L47, if_neg (by rw [n_le (by omega) (by omega)]; omega), n_as hH0, n_mod (by omega) (by omega), n_let, n_let, hH4]
  dsimp only
  rw [e1]
  by_cases c1 : k % H = 0
  · rw [if_pos c1, if_pos c1, n_as hH40, n_mod (by omega) (by omega), n_let, n_let]
    dsimp only
    rw [e2]
    by_cases c2 : k % (4 * H) = 0
    · rw [if_pos c2, if_pos c2]; exact hf 0 0
    · rw [if_neg c2, if_neg c2]; exact hf 0 pp
  · rw [if_neg c1, if_neg c1, n_as hH40, n_mod (by omega) (by omega), n_let, n_let]
    dsimp only
    rw [e2]
    by_cases c2 : k % (4 * H) = 0
    · rw [if_pos c2, if_pos c2]; exact hf ip 0
    · rw [if_neg c2, if_neg c2]; exact hf ip pp
theorem n_quart {k : Nat} (hH : 0 < H) : (k % (4 * H) = 0) ↔ (k % H = 0 ∧ (k / H) % 4 = 0) := by
  have e := Nat.div_add_mod k H
  have hm := Nat.mod_lt k hH
  have e4 := Nat.div_add_mod (k / H) 4
  have hm4 := Nat.mod_lt (k / H) (show 0 < 4 by omega)
  have key : k % (4 * H) = H * ((k / H) % 4) + k % H := by
    have h1 : k = (4 * H) * (k / H / 4) + (H * ((k / H) % 4) + k % H) := by
      have : H * (k / H) = (4 * H) * (k / H / 4) + H * ((k / H) % 4) := by
        have h9 : H * (k / H) = H * (4 * (k / H / 4)) + H * ((k / H) % 4) := by rw [← Nat.mul_add, e4]
        rw [h9, ← Nat.mul_assoc, Nat.mul_comm H 4]
      omega
    have h2 : H * ((k / H) % 4) + k % H < 4 * H := by
      have : H * ((k / H) % 4) ≤ H * 3 := Nat.mul_le_mul_left H (by omega)
      omega
    rw [h1, Nat.mul_add_mod, Nat.mod_eq_of_lt h2]
    rw [← h1]
  rw [key]
  constructor
  · intro hh
    have h1 : H * ((k / H) % 4) = 0 := by omega
    rcases Nat.mul_eq_zero.mp h1 with h2 | h2
    · omega
    · exact ⟨by omega, h2⟩
  · rintro ⟨h1, h2⟩
    rw [h1, h2, Nat.mul_zero]
/-- the lines of all pages, counted -/
theorem l_L47 (hn : n ≤ 16) (h4 : 4 ≤ H) (hH : H ≤ 40) (hl : ∀ j, j < n → 1 ≤ ln j ∧ ln j ≤ 9 ∧ ln j ≤ H) (h : VV n ln pr wa sl es se v) (hr : ∀ i, i < n → r i = zpl H ln pa i) (hr' : ∀ i, i < n → r' i = zpl H ln pb i) {M : Nat} (hM : M ≤ 16) (j : (Nat → Int32) → Option (Nat → Int32)) :
    ∃ t : Nat → Int32, fX6_choice_L47 (Int32.ofNat (H * M)) j (Int32.ofNat H) n v r r' 1024 0 0 0 (fun _ => 0) = j t ∧ t 0 = 0 ∧ t 1 = (zX (zchg H ln pa pb n) M).1 ∧ t 2 = (zX (zchg H ln pa pb n) M).2.1 ∧ t 3 = (zX (zchg H ln pa pb n) M).2.2.1 ∧ t 4 = 0 ∧ t 5 = 0 ∧ t 6 = 0 := by
  have hHM : H * M ≤ 640 := by
    have : H * M ≤ 40 * 16 := Nat.mul_le_mul hH hM
    omega
  have key := n_inv (fun f k (s : Int32 × Int32 × (Nat → Int32)) => fX6_choice_L47 (Int32.ofNat (H * M)) j (Int32.ofNat H) n v r r' f s.1 s.2.1 (Int32.ofNat k) s.2.2) (H * M) (fun s => j s.2.2)
    (fun k s => (s.2.2 0 = 0 ∧ s.2.2 4 = 0 ∧ s.2.2 5 = 0 ∧ s.2.2 6 = 0) ∧ ∃ X, X = zcb (zcj H ln pa pb n (k / H) (k % H)) (k / H) (zX (zchg H ln pa pb n) (k / H)) ∧ s.2.2 1 = X.1 ∧ s.2.2 2 = X.2.1 ∧ s.2.2 3 = X.2.2.1 ∧ (k % H ≠ 0 → s.1 = if Int32.ofNat (k / H) = X.2.2.2.1 then 1 else 0) ∧ (k % (4 * H) ≠ 0 → s.2.1 = if Int32.ofNat (k / H / 4) = X.2.2.2.2 then 1 else 0))
    (fun f s _ => by simp only [fX6_choice_L47, Int32.le_refl, if_true]) (fun f k s hk hs => by
    obtain ⟨ip, pp, t⟩ := s
    obtain ⟨⟨t0, t4, t5, t6⟩, X, hX, t1, t2, t3, hip, hpp⟩ := hs
    have t0 : t 0 = 0 := t0
    have t4 : t 4 = 0 := t4
    have t5 : t 5 = 0 := t5
    have t6 : t 6 = 0 := t6
    have t1 : t 1 = X.1 := t1
    have t2 : t 2 = X.2.1 := t2
    have t3 : t 3 = X.2.2.1 := t3
    have hip : k % H ≠ 0 → ip = if Int32.ofNat (k / H) = X.2.2.2.1 then 1 else 0 := hip
    have hpp : k % (4 * H) ≠ 0 → pp = if Int32.ofNat (k / H / 4) = X.2.2.2.2 then 1 else 0 := hpp
    have hkH : k / H ≤ 160 := by
      have : k / H ≤ k / 4 := Nat.div_le_div_left h4 (by omega)
      omega
    have hq := n_quart (H := H) (k := k) (by omega)
    have hlast := zX_last (zchg H ln pa pb n) (k / H) (by omega) (k / H) (Nat.le_refl _) (by omega)
    have hip2 : (if k % H = 0 then 0 else ip) = if Int32.ofNat (k / H) = X.2.2.2.1 then (1 : Int32) else 0 := by
      by_cases c : k % H = 0
      · have hX0 : X = zX (zchg H ln pa pb n) (k / H) := by rw [hX, c]; rfl
        rw [if_pos c, hX0, if_neg hlast]
      · rw [if_neg c]; exact hip c
    have hpp2 : (if k % (4 * H) = 0 then 0 else pp) = if Int32.ofNat (k / H / 4) = X.2.2.2.2 then (1 : Int32) else 0 := by
      by_cases c : k % (4 * H) = 0
      · obtain ⟨c1, c2⟩ := hq.mp c
        have hX0 : X = zX (zchg H ln pa pb n) (k / H) := by rw [hX, c1]; rfl
        rw [if_pos c, hX0, if_neg (zX_last4 (zchg H ln pa pb n) (k / H) (by omega) (k / H / 4) (by omega) (by omega))]
      · rw [if_neg c]; exact hpp c
    have hsucc : zcj H ln pa pb n (k / H) (k % H + 1) = zcj H ln pa pb n (k / H) (k % H) + (if (!decide (zs2 H ln pa n (k / H) (k % H) = zs2 H ln pb n (k / H) (k % H))) = true then 1 else 0) := rfl
    have nx : zcb (zcj H ln pa pb n (k / H) (k % H + 1)) (k / H) (zX (zchg H ln pa pb n) (k / H)) = zcb (zcj H ln pa pb n ((k + 1) / H) ((k + 1) % H)) ((k + 1) / H) (zX (zchg H ln pa pb n) ((k + 1) / H)) ∧ ((k + 1) % H ≠ 0 → (k + 1) / H = k / H) ∧ ((k + 1) % (4 * H) ≠ 0 → (k + 1) / H / 4 = k / H / 4) := by
      have hmod := Nat.mod_lt k (show 0 < H by omega)
      by_cases hc : k % H + 1 = H
      · obtain ⟨q1, q2⟩ := n_div2 (by omega) hc
        have hq1 := n_quart (H := H) (k := k + 1) (by omega)
        rw [q1, q2] at hq1
        rw [q1, q2, hc]
        exact ⟨rfl, fun hh => absurd rfl hh, fun hh => by
          have h9 : ¬ (k / H + 1) % 4 = 0 := fun q => hh (hq1.mpr ⟨rfl, q⟩)
          omega⟩
      · obtain ⟨q1, q2⟩ := n_div1 (H := H) (g := k) (by omega) (by omega)
        rw [q1, q2]
        exact ⟨rfl, fun _ => rfl, fun _ => rfl⟩
    have hst := l_step47 hn h4 hH hl h hr hr' (N := H * M) (by omega) hk j f ip pp t
    rw [hip2, hpp2] at hst
    by_cases e : zs2 H ln pa n (k / H) (k % H) = zs2 H ln pb n (k / H) (k % H)
    · rw [if_pos e] at hst
      rw [if_neg (by simp [e])] at hsucc
      replace hsucc : zcj H ln pa pb n (k / H) (k % H + 1) = zcj H ln pa pb n (k / H) (k % H) := hsucc
      rw [hsucc, ← hX] at nx
      refine ⟨((if Int32.ofNat (k / H) = X.2.2.2.1 then (1 : Int32) else 0), (if Int32.ofNat (k / H / 4) = X.2.2.2.2 then (1 : Int32) else 0), t), ⟨⟨t0, t4, t5, t6⟩, X, nx.1, t1, t2, t3, fun hh => ?_, fun hh => ?_⟩, hst⟩
      · rw [nx.2.1 hh]
      · rw [nx.2.2 hh]
    · rw [if_neg e] at hst
      rw [if_pos (by simp [e])] at hsucc
      rw [hsucc] at nx
      obtain ⟨w0, w1, w2, w3, w4, w5, w6⟩ := ztw_eq (if Int32.ofNat (k / H) = X.2.2.2.1 then 1 else 0) (if Int32.ofNat (k / H / 4) = X.2.2.2.2 then 1 else 0) t
      generalize zcj H ln pa pb n (k / H) (k % H) = c at *
      generalize zX (zchg H ln pa pb n) (k / H) = X0 at *
      obtain ⟨x, y, z, u, w⟩ := X0
      have z2 : zcb (c + 1) (k / H) (x, y, z, u, w) = (x + Int32.ofNat (c + 1), y + 1, z + (if Int32.ofNat (k / H / 4) = w then 0 else 1), Int32.ofNat (k / H), Int32.ofNat (k / H / 4)) := by
        unfold zcb; rw [if_neg (by omega)]
      rw [z2] at nx
      have i10 : ((1 : Int32) = 0) = False := by decide
      refine ⟨(1, 1, _), ⟨⟨w0.trans t0, w4.trans t4, w5.trans t5, w6.trans t6⟩, _, nx.1, ?_, ?_, ?_, fun hh => ?_, fun hh => ?_⟩, hst⟩
      · refine w1.trans ?_
        rw [t1, hX]
        by_cases c0 : c = 0
        · subst c0
          rfl
        · unfold zcb
          rw [if_neg c0, Int32.ofNat_add, ← Int32.add_assoc]
          rfl
      · refine w2.trans ?_
        rw [t2, hX]
        by_cases c0 : c = 0
        · subst c0
          have hl' : ¬ Int32.ofNat (k / H) = u := hlast
          have z1 : zcb 0 (k / H) (x, y, z, u, w) = (x, y, z, u, w) := rfl
          rw [z1]
          simp only [hl', if_false, if_true]
        · unfold zcb
          rw [if_neg c0]
          simp only [if_true, i10, if_false, Int32.add_zero]
      · refine w3.trans ?_
        rw [t3, hX]
        by_cases c0 : c = 0
        · subst c0
          have z1 : zcb 0 (k / H) (x, y, z, u, w) = (x, y, z, u, w) := rfl
          rw [z1]
          by_cases ew : Int32.ofNat (k / H / 4) = w
          · simp only [ew, if_true, i10, if_false]
          · simp only [ew, if_true, if_false]
        · unfold zcb
          rw [if_neg c0]
          simp only [if_true, i10, if_false, Int32.add_zero]
      · rw [nx.2.1 hh, if_pos rfl]
      · rw [nx.2.2 hh, if_pos rfl])
    (H * M) 0 1024 (0, 0, (fun _ => 0)) (by omega) (by omega) ⟨⟨rfl, rfl, rfl, rfl⟩, _, rfl, by rw [Nat.zero_div, Nat.zero_mod]; rfl, by rw [Nat.zero_div, Nat.zero_mod]; rfl, by rw [Nat.zero_div, Nat.zero_mod]; rfl, fun hh => absurd (Nat.zero_mod _) hh, fun hh => absurd (Nat.zero_mod _) hh⟩
  obtain ⟨⟨ip, pp, t⟩, ⟨⟨t0, t4, t5, t6⟩, X, hX, t1, t2, t3, -, -⟩, hs2⟩ := key
  have q1 : H * M / H = M := Nat.mul_div_cancel_left _ (by omega)
  have q2 : H * M % H = 0 := Nat.mul_mod_right _ _
  have hX' : X = zX (zchg H ln pa pb n) M := by rw [hX, q1, q2]; rfl
  rw [hX'] at t1 t2 t3
  exact ⟨t, hs2, t0, t1, t2, t3, t4, t5, t6⟩
end ZLB
