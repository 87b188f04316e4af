/-! ===== what the law's bill and the class tell of a bill ===== -/
section ZST4
variable (H n m : Nat) (ln : Nat → Nat) (pr wa sl : Nat → Bool) (ac : Int32) (co es se : Nat → Int32)
def zstate : Nat → Int32
  | 0 => Int32.ofNat H
  | 1 => Int32.ofNat n
  | 2 => Int32.ofNat (zct pr n)
  | 3 => Int32.ofNat (zct wa n)
  | 4 => Int32.ofNat (zct (zdfb pr wa) n)
  | 5 => Int32.ofNat (zct sl n)
  | 6 => Int32.ofNat (zP H ln pr n)
  | 7 => Int32.ofNat ((zP H ln pr n + 4 - 1) / 4)
  | 8 => ac
  | 9 => zsum (fun i => zbi (wa i) * es i) 0 n
  | 10 => zsum (fun p => Int32.ofNat H - Int32.ofNat (zus H ln pr n p)) 0 (zP H ln pr n - 1)
  | _ => Int32.ofNat m
def zlotv (i : Nat) : Nat → Int32
  | 0 => Int32.ofNat (ln i)
  | 1 => es i
  | 2 => se i
  | 3 => zbi (pr i)
  | 4 => zbi (wa i)
  | 5 => zbi (sl i)
  | 6 => zNo_ H ln pr i
  | 7 => zPg H ln pr i
  | _ => zLi H ln pr i
def zbest : Option Nat := zbst (fun _ => true) (fun c => zcost H n m ln pr wa sl co (Int32.ofNat c)) (2 ^ zct (zdfb pr wa) n)
def zck1 : Int64 := zfold (fun k (W : Int64) => 31 * W + (zstate H n m ln pr wa sl ac es k).toInt64) 0 12 0
def zck2 : Int64 := zfold (fun i (W : Int64) => zfold (fun k (W : Int64) => 31 * W + (zlotv H ln pr wa sl es se i k).toInt64) 0 9 W) 0 n (zck1 H n m ln pr wa sl ac es)
def zck : Int64 := zfold (fun k (W : Int64) => 31 * W + (zfig H n m ln pr wa sl co (zob (zbest H n m ln pr wa sl co)) k).toInt64) 0 7 (31 * zck2 H n m ln pr wa sl ac es se + (zob (zbest H n m ln pr wa sl co)).toInt64)
end ZST4
section ZLD
variable {H n m : Nat} {ln : Nat → Nat} {pr wa sl : Nat → Bool} {ac : Int32} {es se co bc : Nat → Int32} {v : Nat → ZL}
/-- the law's sums over lots -/
theorem l_t29_2 (hn : n ≤ 16) (h : VV n ln pr wa sl es se v) (j : Int32 → Option Int32) : fX6_told_L29 (Int32.ofNat n) j n 2 v 1024 0 0 = j (Int32.ofNat (zct pr n)) := by
  have key := n_inv (fun f k (s : Int32) => fX6_told_L29 (Int32.ofNat n) j n 2 v f s (Int32.ofNat k)) n j (fun k s => s = Int32.ofNat (zct pr k)) (fun f s _ => by simp only [fX6_told_L29, Int32.le_refl, if_true]) (fun f k s hk hs => by
    have hv := h k hk
    have c1 : ((2 : Int32) = 9) = False := by decide
    have c2 : ((2 : Int32) = 3) = False := by decide
    have c3 : ((2 : Int32) = 5) = False := by decide
    cases hz : pr k
    · rw [hz] at hv
      refine ⟨s, by rw [zct_f hz]; exact hs, ?_⟩
      simp (disch := omega) only [fX6_told_L29, n_le, n_rd, n_cl, n_let, n_s, hv, zbF, c1, c2, c3, show ¬ n ≤ k from by omega, if_true, if_false]
    · rw [hz] at hv
      refine ⟨s + 1, by rw [zct_t hz, hs, n_s], ?_⟩
      simp (disch := omega) only [fX6_told_L29, n_le, n_rd, n_cl, n_let, n_s, hv, zbT, n10, c1, c2, c3, show ¬ n ≤ k from by omega, if_true, if_false]) n 0 1024 0 (by omega) (by omega) rfl
  obtain ⟨s, h1, h2⟩ := key
  rw [h1] at h2
  exact h2
theorem l_t29_3 (hn : n ≤ 16) (h : VV n ln pr wa sl es se v) (j : Int32 → Option Int32) : fX6_told_L29 (Int32.ofNat n) j n 3 v 1024 0 0 = j (Int32.ofNat (zct wa n)) := by
  have key := n_inv (fun f k (s : Int32) => fX6_told_L29 (Int32.ofNat n) j n 3 v f s (Int32.ofNat k)) n j (fun k s => s = Int32.ofNat (zct wa k)) (fun f s _ => by simp only [fX6_told_L29, Int32.le_refl, if_true]) (fun f k s hk hs => by
    have hv := h k hk
    have c1 : ((3 : Int32) = 9) = False := by decide
    have c2 : ((3 : Int32) = 2) = False := by decide
    have c3 : ((3 : Int32) = 5) = False := by decide
    cases hz : wa k
    · rw [hz] at hv
      refine ⟨s, by rw [zct_f hz]; exact hs, ?_⟩
      simp (disch := omega) only [fX6_told_L29, n_le, n_rd, n_cl, n_let, n_s, hv, zbF, c1, c2, c3, show ¬ n ≤ k from by omega, if_true, if_false]
    · rw [hz] at hv
      refine ⟨s + 1, by rw [zct_t hz, hs, n_s], ?_⟩
      simp (disch := omega) only [fX6_told_L29, n_le, n_rd, n_cl, n_let, n_s, hv, zbT, n10, c1, c2, c3, show ¬ n ≤ k from by omega, if_true, if_false]) n 0 1024 0 (by omega) (by omega) rfl
  obtain ⟨s, h1, h2⟩ := key
  rw [h1] at h2
  exact h2
theorem l_t29_5 (hn : n ≤ 16) (h : VV n ln pr wa sl es se v) (j : Int32 → Option Int32) : fX6_told_L29 (Int32.ofNat n) j n 5 v 1024 0 0 = j (Int32.ofNat (zct sl n)) := by
  have key := n_inv (fun f k (s : Int32) => fX6_told_L29 (Int32.ofNat n) j n 5 v f s (Int32.ofNat k)) n j (fun k s => s = Int32.ofNat (zct sl k)) (fun f s _ => by simp only [fX6_told_L29, Int32.le_refl, if_true]) (fun f k s hk hs => by
    have hv := h k hk
    have c1 : ((5 : Int32) = 9) = False := by decide
    have c2 : ((5 : Int32) = 2) = False := by decide
    have c3 : ((5 : Int32) = 3) = False := by decide
    cases hz : sl k
    · rw [hz] at hv
      refine ⟨s, by rw [zct_f hz]; exact hs, ?_⟩
      simp (disch := omega) only [fX6_told_L29, n_le, n_rd, n_cl, n_let, n_s, hv, zbF, c1, c2, c3, show ¬ n ≤ k from by omega, if_true, if_false]
    · rw [hz] at hv
      refine ⟨s + 1, by rw [zct_t hz, hs, n_s], ?_⟩
      simp (disch := omega) only [fX6_told_L29, n_le, n_rd, n_cl, n_let, n_s, hv, zbT, n10, c1, c2, c3, show ¬ n ≤ k from by omega, if_true, if_false]) n 0 1024 0 (by omega) (by omega) rfl
  obtain ⟨s, h1, h2⟩ := key
  rw [h1] at h2
  exact h2
theorem l_t29_9 (hn : n ≤ 16) (h : VV n ln pr wa sl es se v) (j : Int32 → Option Int32) : fX6_told_L29 (Int32.ofNat n) j n 9 v 1024 0 0 = j (zsum (fun i => zbi (wa i) * es i) 0 n) := by
  have key := n_inv (fun f k (s : Int32) => fX6_told_L29 (Int32.ofNat n) j n 9 v f s (Int32.ofNat k)) n j (fun k s => s = zsum (fun i => zbi (wa i) * es i) 0 k) (fun f s _ => by simp only [fX6_told_L29, Int32.le_refl, if_true]) (fun f k s hk hs => by
    have hv := h k hk
    have c1 : ((9 : Int32) = 5) = False := by decide
    have c2 : ((9 : Int32) = 2) = False := by decide
    have c3 : ((9 : Int32) = 3) = False := by decide
    refine ⟨s + zbi (wa k) * es k, by rw [zsum_end, hs], ?_⟩
    cases hz : wa k
    · rw [hz] at hv
      simp (disch := omega) only [fX6_told_L29, n_le, n_rd, n_cl, n_let, n_s, hv, zbF, c1, c2, c3, show ¬ n ≤ k from by omega, if_true, if_false, Int32.zero_mul, Int32.add_zero]
    · rw [hz] at hv
      simp (disch := omega) only [fX6_told_L29, n_le, n_rd, n_cl, n_let, n_s, hv, zbT, n10, c1, c2, c3, show ¬ n ≤ k from by omega, if_true, if_false, Int32.one_mul]) n 0 1024 0 (by omega) (by omega) rfl
  obtain ⟨s, h1, h2⟩ := key
  rw [h1] at h2
  exact h2
theorem l_t29_o (hn : n ≤ 16) {x : Int32} (c2 : ¬ x = 2) (c3 : ¬ x = 3) (c5 : ¬ x = 5) (c9 : ¬ x = 9) (j : Int32 → Option Int32) : fX6_told_L29 (Int32.ofNat n) j n x v 1024 0 0 = j 0 := by
  have key := n_inv (fun f k (s : Int32) => fX6_told_L29 (Int32.ofNat n) j n x v f s (Int32.ofNat k)) n j (fun k s => s = 0) (fun f s _ => by simp only [fX6_told_L29, Int32.le_refl, if_true]) (fun f k s hk hs => by
    refine ⟨s, hs, ?_⟩
    simp (disch := omega) only [fX6_told_L29, n_le, n_rd, n_cl, n_let, n_s, c2, c3, c5, c9, show ¬ n ≤ k from by omega, if_false]) n 0 1024 0 (by omega) (by omega) rfl
  obtain ⟨s, h1, h2⟩ := key
  rw [h1] at h2
  exact h2
/-- the blank lines of a page -/
theorem l_ofPage (hn : n ≤ 16) (h4 : 4 ≤ H) (hH : H ≤ 40) (hl : ∀ j, j < n → 1 ≤ ln j ∧ ln j ≤ H) (h : VV n ln pr wa sl es se v) {r : Nat → Int32} (hr : ∀ i, i < n → r i = zpl H ln pr i) {p : Nat} (hp : p < 1000) : fX6_ofPage (Int32.ofNat p) 2 (Int32.ofNat H) n v n r = some (Int32.ofNat H - Int32.ofNat (zus H ln pr n p)) := by
  have hH0 : ¬ Int32.ofNat H = 0 := fun e => by
    have := (n_eq0 (by omega)).mp e
    omega
  have key := n_inv (fun f k (s : Int32 × Int32 × Int32 × Int32) => fX6_ofPage_L18 n (fun (x1 : Int32) (x2 : Int32) (x3 : Int32) (x4 : Int32) => (if (2 : Int32) = 0 then some (x1) else (if (2 : Int32) = (1 : Int32) then some (x2) else (if (2 : Int32) = (2 : Int32) then some (x3) else some (x4))))) n r (Int32.ofNat H) (Int32.ofNat p) v f s.1 s.2.1 s.2.2.1 s.2.2.2 (Int32.ofNat k)) n (fun s => some s.2.2.1) (fun k s => s.2.2.1 = Int32.ofNat H - Int32.ofNat (zus H ln pr k p)) (fun f s _ => by
      simp only [fX6_ofPage_L18, Int32.le_refl, if_true]
      rfl) (fun f k s hk hs => by
    obtain ⟨a, b, c, d⟩ := s
    have hs : c = Int32.ofNat H - Int32.ofNat (zus H ln pr k p) := hs
    have hv := h k hk
    have eu : zus H ln pr (k + 1) p = zus H ln pr k p + (if pr k = true ∧ pgN H ln pr k = p then ln k else 0) := rfl
    cases hz : pr k
    · have e : r k < 0 := by rw [hr k hk, zpl_neg hz]; decide
      rw [if_neg (by rw [hz]; simp), Nat.add_zero (zus H ln pr k p)] at eu
      refine ⟨(a, b, c, d), by rw [eu]; exact hs, ?_⟩
      simp (disch := omega) only [fX6_ofPage_L18, n_le, n_rd, n_cl, n_let, n_s, e, show ¬ n ≤ k from by omega, if_true, if_false]
    · have hpo := zpo_le hn hH (fun j hj => (hl j hj).2) hk hz
      obtain ⟨p1, p2, -⟩ := zP_pos (H := H) (ln := ln) hz
      have hli := zli_le (H := H) hz (fun j hj => (hl j (by omega)).2)
      have hlk := hl k hk
      have hpg := pgN_le (H := H) (ln := ln) (pr := pr) (k := k)
      have e : ¬ r k < 0 := by rw [hr k hk, zpl_pos hz]; exact n_lt0 (by omega)
      have e3 : zpo H ln pr k / H = pgN H ln pr k := by
        rw [zpo_eq, Nat.mul_add_div (by omega), Nat.div_eq_of_lt (by omega), Nat.add_zero]
      have e2 : r k / Int32.ofNat H = Int32.ofNat (pgN H ln pr k) := by
        rw [hr k hk, zpl_pos hz, n_div (by omega) (by omega), e3]
      by_cases c1 : pgN H ln pr k = p
      · rw [if_pos ⟨hz, c1⟩] at eu
        have ec : c - Int32.ofNat (ln k) = Int32.ofNat H - Int32.ofNat (zus H ln pr (k + 1) p) := by
          rw [eu, hs, Int32.ofNat_add, Int32.sub_sub]
        by_cases cb : (0 : Int32) ≤ b
        · cases hw : wa k
          · rw [hw] at hv
            refine ⟨(a + 1, b, c - Int32.ofNat (ln k), d), ec, ?_⟩
            simp (disch := omega) only [fX6_ofPage_L18, n_le, n_eq, n_rd, n_cl, n_let, n_s, n_as hH0, e, e2, c1, cb, hv, zbF, show ¬ n ≤ k from by omega, if_true, if_false, Int32.add_zero]
          · rw [hw] at hv
            refine ⟨(a + 1, b, c - Int32.ofNat (ln k), d + es k), ec, ?_⟩
            simp (disch := omega) only [fX6_ofPage_L18, n_le, n_eq, n_rd, n_cl, n_let, n_s, n_as hH0, e, e2, c1, cb, hv, zbT, n10, show ¬ n ≤ k from by omega, if_true, if_false]
        · cases hw : wa k
          · rw [hw] at hv
            refine ⟨(a + 1, Int32.ofNat k, c - Int32.ofNat (ln k), d), ec, ?_⟩
            simp (disch := omega) only [fX6_ofPage_L18, n_le, n_eq, n_rd, n_cl, n_let, n_s, n_as hH0, e, e2, c1, cb, hv, zbF, show ¬ n ≤ k from by omega, if_true, if_false, Int32.add_zero]
          · rw [hw] at hv
            refine ⟨(a + 1, Int32.ofNat k, c - Int32.ofNat (ln k), d + es k), ec, ?_⟩
            simp (disch := omega) only [fX6_ofPage_L18, n_le, n_eq, n_rd, n_cl, n_let, n_s, n_as hH0, e, e2, c1, cb, hv, zbT, n10, show ¬ n ≤ k from by omega, if_true, if_false]
      · rw [if_neg (fun q => c1 q.2), Nat.add_zero (zus H ln pr k p)] at eu
        have c1' : ¬ Int32.ofNat (pgN H ln pr k) = Int32.ofNat p := by rw [n_eq (by omega) (by omega)]; exact c1
        refine ⟨(a, b, c, d), by rw [eu]; exact hs, ?_⟩
        simp (disch := omega) only [fX6_ofPage_L18, n_le, n_rd, n_cl, n_let, n_s, n_as hH0, e, e2, c1', show ¬ n ≤ k from by omega, if_true, if_false])
    n 0 1024 (0, -1, Int32.ofNat H, 0) (by omega) (by omega) (by
      show Int32.ofNat H = Int32.ofNat H - Int32.ofNat 0
      exact (Int32.sub_zero _).symm)
  obtain ⟨⟨a, b, c, d⟩, h1, h2⟩ := key
  have h1 : c = _ := h1
  unfold fX6_ofPage
  rw [n_let, ← h1]
  exact h2
/-- what the law's bill tells -/
theorem l_told (hn : n ≤ 16) (hw : NW H n m ln pr wa) (h : VV n ln pr wa sl es se v) (k : Nat) (hk : k < 12) : fX6_told (Int32.ofNat k) (Int32.ofNat H) (Int32.ofNat m) ac n v = some (zstate H n m ln pr wa sl ac es k) := by
  obtain ⟨h4, hH, -, m1, m9, hl, hD⟩ := hw
  have hl2 : ∀ j, j < n → 1 ≤ ln j ∧ ln j ≤ H := fun j hj => ⟨(hl j hj).1, (hl j hj).2.2⟩
  obtain ⟨r, r1, r2⟩ := l_places hn h4 hH hl2 h 0 (zprB0 hD)
  have p1 := l_pages hn h4 hH hl2 r2
  have z1 := (zP_le H ln pr n).1
  unfold fX6_told
  rw [r1, n_bind, p1, n_bind, n_let, n_let, n_let]
  match k, hk with
  | 0, _ => rw [l_t29_o hn (by decide) (by decide) (by decide) (by decide)]; rfl
  | 1, _ => rw [l_t29_o hn (by decide) (by decide) (by decide) (by decide)]; rfl
  | 2, _ => rw [show Int32.ofNat 2 = 2 from rfl, l_t29_2 hn h]; rfl
  | 3, _ => rw [show Int32.ofNat 3 = 3 from rfl, l_t29_3 hn h]; rfl
  | 4, _ =>
    rw [l_t29_o hn (by decide) (by decide) (by decide) (by decide)]
    show o_bind (fX6_different n v) _ = _
    rw [l_different hn h, n_bind]
    rfl
  | 5, _ => rw [show Int32.ofNat 5 = 5 from rfl, l_t29_5 hn h]; rfl
  | 6, _ => rw [l_t29_o hn (by decide) (by decide) (by decide) (by decide)]; rfl
  | 7, _ =>
    rw [l_t29_o hn (by decide) (by decide) (by decide) (by decide)]
    show (if Int32.ofNat (zP H ln pr n) - Int32.ofNat (zP H ln pr n) / 4 * 4 ≤ 0 then some (Int32.ofNat (zP H ln pr n) / 4 + 0) else some (Int32.ofNat (zP H ln pr n) / 4 + 1)) = _
    have hms := Nat.mod_lt (zP H ln pr n) (show 0 < 4 by omega)
    have hce := n_ceil (m := 4) (e := zP H ln pr n) (by omega) (by omega) (by omega)
    have e1 : Int32.ofNat (zP H ln pr n) - Int32.ofNat (zP H ln pr n) / 4 * 4 = Int32.ofNat (zP H ln pr n % 4) := by
      rw [show (4 : Int32) = Int32.ofNat 4 from rfl, n_mod (by omega) (by omega)]
    have e2 : Int32.ofNat (zP H ln pr n) / 4 = Int32.ofNat (zP H ln pr n / 4) := by
      rw [show (4 : Int32) = Int32.ofNat 4 from rfl, n_div (by omega) (by omega)]
    rw [e1, e2]
    show _ = some (Int32.ofNat ((zP H ln pr n + 4 - 1) / 4))
    rw [← hce]
    by_cases c : zP H ln pr n % 4 = 0
    · rw [if_pos ((n_le0 (by omega)).mpr c), if_pos c]; exact congrArg some (Int32.add_zero _)
    · rw [if_neg (fun h9 => c ((n_le0 (by omega)).mp h9)), if_neg c, n_s]
  | 8, _ => rw [l_t29_o hn (by decide) (by decide) (by decide) (by decide)]; rfl
  | 9, _ => rw [show Int32.ofNat 9 = 9 from rfl, l_t29_9 hn h]; rfl
  | 10, _ =>
    rw [l_t29_o hn (by decide) (by decide) (by decide) (by decide)]
    have key := n_inv (fun f p (s : Int32) => fX6_told_L124 (Int32.ofNat (zP H ln pr n)) some (Int32.ofNat H) n v r f s (Int32.ofNat p)) (zP H ln pr n - 1) some (fun p s => s = zsum (fun p => Int32.ofNat H - Int32.ofNat (zus H ln pr n p)) 0 p) (fun f s _ => by
        simp (disch := omega) only [fX6_told_L124, n_s, n_le, show zP H ln pr n ≤ zP H ln pr n - 1 + 1 from by omega, if_true]) (fun f p s hp hs => by
        refine ⟨s + (Int32.ofNat H - Int32.ofNat (zus H ln pr n p)), by rw [zsum_end, hs], ?_⟩
        simp (disch := omega) only [fX6_told_L124, n_s, n_le, l_ofPage hn h4 hH hl2 h r2 (show p < 1000 by omega), n_bind, n_let, show ¬ zP H ln pr n ≤ p + 1 from by omega, if_false]) (zP H ln pr n - 1) 0 1024 0 (by omega) (by omega) rfl
    obtain ⟨s, s1, s2⟩ := key
    rw [s1] at s2
    exact s2
  | 11, _ => rw [l_t29_o hn (by decide) (by decide) (by decide) (by decide)]; rfl
/-- what the law's bill tells of a lot -/
theorem l_of (hn : n ≤ 16) (hw : NW H n m ln pr wa) (h : VV n ln pr wa sl es se v) {r : Nat → Int32} (hr : ∀ i, i < n → r i = zpl H ln pr i) {i : Nat} (hi : i < n) (k : Nat) (hk : k < 9) : fX6_of (Int32.ofNat i) (Int32.ofNat k) (Int32.ofNat H) n v n r = some (zlotv H ln pr wa sl es se i k) := by
  obtain ⟨h4, hH, -, m1, m9, hl, hD⟩ := hw
  have hl2 : ∀ j, j < n → 1 ≤ ln j ∧ ln j ≤ H := fun j hj => ⟨(hl j hj).1, (hl j hj).2.2⟩
  have hl3 : ∀ j, j < n → ln j ≤ H := fun j hj => (hl j hj).2.2
  have hH0 : ¬ Int32.ofNat H = 0 := fun e => by
    have := (n_eq0 (by omega)).mp e
    omega
  unfold fX6_of
  rw [n_rd hi (by omega), n_cl (by omega), h i hi, n_rd hi (by omega), n_rd hi (by omega), n_as hH0, n_rd hi (by omega), n_as hH0, n_let, hr i hi]
  have zb : ∀ b : Bool, (if zbi b = 0 then some (0 : Int32) else some 1) = some (zbi b) := fun b => by cases b <;> rfl
  match k, hk with
  | 0, _ => rfl
  | 1, _ => rfl
  | 2, _ => rfl
  | 3, _ => exact zb _
  | 4, _ => exact zb _
  | 5, _ => exact zb _
  | 6, _ =>
    show o_bind (fX6_number (Int32.ofNat i) n r) _ = _
    rw [l_number hn hH hl3 hr hi, n_bind]
    rfl
  | 7, _ =>
    show (if 0 ≤ zpl H ln pr i then some (zpl H ln pr i / Int32.ofNat H) else some (-1)) = some (zPg H ln pr i)
    cases hz : pr i
    · rw [zpl_neg hz, if_neg (by decide), zPg_f (by rw [hz]; simp)]
    · have hpo := zpo_le hn hH hl3 hi hz
      have hli := zli_le (H := H) hz (fun j hj => hl3 j (by omega))
      have hlk := hl i hi
      have e3 : zpo H ln pr i / H = pgN H ln pr i := by
        rw [zpo_eq, Nat.mul_add_div (by omega), Nat.div_eq_of_lt (by omega), Nat.add_zero]
      rw [zpl_pos hz, if_pos (show (0 : Int32) ≤ Int32.ofNat (zpo H ln pr i) from (n_le (a := 0) (by omega) (by omega)).mpr (Nat.zero_le _)), n_div (by omega) (by omega), e3, zPg_t hz]
  | 8, _ =>
    show (if 0 ≤ zpl H ln pr i then some (zpl H ln pr i - zpl H ln pr i / Int32.ofNat H * Int32.ofNat H) else some (-1)) = some (zLi H ln pr i)
    cases hz : pr i
    · rw [zpl_neg hz, if_neg (by decide), zLi_f (by rw [hz]; simp)]
    · have hpo := zpo_le hn hH hl3 hi hz
      have hli := zli_le (H := H) hz (fun j hj => hl3 j (by omega))
      have hlk := hl i hi
      have e3 : zpo H ln pr i % H = liN H ln pr i := by
        rw [zpo_eq, Nat.mul_add_mod, Nat.mod_eq_of_lt (by omega)]
      rw [zpl_pos hz, if_pos (show (0 : Int32) ≤ Int32.ofNat (zpo H ln pr i) from (n_le (a := 0) (by omega) (by omega)).mpr (Nat.zero_le _)), n_mod (by omega) (by omega), e3, zLi_t hz]
theorem zbest_some : ∃ b, zbest H n m ln pr wa sl co = some b ∧ b < 2 ^ zct (zdfb pr wa) n := by
  have hp : 0 < 2 ^ zct (zdfb pr wa) n := Nat.pow_pos (by omega)
  obtain ⟨b, hb⟩ := zbst_some (sel := fun _ => true) (cost := fun c => zcost H n m ln pr wa sl co (Int32.ofNat c)) (c0 := 0) rfl (2 ^ zct (zdfb pr wa) n) hp
  exact ⟨b, hb, zbst_lt _ _ hb⟩
/-- the law's checksum -/
theorem l_checksum (hn : n ≤ 16) (hw : NW H n m ln pr wa) (h44 : zct (zdfb pr wa) n ≤ 4) (h : VV n ln pr wa sl es se v) (hco : ∀ k, k < 5 → bc k = co k) : fX6_checksum (Int32.ofNat H) (Int32.ofNat m) ac bc n v = some (zck H n m ln pr wa sl ac co es se) := by
  obtain ⟨h4, hH, -, m1, m9, hl, hD⟩ := id hw
  have hl2 : ∀ j, j < n → 1 ≤ ln j ∧ ln j ≤ H := fun j hj => ⟨(hl j hj).1, (hl j hj).2.2⟩
  obtain ⟨r, r1, r2⟩ := l_places hn h4 hH hl2 h 0 (zprB0 hD)
  unfold fX6_checksum
  rw [r1, n_bind, n_let, n_let]
  have s1 : ∀ j, fX6_checksum_L11 j (Int32.ofNat H) (Int32.ofNat m) ac n v 14 0 0 = j (zck1 H n m ln pr wa sl ac es) := fun j =>
    n_for0 (fun f k W => fX6_checksum_L11 j (Int32.ofNat H) (Int32.ofNat m) ac n v f W (Int32.ofNat k)) 12 (fun k W => 31 * W + (zstate H n m ln pr wa sl ac es k).toInt64) j (fun f W => by
      simp only [fX6_checksum_L11, show ((12 : Int32) ≤ Int32.ofNat 12) from by decide, if_true]) (fun f k W hk => by
      have hle : ¬ (12 : Int32) ≤ Int32.ofNat k := fun h => by
        have := (n_le (a := 12) (by omega) (by omega)).mp h; omega
      simp only [fX6_checksum_L11, hle, if_false, l_told hn hw h k hk, n_bind, n_let, n_s]) 12 0 14 0 (by omega) (by omega)
  have s2 : ∀ j (W0 : Int64), fX6_checksum_L41 n j (Int32.ofNat H) v r 1024 W0 0 = j (zfold (fun i (W : Int64) => zfold (fun k (W : Int64) => 31 * W + (zlotv H ln pr wa sl es se i k).toInt64) 0 9 W) 0 n W0) := fun j W0 =>
    n_for0 (fun f i W => fX6_checksum_L41 n j (Int32.ofNat H) v r f W (Int32.ofNat i)) n (fun i (W : Int64) => zfold (fun k (W : Int64) => 31 * W + (zlotv H ln pr wa sl es se i k).toInt64) 0 9 W) j (fun f W => by
      simp only [fX6_checksum_L41, Int32.le_refl, if_true]) (fun f i W hi => by
      have hle : ¬ Int32.ofNat n ≤ Int32.ofNat i := fun h => by
        have := (n_le (by omega) (by omega)).mp h; omega
      have s3 : ∀ j (W0 : Int64), fX6_checksum_L54 j (Int32.ofNat i) (Int32.ofNat H) n v r 1024 W0 0 = j (zfold (fun k (W : Int64) => 31 * W + (zlotv H ln pr wa sl es se i k).toInt64) 0 9 W0) := fun j W0 =>
        n_for0 (fun f k W => fX6_checksum_L54 j (Int32.ofNat i) (Int32.ofNat H) n v r f W (Int32.ofNat k)) 9 (fun k W => 31 * W + (zlotv H ln pr wa sl es se i k).toInt64) j (fun f W => by
          simp only [fX6_checksum_L54, show ((9 : Int32) ≤ Int32.ofNat 9) from by decide, if_true]) (fun f k W hk => by
          have hle : ¬ (9 : Int32) ≤ Int32.ofNat k := fun h => by
            have := (n_le (a := 9) (by omega) (by omega)).mp h; omega
          simp only [fX6_checksum_L54, hle, if_false, l_of hn hw h r2 hi k hk, n_bind, n_let, n_s]) 9 0 1024 W0 (by omega) (by omega)
      simp only [fX6_checksum_L41, hle, if_false, n_let, s3, n_s]) n 0 1024 W0 (by omega) (by omega)
  rw [s1, n_let, s2, l_best hn hw h44 h hco, n_bind]
  obtain ⟨B, hB, -⟩ := zbest_some (H := H) (n := n) (m := m) (ln := ln) (pr := pr) (wa := wa) (sl := sl) (co := co)
  have hB' : zbst (fun _ => true) (fun c => zcost H n m ln pr wa sl co (Int32.ofNat c)) (2 ^ zct (zdfb pr wa) n) = some B := hB
  obtain ⟨t, t1, t2⟩ := l_choice hn hw h hco (Int32.ofNat B)
  rw [hB', n_let]
  show o_bind (fX6_choice (Int32.ofNat B) (Int32.ofNat H) (Int32.ofNat m) bc n v) _ = _
  rw [t1, n_bind]
  unfold zck
  rw [hB]
  refine (n_for0 (fun f k W => fX6_checksum_L124 t f W (Int32.ofNat k)) 7 (fun k W => 31 * W + (zfig H n m ln pr wa sl co (Int32.ofNat B) k).toInt64) some (fun f W => by
      simp only [fX6_checksum_L124, show ((7 : Int32) ≤ Int32.ofNat 7) from by decide, if_true]) (fun f k W hk => by
      have hle : ¬ (7 : Int32) ≤ Int32.ofNat k := fun h => by
        have := (n_le (a := 7) (by omega) (by omega)).mp h; omega
      simp (disch := omega) only [fX6_checksum_L124, hle, if_false, n_rd, n_cl, t2 k hk, n_let, n_s]) 7 0 1024 _ (by omega) (by omega)).trans ?_
  rfl
end ZLD
