/-! ===== the law's figures of a choice, its best choice ===== -/
theorem n_and0 (x : Int32) : (x &&& 1 = 0) ↔ ¬ (x &&& 1 = 1) := by
  constructor
  · intro h h1
    rw [h] at h1
    exact absurd h1 (by decide)
  · intro h
    rw [n_and1] at h
    rw [← Int32.toBitVec_inj, Int32.toBitVec_and]
    have e1 : (1 : Int32).toBitVec = 1#32 := rfl
    have e0 : (0 : Int32).toBitVec = 0#32 := rfl
    rw [e1, e0]
    apply BitVec.eq_of_getLsbD_eq
    intro i hi
    rw [BitVec.getLsbD_and, BitVec.getLsbD_one]
    by_cases hz : i = 0
    · subst hz
      rw [Bool.eq_false_iff.mpr h, Bool.false_and]
      simp
    · simp [hz]
/-- between two different lots nothing is counted -/
theorem zct_stay {df E : Nat → Bool} (hE : ∀ i, E i = true → df i = true) {a : Nat} : ∀ m : Nat, zct df a = zct df (a + m) → zct E a = zct E (a + m)
  | 0, _ => rfl
  | m + 1, h => by
    have h1 := zct_mono df a m
    have e1 : zct df (a + (m + 1)) = zct df (a + m) + (if df (a + m) = true then 1 else 0) := rfl
    have e2 : zct E (a + (m + 1)) = zct E (a + m) + (if E (a + m) = true then 1 else 0) := rfl
    have h2 : ¬ df (a + m) = true := fun q => by rw [if_pos q] at e1; omega
    rw [if_neg h2] at e1
    rw [e2, if_neg (fun q => h2 (hE _ q)), Nat.add_zero]
    exact zct_stay hE m (by omega)
theorem zct_at {df E : Nat → Bool} (hE : ∀ i, E i = true → df i = true) {i1 i j : Nat} (h1 : df i1 = true) (h2 : zct df i1 = j) (h3 : zct df i = j + 1) : zct E i = zct E (i1 + 1) := by
  have h4 : zct df (i1 + 1) = j + 1 := by rw [zct_t h1, h2]
  have h5 : i1 + 1 ≤ i := Nat.not_lt.mp fun q => by
    obtain ⟨w, hw⟩ : ∃ w, i1 = i + w := ⟨i1 - i, by omega⟩
    have := zct_mono df i w
    rw [← hw] at this
    omega
  obtain ⟨w, rfl⟩ : ∃ w, i = i1 + 1 + w := ⟨i - (i1 + 1), by omega⟩
  exact (zct_stay hE w (by omega)).symm
theorem zct_zero {df E : Nat → Bool} (hE : ∀ i, E i = true → df i = true) {i : Nat} (h : zct df i = 0) : zct E i = 0 := by
  have := zct_stay hE (a := 0) i (by rw [Nat.zero_add, h]; rfl)
  rw [Nat.zero_add] at this
  exact this.symm
section ZLC
variable {H n m : Nat} {ln : Nat → Nat} {pr wa sl : Nat → Bool} {es se co bc : Nat → Int32} {v : Nat → ZL}
theorem l_L207 (hn : n ≤ 16) (h : VV n ln pr wa sl es se v) (x : Int32) (j : (Nat → Int32) → Option (Nat → Int32)) (t : Nat → Int32) (ht : t 5 = 0) :
    ∃ t' : Nat → Int32, fX6_choice_L207 n v j x 1024 0 t = j t' ∧ t' 5 = Int32.ofNat (zent pr wa sl x n) ∧ ∀ q, q ≠ 5 → t' q = t q := by
  obtain ⟨df, hdf⟩ : ∃ df, df = zdfb pr wa := ⟨_, rfl⟩
  obtain ⟨E, hE⟩ : ∃ E : Nat → Bool, E = fun i => zdfb pr wa i && !zbit x (zct (zdfb pr wa) i) && !sl i := ⟨_, rfl⟩
  have hEd : ∀ i, E i = true → df i = true := fun i hi => by
    rw [hE] at hi
    rw [hdf]
    simp only [Bool.and_eq_true] at hi
    exact hi.1.1
  have hD := zct_le df n
  have key := n_inv (fun f k (s : Nat → Int32) => fX6_choice_L207 n v j x f (Int32.ofNat k) s) (zct df n) j (fun k s => (∀ i, i ≤ n → zct df i = k → s 5 = Int32.ofNat (zct E i)) ∧ ∀ q, q ≠ 5 → s q = t q)
    (fun f s _ => by
      simp only [fX6_choice_L207, l_different hn h, n_bind, ← hdf, Int32.le_refl, if_true]) (fun f k s hk hs => by
    obtain ⟨s1, s2⟩ := hs
    obtain ⟨i, i1, i2, i3⟩ := zct_find n hk
    have e5 := s1 i (by omega) i3
    have hix : fX6_indexOf (Int32.ofNat k) n v = some (Int32.ofNat i) := by
      have := l_indexOf hn h i1 (by rw [← hdf]; exact i2)
      rw [← hdf, i3] at this
      exact this
    have hv : (v i).2.2.2.2.2 = zbi (sl i) := by rw [h i i1]
    have hEi : E i = (!zbit x k && !sl i) := by
      rw [hE]
      show (zdfb pr wa i && !zbit x (zct (zdfb pr wa) i) && !sl i) = _
      rw [← hdf, i2, i3, Bool.true_and]
    have nx : ∀ i', i' ≤ n → zct df i' = k + 1 → zct E i' = zct E i + (if E i = true then 1 else 0) := fun i' _ h' => zct_at hEd i2 i3 h'
    by_cases hz : ((x >>> (Int32.ofNat k &&& 31)) &&& 1 = 1)
    · have hb : zbit x k = true := decide_eq_true hz
      have hz0 : ¬ ((x >>> (Int32.ofNat k &&& 31)) &&& 1 = 0) := fun q => (n_and0 _).mp q hz
      have hE0 : ¬ E i = true := by rw [hEi, hb]; simp
      refine ⟨s, ⟨fun i' hi' h' => ?_, s2⟩, ?_⟩
      · rw [nx i' hi' h', if_neg hE0, Nat.add_zero]; exact e5
      · simp (disch := omega) only [fX6_choice_L207, l_different hn h, n_bind, ← hdf, n_le, n_let, n_s, hz0, show ¬ zct df n ≤ k from by omega, if_false]
    · have hb : zbit x k = false := decide_eq_false hz
      have hz0 : ((x >>> (Int32.ofNat k &&& 31)) &&& 1 = 0) := (n_and0 _).mpr hz
      cases hsl : sl i
      · have hE1 : E i = true := by rw [hEi, hb, hsl]; rfl
        refine ⟨upd s 5 (s 5 + 1), ⟨fun i' hi' h' => ?_, fun q hq => (upd_ne hq).trans (s2 q hq)⟩, ?_⟩
        · rw [nx i' hi' h', if_pos hE1]
          refine upd_same.trans ?_
          rw [e5, n_s]
        · rw [hsl] at hv
          simp (disch := omega) only [fX6_choice_L207, l_different hn h, n_bind, ← hdf, n_le, n_rd, n_cl, n_let, n_s, hz0, hix, hv, zbF, show ¬ zct df n ≤ k from by omega, if_true, if_false]
          rfl
      · have hE0 : ¬ E i = true := by rw [hEi, hb, hsl]; simp
        refine ⟨s, ⟨fun i' hi' h' => ?_, s2⟩, ?_⟩
        · rw [nx i' hi' h', if_neg hE0, Nat.add_zero]; exact e5
        · rw [hsl] at hv
          simp (disch := omega) only [fX6_choice_L207, l_different hn h, n_bind, ← hdf, n_le, n_rd, n_cl, n_let, n_s, hz0, hix, hv, zbT, n10, show ¬ zct df n ≤ k from by omega, if_true, if_false])
    (zct df n) 0 1024 t (by omega) (by omega) ⟨fun i _ hi => by rw [zct_zero hEd hi, ht]; rfl, fun q _ => rfl⟩
  obtain ⟨t', ⟨k1, k2⟩, k3⟩ := key
  refine ⟨t', k3, ?_, k2⟩
  rw [k1 n (Nat.le_refl _) rfl, hE]
  rfl
theorem n_ceil {m e : Nat} (h1 : 1 ≤ m) (h2 : m ≤ 9) (h3 : e ≤ 24) : e / m + (if e % m = 0 then 0 else 1) = (e + m - 1) / m := by
  have : ∀ m : Fin 10, 1 ≤ m.val → ∀ e : Fin 25, e.val / m.val + (if e.val % m.val = 0 then 0 else 1) = (e.val + m.val - 1) / m.val := by decide
  exact this ⟨m, by omega⟩ h1 ⟨e, by omega⟩
/-- what the law measures of a choice -/
theorem l_choice (hn : n ≤ 16) (hw : NW H n m ln pr wa) (h : VV n ln pr wa sl es se v) (hco : ∀ k, k < 5 → bc k = co k) (x : Int32) :
    ∃ t : Nat → Int32, fX6_choice x (Int32.ofNat H) (Int32.ofNat m) bc n v = some t ∧ ∀ q, q < 7 → t q = zfig H n m ln pr wa sl co x q := by
  obtain ⟨h4, hH, -, m1, m9, hl, hD⟩ := hw
  have hl2 : ∀ j, j < n → 1 ≤ ln j ∧ ln j ≤ H := fun j hj => ⟨(hl j hj).1, (hl j hj).2.2⟩
  have hm0 : ¬ Int32.ofNat m = 0 := fun e => by
    have := (n_eq0 (by omega)).mp e
    omega
  obtain ⟨r, r1, r2⟩ := l_places hn h4 hH hl2 h 0 (zprB0 hD)
  obtain ⟨r', q1, q2⟩ := l_places hn h4 hH hl2 h x (fun i _ => rfl)
  have p1 := l_pages hn h4 hH hl2 r2
  have p2 := l_pages hn h4 hH hl2 q2
  have z1 := (zP_le H ln pr n).1
  have z2 := (zP_le H ln (zprB pr wa x) n).1
  obtain ⟨M, hM⟩ : ∃ M, M = zMx H n ln pr wa x := ⟨_, rfl⟩
  have hMx : (if Int32.ofNat (zP H ln pr n) < Int32.ofNat (zP H ln (zprB pr wa x) n) then Int32.ofNat (zP H ln (zprB pr wa x) n) else Int32.ofNat (zP H ln pr n)) = Int32.ofNat M := by
    rw [hM]
    unfold zMx
    by_cases c9 : zP H ln pr n < zP H ln (zprB pr wa x) n
    · rw [if_pos ((n_lt (by omega) (by omega)).mpr c9), if_pos c9]
    · rw [if_neg (fun h9 => c9 ((n_lt (by omega) (by omega)).mp h9)), if_neg c9]
  have hM16 : M ≤ 16 := by
    rw [hM]
    unfold zMx
    split <;> omega
  unfold fX6_choice
  rw [r1, n_bind, q1, n_bind, p1, n_bind, p2, n_bind, hMx, n_let, ← Int32.ofNat_mul, n_let, n_let]
  obtain ⟨t, e1, t0, t1, t2, t3, t4, t5, t6⟩ := l_L47 hn h4 hH hl h r2 q2 hM16 (fun (a14 : Nat → Int32) => o_let (fun (a16 : Nat → Int32) => o_as (¬ Int32.ofNat m = 0) (o_as (¬ Int32.ofNat m = 0) (o_let ((a16 (5 : Int32).toNatClampNeg) - (a16 (5 : Int32).toNatClampNeg) / Int32.ofNat m * Int32.ofNat m) (fun x20 => o_let (fun (x22 : Int32) => o_let (upd a16 (4 : Int32).toNatClampNeg (((a16 (5 : Int32).toNatClampNeg) / Int32.ofNat m) + x22)) (fun a24 => o_bind (some (Int32.ofNat (zP H ln (zprB pr wa x) n))) (fun x25 => o_let (upd a24 (6 : Int32).toNatClampNeg x25) (fun a27 => (fX6_choice_L300 bc 1024 (0 : Int32) a27))))) (fun (j285_23 : Int32 → Option ((Nat → Int32))) => (if x20 ≤ 0 then (j285_23 (0 : Int32)) else (j285_23 (1 : Int32)))))))) (fun (j256_17 : (Nat → Int32) → Option ((Nat → Int32))) => (fX6_choice_L207 n v j256_17 x 1024 (0 : Int32) a14)))
  rw [e1, n_let]
  obtain ⟨t', f1, f2, f3⟩ := l_L207 hn h x (fun (a16 : Nat → Int32) => o_as (¬ Int32.ofNat m = 0) (o_as (¬ Int32.ofNat m = 0) (o_let ((a16 (5 : Int32).toNatClampNeg) - (a16 (5 : Int32).toNatClampNeg) / Int32.ofNat m * Int32.ofNat m) (fun x20 => o_let (fun (x22 : Int32) => o_let (upd a16 (4 : Int32).toNatClampNeg (((a16 (5 : Int32).toNatClampNeg) / Int32.ofNat m) + x22)) (fun a24 => o_bind (some (Int32.ofNat (zP H ln (zprB pr wa x) n))) (fun x25 => o_let (upd a24 (6 : Int32).toNatClampNeg x25) (fun a27 => (fX6_choice_L300 bc 1024 (0 : Int32) a27))))) (fun (j285_23 : Int32 → Option ((Nat → Int32))) => (if x20 ≤ 0 then (j285_23 (0 : Int32)) else (j285_23 (1 : Int32)))))))) t t5
  rw [f1, n_as hm0, n_as hm0, n_let, n_let]
  have he : zent pr wa sl x n ≤ n := zct_le _ _
  obtain ⟨e, hee⟩ : ∃ e, e = zent pr wa sl x n := ⟨_, rfl⟩
  have f2' : t' (5 : Int32).toNatClampNeg = Int32.ofNat e := f2.trans (by rw [hee])
  have hsl : zsl n m pr wa sl x = Int32.ofNat ((e + m - 1) / m) := by
    unfold zsl
    rw [← hee, ← Int32.ofNat_add, show e + m = (e + m - 1) + 1 by omega, n_p, n_div (by omega) (by omega)]
    rfl
  have hms := Nat.mod_lt e (show 0 < m by omega)
  -- the slips, the pages behind, and the costs
  have fin : ∀ y : Int32, y = Int32.ofNat ((e + m - 1) / m) → ∃ u : Nat → Int32, o_let (upd t' (4 : Int32).toNatClampNeg y) (fun a24 => o_bind (some (Int32.ofNat (zP H ln (zprB pr wa x) n))) (fun x25 => o_let (upd a24 (6 : Int32).toNatClampNeg x25) (fun a27 => (fX6_choice_L300 bc 1024 (0 : Int32) a27)))) = some u ∧ ∀ q, q < 7 → u q = zfig H n m ln pr wa sl co x q := fun y hy => by
    rw [n_let, n_bind, n_let]
    obtain ⟨w, hw⟩ : ∃ w : Nat → Int32, w = upd (upd t' (4 : Int32).toNatClampNeg y) (6 : Int32).toNatClampNeg (Int32.ofNat (zP H ln (zprB pr wa x) n)) := ⟨_, rfl⟩
    rw [← hw]
    have w0 : w 0 = 0 := by rw [hw]; exact (upd_ne (by decide)).trans ((upd_ne (by decide)).trans ((f3 0 (by omega)).trans t0))
    have w1 : w 1 = (zXx H n ln pr wa x).1 := by rw [hw]; refine (upd_ne (by decide)).trans ((upd_ne (by decide)).trans ((f3 1 (by omega)).trans (t1.trans ?_))); rw [hM]; rfl
    have w2 : w 2 = (zXx H n ln pr wa x).2.1 := by rw [hw]; refine (upd_ne (by decide)).trans ((upd_ne (by decide)).trans ((f3 2 (by omega)).trans (t2.trans ?_))); rw [hM]; rfl
    have w3 : w 3 = (zXx H n ln pr wa x).2.2.1 := by rw [hw]; refine (upd_ne (by decide)).trans ((upd_ne (by decide)).trans ((f3 3 (by omega)).trans (t3.trans ?_))); rw [hM]; rfl
    have w4 : w 4 = zsl n m pr wa sl x := by rw [hw, hsl]; exact (upd_ne (by decide)).trans (upd_same.trans hy)
    have w5 : w 5 = Int32.ofNat (zent pr wa sl x n) := by rw [hw]; exact (upd_ne (by decide)).trans ((upd_ne (by decide)).trans f2)
    have w6 : w 6 = Int32.ofNat (zP H ln (zprB pr wa x) n) := by rw [hw]; exact upd_same
    have key := n_inv (fun f k (s : Nat → Int32) => fX6_choice_L300 bc f (Int32.ofNat k) s) 5 some (fun k s => s 0 = zsum (fun k => w (k + 1) * co k) 0 k ∧ ∀ q, q ≠ 0 → s q = w q) (fun f s _ => by simp only [fX6_choice_L300, show ((5 : Int32) ≤ Int32.ofNat 5) from by decide, if_true]) (fun f k s hk hs => by
      obtain ⟨s1, s2⟩ := hs
      refine ⟨upd s 0 (s 0 + s (k + 1) * bc k), ⟨?_, fun q hq => (upd_ne hq).trans (s2 q hq)⟩, ?_⟩
      · refine upd_same.trans ?_
        rw [s1, zsum_end, s2 (k + 1) (by omega), hco k hk]
      · have hle : ¬ (5 : Int32) ≤ Int32.ofNat k := fun h => by
          have := (n_le (a := 5) (by omega) (by omega)).mp h; omega
        simp (disch := omega) only [fX6_choice_L300, hle, n_rd, n_cl, n_let, n_s, if_false]
        rfl) 5 0 1024 w (by omega) (by omega) ⟨w0, fun q _ => rfl⟩
    obtain ⟨u, ⟨u1, u2⟩, u3⟩ := key
    refine ⟨u, u3, fun q hq => ?_⟩
    match q, hq with
    | 0, _ =>
      rw [u1]
      show w 1 * co 0 + (w 2 * co 1 + (w 3 * co 2 + (w 4 * co 3 + (w 5 * co 4 + 0)))) = zcost H n m ln pr wa sl co x
      unfold zcost
      rw [w1, w2, w3, w4, w5, Int32.add_zero]
      simp only [Int32.add_assoc]
    | 1, _ => exact (u2 1 (by omega)).trans w1
    | 2, _ => exact (u2 2 (by omega)).trans w2
    | 3, _ => exact (u2 3 (by omega)).trans w3
    | 4, _ => exact (u2 4 (by omega)).trans w4
    | 5, _ => exact (u2 5 (by omega)).trans w5
    | 6, _ => exact (u2 6 (by omega)).trans w6
  rw [f2', n_mod (by omega) (by omega), n_div (by omega) (by omega)]
  have hce := n_ceil m1 m9 (show e ≤ 24 by omega)
  by_cases c : e % m = 0
  · rw [if_pos c] at hce
    rw [if_pos ((n_le0 (by omega)).mpr c)]
    exact fin _ (by rw [← hce]; exact Int32.add_zero _)
  · rw [if_neg c] at hce
    rw [if_neg (fun h9 => c ((n_le0 (by omega)).mp h9))]
    exact fin _ (by rw [← hce, n_s])
/-- the best choice -/
theorem l_best (hn : n ≤ 16) (hw : NW H n m ln pr wa) (h4 : zct (zdfb pr wa) n ≤ 4) (h : VV n ln pr wa sl es se v) (hco : ∀ k, k < 5 → bc k = co k) :
    fX6_best 0 (-1) (Int32.ofNat H) (Int32.ofNat m) bc n v = some (zob (zbst (fun _ => true) (fun c => zcost H n m ln pr wa sl co (Int32.ofNat c)) (2 ^ zct (zdfb pr wa) n))) := by
  obtain ⟨D, hD⟩ : ∃ D, D = zct (zdfb pr wa) n := ⟨_, rfl⟩
  rw [← hD] at h4 ⊢
  have hp : 2 ^ D ≤ 16 := by
    have : 2 ^ D ≤ 2 ^ 4 := Nat.pow_le_pow_right (by omega) h4
    omega
  have hpw := n_pow (D := D) (by omega)
  have key := n_inv (fun f k (s : Int32 × Int32) => fX6_best_L8 n v (Int32.ofNat H) (Int32.ofNat m) bc (-1) 0 f s.1 s.2 (Int32.ofNat k)) (2 ^ D) (fun s => some s.1)
    (fun k s => s.1 = zob (zbst (fun _ => true) (fun c => zcost H n m ln pr wa sl co (Int32.ofNat c)) k) ∧ ∀ b, zbst (fun _ => true) (fun c => zcost H n m ln pr wa sl co (Int32.ofNat c)) k = some b → s.2 = zcost H n m ln pr wa sl co (Int32.ofNat b))
    (fun f s _ => by
      simp only [fX6_best_L8, l_different hn h, n_bind, ← hD, hpw, Int32.le_refl, if_true]) (fun f k s hk hs => by
    obtain ⟨b, y⟩ := s
    obtain ⟨s1, s2⟩ := hs
    have s1 : b = zob (zbst (fun _ => true) (fun c => zcost H n m ln pr wa sl co (Int32.ofNat c)) k) := s1
    have s2 : ∀ b, zbst (fun _ => true) (fun c => zcost H n m ln pr wa sl co (Int32.ofNat c)) k = some b → y = zcost H n m ln pr wa sl co (Int32.ofNat b) := s2
    obtain ⟨t, t1, t2⟩ := l_choice hn hw h hco (Int32.ofNat k)
    have t0 : t (0 : Int32).toNatClampNeg = zcost H n m ln pr wa sl co (Int32.ofNat k) := t2 0 (by omega)
    have nx : zbst (fun _ => true) (fun c => zcost H n m ln pr wa sl co (Int32.ofNat c)) (k + 1) = zbp (fun c => zcost H n m ln pr wa sl co (Int32.ofNat c)) k (zbst (fun _ => true) (fun c => zcost H n m ln pr wa sl co (Int32.ofNat c)) k) := by
      rw [zbst_s, if_pos rfl]
    have hneg : ((-1 : Int32) < 0) := by decide
    cases hz : zbst (fun _ => true) (fun c => zcost H n m ln pr wa sl co (Int32.ofNat c)) k with
    | none =>
      rw [hz] at s1 nx
      refine ⟨(Int32.ofNat k, zcost H n m ln pr wa sl co (Int32.ofNat k)), ⟨by rw [nx]; rfl, fun b' hb' => ?_⟩, ?_⟩
      · rw [nx] at hb'
        cases hb'
        rfl
      · have hb0 : b < 0 := by rw [s1]; decide
        simp (disch := omega) only [fX6_best_L8, l_different hn h, n_bind, ← hD, hpw, n_le, n_let, n_s, t1, t0, hb0, hneg, show ¬ 2 ^ D ≤ k from by omega, if_true, if_false]
    | some q =>
      rw [hz] at s1 nx
      have hq := zbst_lt k q hz
      have hy := s2 q hz
      have hb0 : ¬ b < 0 := by rw [s1]; exact n_lt0 (by omega)
      have nx' : zbst (fun _ => true) (fun c => zcost H n m ln pr wa sl co (Int32.ofNat c)) (k + 1) = if zcost H n m ln pr wa sl co (Int32.ofNat k) < zcost H n m ln pr wa sl co (Int32.ofNat q) then some k else some q := nx
      by_cases hc : zcost H n m ln pr wa sl co (Int32.ofNat k) < y
      · rw [if_pos (by rw [← hy]; exact hc)] at nx'
        refine ⟨(Int32.ofNat k, zcost H n m ln pr wa sl co (Int32.ofNat k)), ⟨by rw [nx']; rfl, fun b' hb' => ?_⟩, ?_⟩
        · rw [nx'] at hb'
          cases hb'
          rfl
        · simp (disch := omega) only [fX6_best_L8, l_different hn h, n_bind, ← hD, hpw, n_le, n_let, n_s, t1, t0, hb0, hc, hneg, show ¬ 2 ^ D ≤ k from by omega, if_true, if_false]
      · rw [if_neg (by rw [← hy]; exact hc)] at nx'
        refine ⟨(b, y), ⟨by rw [nx', s1], fun b' hb' => ?_⟩, ?_⟩
        · rw [nx'] at hb'
          cases hb'
          exact hy
        · simp (disch := omega) only [fX6_best_L8, l_different hn h, n_bind, ← hD, hpw, n_le, n_let, n_s, t1, t0, hb0, hc, hneg, show ¬ 2 ^ D ≤ k from by omega, if_true, if_false])
    (2 ^ D) 0 20 (-1, 0) (by omega) (by omega) ⟨rfl, fun b hb => by cases hb⟩
  obtain ⟨s, ⟨s1, -⟩, s2⟩ := key
  unfold fX6_best
  rw [← s1]
  exact s2
end ZLC
