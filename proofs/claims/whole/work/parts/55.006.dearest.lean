/-! ===== the dearest lots ===== -/
theorem zct_one {q : Nat} : ∀ n : Nat, q < n → zct (fun i => decide (i = q)) n = 1
  | 0, h => absurd h (Nat.not_lt_zero _)
  | n + 1, h => by
    show zct (fun i => decide (i = q)) n + (if decide (n = q) = true then 1 else 0) = 1
    by_cases e : n = q
    · subst e
      rw [zct_false n (fun i hi => by simp; omega)]; simp
    · rw [zct_one n (by omega)]; simp [e]
theorem zct_sub {f g : Nat → Bool} : ∀ n : Nat, (∀ i, i < n → f i = true → g i = true) → zct f n ≤ zct g n
  | 0, _ => Nat.le_refl _
  | n + 1, h => by
    have h1 := zct_sub n (fun i hi => h i (by omega))
    show zct f n + (if f n = true then 1 else 0) ≤ zct g n + (if g n = true then 1 else 0)
    by_cases hf : f n = true
    · rw [if_pos hf, if_pos (h n (by omega) hf)]; omega
    · rw [if_neg hf]; omega
theorem zct_ins {f g : Nat → Bool} {q n : Nat} (hq : q < n) (hf : f q = false) (h : ∀ i, i < n → (g i = true ↔ f i = true ∨ i = q)) : zct g n = zct f n + 1 := by
  rw [← zct_one n hq]
  refine (zct_add n (fun i hi => ?_)).symm
  have := h i hi
  by_cases e : i = q
  · subst e; rw [hf, this.mpr (Or.inr rfl)]; simp
  · by_cases e2 : f i = true
    · rw [e2, this.mpr (Or.inl e2)]; simp [e]
    · have e3 : ¬ g i = true := fun hg => by
        rcases this.mp hg with h | h
        · exact e2 h
        · exact e h
      simp [e, e2, e3]
/-- i comes ahead of q -/
theorem zdear_iff {e : Nat → Int32} {q i : Nat} : zdear e q i = true ↔ (e q).toInt < (e i).toInt ∨ ((e i).toInt = (e q).toInt ∧ i < q) := by
  unfold zdear
  simp only [Bool.or_eq_true, Bool.and_eq_true, decide_eq_true_eq, Int32.lt_iff_toInt_lt, ← Int32.toInt_inj]
def zrk (e : Nat → Int32) (wa : Nat → Bool) (n q : Nat) : Nat := zct (fun i => wa i && zdear e q i) n
theorem zrk_lt {e : Nat → Int32} {wa : Nat → Bool} {n q : Nat} (hq : q < n) (hw : wa q = true) : zrk e wa n q < zct wa n := by
  have h1 : zct (fun i => (wa i && zdear e q i) || decide (i = q)) n = zrk e wa n q + 1 := zct_ins hq (by
    cases h : zdear e q q
    · simp
    · have := zdear_iff.mp h; omega) (fun i _ => by simp)
  have h2 : zct (fun i => (wa i && zdear e q i) || decide (i = q)) n ≤ zct wa n := zct_sub n (fun i _ h => by
    simp only [Bool.or_eq_true, Bool.and_eq_true, decide_eq_true_eq] at h
    rcases h with h | h
    · exact h.1
    · rw [h]; exact hw)
  omega
theorem zrk_mono {e : Nat → Int32} {wa : Nat → Bool} {n q i : Nat} (hi : i < n) (hw : wa i = true) (hd : zdear e q i = true) : zrk e wa n i < zrk e wa n q := by
  have h1 : zct (fun j => (wa j && zdear e i j) || decide (j = i)) n = zrk e wa n i + 1 := zct_ins hi (by
    cases h : zdear e i i
    · simp
    · have := zdear_iff.mp h; omega) (fun i _ => by simp)
  have h2 : zct (fun j => (wa j && zdear e i j) || decide (j = i)) n ≤ zrk e wa n q := zct_sub n (fun j _ h => by
    simp only [Bool.or_eq_true, Bool.and_eq_true, decide_eq_true_eq] at h ⊢
    rcases h with h | h
    · refine ⟨h.1, zdear_iff.mpr ?_⟩
      have a := zdear_iff.mp h.2
      have b := zdear_iff.mp hd
      omega
    · subst h; exact ⟨hw, hd⟩)
  omega
theorem zrk_uniq {e : Nat → Int32} {wa : Nat → Bool} {n i j : Nat} (hi : i < n) (hj : j < n) (wi : wa i = true) (wj : wa j = true) (h : zrk e wa n i = zrk e wa n j) : i = j := by
  by_cases e1 : zdear e i j = true
  · have := zrk_mono hj wj e1; omega
  · by_cases e2 : zdear e j i = true
    · have := zrk_mono hi wi e2; omega
    · have a : ¬ ((e i).toInt < (e j).toInt ∨ ((e j).toInt = (e i).toInt ∧ j < i)) := fun h => e1 (zdear_iff.mpr h)
      have b : ¬ ((e j).toInt < (e i).toInt ∨ ((e i).toInt = (e j).toInt ∧ i < j)) := fun h => e2 (zdear_iff.mpr h)
      omega
theorem zobN : zob none = -1 := rfl
theorem zobS (b : Nat) : zob (some b) = Int32.ofNat b := rfl
section ZQ6
variable {H n m : Nat} {ln : Nat → Nat} {pr wa sl : Nat → Bool} {hh cc rr ac dc : Int32} {co es se d li p w s lots : Nat → Int32} {no pg l us lo fi : Nat → Int32} {P K T : Int32}
/-- behind a lot, or behind none -/
def zbh (es : Nat → Int32) : Option Nat → Nat → Bool
  | none, _ => true
  | some q, i => zdear es i q
theorem m_nextN {d : Nat → Int32} {n k f : Nat} (hn : n ≤ 24) (hk : k < n) (h1' : d (1 : Int32).toNatClampNeg = Int32.ofNat n) (d4 : d (9 + 6 * k + 4) = zbi true) (R : Int32) {p : Int32} (hp : (p = (-1 : Int32)) = True) : fX6_nextDearest_L4 d p (f + 1) R (Int32.ofNat k) = (if R = -1 then fX6_nextDearest_L4 d p f (Int32.ofNat k) (Int32.ofNat (k + 1)) else o_bind (fX6_of R 1 d) (fun x16 => if d (9 + 6 * k + 1) ≤ x16 then fX6_nextDearest_L4 d p f R (Int32.ofNat (k + 1)) else fX6_nextDearest_L4 d p f (Int32.ofNat k) (Int32.ofNat (k + 1)))) := by
  simp (disch := omega) only [fX6_nextDearest_L4, h1', n_le, n_bind, n_let, n_s, e_of4, e_of1, d4, zbT, n10, hp, show ¬ n ≤ k from by omega, if_true, if_false]
theorem m_next (hn : n ≤ 24) (hm : MV H n m ln pr wa sl ac co es se d) (o : Option Nat) (ho : ∀ q, o = some q → q < n) :
    ∃ r, fX6_nextDearest (zob o) d = some (zob r) ∧ ((r = none ∧ ∀ i, i < n → wa i = true → ¬ zbh es o i = true) ∨ ∃ b, r = some b ∧ b < n ∧ wa b = true ∧ zbh es o b = true ∧ ∀ i, i < n → wa i = true → zbh es o i = true → i = b ∨ zdear es i b = true) := by
  have h1' : d (1 : Int32).toNatClampNeg = Int32.ofNat n := hm.2.1
  have key := n_inv (fun f k (x : Int32) => fX6_nextDearest_L4 d (zob o) f x (Int32.ofNat k)) n some
    (fun k x => ∃ r, x = zob r ∧ ((r = none ∧ ∀ i, i < k → wa i = true → ¬ zbh es o i = true) ∨ ∃ b, r = some b ∧ b < k ∧ wa b = true ∧ zbh es o b = true ∧ ∀ i, i < k → wa i = true → zbh es o i = true → i = b ∨ zdear es i b = true))
    (fun f x hs => by simp only [fX6_nextDearest_L4, h1', Int32.le_refl, if_true])
    (fun f k x hk hs => by
      obtain ⟨r, rfl, hr⟩ := hs
      obtain ⟨-, d1, -, -, d4, -⟩ := hm.2.2.2.2.2 k hk
      have same : (wa k = true → ¬ zbh es o k = true) → ((r = none ∧ ∀ i, i < k + 1 → wa i = true → ¬ zbh es o i = true) ∨ ∃ b, r = some b ∧ b < k + 1 ∧ wa b = true ∧ zbh es o b = true ∧ ∀ i, i < k + 1 → wa i = true → zbh es o i = true → i = b ∨ zdear es i b = true) := fun h0 => by
        rcases hr with ⟨e1, e2⟩ | ⟨b, b1, b2, b3, b4, b5⟩
        · exact Or.inl ⟨e1, fun i hi hw => by
            by_cases e : i = k
            · subst e; exact h0 hw
            · exact e2 i (by omega) hw⟩
        · exact Or.inr ⟨b, b1, by omega, b3, b4, fun i hi hw hz => by
            by_cases e : i = k
            · subst e; exact absurd hz (h0 hw)
            · exact b5 i (by omega) hw hz⟩
      cases hwk : wa k
      · rw [hwk] at d4
        refine ⟨zob r, ⟨r, rfl, same (fun h => by rw [hwk] at h; cases h)⟩, ?_⟩
        simp (disch := omega) only [fX6_nextDearest_L4, h1', n_le, n_bind, n_let, n_s, e_of4, d4, zbF, show ¬ n ≤ k from by omega, if_true, if_false]
      · rw [hwk] at d4
        -- is it behind
        have bh : ∀ R : Int32, fX6_nextDearest_L4 d (zob o) (f + 1) R (Int32.ofNat k) = if zbh es o k = true then (if R = -1 then fX6_nextDearest_L4 d (zob o) f (Int32.ofNat k) (Int32.ofNat (k + 1)) else o_bind (fX6_of R 1 d) (fun x16 => if es k ≤ x16 then fX6_nextDearest_L4 d (zob o) f R (Int32.ofNat (k + 1)) else fX6_nextDearest_L4 d (zob o) f (Int32.ofNat k) (Int32.ofNat (k + 1)))) else fX6_nextDearest_L4 d (zob o) f R (Int32.ofNat (k + 1)) := fun R => by
          cases o with
          | none =>
            rw [if_pos (show zbh es none k = true from rfl), m_nextN hn hk h1' d4 R (eq_true zobN), d1]
          | some q =>
            have hq := ho q rfl
            have hq1 := (hm.2.2.2.2.2 q hq).2.1
            have e1 : ¬ (Int32.ofNat q = -1) := n_m1 (by omega)
            have hz := zdear_iff (e := es) (q := k) (i := q)
            by_cases c1 : es k < es q
            · have c1' := c1
              rw [Int32.lt_iff_toInt_lt] at c1'
              have : zdear es k q = true := hz.mpr (Or.inl c1')
              simp (disch := omega) only [fX6_nextDearest_L4, h1', n_le, n_bind, n_let, n_s, e_of4, e_of1, d4, d1, hq1, zbT, zobN, zobS, zbh, n10, e1, c1, this, show ¬ n ≤ k from by omega, if_true, if_false]
            · have c1' := c1
              rw [Int32.lt_iff_toInt_lt] at c1'
              by_cases c2 : es k = es q
              · have c2' := congrArg Int32.toInt c2
                by_cases c3 : k ≤ q
                · have : zdear es k q = false := by
                    rw [Bool.eq_false_iff]; intro h; have := hz.mp h; omega
                  have c1'' : ¬ es q < es q := by rw [c2] at c1; exact c1
                  simp (disch := omega) only [fX6_nextDearest_L4, h1', n_le, n_bind, n_let, n_s, e_of4, e_of1, d4, d1, hq1, zbT, zobN, zobS, zbh, n10, e1, c2, c1'', c3, this, show ¬ n ≤ k from by omega, if_true, if_false, Bool.false_eq_true]
                · have : zdear es k q = true := hz.mpr (Or.inr ⟨c2'.symm, by omega⟩)
                  have c1'' : ¬ es q < es q := by rw [c2] at c1; exact c1
                  simp (disch := omega) only [fX6_nextDearest_L4, h1', n_le, n_bind, n_let, n_s, e_of4, e_of1, d4, d1, hq1, zbT, zobN, zobS, zbh, n10, e1, c2, c1'', c3, this, show ¬ n ≤ k from by omega, if_true, if_false]
              · have : zdear es k q = false := by
                  rw [Bool.eq_false_iff]; intro h
                  have := hz.mp h
                  have c2' : ¬ (es k).toInt = (es q).toInt := fun h => c2 (Int32.toInt_inj.mp h)
                  omega
                simp (disch := omega) only [fX6_nextDearest_L4, h1', n_le, n_bind, n_let, n_s, e_of4, e_of1, d4, d1, hq1, zbT, zobN, zobS, zbh, n10, e1, c1, c2, this, show ¬ n ≤ k from by omega, if_true, if_false, Bool.false_eq_true]
        replace bh := bh (zob r)
        by_cases hz : zbh es o k = true
        · rw [if_pos hz] at bh
          rcases hr with ⟨e1, e2⟩ | ⟨b, b1, b2, b3, b4, b5⟩
          · subst e1
            rw [if_pos (show zob none = -1 from rfl)] at bh
            refine ⟨Int32.ofNat k, ⟨some k, rfl, Or.inr ⟨k, rfl, by omega, hwk, hz, fun i hi hw hy => ?_⟩⟩, bh⟩
            by_cases e : i = k
            · exact Or.inl e
            · exact absurd hy (e2 i (by omega) hw)
          · subst b1
            have hb1 := (hm.2.2.2.2.2 b (by omega)).2.1
            rw [if_neg (show ¬ zob (some b) = -1 from n_m1 (by omega)), show zob (some b) = Int32.ofNat b from rfl, e_of1 (by omega), n_bind, hb1] at bh
            by_cases c1 : es k ≤ es b
            · rw [if_pos c1] at bh
              rw [Int32.le_iff_toInt_le] at c1
              refine ⟨Int32.ofNat b, ⟨some b, rfl, Or.inr ⟨b, rfl, by omega, b3, b4, fun i hi hw hy => ?_⟩⟩, bh⟩
              by_cases e : i = k
              · subst e
                exact Or.inr (zdear_iff.mpr (by omega))
              · exact b5 i (by omega) hw hy
            · rw [if_neg c1] at bh
              rw [Int32.le_iff_toInt_le] at c1
              refine ⟨Int32.ofNat k, ⟨some k, rfl, Or.inr ⟨k, rfl, by omega, hwk, hz, fun i hi hw hy => ?_⟩⟩, bh⟩
              by_cases e : i = k
              · exact Or.inl e
              · right
                rcases b5 i (by omega) hw hy with h | h
                · subst h; exact zdear_iff.mpr (by omega)
                · have := zdear_iff.mp h
                  exact zdear_iff.mpr (by omega)
        · rw [if_neg hz] at bh
          exact ⟨zob r, ⟨r, rfl, same (fun _ => hz)⟩, bh⟩)
    n 0 1024 (-1) (by omega) (by omega) ⟨none, rfl, Or.inl ⟨rfl, fun i hi => absurd hi (Nat.not_lt_zero _)⟩⟩
  obtain ⟨x, ⟨r, rfl, hr⟩, hx⟩ := key
  refine ⟨r, ?_, hr⟩
  unfold fX6_nextDearest
  exact hx
theorem zdearI_ct (hb : ∀ i, i < 24 → w i = zbi (wa i)) (hn : n ≤ 24) (q : Nat) : zsum (zdearI es w q) 0 n = Int32.ofNat (zrk es wa n q) := zsum_ct _ n (fun i hi => by
  unfold zdearI
  rw [hb i (by omega)]
  cases wa i <;> cases zdear es q i <;> simp [zbi])
theorem s_12 (x th : Int32) (hw : NW H n m ln pr wa) (hb : BV H n m ln pr wa sl hh cc rr li p w s) (hm : MV H n m ln pr wa sl ac co es se d) (told : Nat → Int64) :
    ∃ th' t', fS12 x cc es w th d told = some (th', t') := by
  have hn := hw.2.2.1
  obtain ⟨b1, b2, b3, b4, b5, b6, b7⟩ := id hb
  subst b2
  have hW := zct_le wa n
  have s4 := (m_sum hn hm).2.1
  -- the class's loop
  have st : ∀ f k, ¬ x < 0 → k < n → ¬ (wa k = true ∧ Int32.ofNat (zrk es wa n k) = x) → fX5_dearest_L2 x (Int32.ofNat n) w es (f + 1) (Int32.ofNat k) = fX5_dearest_L2 x (Int32.ofNat n) w es f (Int32.ofNat (k + 1)) := fun f k hx hk hne => by
    have e1 := e_dearerLots hn (show k < 24 by omega) es w
    rw [zdearI_ct b6 hn] at e1
    have ew := b6 k (by omega)
    cases hwk : wa k
    · rw [hwk] at ew
      simp (disch := omega) only [fX5_dearest_L2, hx, n_le, n_rd, n_cl, n_let, n_s, ew, zbF, show ¬ n ≤ k from by omega, if_true, if_false]
    · rw [hwk] at ew
      have hne' : ¬ Int32.ofNat (zrk es wa n k) = x := fun h => hne ⟨hwk, h⟩
      simp (disch := omega) only [fX5_dearest_L2, hx, n_le, n_rd, n_cl, n_let, n_bind, n_s, ew, zbT, n10, e1, hne', show ¬ n ≤ k from by omega, if_true, if_false]
  rcases n_range (show zct wa n < 2147483648 by omega) x with hx | ⟨k, hk, rfl⟩
  · have h6 : fX6_dearest x th d = some (0, 1) := by
      unfold fX6_dearest
      rw [s4, n_bind, inN_f (by omega) hx, n_bind]
      rfl
    have h5 : fX5_dearest x (Int32.ofNat n) es w = some (.inl "java/util/NoSuchElementException") := by
      unfold fX5_dearest
      by_cases h1 : x < 0
      · show fX5_dearest_L2 x (Int32.ofNat n) w es (1023 + 1) 0 = _
        rw [fX5_dearest_L2, if_pos h1]
      · refine n_walk (fun f k => fX5_dearest_L2 x (Int32.ofNat n) w es f (Int32.ofNat k)) n _ (fun f => ?_) (fun f k hk => st f k h1 hk (fun h => ?_)) 1024 (by omega)
        · simp only [fX5_dearest_L2, h1, Int32.le_refl, if_true, if_false]
        · have h2 := zrk_lt (e := es) hk h.1
          exact n_ne (n := zct wa n) (by omega) hx h2 h.2.symm
    refine ⟨1, told, ?_⟩
    unfold fS12 fL_dearest
    rw [h5, h6]
    rfl
  · have key := n_inv (fun f t (y : Int32) => fX6_dearest_L39 (Int32.ofNat k) 0 d f y (Int32.ofNat t)) (k + 1) (fun y => some (y, 0))
      (fun t y => ∃ o, y = zob o ∧ ((t = 0 ∧ o = none) ∨ ∃ q, o = some q ∧ q < n ∧ wa q = true ∧ zrk es wa n q + 1 = t))
      (fun f y hs => by
        have : Int32.ofNat k < Int32.ofNat (k + 1) := n_nge (by omega) (by omega)
        simp only [fX6_dearest_L39, this, if_true])
      (fun f t y ht hs => by
        obtain ⟨o, rfl, ho⟩ := hs
        have hlt : ¬ Int32.ofNat k < Int32.ofNat t := fun h => by
          have := (n_lt (by omega) (by omega)).mp h; omega
        obtain ⟨r, r1, r2⟩ := m_next hn hm o (fun q hq => by
          rcases ho with ⟨-, e⟩ | ⟨q', e, h, -⟩
          · rw [e] at hq; cases hq
          · rw [e] at hq; injection hq with hq; omega)
        refine ⟨zob r, ⟨r, rfl, Or.inr ?_⟩, by simp only [fX6_dearest_L39, hlt, r1, n_bind, n_let, n_s, if_false]⟩
        rcases ho with ⟨e1, rfl⟩ | ⟨q, rfl, q1, q2, q3⟩
        · subst e1
          rcases r2 with ⟨-, hnone⟩ | ⟨b, rfl, h1, h2, -, h3⟩
          · exfalso
            have : zct wa n = 0 := zct_false n (fun i hi => by
              rw [Bool.eq_false_iff]
              exact fun hwi => hnone i hi hwi rfl)
            omega
          · refine ⟨b, rfl, h1, h2, ?_⟩
            have : zrk es wa n b = 0 := zct_false n (fun i hi => by
              rw [Bool.eq_false_iff]
              intro hh
              simp only [Bool.and_eq_true] at hh
              have a := zdear_iff.mp hh.2
              rcases h3 i hi hh.1 rfl with h | h
              · subst h; omega
              · have c := zdear_iff.mp h; omega)
            omega
        · rcases r2 with ⟨-, hnone⟩ | ⟨b, rfl, h1, h2, h4, h3⟩
          · exfalso
            have h5 : zct (fun i => (wa i && zdear es q i) || decide (i = q)) n = zrk es wa n q + 1 := zct_ins q1 (by
              cases h : zdear es q q
              · simp
              · have := zdear_iff.mp h; omega) (fun i _ => by simp)
            have h6 : zct wa n ≤ zct (fun i => (wa i && zdear es q i) || decide (i = q)) n := zct_sub n (fun i hi hwi => by
              simp only [Bool.or_eq_true, Bool.and_eq_true, decide_eq_true_eq]
              by_cases e : i = q
              · exact Or.inr e
              · left
                refine ⟨hwi, zdear_iff.mpr ?_⟩
                have a : ¬ zdear es i q = true := hnone i hi hwi
                have b : ¬ ((es i).toInt < (es q).toInt ∨ ((es q).toInt = (es i).toInt ∧ q < i)) := fun h => a (zdear_iff.mpr h)
                omega)
            omega
          · refine ⟨b, rfl, h1, h2, ?_⟩
            have h4 : zdear es b q = true := h4
            have h7 : zrk es wa n b = zrk es wa n q + 1 := zct_ins q1 (by
              cases h : zdear es q q
              · simp
              · have := zdear_iff.mp h; omega) (fun i hi => by
              have a := zdear_iff.mp h4
              simp only [Bool.and_eq_true]
              constructor
              · rintro ⟨g1, g2⟩
                have c := zdear_iff.mp g2
                by_cases e : i = q
                · exact Or.inr e
                · left
                  refine ⟨g1, ?_⟩
                  by_cases g3 : zdear es i q = true
                  · rcases h3 i hi g1 g3 with h | h
                    · subst h; omega
                    · have := zdear_iff.mp h; omega
                  · have b : ¬ ((es i).toInt < (es q).toInt ∨ ((es q).toInt = (es i).toInt ∧ q < i)) := fun h => g3 (zdear_iff.mpr h)
                    exact zdear_iff.mpr (by omega)
              · rintro (⟨g1, g2⟩ | e)
                · have c := zdear_iff.mp g2
                  exact ⟨g1, zdear_iff.mpr (by omega)⟩
                · subst e; exact ⟨q2, h4⟩)
            omega)
      (k + 1) 0 1024 (-1) (by omega) (by omega) ⟨none, rfl, Or.inl ⟨rfl, rfl⟩⟩
    obtain ⟨y, ⟨o, rfl, ho⟩, hy⟩ := key
    rcases ho with ⟨e, -⟩ | ⟨q, rfl, q1, q2, q3⟩
    · omega
    · have h6 : fX6_dearest (Int32.ofNat k) th d = some (Int32.ofNat q, 0) := by
        unfold fX6_dearest
        rw [s4, n_bind, inN_t (by omega) hk, n_bind, n_let, if_neg (by decide)]
        exact hy
      have h5 : fX5_dearest (Int32.ofNat k) (Int32.ofNat n) es w = some (.inr (Int32.ofNat q)) := by
        unfold fX5_dearest
        refine n_walk (fun f t => fX5_dearest_L2 (Int32.ofNat k) (Int32.ofNat n) w es f (Int32.ofNat t)) q _ (fun f => ?_) (fun f t ht => st f t (n_lt0 (by omega)) (by omega) (fun h => ?_)) 1024 (by omega)
        · have e1 := e_dearerLots hn (show q < 24 by omega) es w
          rw [zdearI_ct b6 hn] at e1
          have ew := b6 q (by omega)
          rw [q2] at ew
          have e2 : zrk es wa n q = k := by omega
          have e3 : ¬ Int32.ofNat k < 0 := n_lt0 (by omega)
          simp (disch := omega) only [fX5_dearest_L2, e3, n_le, n_rd, n_cl, n_bind, ew, zbT, n10, e1, e2, show ¬ n ≤ q from by omega, if_true, if_false]
        · have h2 := zrk_lt (e := es) (show t < n by omega) h.1
          have h3 := (n_eq (by omega) (by omega)).mp h.2
          have := zrk_uniq (e := es) (show t < n by omega) q1 h.1 q2 (by omega)
          omega
      refine ⟨0, vp_updL told (0 : Int32).toNatClampNeg (Int32.ofNat q).toInt64, ?_⟩
      unfold fS12 fL_dearest
      rw [h5, h6]
      simp only [o_hlp, n_bind, if_true, fX6_thrown, g_fin]
end ZQ6
