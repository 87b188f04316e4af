/-! ===== queries: ranges and answers ===== -/
theorem n_pm {n : Nat} (hn : n < 2147483648) : (Int32.ofNat n - 1).toInt = (n : Int) - 1 := by
  cases n with
  | zero => rfl
  | succ n => rw [n_p, n_ti (by omega)]; omega
theorem n_range {n : Nat} (hn : n < 2147483648) (x : Int32) : (x < 0 ∨ Int32.ofNat n ≤ x) ∨ ∃ k, k < n ∧ x = Int32.ofNat k := by
  by_cases h : x < 0
  · exact Or.inl (Or.inl h)
  · obtain ⟨k, hk, rfl⟩ := n_of h
    by_cases h2 : n ≤ k
    · exact Or.inl (Or.inr ((n_le hn hk).mpr h2))
    · exact Or.inr ⟨k, by omega, rfl⟩
theorem inN_t {n k : Nat} (hn : n < 2147483648) (hk : k < n) : fX6_in (Int32.ofNat k) 0 (Int32.ofNat n - 1) = some 1 := by
  refine in_t (n_lt0 (by omega)) ?_
  rw [Int32.lt_iff_toInt_lt, n_pm hn, n_ti (by omega)]
  omega
theorem inN_f {n : Nat} {x : Int32} (hn : n < 2147483648) (h : x < 0 ∨ Int32.ofNat n ≤ x) : fX6_in x 0 (Int32.ofNat n - 1) = some 0 := by
  refine in_f ?_
  rcases h with h | h
  · exact Or.inl h
  · right
    rw [Int32.le_iff_toInt_le, n_ti hn] at h
    rw [Int32.lt_iff_toInt_lt, n_pm hn]
    omega
/-- the same with the range as a literal -/
theorem inL_t {n k : Nat} {c : Int32} (hn : n < 2147483648) (hc : c = Int32.ofNat n - 1) (hk : k < n) : fX6_in (Int32.ofNat k) 0 c = some 1 := by rw [hc]; exact inN_t hn hk
theorem inL_f {n : Nat} {x c : Int32} (hn : n < 2147483648) (hc : c = Int32.ofNat n - 1) (h : x < 0 ∨ Int32.ofNat n ≤ x) : fX6_in x 0 c = some 0 := by rw [hc]; exact inN_f hn h
theorem n_nge {n k : Nat} (hn : n < 2147483648) (hk : k < n) : Int32.ofNat k < Int32.ofNat n := (n_lt (by omega) hn).mpr hk
/-- out of the range: not below it, and not in it -/
theorem n_out {n : Nat} {x : Int32} (hn : n < 2147483648) (h : x < 0 ∨ Int32.ofNat n ≤ x) : ¬ x < 0 → ¬ x < Int32.ofNat n := fun h1 h2 => by
  rcases h with h | h
  · exact h1 h
  · exact Int32.not_le.mpr h2 h
theorem n_ne {n : Nat} {x : Int32} (hn : n < 2147483648) (h : x < 0 ∨ Int32.ofNat n ≤ x) {k : Nat} (hk : k < n) : ¬ x = Int32.ofNat k := fun e => by
  subst e
  rcases h with h | h
  · exact n_lt0 (by omega) h
  · have := (n_le hn (by omega)).mp h; omega
theorem g_fin {ρ : Type} (told : Nat → Int64) (v : Int32) (r : ρ) : (if lg_cmp (vp_updL told (0 : Int32).toNatClampNeg v.toInt64 (0 : Int32).toNatClampNeg) v.toInt64 = 0 then some r else none) = some r := by
  rw [if_pos]
  unfold lg_cmp vp_updL
  rw [if_pos rfl, if_neg (by exact Int64.lt_irrefl), if_pos rfl]
theorem g_not : ((2 : Int32) = 0) = False ∧ ((1 : Int32) = 0) = False ∧ ((2 : Int32) = 1) = False ∧ ((0 : Int32) = 1) = False := by decide
theorem g_sA : ("java/lang/IllegalArgumentException" = "java/lang/IndexOutOfBoundsException") = False := by simp
theorem g_sS : ("java/lang/IllegalStateException" = "java/lang/IndexOutOfBoundsException") = False := by simp
theorem g_sT : ("java/lang/IllegalStateException" = "java/lang/IllegalArgumentException") = False := by simp
theorem o_tryR {α β : Type} (a : α) (k : α → Option (String ⊕ β)) : o_try (some (.inr a)) k = k a := rfl
theorem o_tryL {α β : Type} (E : String) (k : α → Option (String ⊕ β)) : o_try (some (.inl E)) k = some (.inl E) := rfl
theorem needLot_t {n k : Nat} (hn : n < 2147483648) (hk : k < n) : fX5_needLot (Int32.ofNat k) (Int32.ofNat n) = some (.inr ()) := by
  unfold fX5_needLot
  rw [if_neg (n_lt0 (by omega)), if_pos (n_nge hn hk)]
theorem needLot_f {n : Nat} {x : Int32} (hn : n < 2147483648) (h : x < 0 ∨ Int32.ofNat n ≤ x) : fX5_needLot x (Int32.ofNat n) = some (.inl "java/lang/IndexOutOfBoundsException") := by
  unfold fX5_needLot
  by_cases h1 : x < 0
  · rw [if_pos h1]
  · rw [if_neg h1, if_neg (n_out hn h h1)]
theorem needPage_t {n k : Nat} (hn : n < 2147483648) (hk : k < n) : fX5_needPage (Int32.ofNat k) (Int32.ofNat n) = some (.inr ()) := by
  unfold fX5_needPage
  rw [if_neg (n_lt0 (by omega)), if_pos (n_nge hn hk)]
theorem needPage_f {n : Nat} {x : Int32} (hn : n < 2147483648) (h : x < 0 ∨ Int32.ofNat n ≤ x) : fX5_needPage x (Int32.ofNat n) = some (.inl "java/lang/IndexOutOfBoundsException") := by
  unfold fX5_needPage
  by_cases h1 : x < 0
  · rw [if_pos h1]
  · rw [if_neg h1, if_neg (n_out hn h h1)]
section ZQ1
variable {H n m : Nat} {ln : Nat → Nat} {pr wa sl : Nat → Bool} {ac : Int32} {co es se d : Nat → Int32}
theorem m_noLot_t (hn : n ≤ 24) (h : MV H n m ln pr wa sl ac co es se d) {k : Nat} (hk : k < n) : fX6_noLot (Int32.ofNat k) 0 d = some (0, 0) := by
  have h1 : d (1 : Int32).toNatClampNeg = Int32.ofNat n := h.2.1
  unfold fX6_noLot
  rw [h1, inN_t (by omega) hk, n_bind, n_let, if_neg (by decide)]
  rfl
theorem m_noLot_f (hn : n ≤ 24) (h : MV H n m ln pr wa sl ac co es se d) {x : Int32} (hx : x < 0 ∨ Int32.ofNat n ≤ x) : fX6_noLot x 0 d = some (1, 1) := by
  have h1 : d (1 : Int32).toNatClampNeg = Int32.ofNat n := h.2.1
  unfold fX6_noLot
  rw [h1, inN_f (by omega) hx, n_bind, n_let, if_pos rfl]
  rfl
theorem m_noPage (hw : NW H n m ln pr wa) (h : MV H n m ln pr wa sl ac co es se d) (x : Int32) (no pg li st : Nat → Int32) (P : Int32) :
    ∃ a b c e f, MOK H ln pr n a b c e f ∧ fX6_noPage x 0 d no pg li st P = if x < 0 ∨ Int32.ofNat (zP H ln pr n) ≤ x then some (1, 1, a, b, c, e, f) else some (0, 0, a, b, c, e, f) := by
  obtain ⟨a, b, c, e, f, l1, l2⟩ := m_lay hw h no pg li st P
  refine ⟨a, b, c, e, f, l2, ?_⟩
  have hP := (zP_le H ln pr n).1
  have hn := hw.2.2.1
  have hf : f = Int32.ofNat (zP H ln pr n) := l2.2.2
  unfold fX6_noPage
  rw [l1, n_bind]
  show o_bind (fX6_in x 0 (f - 1)) _ = _
  rw [hf]
  rcases n_range (show zP H ln pr n < 2147483648 by omega) x with hx | ⟨k, hk, rfl⟩
  · rw [inN_f (by omega) hx, n_bind, n_let, if_pos rfl, if_pos hx]
    rfl
  · rw [inN_t (by omega) hk, n_bind, n_let, if_neg (by decide), if_neg (fun hh => by
      rcases hh with h | h
      · exact n_lt0 (by omega) h
      · have := (n_le (by omega) (by omega)).mp h; omega)]
    rfl
/-- printed lots have the numbers from 1 on -/
theorem zK_ct : ∀ k : Nat, zK H ln pr k = zct pr k
  | 0 => rfl
  | k + 1 => by
    have ih := zK_ct k
    show _ = zct pr k + (if pr k = true then 1 else 0)
    cases hp : pr k with
    | false =>
      obtain ⟨-, -, c⟩ := zlay_no (H := H) (ln := ln) hp
      rw [c, ih]; simp
    | true =>
      by_cases hc : zP H ln pr k = 0 ∨ H < zU H ln pr k + ln k
      · obtain ⟨-, -, c⟩ := zlay_new hp hc
        rw [c, ih]; simp
      · obtain ⟨-, -, c⟩ := zlay_go hp hc
        rw [c, ih]; simp
theorem m_sum (hn : n ≤ 24) (h : MV H n m ln pr wa sl ac co es se d) : fX6_sumOf 3 d = some (Int32.ofNat (zct pr n)) ∧ fX6_sumOf 4 d = some (Int32.ofNat (zct wa n)) ∧ fX6_sumOf 5 d = some (Int32.ofNat (zct sl n)) := by
  refine ⟨?_, ?_, ?_⟩
  · rw [show (3 : Int32) = Int32.ofNat 3 from rfl, e_sumOf hn (by omega) d h.2.1, zsum_ct pr n (fun i hi => (h.2.2.2.2.2 i hi).2.2.2.1)]
  · rw [show (4 : Int32) = Int32.ofNat 4 from rfl, e_sumOf hn (by omega) d h.2.1, zsum_ct wa n (fun i hi => (h.2.2.2.2.2 i hi).2.2.2.2.1)]
  · rw [show (5 : Int32) = Int32.ofNat 5 from rfl, e_sumOf hn (by omega) d h.2.1, zsum_ct sl n (fun i hi => (h.2.2.2.2.2 i hi).2.2.2.2.2)]
theorem c_wanted {w : Nat → Int32} (hn : n ≤ 24) (h : ∀ i, i < 24 → w i = zbi (wa i)) : fX0_wantedLots (Int32.ofNat n) w = some (Int32.ofNat (zct wa n)) ∧ fX0_slippedLots (Int32.ofNat n) w = some (Int32.ofNat (zct wa n)) := by
  have e : zsum (fun i => if w i = 0 then 0 else 1) 0 n = Int32.ofNat (zct wa n) := zsum_ct wa n (fun i hi => by
    rw [h i (by omega)]
    cases wa i <;> rfl)
  exact ⟨by rw [e_wantedLots hn, e], by rw [e_slippedLots hn, e]⟩
theorem c_wantedEst {w : Nat → Int32} (hn : n ≤ 24) (hb : ∀ i, i < 24 → w i = zbi (wa i)) (h : MV H n m ln pr wa sl ac co es se d) : fX0_wantedEstimates (Int32.ofNat n) es w = some (zsum (fun i => zbi (wa i) * es i) 0 n) ∧ fX6_wantedEstimates d = some (zsum (fun i => zbi (wa i) * es i) 0 n) := by
  refine ⟨?_, ?_⟩
  · rw [e_wantedEstimates hn]
    exact congrArg some (zsum_congr n 0 (fun i _ hi => by rw [hb i (by omega), zwe]))
  · rw [e_mWantedEstimates hn d h.2.1]
    exact congrArg some (zsum_congr n 0 (fun i _ hi => by
      obtain ⟨-, d1, -, -, d4, -⟩ := h.2.2.2.2.2 i (by omega)
      rw [d1, d4]))
end ZQ1
