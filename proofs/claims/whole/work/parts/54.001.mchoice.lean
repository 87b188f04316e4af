/-! ===== the model's measuring of a choice ===== -/
theorem zbT : zbi true = 1 := rfl
theorem zbF : zbi false = 0 := rfl
theorem n10 : ((1 : Int32) = 0) = False := by decide
section ZMC
variable {H n m : Nat} {ln : Nat → Nat} {pr wa sl : Nat → Bool} {ac : Int32} {co es se d : Nat → Int32}
theorem zdf_ct (hn : n ≤ 24) (h : MV H n m ln pr wa sl ac co es se d) : ∀ k, k ≤ n → zsum (zdf d) 0 k = Int32.ofNat (zct (zdfb pr wa) k) := fun k hk => zsum_ct (zdfb pr wa) k (fun i hi => by
  obtain ⟨-, -, -, -, -, h6⟩ := h
  obtain ⟨-, -, -, h3, h4, -⟩ := h6 i (by omega)
  unfold zdf zdfb
  rw [h3, h4]
  cases pr i <;> cases wa i <;> simp [zbi])
theorem m_differs (hn : n ≤ 24) (h : MV H n m ln pr wa sl ac co es se d) {k : Nat} (hk : k < n) : fX6_differs (Int32.ofNat k) d = some (zbi (zdfb pr wa k)) := by
  obtain ⟨-, -, -, -, -, h6⟩ := h
  obtain ⟨-, -, -, h3, h4, -⟩ := h6 k hk
  rw [e_differs (by omega), h3, h4]
  unfold zdfb zbi
  cases pr k <;> cases wa k <;> simp
theorem m_different (hn : n ≤ 24) (h : MV H n m ln pr wa sl ac co es se d) : fX6_different d = some (Int32.ofNat (zct (zdfb pr wa) n)) := by
  rw [e_mDifferent hn d h.2.1, zdf_ct hn h n (Nat.le_refl _)]
theorem m_placeOf (hn : n ≤ 24) (h : MV H n m ln pr wa sl ac co es se d) {k : Nat} (hk : k < n) : fX6_placeOf (Int32.ofNat k) d = some (Int32.ofNat (zct (zdfb pr wa) k)) := by
  rw [e_mPlaceOf (by omega) d, zdf_ct hn h k (by omega)]
theorem m_isChosen (hn : n ≤ 24) (h : MV H n m ln pr wa sl ac co es se d) (x : Int32) {k : Nat} (hk : k < n) : fX6_isChosen x (Int32.ofNat k) d = some (zbi (zcho pr wa x k)) := by
  unfold fX6_isChosen
  rw [m_differs hn h hk, n_bind, m_placeOf hn h hk, n_bind]
  unfold zcho zbit
  cases hz : zdfb pr wa k
  · rfl
  · rw [if_neg (by decide)]
    by_cases hb : (x >>> (Int32.ofNat (zct (zdfb pr wa) k) &&& 31)) &&& 1 = 1
    · rw [if_pos hb]; simp [hb, zbi]
    · rw [if_neg hb]; simp [hb, zbi]
theorem m_entries (hn : n ≤ 24) (h : MV H n m ln pr wa sl ac co es se d) (x : Int32) : fX6_entries x d = some (Int32.ofNat (zent pr wa sl x n)) := by
  have h1' : d (1 : Int32).toNatClampNeg = Int32.ofNat n := h.2.1
  unfold fX6_entries
  have key := n_inv (fun f k s => fX6_entries_L4 d x f s (Int32.ofNat k)) n some (fun k s => s = Int32.ofNat (zent pr wa sl x k)) (fun f s hs => by simp only [fX6_entries_L4, h1', Int32.le_refl, if_true]) (fun f k s hk hs => by
    refine ⟨Int32.ofNat (zent pr wa sl x (k + 1)), rfl, ?_⟩
    have e1 := m_differs hn h hk
    have e2 := m_isChosen hn h x hk
    have e3 := (h.2.2.2.2.2 k hk).2.2.2.2.2
    have e4 : Int32.ofNat (zent pr wa sl x (k + 1)) = s + (if (zdfb pr wa k && !zbit x (zct (zdfb pr wa) k) && !sl k) = true then 1 else 0) := by
      rw [hs]
      show Int32.ofNat (zent pr wa sl x k + (if (zdfb pr wa k && !zbit x (zct (zdfb pr wa) k) && !sl k) = true then 1 else 0)) = _
      rw [Int32.ofNat_add]
      split <;> rfl
    rw [e4]
    unfold zcho at e2
    cases c1 : zdfb pr wa k <;> cases c2 : zbit x (zct (zdfb pr wa) k) <;> cases c3 : sl k <;> rw [c1] at e1 <;> rw [c1, c2] at e2 <;> rw [c3] at e3 <;> simp (disch := omega) only [fX6_entries_L4, h1', n_le, e1, e2, e3, zbT, zbF, n10, n_bind, n_let, n_s, show ¬ n ≤ k from by omega, e_of5, Bool.not_true, Bool.not_false, Bool.and_true, Bool.and_false, Bool.false_and, Bool.true_and, Bool.false_eq_true, if_true, if_false])
    n 0 1024 0 (by omega) (by omega) rfl
  obtain ⟨s, hs1, hs2⟩ := key
  rw [hs1] at hs2
  exact hs2
end ZMC
