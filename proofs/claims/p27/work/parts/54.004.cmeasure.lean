/-! ===== the class's measuring of a choice ===== -/
theorem o_bo_of {g : Nat → Bool} {f : Nat → Int32} (h : ∀ i, i < 24 → f i = zbi (g i)) : o_bo 24 f := by
  unfold o_bo
  rw [List.all_eq_true]
  intro i hi
  rw [List.mem_range] at hi
  rw [h i hi]
  cases g i <;> decide
theorem vp_narB (b : Bool) : vp_nar .boolean (zbi b) = zbi b := by cases b <;> rfl
/-! a row of booleans copied place by place -/
theorem o_bo_nar {n : Nat} {f : Nat → Int32} (h : o_bo n f) {i : Nat} (hi : i < n) : vp_nar .boolean (f i) = f i := by
  have h1 := List.all_eq_true.mp h i (List.mem_range.mpr hi)
  simp only [Bool.or_eq_true, beq_iff_eq] at h1
  rcases h1 with h1 | h1 <;> rw [h1] <;> rfl
def zgcp (o : Nat → Int32) (k : Nat) (q : Nat → Int32) : Nat → Int32 := upd q k (o k)
theorem zgcp_step (o b : Nat → Int32) (k : Nat) : zgcp o k (va_cpy o b 0 0 k) = va_cpy o b 0 0 (k + 1) := by
  funext i
  unfold zgcp upd va_cpy
  by_cases e : i = k
  · subst e
    rw [if_pos rfl, if_pos ⟨Nat.zero_le _, by omega⟩, Nat.zero_add, Nat.sub_zero]
  · rw [if_neg e]
    by_cases h : i < k
    · rw [if_pos ⟨Nat.zero_le _, by omega⟩, if_pos ⟨Nat.zero_le _, by omega⟩]
    · rw [if_neg (by omega), if_neg (by omega)]
theorem zgcp_0 (o b : Nat → Int32) : va_cpy o b 0 0 0 = b := by
  funext i
  unfold va_cpy
  rw [if_neg (by omega)]
theorem zgcp_end (o b : Nat → Int32) (n : Nat) : zfold (zgcp o) 0 n b = va_cpy o b 0 0 n :=
  zfold_inv (fun k q => q = va_cpy o b 0 0 k) n (fun k q _ hq => by rw [hq]; exact zgcp_step o b k) n 0 b (Nat.zero_add n) (zgcp_0 o b).symm
theorem c_L3 (p : Nat → Int32) (hp : o_bo 24 p) (j : (Nat → Int32) → Option ((Nat → Int32) × (Nat → Int32) × (Nat → Int32) × (Nat → Int32) × (Nat → Int32) × (Nat → Int32) × (Nat → Int32) × Int32 × Int32 × Int32 × (Nat → Int32) × (Nat → Int32))) (b : Nat → Int32) :
    fX1_measure_L3 j p 1024 0 b = j (va_cpy p b 0 0 24) := by
  rw [← zgcp_end]
  refine n_for0 (fun f k (q : Nat → Int32) => fX1_measure_L3 j p f (Int32.ofNat k) q) 24 (zgcp p) (fun q => j q) (fun f q => ?_) (fun f k q hk => ?_) _ 0 1024 b (by omega) (by omega)
  · show fX1_measure_L3 j p (f + 1) (Int32.ofNat 24) q = j q
    unfold fX1_measure_L3
    exact if_pos (Int32.le_refl _)
  · show fX1_measure_L3 j p (f + 1) (Int32.ofNat k) q = fX1_measure_L3 j p f (Int32.ofNat (k + 1)) (zgcp p k q)
    have h1 : ¬ (24 : Int32) ≤ Int32.ofNat k := fun h => by
      have := (n_le (a := 24) (by omega) (by omega)).mp h
      omega
    rw [fX1_measure_L3, if_neg h1, n_rd hk (by omega), n_rd hk (by omega), n_let, n_let, n_cl (by omega), o_bo_nar hp hk, n_s]
    rfl
section ZCM
variable {H n m : Nat} {ln : Nat → Nat} {pr wa sl : Nat → Bool} {hh cc rr ac dc : Int32} {co es se d li p w s lots : Nat → Int32}
def zg25 (lots w s : Nat → Int32) (x : Int32) (j : Nat) (q : (Nat → Int32) × (Nat → Int32)) : (Nat → Int32) × (Nat → Int32) :=
  if zbit x j = true then (q.1, upd q.2 (lots j).toNatClampNeg (vp_nar .boolean (w (lots j).toNatClampNeg))) else if s (lots j).toNatClampNeg = 0 then (upd q.1 5 (q.1 5 + 1), q.2) else q
theorem c_L25 (hw : NW H n m ln pr wa) (hb : BV H n m ln pr wa sl hh cc rr li p w s) (hc : CV n pr wa lots dc) (x : Int32) (j : (Nat → Int32) → (Nat → Int32) → Option ((Nat → Int32) × (Nat → Int32) × (Nat → Int32) × (Nat → Int32) × (Nat → Int32) × (Nat → Int32) × (Nat → Int32) × Int32 × Int32 × Int32 × (Nat → Int32) × (Nat → Int32))) (a b : Nat → Int32) :
    fX1_measure_L40 dc j lots x s w 1024 0 a b = j (zfold (zg25 lots w s x) 0 (zct (zdfb pr wa) n) (a, b)).1 (zfold (zg25 lots w s x) 0 (zct (zdfb pr wa) n) (a, b)).2 := by
  obtain ⟨c1, c2⟩ := hc
  obtain ⟨w1, w2, w3, w4, w5, w6, w7⟩ := hw
  subst c1
  refine n_for0 (fun f k (q : (Nat → Int32) × (Nat → Int32)) => fX1_measure_L40 (Int32.ofNat (zct (zdfb pr wa) n)) j lots x s w f (Int32.ofNat k) q.1 q.2) (zct (zdfb pr wa) n) (zg25 lots w s x) (fun q => j q.1 q.2) (fun f q => by simp only [fX1_measure_L40, Int32.le_refl, if_true]) (fun f k q hk => ?_) _ 0 1024 (a, b) (by omega) (by omega)
  obtain ⟨i, i1, i2, i3⟩ := zct_find n hk
  have hl := c2 i i1 i2
  rw [i3] at hl
  unfold zg25
  by_cases hz : ((x >>> (Int32.ofNat k &&& 31)) &&& 1 = 1)
  · rw [if_pos (show zbit x k = true from decide_eq_true hz)]
    simp (disch := omega) only [fX1_measure_L40, fX1_holds, n_le, n_rd, n_cl, n_let, n_bind, n_s, n10, hz, hl, show ¬ zct (zdfb pr wa) n ≤ k from by omega, if_true, if_false]
  · rw [if_neg (show ¬ zbit x k = true from by unfold zbit; simpa using hz)]
    by_cases hs : s i = 0
    · simp (disch := omega) only [fX1_measure_L40, fX1_holds, n_le, n_rd, n_cl, n_let, n_bind, n_s, n10, hz, hl, hs, show ¬ zct (zdfb pr wa) n ≤ k from by omega, if_true, if_false]
      rfl
    · simp (disch := omega) only [fX1_measure_L40, fX1_holds, n_le, n_rd, n_cl, n_let, n_bind, n_s, n10, hz, hl, hs, show ¬ zct (zdfb pr wa) n ≤ k from by omega, if_true, if_false]
theorem zg25_end (hw : NW H n m ln pr wa) (hb : BV H n m ln pr wa sl hh cc rr li p w s) (hc : CV n pr wa lots dc) (x : Int32) (a b : Nat → Int32) (h5 : a 5 = 0) (hb0 : ∀ i, i < 24 → b i = zbi (pr i)) :
    (zfold (zg25 lots w s x) 0 (zct (zdfb pr wa) n) (a, b)).1 5 = Int32.ofNat (zent pr wa sl x n) ∧ (∀ i, i < n → (zfold (zg25 lots w s x) 0 (zct (zdfb pr wa) n) (a, b)).2 i = zbi (zprB pr wa x i)) := by
  obtain ⟨c1, c2⟩ := hc
  obtain ⟨w1, w2, w3, w4, w5, w6, w7⟩ := hw
  obtain ⟨b1, b2, b3, b4, b5, b6, b7⟩ := hb
  rw [zfold_ct]
  have key := zfold_inv (g := fun i q => if zdfb pr wa i = true then zg25 lots w s x (zct (zdfb pr wa) i) q else q) (fun k q => q.1 5 = Int32.ofNat (zent pr wa sl x k) ∧ (∀ i, i < k → q.2 i = zbi (zprB pr wa x i)) ∧ (∀ i, k ≤ i → i < 24 → q.2 i = zbi (pr i))) n (fun k q hk hq => by
    obtain ⟨q1, q2, q3⟩ := hq
    have e4 : Int32.ofNat (zent pr wa sl x (k + 1)) = Int32.ofNat (zent pr wa sl x k) + (if (zdfb pr wa k && !zbit x (zct (zdfb pr wa) k) && !sl k) = true then 1 else 0) := by
      show Int32.ofNat (zent pr wa sl x k + (if (zdfb pr wa k && !zbit x (zct (zdfb pr wa) k) && !sl k) = true then 1 else 0)) = _
      rw [Int32.ofNat_add]
      split <;> rfl
    rw [e4]
    show (if zdfb pr wa k = true then zg25 lots w s x (zct (zdfb pr wa) k) q else q).1 5 = _ ∧ _
    have pk := q3 k (Nat.le_refl _) (by omega)
    cases c1' : zdfb pr wa k
    · rw [if_neg (by simp)]
      refine ⟨by rw [q1]; simp, fun i hi => ?_, fun i h1 h2 => ?_⟩
      · by_cases e : i = k
        · subst e; rw [pk]; unfold zprB zcho; rw [c1']; rfl
        · exact q2 i (by omega)
      · exact q3 i (by omega) h2
    · have hl := c2 k hk c1'
      simp only [if_true]
      unfold zg25
      rw [hl, n_cl (by omega), b6 k (by omega), b7 k (by omega), vp_narB]
      cases c2' : zbit x (zct (zdfb pr wa) k)
      · simp only [Bool.false_eq_true, if_false, zbi_0, Bool.true_and, Bool.not_false]
        have g2 : ∀ i, i < k + 1 → q.2 i = zbi (zprB pr wa x i) := fun i hi => by
          by_cases e : i = k
          · subst e; rw [pk]; unfold zprB zcho; rw [c1', c2']; rfl
          · exact q2 i (by omega)
        have g3 : ∀ i, k + 1 ≤ i → i < 24 → q.2 i = zbi (pr i) := fun i h1 h2 => q3 i (by omega) h2
        cases c3' : sl k
        · simp only [if_true, Bool.not_false]
          exact ⟨upd_same.trans (by rw [q1]), g2, g3⟩
        · simp only [Bool.true_eq_false, if_false, Bool.not_true, Bool.false_eq_true]
          exact ⟨q1.trans (Int32.add_zero _).symm, g2, g3⟩
      · simp only [if_true, Bool.not_true, Bool.and_false, Bool.false_and, Bool.false_eq_true, if_false]
        refine ⟨q1.trans (Int32.add_zero _).symm, fun i hi => ?_, fun i h1 h2 => ?_⟩
        · by_cases e : i = k
          · subst e; refine upd_same.trans ?_; unfold zprB zcho; rw [c1', c2']; rfl
          · exact (upd_ne e).trans (q2 i (by omega))
        · exact (upd_ne (by omega)).trans (q3 i (by omega) h2)) n 0 (a, b) (by omega) ⟨h5, fun i hi => absurd hi (Nat.not_lt_zero _), fun i _ h => hb0 i h⟩
  exact ⟨key.1, key.2.1⟩
end ZCM
