/-! ===== a choice carried out ===== -/
def zslC (pr wa sl : Nat → Bool) (x : Int32) (i : Nat) : Bool := if zdfb pr wa i = true then !zbit x (zct (zdfb pr wa) i) else sl i
section ZCA
variable {H n m : Nat} {ln : Nat → Nat} {pr wa sl : Nat → Bool} {hh cc rr ac dc : Int32} {co es se d li p w s lots : Nat → Int32}
def zg39 (lots w : Nat → Int32) (x : Int32) (j : Nat) (q : (Nat → Int32) × (Nat → Int32)) : (Nat → Int32) × (Nat → Int32) :=
  if zbit x j = true then (upd q.1 (lots j).toNatClampNeg (vp_nar .boolean (w (lots j).toNatClampNeg)), upd q.2 (lots j).toNatClampNeg (vp_nar .boolean 0)) else (q.1, upd q.2 (lots j).toNatClampNeg (vp_nar .boolean 1))
theorem c_L39 (hw : NW H n m ln pr wa) (hc : CV n pr wa lots dc) (x : Int32) (j : (Nat → Int32) → (Nat → Int32) → Option (Int32 × Int32 × (Nat → Int32) × (Nat → Int32) × (Nat → Int32 × Int32 × Int32 × Int32 × (Nat → Int32) × (Nat → Int32) × (Nat → Int32) × (Nat → Int32) × (Nat → Int32) × (Nat → Int32) × (Nat → Int32)) × Int32 × Int32 × (Nat → Int32) × (Nat → Int32) × (Nat → Int32) × (Nat → Int32) × (Nat → Int32) × (Nat → Int32) × Int32 × Int32 × Int32 × (Nat → Int32) × (Nat → Int32) × Int32 × (Nat → Int32) × (Nat → Int32) × (Nat → Int32) × (Nat → Int32) × (Nat → Int32) × (Nat → Int32) × Int32 × Int32 × Int32 × (Nat → Int32) × (Nat → Int32) × Int32)) (a b : Nat → Int32) :
    fX5_carryOut_L39 dc j x lots w 1024 0 a b = j (zfold (zg39 lots w x) 0 (zct (zdfb pr wa) n) (a, b)).1 (zfold (zg39 lots w x) 0 (zct (zdfb pr wa) n) (a, b)).2 := by
  obtain ⟨c1, c2⟩ := hc
  obtain ⟨w1, w2, w3, w4, w5, w6, w7⟩ := hw
  subst c1
  refine n_for0 (fun f k (q : (Nat → Int32) × (Nat → Int32)) => fX5_carryOut_L39 (Int32.ofNat (zct (zdfb pr wa) n)) j x lots w f (Int32.ofNat k) q.1 q.2) (zct (zdfb pr wa) n) (zg39 lots w x) (fun q => j q.1 q.2) (fun f q => by simp only [fX5_carryOut_L39, Int32.le_refl, if_true]) (fun f k q hk => ?_) _ 0 1024 (a, b) (by omega) (by omega)
  obtain ⟨i, i1, i2, i3⟩ := zct_find n hk
  have hl := c2 i i1 i2
  rw [i3] at hl
  unfold zg39
  by_cases hz : ((x >>> (Int32.ofNat k &&& 31)) &&& 1 = 1)
  · rw [if_pos (show zbit x k = true from decide_eq_true hz)]
    simp (disch := omega) only [fX5_carryOut_L39, fX1_holds, fX0_setAnew, n_le, n_rd, n_cl, n_let, n_bind, n_s, n10, hz, hl, show ¬ zct (zdfb pr wa) n ≤ k from by omega, if_true, if_false]
  · rw [if_neg (show ¬ zbit x k = true from by unfold zbit; simpa using hz)]
    simp (disch := omega) only [fX5_carryOut_L39, fX1_holds, n_le, n_rd, n_cl, n_let, n_bind, n_s, n10, hz, hl, show ¬ zct (zdfb pr wa) n ≤ k from by omega, if_true, if_false]
theorem zg39_end (hw : NW H n m ln pr wa) (hb : BV H n m ln pr wa sl hh cc rr li p w s) (hc : CV n pr wa lots dc) (x : Int32) :
    (∀ i, i < 24 → (zfold (zg39 lots w x) 0 (zct (zdfb pr wa) n) (p, s)).1 i = zbi (if i < n then zprB pr wa x i else pr i)) ∧ (∀ i, i < 24 → (zfold (zg39 lots w x) 0 (zct (zdfb pr wa) n) (p, s)).2 i = zbi (if i < n then zslC pr wa sl x i else sl i)) := by
  obtain ⟨c1, c2⟩ := hc
  obtain ⟨w1, w2, w3, w4, w5, w6, w7⟩ := hw
  obtain ⟨b1, b2, b3, b4, b5, b6, b7⟩ := hb
  rw [zfold_ct]
  refine zfold_inv (g := fun i q => if zdfb pr wa i = true then zg39 lots w x (zct (zdfb pr wa) i) q else q) (fun k q => (∀ i, i < 24 → q.1 i = zbi (if i < k then zprB pr wa x i else pr i)) ∧ (∀ i, i < 24 → q.2 i = zbi (if i < k then zslC pr wa sl x i else sl i))) n (fun k q hk hq => ?_) n 0 (p, s) (by omega) ⟨fun i hi => by rw [if_neg (Nat.not_lt_zero _)]; exact b5 i hi, fun i hi => by rw [if_neg (Nat.not_lt_zero _)]; exact b7 i hi⟩
  obtain ⟨q1, q2⟩ := hq
  show (∀ i, i < 24 → (if zdfb pr wa k = true then zg39 lots w x (zct (zdfb pr wa) k) q else q).1 i = _) ∧ (∀ i, i < 24 → (if zdfb pr wa k = true then zg39 lots w x (zct (zdfb pr wa) k) q else q).2 i = _)
  have ne : ∀ i, i ≠ k → ((i < k + 1) ↔ (i < k)) := fun i hi => by omega
  cases c1' : zdfb pr wa k
  · refine ⟨fun i hi => ?_, fun i hi => ?_⟩
    · rw [if_neg (show ¬ false = true by simp), q1 i hi]
      by_cases e : i = k
      · subst e; rw [if_neg (by omega), if_pos (by omega)]; unfold zprB zcho; rw [c1']; rfl
      · simp only [ne i e]
    · rw [if_neg (show ¬ false = true by simp), q2 i hi]
      by_cases e : i = k
      · subst e; rw [if_neg (by omega), if_pos (by omega)]; unfold zslC; rw [c1']; rfl
      · simp only [ne i e]
  · have hl := c2 k hk c1'
    simp only [if_true]
    unfold zg39
    have e0 : vp_nar .boolean (0 : Int32) = zbi false := vp_narB false
    have e1 : vp_nar .boolean (1 : Int32) = zbi true := vp_narB true
    rw [hl, n_cl (by omega), b6 k (by omega), vp_narB, e0, e1]
    cases c2' : zbit x (zct (zdfb pr wa) k)
    · refine ⟨fun i hi => ?_, fun i hi => ?_⟩
      · refine (q1 i hi).trans ?_
        by_cases e : i = k
        · subst e; rw [if_neg (by omega), if_pos (by omega)]; unfold zprB zcho; rw [c1', c2']; rfl
        · simp only [ne i e]
      · by_cases e : i = k
        · subst e; refine upd_same.trans ?_; rw [if_pos (by omega)]; unfold zslC; rw [c1', c2']; rfl
        · refine (upd_ne e).trans ((q2 i hi).trans ?_)
          simp only [ne i e]
    · refine ⟨fun i hi => ?_, fun i hi => ?_⟩
      · by_cases e : i = k
        · subst e; refine upd_same.trans ?_; rw [if_pos (by omega)]; unfold zprB zcho; rw [c1', c2']; rfl
        · refine (upd_ne e).trans ((q1 i hi).trans ?_)
          simp only [ne i e]
      · by_cases e : i = k
        · subst e; refine upd_same.trans ?_; rw [if_pos (by omega)]; unfold zslC; rw [c1', c2']; rfl
        · refine (upd_ne e).trans ((q2 i hi).trans ?_)
          simp only [ne i e]
end ZCA
