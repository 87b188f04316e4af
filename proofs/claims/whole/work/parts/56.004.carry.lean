/-! ===== a choice carried out ===== -/
def zslC (pr wa sl : Nat → Bool) (x : Int32) (i : Nat) : Bool := if zdfb pr wa i = true then !zbit x (zct (zdfb pr wa) i) else sl i
section ZCA
variable {H n m : Nat} {ln : Nat → Nat} {pr wa sl : Nat → Bool} {hh cc rr ac dc : Int32} {co es se d li p w s lots : Nat → Int32}
def zg39 (lots w : Nat → Int32) (x : Int32) (j : Nat) (q : (Nat → Int32) × (Nat → Int32)) : (Nat → Int32) × (Nat → Int32) :=
  if zbit x j = true then (upd q.1 (lots j).toNatClampNeg (vp_nar .boolean (w (lots j).toNatClampNeg)), upd q.2 (lots j).toNatClampNeg (vp_nar .boolean 0)) else (q.1, upd q.2 (lots j).toNatClampNeg (vp_nar .boolean 1))
theorem c_L39 (hw : NW H n m ln pr wa) (hc : CV n pr wa lots dc) (x : Int32) (j : (Nat → Int32) → (Nat → Int32) → Option (Int32 × Int32 × (Nat → Int32) × (Nat → Int32) × (Nat → Int32 × Int32 × Int32 × Int32 × (Nat → Int32) × (Nat → Int32) × (Nat → Int32) × (Nat → Int32) × (Nat → Int32) × (Nat → Int32) × (Nat → Int32)) × Int32 × Int32 × (Nat → Int32) × (Nat → Int32) × (Nat → Int32) × (Nat → Int32) × (Nat → Int32) × (Nat → Int32) × Int32 × Int32 × Int32 × (Nat → Int32) × (Nat → Int32) × Int32 × (Nat → Int32) × (Nat → Int32) × (Nat → Int32) × (Nat → Int32) × (Nat → Int32) × (Nat → Int32) × Int32 × Int32 × Int32 × (Nat → Int32) × (Nat → Int32) × Int32)) (a b : Nat → Int32) :
    fX5_carryOut_L39 dc j x lots w 1024 0 a b = j (zfold (zg39 lots w x) 0 (zct (zdfb pr wa) n) (a, b)).1 (zfold (zg39 lots w x) 0 (zct (zdfb pr wa) n) (a, b)).2 := by
  obtain ⟨c1, c2⟩ := hc
  obtain ⟨w1, w2, w3, w4, w5, w6, w7⟩ := hw
  subst c1
  refine n_for0 (fun f k (q : (Nat → Int32) × (Nat → Int32)) => fX5_carryOut_L39 (Int32.ofNat (zct (zdfb pr wa) n)) j x lots w f (Int32.ofNat k) q.1 q.2) (zct (zdfb pr wa) n) (zg39 lots w x) (fun q => j q.1 q.2) (fun f q => by simp only [fX5_carryOut_L39, Int32.le_refl, if_true]) (fun f k q hk => ?_) _ 0 1024 (a, b) (by omega) (by omega)
  obtain ⟨i, i1, i2, i3⟩ := zct_find n hk
  have hl := c2 i i1 i2
  rw [i3] at hl
  unfold zg39
  by_cases hz : ((x >>> (Int32.ofNat k &&& 31)) &&& 1 = 1)
  · rw [if_pos (show zbit x k = true from decide_eq_true hz)]
    simp (disch := omega) only [fX5_carryOut_L39, fX1_holds, fX0_setAnew, n_le, n_rd, n_cl, n_let, n_bind, n_s, n10, hz, hl, show ¬ zct (zdfb pr wa) n ≤ k from by omega, if_true, if_false]
  · rw [if_neg (show ¬ zbit x k = true from by unfold zbit; simpa using hz)]
    simp (disch := omega) only [fX5_carryOut_L39, fX1_holds, n_le, n_rd, n_cl, n_let, n_bind, n_s, n10, hz, hl, show ¬ zct (zdfb pr wa) n ≤ k from by omega, if_true, if_false]
theorem zg39_end (hw : NW H n m ln pr wa) (hb : BV H n m ln pr wa sl hh cc rr li p w s) (hc : CV n pr wa lots dc) (x : Int32) :
    (∀ i, i < 24 → (zfold (zg39 lots w x) 0 (zct (zdfb pr wa) n) (p, s)).1 i = zbi (if i < n then zprB pr wa x i else pr i)) ∧ (∀ i, i < 24 → (zfold (zg39 lots w x) 0 (zct (zdfb pr wa) n) (p, s)).2 i = zbi (if i < n then zslC pr wa sl x i else sl i)) := by
  obtain ⟨c1, c2⟩ := hc
  obtain ⟨w1, w2, w3, w4, w5, w6, w7⟩ := hw
  obtain ⟨b1, b2, b3, b4, b5, b6, b7⟩ := hb
  rw [zfold_ct]
  refine zfold_inv (g := fun i q => if zdfb pr wa i = true then zg39 lots w x (zct (zdfb pr wa) i) q else q) (fun k q => (∀ i, i < 24 → q.1 i = zbi (if i < k then zprB pr wa x i else pr i)) ∧ (∀ i, i < 24 → q.2 i = zbi (if i < k then zslC pr wa sl x i else sl i))) n (fun k q hk hq => ?_) n 0 (p, s) (by omega) ⟨fun i hi => by rw [if_neg (Nat.not_lt_zero _)]; exact b5 i hi, fun i hi => by rw [if_neg (Nat.not_lt_zero _)]; exact b7 i hi⟩
  obtain ⟨q1, q2⟩ := hq
  show (∀ i, i < 24 → (if zdfb pr wa k = true then zg39 lots w x (zct (zdfb pr wa) k) q else q).1 i = _) ∧ (∀ i, i < 24 → (if zdfb pr wa k = true then zg39 lots w x (zct (zdfb pr wa) k) q else q).2 i = _)
  have ne : ∀ i, i ≠ k → ((i < k + 1) ↔ (i < k)) := fun i hi => by omega
  cases c1' : zdfb pr wa k
  · refine ⟨fun i hi => ?_, fun i hi => ?_⟩
    · rw [if_neg (show ¬ false = true by simp), q1 i hi]
      by_cases e : i = k
      · subst e; rw [if_neg (by omega), if_pos (by omega)]; unfold zprB zcho; rw [c1']; rfl
      · simp only [ne i e]
    · rw [if_neg (show ¬ false = true by simp), q2 i hi]
      by_cases e : i = k
      · subst e; rw [if_neg (by omega), if_pos (by omega)]; unfold zslC; rw [c1']; rfl
      · simp only [ne i e]
  · have hl := c2 k hk c1'
    simp only [if_true]
    unfold zg39
    have e0 : vp_nar .boolean (0 : Int32) = zbi false := vp_narB false
    have e1 : vp_nar .boolean (1 : Int32) = zbi true := vp_narB true
    rw [hl, n_cl (by omega), b6 k (by omega), vp_narB, e0, e1]
    cases c2' : zbit x (zct (zdfb pr wa) k)
    · refine ⟨fun i hi => ?_, fun i hi => ?_⟩
      · refine (q1 i hi).trans ?_
        by_cases e : i = k
        · subst e; rw [if_neg (by omega), if_pos (by omega)]; unfold zprB zcho; rw [c1', c2']; rfl
        · simp only [ne i e]
      · by_cases e : i = k
        · subst e; refine upd_same.trans ?_; rw [if_pos (by omega)]; unfold zslC; rw [c1', c2']; rfl
        · refine (upd_ne e).trans ((q2 i hi).trans ?_)
          simp only [ne i e]
    · refine ⟨fun i hi => ?_, fun i hi => ?_⟩
      · by_cases e : i = k
        · subst e; refine upd_same.trans ?_; rw [if_pos (by omega)]; unfold zprB zcho; rw [c1', c2']; rfl
        · refine (upd_ne e).trans ((q1 i hi).trans ?_)
          simp only [ne i e]
      · by_cases e : i = k
        · subst e; refine upd_same.trans ?_; rw [if_pos (by omega)]; unfold zslC; rw [c1', c2']; rfl
        · refine (upd_ne e).trans ((q2 i hi).trans ?_)
          simp only [ne i e]
theorem m_L11 (hn : n ≤ 24) (h : MV H n m ln pr wa sl ac co es se d) (x : Int32) (j : Int32 → Option (Int32 × (Nat → Int32) × (Nat → Int32) × (Nat → Int32) × (Nat → Int32) × (Nat → Int32) × Int32 × (Nat → Int32) × (Nat → Int32) × (Nat → Int32))) :
    fX6_carryNow_L11 d j x 1024 0 0 = j (zv68 pr wa x n) := by
  have h1' : d (1 : Int32).toNatClampNeg = Int32.ofNat n := h.2.1
  refine n_for0 (fun f k s => fX6_carryNow_L11 d j x f s (Int32.ofNat k)) n (fun k s => if zcho pr wa x k = true then s ||| ((1 : Int32) <<< (Int32.ofNat k &&& 31)) else s) j (fun f s => by simp only [fX6_carryNow_L11, h1', Int32.le_refl, if_true]) (fun f k s hk => ?_) n 0 1024 0 (by omega) (by omega)
  have e2 := m_isChosen hn h x hk
  cases c : zcho pr wa x k
  · rw [c] at e2
    simp (disch := omega) only [fX6_carryNow_L11, h1', n_le, e2, zbF, n_bind, n_let, n_s, show ¬ n ≤ k from by omega, if_true, if_false, Bool.false_eq_true, Int32.or_zero]
  · rw [c] at e2
    simp (disch := omega) only [fX6_carryNow_L11, h1', n_le, e2, zbT, n10, n_bind, n_let, n_s, show ¬ n ≤ k from by omega, if_true, if_false]
def zg52 (pr wa : Nat → Bool) (x : Int32) (k : Nat) (a : Nat → Int32) : Nat → Int32 := if zdfb pr wa k = true then (if zbit x (zct (zdfb pr wa) k) = true then upd (upd a (9 + 6 * k + 5) 0) (9 + 6 * k + 3) (zbi (wa k)) else upd a (9 + 6 * k + 5) 1) else a
def zP52 (pr wa sl : Nat → Bool) (x : Int32) (d : Nat → Int32) (k : Nat) (a : Nat → Int32) : Prop := (∀ i, i < k → a (9 + 6 * i + 3) = zbi (zprB pr wa x i) ∧ a (9 + 6 * i + 5) = zbi (zslC pr wa sl x i)) ∧ (∀ y, (∀ i, i < k → y ≠ 9 + 6 * i + 3 ∧ y ≠ 9 + 6 * i + 5) → a y = d y)
theorem zP52_step (h : MV H n m ln pr wa sl ac co es se d) (x : Int32) {k : Nat} {a : Nat → Int32} (hk : k < n) (hs : zP52 pr wa sl x d k a) : zP52 pr wa sl x d (k + 1) (zg52 pr wa x k a) := by
  obtain ⟨q2, q3⟩ := hs
  obtain ⟨-, -, -, p3, p4, p5⟩ := h.2.2.2.2.2 k hk
  have a3 : a (9 + 6 * k + 3) = zbi (pr k) := (q3 _ (fun i hi => by omega)).trans p3
  have a5 : a (9 + 6 * k + 5) = zbi (sl k) := (q3 _ (fun i hi => by omega)).trans p5
  unfold zg52
  cases c : zdfb pr wa k
  · rw [if_neg (by simp)]
    refine ⟨fun i hi => ?_, fun y hy => q3 y (fun i hi => hy i (by omega))⟩
    by_cases e : i = k
    · subst e
      exact ⟨a3.trans (by unfold zprB zcho; rw [c]; rfl), a5.trans (by unfold zslC; rw [c]; rfl)⟩
    · exact q2 i (by omega)
  · rw [if_pos rfl]
    cases c2 : zbit x (zct (zdfb pr wa) k)
    · rw [if_neg (by simp)]
      refine ⟨fun i hi => ?_, fun y hy => (upd_ne (hy k (by omega)).2).trans (q3 y (fun i hi => hy i (by omega)))⟩
      by_cases e : i = k
      · subst e
        exact ⟨(upd_ne (by omega)).trans (a3.trans (by unfold zprB zcho; rw [c, c2]; rfl)), upd_same.trans (by unfold zslC; rw [c, c2]; rfl)⟩
      · exact ⟨(upd_ne (by omega)).trans (q2 i (by omega)).1, (upd_ne (by omega)).trans (q2 i (by omega)).2⟩
    · rw [if_pos rfl]
      refine ⟨fun i hi => ?_, fun y hy => (upd_ne (hy k (by omega)).1).trans ((upd_ne (hy k (by omega)).2).trans (q3 y (fun i hi => hy i (by omega))))⟩
      by_cases e : i = k
      · subst e
        exact ⟨upd_same.trans (by unfold zprB zcho; rw [c, c2]; rfl), (upd_ne (by omega)).trans (upd_same.trans (by unfold zslC; rw [c, c2]; rfl))⟩
      · exact ⟨(upd_ne (by omega)).trans ((upd_ne (by omega)).trans (q2 i (by omega)).1), (upd_ne (by omega)).trans ((upd_ne (by omega)).trans (q2 i (by omega)).2)⟩
theorem m_L52 (hn : n ≤ 24) (h : MV H n m ln pr wa sl ac co es se d) (x v : Int32) (hv : ∀ i, i < n → zbit v i = zcho pr wa x i) (j : (Nat → Int32) → Option (Int32 × (Nat → Int32) × (Nat → Int32) × (Nat → Int32) × (Nat → Int32) × (Nat → Int32) × Int32 × (Nat → Int32) × (Nat → Int32) × (Nat → Int32))) :
    fX6_carryNow_L52 j v 1024 0 d = j (zfold (zg52 pr wa x) 0 n d) ∧ zP52 pr wa sl x d n (zfold (zg52 pr wa x) 0 n d) := by
  refine ⟨?_, zfold_inv (zP52 pr wa sl x d) n (fun k s hk hs => zP52_step h x hk hs) n 0 d (by omega) ⟨fun i hi => absurd hi (Nat.not_lt_zero _), fun y _ => rfl⟩⟩
  refine n_for (fun f k (a : Nat → Int32) => fX6_carryNow_L52 j v f (Int32.ofNat k) a) n (zg52 pr wa x) j (zP52 pr wa sl x d) (fun k s hk hs => zP52_step h x hk hs) (fun f a hs => by
      have h1' : a (1 : Int32).toNatClampNeg = Int32.ofNat n := (hs.2 1 (fun i _ => by omega)).trans h.2.1
      simp only [fX6_carryNow_L52, h1', Int32.le_refl, if_true]) (fun f k a hk hs => ?_) n 0 1024 d (by omega) (by omega) ⟨fun i hi => absurd hi (Nat.not_lt_zero _), fun y _ => rfl⟩
  obtain ⟨q2, q3⟩ := hs
  have h1' : a (1 : Int32).toNatClampNeg = Int32.ofNat n := (q3 1 (fun i _ => by omega)).trans h.2.1
  obtain ⟨-, -, -, p3, p4, -⟩ := h.2.2.2.2.2 k hk
  have a3 : a (9 + 6 * k + 3) = zbi (pr k) := (q3 _ (fun i hi => by omega)).trans p3
  have a4 : a (9 + 6 * k + 4) = zbi (wa k) := (q3 _ (fun i hi => by omega)).trans p4
  have hb := hv k hk
  have ed : fX6_differs (Int32.ofNat k) a = some (zbi (zdfb pr wa k)) := by
    rw [e_differs (by omega), a3, a4]
    unfold zdfb
    cases pr k <;> cases wa k <;> rfl
  have a4' : ∀ z : Int32, upd a (9 + 6 * k + 5) z (9 + 6 * k + 4) = zbi (wa k) := fun z => (upd_ne (by omega)).trans a4
  unfold zg52
  unfold zcho at hb
  cases c : zdfb pr wa k
  · rw [c] at ed
    simp (disch := omega) only [fX6_carryNow_L52, h1', n_le, n_bind, n_let, n_s, ed, zbF, show ¬ n ≤ k from by omega, if_true, if_false, Bool.false_eq_true]
  · rw [c] at ed hb
    cases c2 : zbit x (zct (zdfb pr wa) k)
    · rw [c2] at hb
      have hb' : ¬ ((v >>> (Int32.ofNat k &&& 31)) &&& 1 = 1) := of_decide_eq_false hb
      simp (disch := omega) only [fX6_carryNow_L52, h1', n_le, n_bind, n_let, n_s, ed, zbT, n10, hb', e_set5, show ¬ n ≤ k from by omega, if_true, if_false, Bool.false_eq_true]
    · rw [c2] at hb
      have hb' : ((v >>> (Int32.ofNat k &&& 31)) &&& 1 = 1) := of_decide_eq_true hb
      simp (disch := omega) only [fX6_carryNow_L52, h1', n_le, n_bind, n_let, n_s, ed, zbT, n10, hb', e_set5, e_set3, e_of4, a4', show ¬ n ≤ k from by omega, if_true, if_false, Bool.false_eq_true]
/-- the bill behind a choice -/
theorem carry_QB (hw : NW H n m ln pr wa) (hb : BV H n m ln pr wa sl hh cc rr li p w s) (hm : MV H n m ln pr wa sl ac co es se d) (x : Int32) {p' s' a : Nat → Int32} (hp : ∀ i, i < 24 → p' i = zbi (if i < n then zprB pr wa x i else pr i)) (hs : ∀ i, i < 24 → s' i = zbi (if i < n then zslC pr wa sl x i else sl i)) (ha : zP52 pr wa sl x d n a) (c : Int32) :
    QB (hh, cc, rr, ac + c, co, li, es, se, p', w, s') (upd a 2 (a 2 + c)) := by
  obtain ⟨w1, w2, w3, w4, w5, w6, w7⟩ := hw
  obtain ⟨b1, b2, b3, b4, b5, b6, b7⟩ := hb
  obtain ⟨m1, m2, m3, m4, m5, m6⟩ := hm
  obtain ⟨q1, q2⟩ := ha
  have a2 : a 2 = ac := (q2 2 (fun i _ => by omega)).trans m3
  refine ⟨H, n, m, ln, (fun i => if i < n then zprB pr wa x i else pr i), wa, (fun i => if i < n then zslC pr wa sl x i else sl i), ⟨w1, w2, w3, w4, w5, w6, ?_⟩, ⟨b1, b2, b3, b4, hp, b6, hs⟩, ⟨(upd_ne (by omega)).trans ((q2 0 (fun i _ => by omega)).trans m1), (upd_ne (by omega)).trans ((q2 1 (fun i _ => by omega)).trans m2), upd_same.trans (by rw [a2]), (upd_ne (by omega)).trans ((q2 3 (fun i _ => by omega)).trans m4), fun k hk => (upd_ne (by omega)).trans ((q2 _ (fun i _ => by omega)).trans (m5 k hk)), fun i hi => ?_⟩⟩
  · refine Nat.le_trans (zct_sub n (fun i hi h => ?_)) w7
    unfold zdfb at h ⊢
    simp only [if_pos hi] at h
    unfold zprB zcho at h
    cases hz : zdfb pr wa i
    · rw [hz] at h
      simp only [Bool.false_and, Bool.false_eq_true, if_false] at h
      exact h
    · exact hz
  · obtain ⟨d0, d1, d2, d3, d4, d5⟩ := m6 i hi
    refine ⟨(upd_ne (by omega)).trans ((q2 _ (fun i _ => by omega)).trans d0), (upd_ne (by omega)).trans ((q2 _ (fun i _ => by omega)).trans d1), (upd_ne (by omega)).trans ((q2 _ (fun i _ => by omega)).trans d2), ?_, (upd_ne (by omega)).trans ((q2 _ (fun i _ => by omega)).trans d4), ?_⟩
    · show _ = zbi (if i < n then zprB pr wa x i else pr i)
      rw [if_pos hi]; exact (upd_ne (by omega)).trans (q1 i hi).1
    · show _ = zbi (if i < n then zslC pr wa sl x i else sl i)
      rw [if_pos hi]; exact (upd_ne (by omega)).trans (q1 i hi).2
theorem m_carryNow (hw : NW H n m ln pr wa) (h : MV H n m ln pr wa sl ac co es se d) (x : Int32) (no pg li st : Nat → Int32) (P : Int32) (be told wp : Nat → Int32) :
    ∃ a b c e f g t w', fX6_carryNow x d no pg li st P be told wp = some (zcost H n m ln pr wa sl co x, upd (zfold (zg52 pr wa x) 0 n d) 2 (zfold (zg52 pr wa x) 0 n d 2 + zcost H n m ln pr wa sl co x), a, b, c, e, f, g, t, w') := by
  obtain ⟨a, b, c, e, f, g, t, w', h1⟩ := m_costsOf hw h x no pg li st P be told wp
  refine ⟨a, b, c, e, f, g, t, w', ?_⟩
  unfold fX6_carryNow
  rw [h1, n_bind]
  show o_let _ _ = _
  rw [n_let, m_L11 hw.2.2.1 h x, n_let, (m_L52 hw.2.2.1 h x _ (zv68_bit hw.2.2.1 x) _).1]
  rfl
end ZCA
