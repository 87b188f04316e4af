section ZMD
variable {H n m : Nat} {ln : Nat → Nat} {pr wa sl : Nat → Bool} {ac : Int32} {co es se d : Nat → Int32}
theorem m_L38 (hH : 0 < H) (hn : n ≤ 24) (hl : ∀ j, j < n → 1 ≤ ln j ∧ ln j ≤ 9 ∧ ln j ≤ H) {no pg li st : Nat → Int32} {P : Int32} (h : MOK H ln pr n no pg li st P) (j : (Nat → Int32) → Option ((Nat → Int32) × (Nat → Int32) × (Nat → Int32) × (Nat → Int32) × (Nat → Int32) × Int32 × (Nat → Int32) × (Nat → Int32) × (Nat → Int32))) (be : Nat → Int32) :
    fX6_layChoice_L38 j no st 1024 0 be = j (fun g => if 0 ≤ g ∧ g < 0 + 960 then Int32.ofNat (zs2 H ln pr n ((g - 0) / H) ((g - 0) % H)) - 1 else be g) := by
  refine (n_for0 (fun f i s => fX6_layChoice_L38 j no st f (Int32.ofNat i) s) 960 (fun i s => upd s (0 + i) (Int32.ofNat (zs2 H ln pr n (i / H) (i % H)) - 1)) j (fun f s => ?_) (fun f i s hi => ?_) 960 0 1024 be (by omega) (by omega)).trans (congrArg j (zfold_rng 0 (fun i => Int32.ofNat (zs2 H ln pr n (i / H) (i % H)) - 1) be 960))
  · simp only [fX6_layChoice_L38, show ((960 : Int32) ≤ Int32.ofNat 960) from by decide, if_true]
  · simp (disch := omega) only [fX6_layChoice_L38, show (960 : Int32) = Int32.ofNat 960 from rfl, n_le, n_rd, n_cl, n_let, n_bind, n_s, show ¬ 960 ≤ i from by omega, if_false, Nat.zero_add, e_signOf hH hn hl h hi]
def zv68 (pr wa : Nat → Bool) (x : Int32) (n : Nat) : Int32 := zfold (fun k s => if zcho pr wa x k = true then s ||| ((1 : Int32) <<< (Int32.ofNat k &&& 31)) else s) 0 n 0
theorem m_L68 (hn : n ≤ 24) (h : MV H n m ln pr wa sl ac co es se d) (x : Int32) (j : Int32 → Option ((Nat → Int32) × (Nat → Int32) × (Nat → Int32) × (Nat → Int32) × (Nat → Int32) × Int32 × (Nat → Int32) × (Nat → Int32) × (Nat → Int32))) :
    fX6_layChoice_L68 d j x 1024 0 0 = j (zv68 pr wa x n) := by
  have h1' : d (1 : Int32).toNatClampNeg = Int32.ofNat n := h.2.1
  refine n_for0 (fun f k s => fX6_layChoice_L68 d j x f s (Int32.ofNat k)) n (fun k s => if zcho pr wa x k = true then s ||| ((1 : Int32) <<< (Int32.ofNat k &&& 31)) else s) j (fun f s => by simp only [fX6_layChoice_L68, h1', Int32.le_refl, if_true]) (fun f k s hk => ?_) n 0 1024 0 (by omega) (by omega)
  have e2 := m_isChosen hn h x hk
  cases c : zcho pr wa x k
  · rw [c] at e2
    simp (disch := omega) only [fX6_layChoice_L68, h1', n_le, e2, zbF, n_bind, n_let, n_s, show ¬ n ≤ k from by omega, if_true, if_false, Bool.false_eq_true]
  · rw [c] at e2
    simp (disch := omega) only [fX6_layChoice_L68, h1', n_le, e2, zbT, n10, n_bind, n_let, n_s, show ¬ n ≤ k from by omega, if_true, if_false]
theorem zv68_bit (hn : n ≤ 24) (x : Int32) : ∀ i, i < n → zbit (zv68 pr wa x n) i = zcho pr wa x i := fun i hi => by
  have key := zfold_inv (g := fun k s => if zcho pr wa x k = true then s ||| ((1 : Int32) <<< (Int32.ofNat k &&& 31)) else s) (fun k s => ∀ i, i < 24 → zbit s i = (decide (i < k) && zcho pr wa x i)) n (fun k s hk hs i hi => by
    show zbit (if zcho pr wa x k = true then s ||| ((1 : Int32) <<< (Int32.ofNat k &&& 31)) else s) i = _
    cases c : zcho pr wa x k
    · rw [if_neg (by simp), hs i hi]
      by_cases e : i = k
      · subst e; rw [c]; simp
      · rw [show decide (i < k + 1) = decide (i < k) from decide_eq_decide.mpr (by omega)]
    · rw [if_pos rfl, n_or s hi (by omega), hs i hi]
      by_cases e : i = k
      · subst e; rw [c]; simp
      · rw [show decide (i < k + 1) = decide (i < k) from decide_eq_decide.mpr (by omega)]
        simp [e]) n 0 0 (by omega) (fun i hi => by rw [n_bit0 hi]; simp)
  exact (key i (by omega)).trans (by rw [decide_eq_true hi, Bool.true_and])
def zg107 (pr wa : Nat → Bool) (x : Int32) (k : Nat) (s : (Nat → Int32) × (Nat → Int32)) : (Nat → Int32) × (Nat → Int32) := (if zcho pr wa x k = true then upd s.1 (9 + 6 * k + 3) (zbi (wa k)) else s.1, upd s.2 k (zbi (pr k)))
def zP107 (pr wa : Nat → Bool) (x : Int32) (d : Nat → Int32) (k : Nat) (s : (Nat → Int32) × (Nat → Int32)) : Prop := (∀ i, i < k → s.2 i = zbi (pr i)) ∧ (∀ i, i < k → s.1 (9 + 6 * i + 3) = zbi (zprB pr wa x i)) ∧ (∀ y, (∀ i, i < k → y ≠ 9 + 6 * i + 3) → s.1 y = d y)
theorem zP107_step (h : MV H n m ln pr wa sl ac co es se d) (x : Int32) {k : Nat} {s : (Nat → Int32) × (Nat → Int32)} (hk : k < n) (hs : zP107 pr wa x d k s) : zP107 pr wa x d (k + 1) (zg107 pr wa x k s) := by
  obtain ⟨a, w⟩ := s
  obtain ⟨q1, q2, q3⟩ := hs
  have q1 : ∀ i, i < k → w i = zbi (pr i) := q1
  have q2 : ∀ i, i < k → a (9 + 6 * i + 3) = zbi (zprB pr wa x i) := q2
  have q3 : ∀ y, (∀ i, i < k → y ≠ 9 + 6 * i + 3) → a y = d y := q3
  obtain ⟨-, -, -, p3, p4, -⟩ := h.2.2.2.2.2 k hk
  have a3 : a (9 + 6 * k + 3) = zbi (pr k) := (q3 _ (fun i hi => by omega)).trans p3
  have w' : ∀ i, i < k + 1 → upd w k (zbi (pr k)) i = zbi (pr i) := fun i hi => by
    by_cases e : i = k
    · subst e; exact upd_same
    · rw [upd_ne e]; exact q1 i (by omega)
  unfold zg107
  cases c : zcho pr wa x k
  · refine ⟨w', fun i hi => ?_, fun y hy => q3 y (fun i hi => hy i (by omega))⟩
    by_cases e : i = k
    · subst e; refine a3.trans ?_; unfold zprB; rw [c]; rfl
    · exact q2 i (by omega)
  · refine ⟨w', fun i hi => ?_, fun y hy => ?_⟩
    · by_cases e : i = k
      · subst e; refine upd_same.trans ?_; unfold zprB; rw [c]; rfl
      · exact (upd_ne (by omega)).trans (q2 i (by omega))
    · exact (upd_ne (hy k (by omega))).trans (q3 y (fun i hi => hy i (by omega)))
theorem m_L107 (hn : n ≤ 24) (h : MV H n m ln pr wa sl ac co es se d) (x v : Int32) (hv : ∀ i, i < n → zbit v i = zcho pr wa x i) (j : (Nat → Int32) → (Nat → Int32) → Option ((Nat → Int32) × (Nat → Int32) × (Nat → Int32) × (Nat → Int32) × (Nat → Int32) × Int32 × (Nat → Int32) × (Nat → Int32) × (Nat → Int32))) (wp : Nat → Int32) :
    fX6_layChoice_L107 j v 1024 0 d wp = j (zfold (zg107 pr wa x) 0 n (d, wp)).1 (zfold (zg107 pr wa x) 0 n (d, wp)).2 := by
  refine n_for (fun f k (s : (Nat → Int32) × (Nat → Int32)) => fX6_layChoice_L107 j v f (Int32.ofNat k) s.1 s.2) n (zg107 pr wa x) (fun s => j s.1 s.2) (zP107 pr wa x d) (fun k s hk hs => zP107_step h x hk hs) (fun f s hs => by
      have h1' : s.1 (1 : Int32).toNatClampNeg = Int32.ofNat n := (hs.2.2 1 (fun i _ => by omega)).trans h.2.1
      simp only [fX6_layChoice_L107, h1', Int32.le_refl, if_true]) (fun f k s hk hs => ?_) n 0 1024 (d, wp) (by omega) (by omega) ⟨fun i hi => absurd hi (Nat.not_lt_zero _), fun i hi => absurd hi (Nat.not_lt_zero _), fun y _ => rfl⟩
  obtain ⟨a, w⟩ := s
  obtain ⟨q1, q2, q3⟩ := hs
  have q3 : ∀ y, (∀ i, i < k → y ≠ 9 + 6 * i + 3) → a y = d y := q3
  have h1' : a (1 : Int32).toNatClampNeg = Int32.ofNat n := (q3 1 (fun i _ => by omega)).trans h.2.1
  obtain ⟨-, -, -, p3, p4, -⟩ := h.2.2.2.2.2 k hk
  have a3 : a (9 + 6 * k + 3) = zbi (pr k) := (q3 _ (fun i hi => by omega)).trans p3
  have a4 : a (9 + 6 * k + 4) = zbi (wa k) := (q3 _ (fun i hi => by omega)).trans p4
  have hb := hv k hk
  unfold zg107
  cases c : zcho pr wa x k
  · rw [c] at hb
    have hb' : ¬ ((v >>> (Int32.ofNat k &&& 31)) &&& 1 = 1) := of_decide_eq_false hb
    simp (disch := omega) only [fX6_layChoice_L107, h1', n_le, n_rd, n_cl, e_of3, a3, hb', n_bind, n_let, n_s, show ¬ n ≤ k from by omega, if_false, Bool.false_eq_true]
  · rw [c] at hb
    have hb' : ((v >>> (Int32.ofNat k &&& 31)) &&& 1 = 1) := of_decide_eq_true hb
    simp (disch := omega) only [fX6_layChoice_L107, h1', n_le, n_rd, n_cl, e_of3, e_of4, e_set3, a3, a4, hb', n_bind, n_let, n_s, show ¬ n ≤ k from by omega, if_false, if_true]
theorem zP107_end (h : MV H n m ln pr wa sl ac co es se d) (x : Int32) (wp : Nat → Int32) : zP107 pr wa x d n (zfold (zg107 pr wa x) 0 n (d, wp)) :=
  zfold_inv (zP107 pr wa x d) n (fun k s hk hs => zP107_step h x hk hs) n 0 (d, wp) (by omega) ⟨fun i hi => absurd hi (Nat.not_lt_zero _), fun i hi => absurd hi (Nat.not_lt_zero _), fun y _ => rfl⟩
theorem m_L170 (hn : n ≤ 24) (h : MV H n m ln pr wa sl ac co es se d) (d1 w : Nat → Int32) (hw : ∀ i, i < n → w i = zbi (pr i)) (hd : ∀ y, (∀ i, i < n → y ≠ 9 + 6 * i + 3) → d1 y = d y) (j : (Nat → Int32) → Option ((Nat → Int32) × (Nat → Int32) × (Nat → Int32) × (Nat → Int32) × (Nat → Int32) × Int32 × (Nat → Int32) × (Nat → Int32) × (Nat → Int32))) :
    fX6_layChoice_L170 j w 1024 0 d1 = j d := by
  have key := n_inv (fun f k (s : Nat → Int32) => fX6_layChoice_L170 j w f (Int32.ofNat k) s) n j (fun k s => ∀ y, (∀ i, k ≤ i → i < n → y ≠ 9 + 6 * i + 3) → s y = d y) (fun f s hs => by
      have h1' : s (1 : Int32).toNatClampNeg = Int32.ofNat n := (hs 1 (fun i _ _ => by omega)).trans h.2.1
      simp only [fX6_layChoice_L170, h1', Int32.le_refl, if_true]) (fun f k s hk hs => by
    have h1' : s (1 : Int32).toNatClampNeg = Int32.ofNat n := (hs 1 (fun i _ _ => by omega)).trans h.2.1
    obtain ⟨-, -, -, p3, -⟩ := h.2.2.2.2.2 k hk
    refine ⟨upd s (9 + 6 * k + 3) (w k), fun y hy => ?_, ?_⟩
    · by_cases e : y = 9 + 6 * k + 3
      · subst e; rw [p3, ← hw k hk]; exact upd_same
      · refine (upd_ne e).trans (hs y (fun i h1 h2 => ?_))
        by_cases e2 : i = k
        · subst e2; exact e
        · exact hy i (by omega) h2
    · simp (disch := omega) only [fX6_layChoice_L170, h1', n_le, n_rd, n_cl, e_set3, n_bind, n_let, n_s, show ¬ n ≤ k from by omega, if_false])
    n 0 1024 d1 (by omega) (by omega) (fun y hy => hd y (fun i hi => hy i (Nat.zero_le _) hi))
  obtain ⟨s, hs, hs2⟩ := key
  have : s = d := funext (fun y => hs y (fun i h1 h2 => by omega))
  rw [this] at hs2
  exact hs2
end ZMD
