/-! ===== the best choice ===== -/
def zbp (cost : Nat → Int32) (c : Nat) : Option Nat → Option Nat
  | none => some c
  | some b => if cost c < cost b then some c else some b
def zbst (sel : Nat → Bool) (cost : Nat → Int32) : Nat → Option Nat
  | 0 => none
  | c + 1 => if sel c = true then zbp cost c (zbst sel cost c) else zbst sel cost c
theorem zbst_s {sel : Nat → Bool} {cost : Nat → Int32} {c : Nat} : zbst sel cost (c + 1) = if sel c = true then zbp cost c (zbst sel cost c) else zbst sel cost c := rfl
def zob : Option Nat → Int32
  | none => -1
  | some b => Int32.ofNat b
theorem zbst_lt {sel : Nat → Bool} {cost : Nat → Int32} : ∀ (N b : Nat), zbst sel cost N = some b → b < N
  | 0, _, h => by cases h
  | c + 1, b, h => by
    rw [zbst_s] at h
    split at h
    · cases hz : zbst sel cost c with
      | none => rw [hz] at h; unfold zbp at h; injection h with h; omega
      | some b' =>
        rw [hz] at h
        have := zbst_lt c b' hz
        unfold zbp at h
        simp only at h
        split at h <;> injection h with h <;> omega
    · have := zbst_lt c b h; omega
theorem zbst_some {sel : Nat → Bool} {cost : Nat → Int32} {c0 : Nat} (hs : sel c0 = true) : ∀ N : Nat, c0 < N → ∃ b, zbst sel cost N = some b
  | 0, h => absurd h (Nat.not_lt_zero _)
  | c + 1, h => by
    rw [zbst_s]
    by_cases e : sel c = true
    · rw [if_pos e]
      cases zbst sel cost c with
      | none => exact ⟨_, rfl⟩
      | some b' =>
        by_cases e2 : cost c < cost b'
        · exact ⟨c, if_pos e2⟩
        · exact ⟨b', if_neg e2⟩
    · rw [if_neg e]
      refine zbst_some hs c ?_
      by_cases e2 : c0 = c
      · subst e2; exact absurd hs e
      · omega
theorem zbst_congr {sel sel' : Nat → Bool} {cost : Nat → Int32} : ∀ N : Nat, (∀ c, c < N → sel c = sel' c) → zbst sel cost N = zbst sel' cost N
  | 0, _ => rfl
  | c + 1, h => by
    unfold zbst
    rw [h c (by omega), zbst_congr c (fun i hi => h i (by omega))]
theorem n_pow {D : Nat} (hD : D ≤ 8) : (1 : Int32) <<< (Int32.ofNat D &&& 31) = Int32.ofNat (2 ^ D) := by
  have : ∀ D : Fin 9, (1 : Int32) <<< (Int32.ofNat D.val &&& 31) = Int32.ofNat (2 ^ D.val) := by decide
  exact this ⟨D, by omega⟩
theorem n_pow2 {D : Nat} (hD : D ≤ 8) : 2 ^ D ≤ 256 ∧ 1 ≤ 2 ^ D := by
  have : ∀ D : Fin 9, 2 ^ D.val ≤ 256 ∧ 1 ≤ 2 ^ D.val := by decide
  exact this ⟨D, by omega⟩
section ZBM
variable {H n m : Nat} {ln : Nat → Nat} {pr wa sl : Nat → Bool} {ac : Int32} {co es se d : Nat → Int32}
theorem m_costsOf (hw : NW H n m ln pr wa) (h : MV H n m ln pr wa sl ac co es se d) (x : Int32) (no pg li st : Nat → Int32) (P : Int32) (be told wp : Nat → Int32) :
    ∃ a b c e f g t w, fX6_costsOf x d no pg li st P be told wp = some (zcost H n m ln pr wa sl co x, d, a, b, c, e, f, g, t, w) := by
  obtain ⟨a, b, c, e, f, g, t, w, h1, h2⟩ := m_layChoice hw h x no pg li st P be told wp
  refine ⟨a, b, c, e, f, g, t, w, ?_⟩
  unfold fX6_costsOf
  rw [h1, n_bind]
  show some (t 0, _) = _
  rw [h2 0 (by omega)]
  rfl
theorem m_bestOf (hw : NW H n m ln pr wa) (h : MV H n m ln pr wa sl ac co es se d) (p1 p2 : Int32) (no pg li st : Nat → Int32) (P : Int32) (be told wp : Nat → Int32) :
    ∃ a b c e f g t w, fX6_bestOf p1 p2 d no pg li st P be told wp = some (zob (zbst (fun c => decide (Int32.ofNat c &&& p1 = p1) && decide (Int32.ofNat c &&& p2 = 0)) (fun c => zcost H n m ln pr wa sl co (Int32.ofNat c)) (2 ^ zct (zdfb pr wa) n)), d, a, b, c, e, f, g, t, w) := by
  obtain ⟨w1, w2, w3, w4, w5, w6, w7⟩ := id hw
  obtain ⟨pw, pw1⟩ := n_pow2 w7
  have hdif := m_different w3 h
  have key := n_inv (fun f k (s : Int32 × Int32 × (Nat → Int32) × (Nat → Int32) × (Nat → Int32) × (Nat → Int32) × (Nat → Int32) × Int32 × (Nat → Int32) × (Nat → Int32) × (Nat → Int32)) => fX6_bestOf_L8 p1 p2 f s.1 s.2.1 (Int32.ofNat k) s.2.2.1 s.2.2.2.1 s.2.2.2.2.1 s.2.2.2.2.2.1 s.2.2.2.2.2.2.1 s.2.2.2.2.2.2.2.1 s.2.2.2.2.2.2.2.2.1 s.2.2.2.2.2.2.2.2.2.1 s.2.2.2.2.2.2.2.2.2.2) (2 ^ zct (zdfb pr wa) n) (fun s => some (s.1, s.2.2))
    (fun k s => s.1 = zob (zbst (fun c => decide (Int32.ofNat c &&& p1 = p1) && decide (Int32.ofNat c &&& p2 = 0)) (fun c => zcost H n m ln pr wa sl co (Int32.ofNat c)) k) ∧ (∀ b, zbst (fun c => decide (Int32.ofNat c &&& p1 = p1) && decide (Int32.ofNat c &&& p2 = 0)) (fun c => zcost H n m ln pr wa sl co (Int32.ofNat c)) k = some b → s.2.1 = zcost H n m ln pr wa sl co (Int32.ofNat b)) ∧ s.2.2.1 = d)
    (fun f s hs => by
      obtain ⟨x, y, a, q⟩ := s
      have e : a = d := hs.2.2
      subst e
      simp only [fX6_bestOf_L8, hdif, n_bind, n_pow w7, Int32.le_refl, if_true])
    (fun f k s hk hs => by
      obtain ⟨x, y, a, a5, a6, a7, a8, x9, a10, a11, a12⟩ := s
      obtain ⟨s1, s2, s3⟩ := hs
      have s1 : x = _ := s1
      have s2 : ∀ b, _ = some b → y = _ := s2
      have e : a = d := s3
      subst e
      obtain ⟨b1, b2, b3, b4, b5, b6, b7, b8, hc⟩ := m_costsOf hw h (Int32.ofNat k) a5 a6 a7 a8 x9 a10 a11 a12
      have hlt := fun b => zbst_lt (sel := fun c => decide (Int32.ofNat c &&& p1 = p1) && decide (Int32.ofNat c &&& p2 = 0)) (cost := fun c => zcost H n m ln pr wa sl co (Int32.ofNat c)) k b
      rw [zbst_s]
      generalize hz : zbst (fun c => decide (Int32.ofNat c &&& p1 = p1) && decide (Int32.ofNat c &&& p2 = 0)) (fun c => zcost H n m ln pr wa sl co (Int32.ofNat c)) k = z at *
      by_cases c1 : Int32.ofNat k &&& p1 = p1
      · by_cases c2 : Int32.ofNat k &&& p2 = 0
        · rw [if_pos (by simp [c1, c2])]
          cases z with
          | none =>
            have e1 : x = -1 := s1
            refine ⟨(Int32.ofNat k, zcost H n m ln pr wa sl co (Int32.ofNat k), a, b1, b2, b3, b4, b5, b6, b7, b8), ⟨rfl, fun b hb => ?_, rfl⟩, ?_⟩
            · injection hb with hb; rw [hb]
            · simp (disch := omega) only [fX6_bestOf_L8, hdif, n_bind, n_let, n_pow w7, n_le, n_s, c1, c2, hc, e1, show ¬ 2 ^ zct (zdfb pr wa) n ≤ k from by omega, if_true, if_false]
          | some b =>
            have e1 : x = Int32.ofNat b := s1
            have e2 : y = zcost H n m ln pr wa sl co (Int32.ofNat b) := s2 b rfl
            have e3 := hlt b rfl
            have e4 : ¬ (Int32.ofNat b = -1) := n_m1 (by omega)
            by_cases c3 : zcost H n m ln pr wa sl co (Int32.ofNat k) < zcost H n m ln pr wa sl co (Int32.ofNat b)
            · refine ⟨(Int32.ofNat k, zcost H n m ln pr wa sl co (Int32.ofNat k), a, b1, b2, b3, b4, b5, b6, b7, b8), ⟨by show _ = zob (if _ then _ else _); rw [if_pos c3]; rfl, fun b' hb => ?_, rfl⟩, ?_⟩
              · have hb : (if zcost H n m ln pr wa sl co (Int32.ofNat k) < zcost H n m ln pr wa sl co (Int32.ofNat b) then some k else some b) = some b' := hb
                rw [if_pos c3] at hb
                injection hb with hb; rw [hb]
              · simp (disch := omega) only [fX6_bestOf_L8, hdif, n_bind, n_let, n_pow w7, n_le, n_s, c1, c2, hc, e1, e2, e4, c3, show ¬ 2 ^ zct (zdfb pr wa) n ≤ k from by omega, if_true, if_false]
            · refine ⟨(Int32.ofNat b, zcost H n m ln pr wa sl co (Int32.ofNat b), a, b1, b2, b3, b4, b5, b6, b7, b8), ⟨by show _ = zob (if _ then _ else _); rw [if_neg c3]; rfl, fun b' hb => ?_, rfl⟩, ?_⟩
              · have hb : (if zcost H n m ln pr wa sl co (Int32.ofNat k) < zcost H n m ln pr wa sl co (Int32.ofNat b) then some k else some b) = some b' := hb
                rw [if_neg c3] at hb
                injection hb with hb; rw [hb]
              · simp (disch := omega) only [fX6_bestOf_L8, hdif, n_bind, n_let, n_pow w7, n_le, n_s, c1, c2, hc, e1, e2, e4, c3, show ¬ 2 ^ zct (zdfb pr wa) n ≤ k from by omega, if_true, if_false]
        · rw [if_neg (by simp [c2])]
          refine ⟨(x, y, a, a5, a6, a7, a8, x9, a10, a11, a12), ⟨s1, s2, rfl⟩, ?_⟩
          simp (disch := omega) only [fX6_bestOf_L8, hdif, n_bind, n_let, n_pow w7, n_le, n_s, c1, c2, show ¬ 2 ^ zct (zdfb pr wa) n ≤ k from by omega, if_true, if_false]
      · rw [if_neg (by simp [c1])]
        refine ⟨(x, y, a, a5, a6, a7, a8, x9, a10, a11, a12), ⟨s1, s2, rfl⟩, ?_⟩
        simp (disch := omega) only [fX6_bestOf_L8, hdif, n_bind, n_let, n_pow w7, n_le, n_s, c1, show ¬ 2 ^ zct (zdfb pr wa) n ≤ k from by omega, if_true, if_false])
    (2 ^ zct (zdfb pr wa) n) 0 1024 (-1, 0, d, no, pg, li, st, P, be, told, wp) (by omega) (by omega) ⟨rfl, (fun b hb => by cases hb), rfl⟩
  obtain ⟨⟨x, y, a, a5, a6, a7, a8, x9, a10, a11, a12⟩, ⟨h1, h2, h3⟩, h4⟩ := key
  have h1 : x = _ := h1
  have h3 : a = d := h3
  subst h3
  rw [← h1]
  exact ⟨_, _, _, _, _, _, _, _, h4⟩
end ZBM
