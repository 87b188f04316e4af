section ZM6
variable {H n : Nat} {ln : Nat → Nat} {pr : Nat → Bool} {d : Nat → Int32}
theorem e_isPrinted {k : Nat} (hk : k < 24) : fX6_isPrinted (Int32.ofNat k) d = some (if d (9 + 6 * k + 3) = 1 then 1 else 0) := by
  unfold fX6_isPrinted
  rw [show (3 : Int32) = Int32.ofNat 3 from rfl, e_of hk (by omega), n_bind]
  split <;> rfl
/-- a lot that isn't printed changes nothing of the model's layout -/
theorem mok_no {k : Nat} {no pg li st : Nat → Int32} {P : Int32} (hp : pr k = false) (h : MOK H ln pr k no pg li st P) : MOK H ln pr (k + 1) (upd no k 0) (upd pg k (-1)) (upd li k (-1)) st P := by
  obtain ⟨h1, h2, h3⟩ := h
  obtain ⟨a, b, c⟩ := zlay_no (H := H) (ln := ln) hp
  have g1 : zPg H ln pr k = -1 := by unfold zPg; simp [hp]
  have g2 : zLi H ln pr k = -1 := by unfold zLi; simp [hp]
  have g3 : zNo_ H ln pr k = 0 := by unfold zNo_; simp [hp]
  refine ⟨fun i hi => ?_, fun g hg => ?_, ?_⟩
  · by_cases e : i = k
    · subst e
      exact ⟨by rw [g3]; exact upd_same, by rw [g1]; exact upd_same, by rw [g2]; exact upd_same⟩
    · obtain ⟨x1, x2, x3⟩ := h1 i (by omega)
      exact ⟨(upd_ne e).trans x1, (upd_ne e).trans x2, (upd_ne e).trans x3⟩
  · rw [zst, if_neg (by rw [hp]; simp)]
    exact h2 g hg
  · rw [a]; exact h3
theorem mok_yes {k Q u : Nat} {no pg li st : Nat → Int32} {P : Int32} (hp : pr k = true) (hQ : zP H ln pr (k + 1) = Q + 1) (hu : zU H ln pr (k + 1) = u + ln k) (h : MOK H ln pr k no pg li st P) :
    MOK H ln pr (k + 1) (upd (upd no k 0) k (Int32.ofNat (zK H ln pr (k + 1)))) (upd (upd pg k (-1)) k (Int32.ofNat Q)) (upd (upd li k (-1)) k (Int32.ofNat u)) (fun g => if H * Q + u ≤ g ∧ g < H * Q + u + ln k then Int32.ofNat (10 * k + (g - (H * Q + u))) else st g) (Int32.ofNat (Q + 1)) := by
  obtain ⟨h1, h2, h3⟩ := h
  have g1 : zPg H ln pr k = Int32.ofNat Q := by unfold zPg; rw [if_pos hp, hQ]; rfl
  have g2 : zLi H ln pr k = Int32.ofNat u := by unfold zLi; rw [if_pos hp, hu, Nat.add_sub_cancel]
  have g3 : zNo_ H ln pr k = Int32.ofNat (zK H ln pr (k + 1)) := by unfold zNo_; rw [if_pos hp]
  have g4 : zpos H ln pr k = H * Q + u := by unfold zpos; rw [hQ, hu, Nat.add_sub_cancel, Nat.add_sub_cancel]
  refine ⟨fun i hi => ?_, fun g hg => ?_, by rw [hQ]⟩
  · by_cases e : i = k
    · subst e
      exact ⟨by rw [g3]; exact upd_same, by rw [g1]; exact upd_same, by rw [g2]; exact upd_same⟩
    · obtain ⟨x1, x2, x3⟩ := h1 i (by omega)
      exact ⟨((upd_ne e).trans (upd_ne e)).trans x1, ((upd_ne e).trans (upd_ne e)).trans x2, ((upd_ne e).trans (upd_ne e)).trans x3⟩
  · rw [zst, g4]
    by_cases hc : H * Q + u ≤ g ∧ g < H * Q + u + ln k
    · rw [if_pos ⟨hp, hc⟩]; exact if_pos hc
    · rw [if_neg (fun h => hc h.2)]; exact (if_neg hc).trans (h2 g hg)
theorem e_lay6 (hH : H ≤ 40) (hn : n ≤ 24) (h0 : d 0 = Int32.ofNat H) (h1 : d 1 = Int32.ofNat n) (hl : ∀ i, i < n → d (9 + 6 * i + 0) = Int32.ofNat (ln i) ∧ ln i ≤ H) (hr : ∀ i, i < n → (d (9 + 6 * i + 3) = 1 ↔ pr i = true)) (no pg li st : Nat → Int32) (P : Int32) :
    ∃ a b c e f, fX6_lay d no pg li st P = some (a, b, c, e, f) ∧ MOK H ln pr n a b c e f := by
  have h0' : d (0 : Int32).toNatClampNeg = Int32.ofNat H := h0
  have h1' : d (1 : Int32).toNatClampNeg = Int32.ofNat n := h1
  have f0 : ∀ (j : (Nat → Int32) → Option ((Nat → Int32) × (Nat → Int32) × (Nat → Int32) × (Nat → Int32) × Int32)) (a : Nat → Int32), fX6_lay_L19 j 1024 0 a = j (fun g => if 0 ≤ g ∧ g < 0 + 960 then -1 else a g) := fun j a => by
    refine (n_for0 (fun f i s => fX6_lay_L19 j f (Int32.ofNat i) s) 960 (fun i s => upd s (0 + i) (-1)) j (fun f s => ?_) (fun f i s hi => ?_) 960 0 1024 a (by omega) (by omega)).trans (congrArg j (zfold_rng 0 (fun _ => -1) a 960))
    · simp only [fX6_lay_L19, show ((960 : Int32) ≤ Int32.ofNat 960) from by decide, if_true]
    · simp (disch := omega) only [fX6_lay_L19, show (960 : Int32) = Int32.ofNat 960 from rfl, n_le, n_rd, n_cl, n_let, n_s, show ¬ 960 ≤ i from by omega, if_false, Nat.zero_add]
  have e0 : ∀ k, k < 24 → fX6_of (Int32.ofNat k) 0 d = some (d (9 + 6 * k + 0)) := fun k hk => e_of (j := 0) hk (by omega) d
  have key : ∃ s : Int32 × Int32 × (Nat → Int32) × (Nat → Int32) × (Nat → Int32) × (Nat → Int32) × Int32, (s.1 = Int32.ofNat (zU H ln pr n) ∧ s.2.1 = Int32.ofNat (zK H ln pr n) ∧ MOK H ln pr n s.2.2.1 s.2.2.2.1 s.2.2.2.2.1 s.2.2.2.2.2.1 s.2.2.2.2.2.2) ∧ fX6_lay_L44 d (Int32.ofNat H) 1024 0 0 0 no pg li (fun g => if 0 ≤ g ∧ g < 0 + 960 then -1 else st g) 0 = some s.2.2 := by
    refine n_inv (fun f k (s : Int32 × Int32 × (Nat → Int32) × (Nat → Int32) × (Nat → Int32) × (Nat → Int32) × Int32) => fX6_lay_L44 d (Int32.ofNat H) f s.1 s.2.1 (Int32.ofNat k) s.2.2.1 s.2.2.2.1 s.2.2.2.2.1 s.2.2.2.2.2.1 s.2.2.2.2.2.2) n (fun s => some s.2.2) (fun k s => s.1 = Int32.ofNat (zU H ln pr k) ∧ s.2.1 = Int32.ofNat (zK H ln pr k) ∧ MOK H ln pr k s.2.2.1 s.2.2.2.1 s.2.2.2.2.1 s.2.2.2.2.2.1 s.2.2.2.2.2.2) (fun f s hs => ?_) (fun f k s hk hs => ?_) n 0 1024 (0, 0, no, pg, li, (fun g => if 0 ≤ g ∧ g < 0 + 960 then -1 else st g), 0) (by omega) (by omega) ?_
    · simp only [fX6_lay_L44, h1', Int32.le_refl, if_true]
    · obtain ⟨x, y, a, b, c, e, f'⟩ := s
      obtain ⟨q1, q2, q3⟩ := hs
      have q1 : x = Int32.ofNat (zU H ln pr k) := q1
      have q2 : y = Int32.ofNat (zK H ln pr k) := q2
      have q4 : f' = Int32.ofNat (zP H ln pr k) := q3.2.2
      subst q1 q2 q4
      have q3 : MOK H ln pr k a b c e (Int32.ofNat (zP H ln pr k)) := q3
      obtain ⟨e1, e2⟩ := hl k hk
      have hP := zP_le H ln pr k
      have hU := zU_le H ln pr k (fun j hj => (hl j (by omega)).2)
      cases hp : pr k with
      | false =>
        obtain ⟨a', b', c'⟩ := zlay_no (H := H) (ln := ln) hp
        refine ⟨(Int32.ofNat (zU H ln pr k), Int32.ofNat (zK H ln pr k), upd a k 0, upd b k (-1), upd c k (-1), e, Int32.ofNat (zP H ln pr k)), ⟨by rw [b'], by rw [c'], mok_no hp q3⟩, ?_⟩
        · have hr1 : ¬ d (9 + 6 * k + 3) = 1 := fun h => by rw [(hr k hk).mp h] at hp; cases hp
          simp (disch := omega) only [fX6_lay_L44, h1', n_le, n_rd, n_cl, n_let, n_s, n_bind, e_isPrinted, hr1, show ¬ n ≤ k from by omega, if_false, if_true]
      | true =>
        have hpos := zpos_le (H := H) (ln := ln) (k := k) (by omega) hH hp (fun j hj => (hl j (by omega)).2)
        have hr1 := (hr k hk).mpr hp
        have hne : ((1 : Int32) = 0) = False := by decide
        by_cases hc : zP H ln pr k = 0 ∨ H < zU H ln pr k + ln k
        · obtain ⟨a', b', c'⟩ := zlay_new hp hc
          have hb : H * zP H ln pr k + 0 + ln k ≤ 960 := by
            have : zpos H ln pr k = H * zP H ln pr k + 0 := by unfold zpos; rw [a', b', Nat.add_sub_cancel, Nat.sub_self]
            omega
          refine ⟨(Int32.ofNat (0 + ln k), Int32.ofNat (zK H ln pr k + 1), upd (upd a k 0) k (Int32.ofNat (zK H ln pr (k + 1))), upd (upd b k (-1)) k (Int32.ofNat (zP H ln pr k)), upd (upd c k (-1)) k (Int32.ofNat 0), (fun g => if H * zP H ln pr k + 0 ≤ g ∧ g < H * zP H ln pr k + 0 + ln k then Int32.ofNat (10 * k + (g - (H * zP H ln pr k + 0))) else e g), Int32.ofNat (zP H ln pr k + 1)), ⟨by rw [b', Nat.zero_add], by rw [c'], mok_yes (u := 0) hp a' (by rw [b', Nat.zero_add]) q3⟩, ?_⟩
          · have h5 : ∀ (v : Int32 → Int32 → Option ((Nat → Int32) × (Nat → Int32) × (Nat → Int32) × (Nat → Int32) × Int32)) (w : Option ((Nat → Int32) × (Nat → Int32) × (Nat → Int32) × (Nat → Int32) × Int32)), (if Int32.ofNat (zP H ln pr k) = 0 then w else if Int32.ofNat (zU H ln pr k) + Int32.ofNat (ln k) ≤ Int32.ofNat H then v (Int32.ofNat (zU H ln pr k)) (Int32.ofNat (zP H ln pr k)) else w) = w := fun v w => by
              split
              · rfl
              · next hz =>
                rw [if_neg]
                rw [← Int32.ofNat_add, n_le (by omega) (by omega)]
                rcases hc with hc | hc
                · exact absurd (by rw [hc]; rfl) hz
                · omega
            simp (disch := omega) only [fX6_lay_L44, h1', n_le, n_rd, n_cl, n_let, n_s, n_bind, e_isPrinted, e0, hr1, show ¬ n ≤ k from by omega, if_false, if_true, hne, e1, h5, n_p]
            refine (e_L158 (Q := zP H ln pr k) (u := 0) (by omega) (by omega) hb e1 _ _).trans ?_
            rw [c', Int32.ofNat_add 0 (ln k)]
            rfl
        · obtain ⟨Q, hQ⟩ : ∃ Q, zP H ln pr k = Q + 1 := ⟨zP H ln pr k - 1, by omega⟩
          obtain ⟨a', b', c'⟩ := zlay_go hp hc
          have hb : H * Q + zU H ln pr k + ln k ≤ 960 := by
            have : zpos H ln pr k = H * Q + zU H ln pr k := by unfold zpos; rw [a', b', hQ, Nat.add_sub_cancel, Nat.add_sub_cancel]
            omega
          refine ⟨(Int32.ofNat (zU H ln pr k + ln k), Int32.ofNat (zK H ln pr k + 1), upd (upd a k 0) k (Int32.ofNat (zK H ln pr (k + 1))), upd (upd b k (-1)) k (Int32.ofNat Q), upd (upd c k (-1)) k (Int32.ofNat (zU H ln pr k)), (fun g => if H * Q + zU H ln pr k ≤ g ∧ g < H * Q + zU H ln pr k + ln k then Int32.ofNat (10 * k + (g - (H * Q + zU H ln pr k))) else e g), Int32.ofNat (Q + 1)), ⟨by rw [b'], by rw [c'], mok_yes (u := zU H ln pr k) hp (a'.trans hQ) b' q3⟩, ?_⟩
          · have h5 : ∀ (v : Int32 → Int32 → Option ((Nat → Int32) × (Nat → Int32) × (Nat → Int32) × (Nat → Int32) × Int32)) (w : Option ((Nat → Int32) × (Nat → Int32) × (Nat → Int32) × (Nat → Int32) × Int32)), (if Int32.ofNat (zP H ln pr k) = 0 then w else if Int32.ofNat (zU H ln pr k) + Int32.ofNat (ln k) ≤ Int32.ofNat H then v (Int32.ofNat (zU H ln pr k)) (Int32.ofNat (zP H ln pr k)) else w) = v (Int32.ofNat (zU H ln pr k)) (Int32.ofNat (zP H ln pr k)) := fun v w => by
              rw [if_neg (fun h => by
                have h' : Int32.ofNat (zP H ln pr k) = Int32.ofNat 0 := h
                rw [n_eq (by omega) (by omega)] at h'
                omega), if_pos]
              rw [← Int32.ofNat_add, n_le (by omega) (by omega)]
              omega
            simp (disch := omega) only [fX6_lay_L44, h1', n_le, n_rd, n_cl, n_let, n_s, n_bind, e_isPrinted, e0, hr1, show ¬ n ≤ k from by omega, if_false, if_true, hne, e1, h5]
            rw [hQ, n_p]
            refine (e_L158 (Q := Q) (u := zU H ln pr k) (by omega) (by omega) hb e1 _ _).trans ?_
            rw [c', Int32.ofNat_add (zU H ln pr k) (ln k)]
    · exact ⟨rfl, rfl, fun i hi => absurd hi (Nat.not_lt_zero _), fun g hg => if_pos ⟨Nat.zero_le _, by omega⟩, rfl⟩
  obtain ⟨⟨x, y, a, b, c, e, f⟩, hs1, hs2⟩ := key
  refine ⟨a, b, c, e, f, ?_, hs1.2.2⟩
  unfold fX6_lay
  simp only [n_let, f0, h0']
  exact hs2
end ZM6
