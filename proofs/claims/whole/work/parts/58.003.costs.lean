section ZCO
variable {L : Nat} {bytes buf : Nat → Int32}
/-- the five costs: taken by both, or the first error is told alike -/
theorem r_costs (hL : L ≤ 500) (hb : ∀ i, i < L → bytes i &&& 255 = buf i) (x46 : Int32) (j : Int32 → Int32 → Int32 → (Nat → Int32) → Int32 → Int32 → Option (Int32 × Int32 × Int32 × (Nat → Int32) × Int32 × Int32)) (ea0 ea0' : Int32) :
    ∀ (m k f : Nat) (a : Nat) (er ea ea' pos : Int32) (co d : Nat → Int32) (ns : Int32), k + m = 5 → m < f → a ≤ 600 → ((er = 0 ∧ ea = ea0 ∧ ea' = ea0' ∧ pos = Int32.ofNat a ∧ a ≤ L) ∨ (¬ er = 0 ∧ ea' = ea)) → (∀ q, q < k → d (4 + q) = co q) →
    ∃ (a2 : Nat) (er2 ea2 ea2' pos2 : Int32) (co2 d2 : Nat → Int32) (ns2 : Int32), fX4_readCosts_L17 bytes (Int32.ofNat L) f (Int32.ofNat k) ea (Int32.ofNat a) er co = some (ea2, Int32.ofNat a2, er2, 1, co2) ∧ fX6_statement_L44 j x46 buf (Int32.ofNat L) f (Int32.ofNat k) pos er ea' d ns = j pos2 er2 ea2' d2 ns2 x46 ∧ a2 ≤ 600 ∧ ((er2 = 0 ∧ ea2 = ea0 ∧ ea2' = ea0' ∧ pos2 = Int32.ofNat a2 ∧ a2 ≤ L ∧ a ≤ a2) ∨ (¬ er2 = 0 ∧ ea2' = ea2)) ∧ (∀ q, q < 5 → er2 = 0 → d2 (4 + q) = co2 q) ∧ (∀ y, ¬ (4 ≤ y ∧ y < 9) → d2 y = d y) ∧ (∀ y, 5 ≤ y → co2 y = co y)
  | 0, k, f, a, er, ea, ea', pos, co, d, ns, hk, hf, ha, hst, hd => by
    obtain ⟨f, rfl⟩ : ∃ g, f = g + 1 := ⟨f - 1, by omega⟩
    have e : k = 5 := by omega
    subst e
    refine ⟨a, er, ea, ea', pos, co, d, ns, ?_, ?_, ha, ?_, fun q hq _ => hd q hq, fun _ _ => rfl, fun _ _ => rfl⟩
    · simp only [fX4_readCosts_L17, show ((5 : Int32) ≤ Int32.ofNat 5) from by decide, if_true]
    · simp only [fX6_statement_L44, show ((5 : Int32) ≤ Int32.ofNat 5) from by decide, if_true]
    · rcases hst with ⟨h1, h2, h3, h4, h5⟩ | h
      · exact Or.inl ⟨h1, h2, h3, h4, h5, Nat.le_refl _⟩
      · exact Or.inr h
  | m + 1, k, f, a, er, ea, ea', pos, co, d, ns, hk, hf, ha, hst, hd => by
    obtain ⟨f, rfl⟩ : ∃ g, f = g + 1 := ⟨f - 1, by omega⟩
    have hle : ¬ (5 : Int32) ≤ Int32.ofNat k := fun h => by
      have := (n_le (a := 5) (by omega) (by omega)).mp h; omega
    have e4 : (4 : Int32) + Int32.ofNat k = Int32.ofNat (4 + k) := (Int32.ofNat_add 4 k).symm
    -- one number
    have one : ∃ (v vm : Int32) (a1 : Nat) (er1 ea1 ea1' pos1 ns1 : Int32), fX4_takeNumber 0 99 ea bytes (Int32.ofNat L) (Int32.ofNat a) er = some (v, ea1, Int32.ofNat a1, er1) ∧ fX6_number 0 99 buf (Int32.ofNat L) pos er ea' ns = some (vm, pos1, er1, ea1', ns1) ∧ a1 ≤ 600 ∧ ((er1 = 0 ∧ ea1 = ea0 ∧ ea1' = ea0' ∧ pos1 = Int32.ofNat a1 ∧ a1 ≤ L ∧ a ≤ a1 ∧ vm = v ∧ er = 0) ∨ (¬ er1 = 0 ∧ ea1' = ea1)) := by
      rcases hst with ⟨rfl, rfl, rfl, rfl, h5⟩ | ⟨he, rfl⟩
      · obtain ⟨a1, k1, k2, ns1, ⟨v, v1, v2, v3, v4, v5⟩ | ⟨vc, er1, x, x1, x2, x3⟩⟩ := r_num (lo := 0) (hi := 99) (bytes := bytes) (buf := buf) hL hb (by omega) (by omega) (show a < 8000 by omega) ea ns ea'
        · exact ⟨_, _, a1, 0, ea, ea', _, ns1, v4, v5, by omega, Or.inl ⟨rfl, rfl, rfl, rfl, by omega, k1, rfl, rfl⟩⟩
        · exact ⟨_, _, a1, er1, x, x, _, ns1, x2, x3, by omega, Or.inr ⟨x1, rfl⟩⟩
      · obtain ⟨v, a1, k1, k2⟩ := c_num_err hL hb (show a < 8000 by omega) he 0 99 ea'
        exact ⟨v, 0, a1, er, ea', ea', pos, ns, k2, m_num_err he 0 99 pos ea' ns, by omega, Or.inr ⟨he, rfl⟩⟩
    obtain ⟨v, vm, a1, er1, ea1, ea1', pos1, ns1, o1, o2, o3, o4⟩ := one
    have hst1 : (er1 = 0 ∧ ea1 = ea0 ∧ ea1' = ea0' ∧ pos1 = Int32.ofNat a1 ∧ a1 ≤ L) ∨ (¬ er1 = 0 ∧ ea1' = ea1) := by
      rcases o4 with ⟨h1, h2, h3, h4, h5, h6⟩ | h
      · exact Or.inl ⟨h1, h2, h3, h4, h5⟩
      · exact Or.inr h
    by_cases her : er1 = 0
    · rcases o4 with ⟨h1, h2, h3, h4, h5, h6, h7, h8⟩ | ⟨h, -⟩
      · subst h7
        obtain ⟨a2, er2, ea2, ea2', pos2, co2, d2, ns2, r1, r2, r3, r4, r5, r6, r7⟩ := r_costs hL hb x46 j ea0 ea0' m (k + 1) f a1 er1 ea1 ea1' pos1 (upd co k vm) (upd d (4 + k) vm) ns1 (by omega) (by omega) o3 hst1 (fun q hq => by
          by_cases e : q = k
          · subst e; exact upd_same.trans upd_same.symm
          · rw [upd_ne e, upd_ne (by omega)]; exact hd q (by omega))
        refine ⟨a2, er2, ea2, ea2', pos2, co2, d2, ns2, ?_, ?_, r3, ?_, r5, fun y hy => (r6 y hy).trans (upd_ne (by omega)), fun y hy => (r7 y hy).trans (upd_ne (by omega))⟩
        · simp (disch := omega) only [fX4_readCosts_L17, hle, if_false, o1, n_bind, n_rd, n_cl, n_let, n_s, r1]
        · simp (disch := omega) only [fX6_statement_L44, hle, if_false, o2, n_bind, e4, n_rd, n_cl, n_let, n_s, r2]
        · rcases r4 with ⟨g1, g2, g3, g4, g5, g6⟩ | h
          · exact Or.inl ⟨g1, g2, g3, g4, g5, by omega⟩
          · exact Or.inr h
      · exact absurd her h
    · -- behind an error what is stored counts no more
      have hst2 : (er1 = 0 ∧ ea1 = ea0 ∧ ea1' = ea0' ∧ pos1 = Int32.ofNat a1 ∧ a1 ≤ L) ∨ (¬ er1 = 0 ∧ ea1' = ea1) := hst1
      have err : ∀ (m k f : Nat) (a : Nat) (co d : Nat → Int32) (ns : Int32), k + m = 5 → m < f → a ≤ 600 → ∃ (a2 : Nat) (co2 d2 : Nat → Int32) (ns2 : Int32), fX4_readCosts_L17 bytes (Int32.ofNat L) f (Int32.ofNat k) ea1 (Int32.ofNat a) er1 co = some (ea1, Int32.ofNat a2, er1, 1, co2) ∧ fX6_statement_L44 j x46 buf (Int32.ofNat L) f (Int32.ofNat k) pos1 er1 ea1' d ns = j pos1 er1 ea1' d2 ns2 x46 ∧ a2 ≤ 600 ∧ (∀ y, ¬ (4 ≤ y ∧ y < 9) → d2 y = d y) ∧ (∀ y, 5 ≤ y → co2 y = co y) := by
        intro m
        induction m with
        | zero =>
          intro k f a co d ns hk hf ha
          obtain ⟨f, rfl⟩ : ∃ g, f = g + 1 := ⟨f - 1, by omega⟩
          have e : k = 5 := by omega
          subst e
          refine ⟨a, co, d, ns, ?_, ?_, ha, fun _ _ => rfl, fun _ _ => rfl⟩
          · simp only [fX4_readCosts_L17, show ((5 : Int32) ≤ Int32.ofNat 5) from by decide, if_true]
          · simp only [fX6_statement_L44, show ((5 : Int32) ≤ Int32.ofNat 5) from by decide, if_true]
        | succ m ih =>
          intro k f a co d ns hk hf ha
          obtain ⟨f, rfl⟩ : ∃ g, f = g + 1 := ⟨f - 1, by omega⟩
          have hle : ¬ (5 : Int32) ≤ Int32.ofNat k := fun h => by
            have := (n_le (a := 5) (by omega) (by omega)).mp h; omega
          have e4 : (4 : Int32) + Int32.ofNat k = Int32.ofNat (4 + k) := (Int32.ofNat_add 4 k).symm
          obtain ⟨v, a1', k1, k2⟩ := c_num_err hL hb (show a < 8000 by omega) her 0 99 ea1
          obtain ⟨a2, co2, d2, ns2, r1, r2, r3, r4, r5⟩ := ih (k + 1) f a1' (upd co k v) (upd d (4 + k) 0) ns (by omega) (by omega) (by omega)
          have hmn := m_num_err (L := L) (buf := buf) her 0 99 pos1 ea1' ns
          refine ⟨a2, co2, d2, ns2, ?_, ?_, r3, fun y hy => (r4 y hy).trans (upd_ne (by omega)), fun y hy => (r5 y hy).trans (upd_ne (by omega))⟩
          · simp (disch := omega) only [fX4_readCosts_L17, hle, if_false, k2, n_bind, n_rd, n_cl, n_let, n_s, r1]
          · simp (disch := omega) only [fX6_statement_L44, hle, if_false, hmn, n_bind, e4, n_rd, n_cl, n_let, n_s, r2]
      obtain ⟨a2, co2, d2, ns2, r1, r2, r3, r4, r5⟩ := err m (k + 1) f a1 (upd co k v) (upd d (4 + k) vm) ns1 (by omega) (by omega) o3
      refine ⟨a2, er1, ea1, ea1', pos1, co2, d2, ns2, ?_, ?_, r3, ?_, fun q _ h => absurd h her, fun y hy => (r4 y hy).trans (upd_ne (by omega)), fun y hy => (r5 y hy).trans (upd_ne (by omega))⟩
      · simp (disch := omega) only [fX4_readCosts_L17, hle, if_false, o1, n_bind, n_rd, n_cl, n_let, n_s, r1]
      · simp (disch := omega) only [fX6_statement_L44, hle, if_false, o2, n_bind, e4, n_rd, n_cl, n_let, n_s, r2]
      · rcases hst1 with ⟨h, -⟩ | h
        · exact absurd h her
        · exact Or.inr h
end ZCO
