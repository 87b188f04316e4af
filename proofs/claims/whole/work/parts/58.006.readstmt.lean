def zseen (c s : Bool) : Int32 := (if c = true then 1 else 0) ||| (if s = true then 2 else 0)
section ZST6
variable {L : Nat} {bytes buf : Nat → Int32}
theorem once_0 (c s : Bool) (a er ea : Int32) : fX6_once 0 a er ea (zseen c s) = if c = true then o_bind (fX6_report (-2) a er ea) (fun (x, y) => some (x, y, zseen true s)) else some (er, ea, zseen true s) := by
  cases c <;> cases s <;> rfl
theorem once_1 (c s : Bool) (a er ea : Int32) : fX6_once 1 a er ea (zseen c s) = if s = true then o_bind (fX6_report (-2) a er ea) (fun (x, y) => some (x, y, zseen c true)) else some (er, ea, zseen c true) := by
  cases c <;> cases s <;> rfl
theorem r_fin (hL : L ≤ 500) (hb : ∀ i, i < L → bytes i &&& 255 = buf i) {ea0 ea0' : Int32} {a : Nat} (ha : a ≤ 700) {er ea ea' pos : Int32} (h : RS L ea0 ea0' a er ea ea' pos) :
    ∃ (ea2 er2 pos2 ea2' : Int32) (a2 : Nat), fX4_takeSemicolon ea bytes (Int32.ofNat L) (Int32.ofNat a) er = some (ea2, Int32.ofNat a2, er2) ∧ fX6_expect 59 buf (Int32.ofNat L) pos er ea' = some (pos2, er2, ea2') ∧ a2 ≤ 800 ∧ RS L ea0 ea0' a2 er2 ea2 ea2' pos2 ∧ (er2 = 0 → er = 0 ∧ a < a2) := by
  rcases h with ⟨rfl, rfl, rfl, rfl, h5⟩ | ⟨he, rfl⟩
  · obtain ⟨a1, k1, k2, ⟨g1, g2, g3⟩ | ⟨g2, g3⟩⟩ := r_semi (bytes := bytes) (buf := buf) hL hb (show a < 8000 by omega) ea ea'
    · exact ⟨ea, 0, _, ea', a1 + 1, g2, g3, by omega, Or.inl ⟨rfl, rfl, rfl, rfl, by omega⟩, fun _ => ⟨rfl, by omega⟩⟩
    · exact ⟨_, -2, _, _, a1 + 1, g2, g3, by omega, Or.inr ⟨by decide, rfl⟩, fun h => absurd h (by decide)⟩
  · obtain ⟨a1, k1, k2⟩ := c_semi_err hL hb (show a < 8000 by omega) he ea'
    exact ⟨ea', er, pos, ea', a1, k2, m_exp_err he 59 pos ea', by omega, Or.inr ⟨he, rfl⟩, fun h => absurd h he⟩
theorem m_costs_err {er : Int32} (he : ¬ er = 0) (x46 : Int32) (j : Int32 → Int32 → Int32 → (Nat → Int32) → Int32 → Int32 → Option (Int32 × Int32 × Int32 × (Nat → Int32) × Int32 × Int32)) (pos ea ns : Int32) : ∀ (m k f : Nat) (d : Nat → Int32), k + m = 5 → m < f → ∃ d2, fX6_statement_L44 j x46 buf (Int32.ofNat L) f (Int32.ofNat k) pos er ea d ns = j pos er ea d2 ns x46
  | 0, k, f, d, hk, hf => by
    obtain ⟨f, rfl⟩ : ∃ g, f = g + 1 := ⟨f - 1, by omega⟩
    have e : k = 5 := by omega
    subst e
    exact ⟨d, by simp only [fX6_statement_L44, show ((5 : Int32) ≤ Int32.ofNat 5) from by decide, if_true]⟩
  | m + 1, k, f, d, hk, hf => by
    obtain ⟨f, rfl⟩ : ∃ g, f = g + 1 := ⟨f - 1, by omega⟩
    have hle : ¬ (5 : Int32) ≤ Int32.ofNat k := fun h => by
      have := (n_le (a := 5) (by omega) (by omega)).mp h; omega
    have e4 : (4 : Int32) + Int32.ofNat k = Int32.ofNat (4 + k) := (Int32.ofNat_add 4 k).symm
    have hmn := m_num_err (L := L) (buf := buf) he 0 99 pos ea ns
    obtain ⟨d2, h2⟩ := m_costs_err he x46 j pos ea ns m (k + 1) f (upd d (4 + k) 0) (by omega) (by omega)
    refine ⟨d2, ?_⟩
    simp (disch := omega) only [fX6_statement_L44, hle, if_false, hmn, n_bind, e4, n_rd, n_cl, n_let, n_s, h2]
section ZPB
variable {H n m : Nat} {ln : Nat → Nat} {pr wa sl : Nat → Bool} {hh cc rr : Int32} {co es se d li p w s : Nat → Int32}
theorem cost_PB (h : PB H n m ln pr wa sl hh cc rr co li es se p w s d) {co1 d1 : Nat → Int32} (h1 : ∀ q, q < 5 → d1 (4 + q) = co1 q) (h2 : ∀ y, ¬ (4 ≤ y ∧ y < 9) → d1 y = d y) : PB H n m ln pr wa sl hh cc rr co1 li es se p w s d1 := by
  obtain ⟨hw, hb, ⟨m1, m2, m3, m4, m5, m6⟩, hz⟩ := h
  refine ⟨hw, hb, ⟨(h2 0 (by omega)).trans m1, (h2 1 (by omega)).trans m2, (h2 2 (by omega)).trans m3, (h2 3 (by omega)).trans m4, h1, fun i hi => ?_⟩, fun i h3 h4 => (h2 _ (by omega)).trans (hz i h3 h4)⟩
  obtain ⟨d0, d1', d2, d3, d4, d5⟩ := m6 i hi
  exact ⟨(h2 _ (by omega)).trans d0, (h2 _ (by omega)).trans d1', (h2 _ (by omega)).trans d2, (h2 _ (by omega)).trans d3, (h2 _ (by omega)).trans d4, (h2 _ (by omega)).trans d5⟩
theorem slip_PB (h : PB H n m ln pr wa sl hh cc rr co li es se p w s d) {v : Nat} (h1 : 1 ≤ v) (h2 : v ≤ 9) : PB H n v ln pr wa sl hh cc (Int32.ofNat v) co li es se p w s (upd d 3 (Int32.ofNat v)) := by
  obtain ⟨⟨w1, w2, w3, w4, w5, w6, w7⟩, ⟨b1, b2, b3, b4, b5, b6, b7⟩, ⟨m1, m2, m3, m4, m5, m6⟩, hz⟩ := h
  refine ⟨⟨w1, w2, w3, h1, h2, w6, w7⟩, ⟨b1, b2, rfl, b4, b5, b6, b7⟩, ⟨(upd_ne (by omega)).trans m1, (upd_ne (by omega)).trans m2, (upd_ne (by omega)).trans m3, upd_same, fun k hk => (upd_ne (by omega)).trans (m5 k hk), fun i hi => ?_⟩, fun i h3 h4 => (upd_ne (by omega)).trans (hz i h3 h4)⟩
  obtain ⟨d0, d1, d2, d3, d4, d5⟩ := m6 i hi
  exact ⟨(upd_ne (by omega)).trans d0, (upd_ne (by omega)).trans d1, (upd_ne (by omega)).trans d2, (upd_ne (by omega)).trans d3, (upd_ne (by omega)).trans d4, (upd_ne (by omega)).trans d5⟩
theorem zw_lot (i : Nat) (h : i < 3) : ¬ zch (([108, 111, 116] : List Int32).getD i 0) = -1 := by
  have : i = 0 ∨ i = 1 ∨ i = 2 := by omega
  rcases this with rfl | rfl | rfl <;> decide
theorem zw_costs (i : Nat) (h : i < 5) : ¬ zch (([99, 111, 115, 116, 115] : List Int32).getD i 0) = -1 := by
  have : i = 0 ∨ i = 1 ∨ i = 2 ∨ i = 3 ∨ i = 4 := by omega
  rcases this with rfl | rfl | rfl | rfl | rfl <;> decide
theorem zw_slip (i : Nat) (h : i < 4) : ¬ zch (([115, 108, 105, 112] : List Int32).getD i 0) = -1 := by
  have : i = 0 ∨ i = 1 ∨ i = 2 ∨ i = 3 := by omega
  rcases this with rfl | rfl | rfl | rfl <;> decide
/-- a statement and its semicolon, read by both -/
theorem r_stmt (hL : L ≤ 500) (hb : ∀ i, i < L → bytes i &&& 255 = buf i) (h : PB H n m ln pr wa sl hh cc rr co li es se p w s d) {a : Nat} (ha : a ≤ L) (h32 : ¬ btx buf L a = 32) (cr sr : Bool) (ea ea' ns : Int32) :
    ∃ (ea1 er1 cr1 sr1 cc1 rr1 ea2 er2 pos2 ea2' ns2 seen2 : Int32) (a1 a2 : Nat) (co1 li1 es1 se1 p1 w1 s1 d2 : Nat → Int32), fX4_readStatement ea bytes (Int32.ofNat L) (Int32.ofNat a) 0 (zbi cr) (zbi sr) hh cc rr co li es se p w s = some (ea1, Int32.ofNat a1, er1, cr1, sr1, cc1, rr1, co1, li1, es1, se1, p1, w1, s1) ∧ fX4_takeSemicolon ea1 bytes (Int32.ofNat L) (Int32.ofNat a1) er1 = some (ea2, Int32.ofNat a2, er2) ∧ fX6_statement buf (Int32.ofNat L) (Int32.ofNat a) 0 ea' d ns (zseen cr sr) = some (pos2, er2, ea2', d2, ns2, seen2) ∧ a2 ≤ 800 ∧ BO p1 w1 s1 ∧ RS L ea ea' a2 er2 ea2 ea2' pos2 ∧ (er2 = 0 → a < a2 ∧ PX hh cc1 rr1 co1 li1 es1 se1 p1 w1 s1 d2 ∧ ∃ cr' sr' : Bool, cr1 = zbi cr' ∧ sr1 = zbi sr' ∧ seen2 = zseen cr' sr') := by
  have hbo := PB_BO h
  obtain ⟨n1, n2⟩ := r_stay (bytes := bytes) hL hb (show a < 10000 by omega) h32
  obtain ⟨bl, l1, l2, l3⟩ := r_word (sw := [108, 111, 116]) (bytes := bytes) (by decide) hL hb (show a < 9000 by omega) h32
  obtain ⟨bc, c1, c2, c3⟩ := r_word (sw := [99, 111, 115, 116, 115]) (bytes := bytes) (by decide) hL hb (show a < 9000 by omega) h32
  obtain ⟨bs, s1', s2, s3⟩ := r_word (sw := [115, 108, 105, 112]) (bytes := bytes) (by decide) hL hb (show a < 9000 by omega) h32
  cases bl
  · -- no lot
    have l1 : fX4_nextIsWord [108, 111, 116] bytes (Int32.ofNat L) (Int32.ofNat a) = some (0, Int32.ofNat a) := l1
    have l2 : fX6_takeWord [108, 111, 116] buf (Int32.ofNat L) (Int32.ofNat a) 0 = some (0, Int32.ofNat a) := l2
    cases bc
    · -- no costs
      have c1 : fX4_nextIsWord [99, 111, 115, 116, 115] bytes (Int32.ofNat L) (Int32.ofNat a) = some (0, Int32.ofNat a) := c1
      have c2 : fX6_takeWord [99, 111, 115, 116, 115] buf (Int32.ofNat L) (Int32.ofNat a) 0 = some (0, Int32.ofNat a) := c2
      -- the error of a word that is none
      have bad : ∀ (pos seen2 ns2 : Int32) (d2 : Nat → Int32), fX4_readStatement ea bytes (Int32.ofNat L) (Int32.ofNat a) 0 (zbi cr) (zbi sr) hh cc rr co li es se p w s = some (Int32.ofNat a, Int32.ofNat a, -2, zbi cr, zbi sr, cc, rr, co, li, es, se, p, w, s) → fX6_statement buf (Int32.ofNat L) (Int32.ofNat a) 0 ea' d ns (zseen cr sr) = some (pos, -2, Int32.ofNat a, d2, ns2, seen2) → ∃ (ea1 er1 cr1 sr1 cc1 rr1 ea2 er2 pos2 ea2' ns2 seen2 : Int32) (a1 a2 : Nat) (co1 li1 es1 se1 p1 w1 s1 d2 : Nat → Int32), fX4_readStatement ea bytes (Int32.ofNat L) (Int32.ofNat a) 0 (zbi cr) (zbi sr) hh cc rr co li es se p w s = some (ea1, Int32.ofNat a1, er1, cr1, sr1, cc1, rr1, co1, li1, es1, se1, p1, w1, s1) ∧ fX4_takeSemicolon ea1 bytes (Int32.ofNat L) (Int32.ofNat a1) er1 = some (ea2, Int32.ofNat a2, er2) ∧ fX6_statement buf (Int32.ofNat L) (Int32.ofNat a) 0 ea' d ns (zseen cr sr) = some (pos2, er2, ea2', d2, ns2, seen2) ∧ a2 ≤ 800 ∧ BO p1 w1 s1 ∧ RS L ea ea' a2 er2 ea2 ea2' pos2 ∧ (er2 = 0 → a < a2 ∧ PX hh cc1 rr1 co1 li1 es1 se1 p1 w1 s1 d2 ∧ ∃ cr' sr' : Bool, cr1 = zbi cr' ∧ sr1 = zbi sr' ∧ seen2 = zseen cr' sr') := fun pos seen2 ns2 d2 h1 h2 => by
        obtain ⟨a2, k1, k2⟩ := c_semi_err hL hb (show a < 8000 by omega) (show ¬ (-2 : Int32) = 0 by decide) (Int32.ofNat a)
        exact ⟨_, _, _, _, _, _, _, _, pos, _, ns2, seen2, a, a2, _, _, _, _, _, _, _, d2, h1, k2, h2, by omega, hbo, Or.inr ⟨by decide, rfl⟩, fun h => absurd h (by decide)⟩
      cases bs
      · have s1' : fX4_nextIsWord [115, 108, 105, 112] bytes (Int32.ofNat L) (Int32.ofNat a) = some (0, Int32.ofNat a) := s1'
        have s2 : fX6_takeWord [115, 108, 105, 112] buf (Int32.ofNat L) (Int32.ofNat a) 0 = some (0, Int32.ofNat a) := s2
        refine bad (Int32.ofNat a) (zseen cr sr) ns d ?_ ?_
        · unfold fX4_readStatement
          rw [l1, n_bind]
          show (if (0 : Int32) = 0 then _ else _) = _
          rw [if_pos rfl, c1, n_bind]
          show o_let _ _ = _
          rw [n_let, if_pos rfl, s1', n_bind]
          show o_let _ _ = _
          rw [n_let, if_pos rfl, c_fail0, n_bind]
        · unfold fX6_statement
          rw [n2, n_bind]
          show o_bind (fX6_takeWord [108, 111, 116] buf (Int32.ofNat L) (Int32.ofNat a) 0) _ = _
          rw [l2, n_bind]
          show o_let _ _ = _
          rw [n_let, if_pos rfl, c2, n_bind]
          show (if (0 : Int32) = 0 then _ else _) = _
          rw [if_pos rfl, s2, n_bind]
          show (if (0 : Int32) = 0 then _ else _) = _
          rw [if_pos rfl, m_rep0, n_bind]
          show o_bind (fX6_expect 59 buf (Int32.ofNat L) (Int32.ofNat a) (-2) (Int32.ofNat a)) _ = _
          rw [m_exp_err (by decide), n_bind]
      · have s1' : fX4_nextIsWord [115, 108, 105, 112] bytes (Int32.ofNat L) (Int32.ofNat a) = some (1, Int32.ofNat a) := s1'
        have s2 : fX6_takeWord [115, 108, 105, 112] buf (Int32.ofNat L) (Int32.ofNat a) 0 = some (1, Int32.ofNat (a + 4)) := s2
        have ha4 : a + 4 ≤ L := by
          rcases zword_end (s3 rfl) (fun i hi => zw_slip i hi) with h | h
          · exact h
          · exact absurd h (by decide)
        cases sr
        · -- the slip
          obtain ⟨v, vm, a1, er1, ea1, ea1', pos1, ns1, o1, o2, o3, o4, o5⟩ := r_one (lo := 1) (hi := 9) (bytes := bytes) (buf := buf) hL hb (by omega) (by omega) (show a + 4 ≤ 700 by omega) (er := 0) (ea := ea) (ea' := ea') (pos := Int32.ofNat (a + 4)) (Or.inl ⟨rfl, rfl, rfl, rfl, ha4⟩) ns
          have o1 : fX4_takeNumber 1 9 ea bytes (Int32.ofNat L) (Int32.ofNat (a + 4)) 0 = some (v, ea1, Int32.ofNat a1, er1) := o1
          have o2 : fX6_number 1 9 buf (Int32.ofNat L) (Int32.ofNat (a + 4)) 0 ea' ns = some (vm, pos1, er1, ea1', ns1) := o2
          obtain ⟨ea2, er2, pos2, ea2', a2, f1, f2, f3, f4, f5⟩ := r_fin hL hb o3 o4
          refine ⟨ea1, er1, zbi cr, 1, cc, v, ea2, er2, pos2, ea2', ns1, zseen cr true, a1, a2, co, li, es, se, p, w, s, upd d 3 vm, ?_, f1, ?_, f3, hbo, f4, fun h2 => ?_⟩
          · unfold fX4_readStatement
            rw [l1, n_bind]
            show (if (0 : Int32) = 0 then _ else _) = _
            rw [if_pos rfl, c1, n_bind]
            show o_let _ _ = _
            rw [n_let, if_pos rfl, s1', n_bind]
            show o_let _ _ = _
            rw [n_let, if_neg (by decide), zbF, if_pos rfl]
            unfold fX4_readSlip
            rw [n_let, show Int32.ofNat a + 4 = Int32.ofNat (a + 4) from (Int32.ofNat_add a 4).symm, o1, n_bind]
            rfl
          · unfold fX6_statement
            rw [n2, n_bind]
            show o_bind (fX6_takeWord [108, 111, 116] buf (Int32.ofNat L) (Int32.ofNat a) 0) _ = _
            rw [l2, n_bind]
            show o_let _ _ = _
            rw [n_let, if_pos rfl, c2, n_bind]
            show (if (0 : Int32) = 0 then _ else _) = _
            rw [if_pos rfl, s2, n_bind]
            show (if (1 : Int32) = 0 then _ else _) = _
            rw [if_neg (by decide), once_1, if_neg (by simp), n_bind]
            show o_bind (fX6_number 1 9 buf (Int32.ofNat L) (Int32.ofNat (a + 4)) 0 ea' ns) _ = _
            rw [o2, n_bind]
            show o_let _ _ = _
            rw [n_let]
            show o_bind (fX6_expect 59 buf (Int32.ofNat L) pos1 er1 ea1') _ = _
            rw [f2, n_bind]
            rfl
          · obtain ⟨g1, g2⟩ := f5 h2
            obtain ⟨-, g3, k, rfl, rfl, g4, g5⟩ := o5 g1
            exact ⟨by omega, ⟨_, _, _, _, _, _, _, slip_PB h g4 g5⟩, cr, true, rfl, rfl, rfl⟩
        · -- a second slip
          refine bad (Int32.ofNat (a + 4)) (zseen cr true) ns (upd d 3 0) ?_ ?_
          · unfold fX4_readStatement
            rw [l1, n_bind]
            show (if (0 : Int32) = 0 then _ else _) = _
            rw [if_pos rfl, c1, n_bind]
            show o_let _ _ = _
            rw [n_let, if_pos rfl, s1', n_bind]
            show o_let _ _ = _
            rw [n_let, if_neg (by decide), zbT, if_neg (by decide), c_fail0, n_bind]
          · unfold fX6_statement
            rw [n2, n_bind]
            show o_bind (fX6_takeWord [108, 111, 116] buf (Int32.ofNat L) (Int32.ofNat a) 0) _ = _
            rw [l2, n_bind]
            show o_let _ _ = _
            rw [n_let, if_pos rfl, c2, n_bind]
            show (if (0 : Int32) = 0 then _ else _) = _
            rw [if_pos rfl, s2, n_bind]
            show (if (1 : Int32) = 0 then _ else _) = _
            rw [if_neg (by decide), once_1, if_pos rfl, m_rep0, n_bind, n_bind]
            show o_bind (fX6_number 1 9 buf (Int32.ofNat L) (Int32.ofNat (a + 4)) (-2) (Int32.ofNat a) ns) _ = _
            rw [m_num_err (by decide), n_bind]
            show o_let _ _ = _
            rw [n_let]
            show o_bind (fX6_expect 59 buf (Int32.ofNat L) (Int32.ofNat (a + 4)) (-2) (Int32.ofNat a)) _ = _
            rw [m_exp_err (by decide), n_bind]
            rfl
    · -- costs
      have c1 : fX4_nextIsWord [99, 111, 115, 116, 115] bytes (Int32.ofNat L) (Int32.ofNat a) = some (1, Int32.ofNat a) := c1
      have c2 : fX6_takeWord [99, 111, 115, 116, 115] buf (Int32.ofNat L) (Int32.ofNat a) 0 = some (1, Int32.ofNat (a + 5)) := c2
      have ha5 : a + 5 ≤ L := by
        rcases zword_end (c3 rfl) (fun i hi => zw_costs i hi) with h | h
        · exact h
        · exact absurd h (by decide)
      have hbs : bs = false := by
        cases bs
        · rfl
        · exact (zword_one (c3 rfl) (s3 rfl) (by decide) (by decide) (by decide)).elim
      subst hbs
      have s1' : fX4_nextIsWord [115, 108, 105, 112] bytes (Int32.ofNat L) (Int32.ofNat a) = some (0, Int32.ofNat a) := s1'
      cases cr
      · obtain ⟨a1, er1, ea1, ea1', pos1, co1, d1, ns1, r1, r2, r3, r4, r5, r6, r7⟩ := r_costs hL hb (zseen true sr) (fun (x9 : Int32) (x10 : Int32) (x11 : Int32) (a12 : Nat → Int32) (x13 : Int32) (x14 : Int32) => o_bind (fX6_expect (59 : Int32) buf (Int32.ofNat L) x9 x10 x11) (fun (x16, x17, x18) => some (x16, x17, x18, a12, x13, x14))) ea ea' 5 0 1024 (a + 5) 0 ea ea' (Int32.ofNat (a + 5)) co d ns (by omega) (by omega) (by omega) (Or.inl ⟨rfl, rfl, rfl, rfl, ha5⟩) (fun q hq => absurd hq (Nat.not_lt_zero _))
        have hRS : RS L ea ea' a1 er1 ea1 ea1' pos1 := by
          rcases r4 with ⟨g1, g2, g3, g4, g5, g6⟩ | h
          · exact Or.inl ⟨g1, g2, g3, g4, g5⟩
          · exact Or.inr h
        obtain ⟨ea2, er2, pos2, ea2', a2, f1, f2, f3, f4, f5⟩ := r_fin hL hb (show a1 ≤ 700 by omega) hRS
        refine ⟨ea1, er1, 1, zbi sr, cc, rr, ea2, er2, pos2, ea2', ns1, zseen true sr, a1, a2, co1, li, es, se, p, w, s, d1, ?_, f1, ?_, f3, hbo, f4, fun h2 => ?_⟩
        · unfold fX4_readStatement
          rw [l1, n_bind]
          show (if (0 : Int32) = 0 then _ else _) = _
          rw [if_pos rfl, c1, n_bind]
          show o_let _ _ = _
          rw [n_let, if_neg (by decide), zbF, if_pos rfl]
          unfold fX4_readCosts
          rw [n_let, show Int32.ofNat a + 5 = Int32.ofNat (a + 5) from (Int32.ofNat_add a 5).symm]
          exact (congrArg (fun o => o_bind o _) r1).trans rfl
        · unfold fX6_statement
          rw [n2, n_bind]
          show o_bind (fX6_takeWord [108, 111, 116] buf (Int32.ofNat L) (Int32.ofNat a) 0) _ = _
          rw [l2, n_bind]
          show o_let _ _ = _
          rw [n_let, if_pos rfl, c2, n_bind]
          show (if (1 : Int32) = 0 then _ else _) = _
          rw [if_neg (by decide), once_0, if_neg (by simp), n_bind]
          refine r2.trans ?_
          rw [f2, n_bind]
        · obtain ⟨g1, g2⟩ := f5 h2
          rcases r4 with ⟨-, -, -, -, -, g6⟩ | ⟨hbad, -⟩
          · exact ⟨by omega, ⟨_, _, _, _, _, _, _, cost_PB h (fun q hq => r5 q hq g1) r6⟩, true, sr, rfl, rfl, rfl⟩
          · exact absurd g1 hbad
      · -- costs once more
        have key := m_costs_err (L := L) (buf := buf) (show ¬ (-2 : Int32) = 0 by decide) (zseen true sr) (fun (x9 : Int32) (x10 : Int32) (x11 : Int32) (a12 : Nat → Int32) (x13 : Int32) (x14 : Int32) => o_bind (fX6_expect (59 : Int32) buf (Int32.ofNat L) x9 x10 x11) (fun (x16, x17, x18) => some (x16, x17, x18, a12, x13, x14))) (Int32.ofNat (a + 5)) (Int32.ofNat a) ns 5 0 1024 d (by omega) (by omega)
        obtain ⟨d2, hk⟩ := key
        obtain ⟨a2, k1, k2⟩ := c_semi_err hL hb (show a < 8000 by omega) (show ¬ (-2 : Int32) = 0 by decide) (Int32.ofNat a)
        refine ⟨Int32.ofNat a, -2, zbi true, zbi sr, cc, rr, Int32.ofNat a, -2, Int32.ofNat (a + 5), Int32.ofNat a, ns, zseen true sr, a, a2, co, li, es, se, p, w, s, d2, ?_, k2, ?_, by omega, hbo, Or.inr ⟨by decide, rfl⟩, fun h => absurd h (by decide)⟩
        · unfold fX4_readStatement
          rw [l1, n_bind]
          show (if (0 : Int32) = 0 then _ else _) = _
          rw [if_pos rfl, c1, n_bind]
          show o_let _ _ = _
          rw [n_let, if_neg (by decide), zbT, if_neg (by decide), s1', n_bind]
          show o_let _ _ = _
          rw [n_let, if_pos rfl, c_fail0, n_bind]
        · unfold fX6_statement
          rw [n2, n_bind]
          show o_bind (fX6_takeWord [108, 111, 116] buf (Int32.ofNat L) (Int32.ofNat a) 0) _ = _
          rw [l2, n_bind]
          show o_let _ _ = _
          rw [n_let, if_pos rfl, c2, n_bind]
          show (if (1 : Int32) = 0 then _ else _) = _
          rw [if_neg (by decide), once_0, if_pos rfl, m_rep0, n_bind, n_bind]
          refine hk.trans ?_
          rw [m_exp_err (by decide), n_bind]
  · -- a lot
    have l1 : fX4_nextIsWord [108, 111, 116] bytes (Int32.ofNat L) (Int32.ofNat a) = some (1, Int32.ofNat a) := l1
    have l2 : fX6_takeWord [108, 111, 116] buf (Int32.ofNat L) (Int32.ofNat a) 0 = some (1, Int32.ofNat (a + 3)) := l2
    have ha3 : a + 3 ≤ L := by
      rcases zword_end (l3 rfl) (fun i hi => zw_lot i hi) with h | h
      · exact h
      · exact absurd h (by decide)
    obtain ⟨ea1, er1, cc1, pos1, ea1', ns1, a1, li1, es1, se1, p1, w1, s1, d1, r1, r2, r3, r4, r5, r6⟩ := r_lot hL hb h ha3 ea ea' ns
    obtain ⟨ea2, er2, pos2, ea2', a2, f1, f2, f3, f4, f5⟩ := r_fin hL hb r3 r5
    refine ⟨ea1, er1, zbi cr, zbi sr, cc1, rr, ea2, er2, pos2, ea2', ns1, zseen cr sr, a1, a2, co, li1, es1, se1, p1, w1, s1, d1, ?_, f1, ?_, f3, r4, f4, fun h2 => ?_⟩
    · unfold fX4_readStatement
      rw [l1, n_bind]
      show (if (1 : Int32) = 0 then _ else _) = _
      rw [if_neg (by decide), r1, n_bind]
    · unfold fX6_statement
      rw [n2, n_bind]
      show o_bind (fX6_takeWord [108, 111, 116] buf (Int32.ofNat L) (Int32.ofNat a) 0) _ = _
      rw [l2, n_bind]
      show o_let _ _ = _
      rw [n_let, if_neg (by decide), r2, n_bind]
      show o_bind (fX6_expect 59 buf (Int32.ofNat L) pos1 er1 ea1') _ = _
      rw [f2, n_bind]
    · obtain ⟨g1, g2⟩ := f5 h2
      obtain ⟨g3, g4⟩ := r6 g1
      exact ⟨by omega, g4, cr, sr, rfl, rfl, rfl⟩
end ZPB
end ZST6
