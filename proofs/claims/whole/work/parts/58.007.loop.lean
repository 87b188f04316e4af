section ZLP
variable {L : Nat} {bytes buf : Nat → Int32}
theorem r_head (hL : L ≤ 500) (hb : ∀ i, i < L → bytes i &&& 255 = buf i) (h0 ns : Int32) :
    ∃ (ea1 er1 pos1 ea1' hv hm w p0 e0 x0 p2 er2 x2 ns2 : Int32) (a1 : Nat), fX4_readHead (-1) bytes (Int32.ofNat L) 0 0 h0 = some (ea1, Int32.ofNat a1, er1, hv) ∧ fX6_takeWord [98, 105, 108, 108] buf (Int32.ofNat L) 0 0 = some (w, p0) ∧ ((w = 0 ∧ e0 = -2 ∧ x0 = p0) ∨ (w = 1 ∧ e0 = 0 ∧ x0 = -1)) ∧ fX6_number 4 40 buf (Int32.ofNat L) p0 e0 x0 ns = some (hm, p2, er2, x2, ns2) ∧ fX6_expect 59 buf (Int32.ofNat L) p2 er2 x2 = some (pos1, er1, ea1') ∧ a1 ≤ 800 ∧ RS L (-1) (-1) a1 er1 ea1 ea1' pos1 ∧ (er1 = 0 → ∃ H : Nat, 4 ≤ H ∧ H ≤ 40 ∧ hv = Int32.ofNat H ∧ hm = Int32.ofNat H) := by
  obtain ⟨b, a, k1, k2, k3, k4, k5, k6⟩ := c_word_any (sw := [98, 105, 108, 108]) (bytes := bytes) (buf := buf) (a := 0) (by decide) hL hb (by omega)
  have k4 : fX4_nextIsWord [98, 105, 108, 108] bytes (Int32.ofNat L) 0 = some (zbi b, Int32.ofNat a) := k4
  have k5 : fX6_takeWord [98, 105, 108, 108] buf (Int32.ofNat L) 0 0 = some (zbi b, Int32.ofNat (if b = true then a + 4 else a)) := k5
  have e4 : Int32.ofNat a + 4 = Int32.ofNat (a + 4) := (Int32.ofNat_add a 4).symm
  cases b
  · have k5 : fX6_takeWord [98, 105, 108, 108] buf (Int32.ofNat L) 0 0 = some (0, Int32.ofNat a) := k5
    obtain ⟨v, a1, n1, n2⟩ := c_num_err hL hb (show a + 4 < 8000 by omega) (show ¬ (-2 : Int32) = 0 by decide) 4 40 (Int32.ofNat a)
    obtain ⟨a2, n3, n4⟩ := c_semi_err hL hb (show a1 < 8000 by omega) (show ¬ (-2 : Int32) = 0 by decide) (Int32.ofNat a)
    refine ⟨Int32.ofNat a, -2, Int32.ofNat a, Int32.ofNat a, v, 0, 0, Int32.ofNat a, -2, Int32.ofNat a, Int32.ofNat a, -2, Int32.ofNat a, ns, a2, ?_, k5, Or.inl ⟨rfl, rfl, rfl⟩, m_num_err (by decide) _ _ _ _ _, m_exp_err (by decide) _ _ _, by omega, Or.inr ⟨by decide, rfl⟩, fun h => absurd h (by decide)⟩
    unfold fX4_readHead
    rw [k4, n_bind]
    show o_let _ _ = _
    rw [n_let, zbF, if_pos rfl, c_fail0, n_bind]
    show o_let _ _ = _
    rw [n_let, e4, n2, n_bind]
    show o_bind (fX4_takeSemicolon (Int32.ofNat a) bytes (Int32.ofNat L) (Int32.ofNat a1) (-2)) _ = _
    rw [n4, n_bind]
  · have k5 : fX6_takeWord [98, 105, 108, 108] buf (Int32.ofNat L) 0 0 = some (1, Int32.ofNat (a + 4)) := k5
    have ha : a + 4 ≤ L := by
      rcases zword_end (k6 rfl) (fun i hi => by
        have hi : i < 4 := hi
        have : i = 0 ∨ i = 1 ∨ i = 2 ∨ i = 3 := by omega
        rcases this with rfl | rfl | rfl | rfl <;> decide) with h | h
      · exact h
      · exact absurd h (by decide)
    obtain ⟨v, vm, a1, er1, ea1, ea1', pos1, ns1, o1, o2, o3, o4, o5⟩ := r_one (lo := 4) (hi := 40) (bytes := bytes) (buf := buf) hL hb (by omega) (by omega) (show a + 4 ≤ 700 by omega) (er := 0) (ea := -1) (ea' := -1) (pos := Int32.ofNat (a + 4)) (Or.inl ⟨rfl, rfl, rfl, rfl, ha⟩) ns
    have o1 : fX4_takeNumber 4 40 (-1) bytes (Int32.ofNat L) (Int32.ofNat (a + 4)) 0 = some (v, ea1, Int32.ofNat a1, er1) := o1
    obtain ⟨ea2, er2, pos2, ea2', a2, f1, f2, f3, f4, f5⟩ := r_fin hL hb o3 o4
    refine ⟨ea2, er2, pos2, ea2', v, vm, 1, Int32.ofNat (a + 4), 0, -1, pos1, er1, ea1', ns1, a2, ?_, k5, Or.inr ⟨rfl, rfl, rfl⟩, o2, f2, f3, f4, fun h2 => ?_⟩
    · unfold fX4_readHead
      rw [k4, n_bind]
      show o_let _ _ = _
      rw [n_let, zbT, if_neg (by decide)]
      show o_let _ _ = _
      rw [n_let, e4, o1, n_bind]
      show o_bind (fX4_takeSemicolon ea1 bytes (Int32.ofNat L) (Int32.ofNat a1) er1) _ = _
      rw [f1, n_bind]
    · obtain ⟨g1, g2⟩ := f5 h2
      obtain ⟨-, -, k, rfl, rfl, g4, g5⟩ := o5 g1
      exact ⟨k, g4, g5, rfl, rfl⟩
/-- the statements, up to the end or the first error -/
theorem r_loop (hL : L ≤ 500) (hb : ∀ i, i < L → bytes i &&& 255 = buf i) (hh : Int32) (jc : Int32 → Int32 → Int32 → Int32 → Int32 → Int32 → Int32 → (Nat → Int32) → (Nat → Int32) → (Nat → Int32) → (Nat → Int32) → (Nat → Int32) → (Nat → Int32) → (Nat → Int32) → Option (Int32 × Int32 × Int32 × Int32 × Int32 × Int32 × Int32 × Int32 × Int32 × Int32 × Int32 × Int32 × (Nat → Int32) × (Nat → Int32) × (Nat → Int32) × (Nat → Int32) × (Nat → Int32) × (Nat → Int32) × (Nat → Int32))) (jm : Int32 → Int32 → Int32 → (Nat → Int32) → Int32 → Int32 → Option (Int32 × Int32 × Int32 × Int32 × Int32 × Int32 × Int32 × Int32 × (Nat → Int32) × (Nat → Int32) × (Nat → Nat → Int32) × Int32 × Int32 × Int32)) (ea ea' : Int32) :
    ∀ (m k f a : Nat) (cc rr ns : Int32) (cr sr : Bool) (co li es se p w s d : Nat → Int32), L ≤ a + m → m + 1 < f → k ≤ a → a ≤ L → PX hh cc rr co li es se p w s d →
    ∃ (ea1 at1 er1 cr1 sr1 cc1 rr1 pos1 ea1' ns1 seen1 : Int32) (co1 li1 es1 se1 p1 w1 s1 d1 : Nat → Int32), fX4_readInto_L16 jc bytes (Int32.ofNat L) hh f (Int32.ofNat k) ea (Int32.ofNat a) 0 (zbi cr) (zbi sr) cc rr co li es se p w s = jc ea1 at1 er1 cr1 sr1 cc1 rr1 co1 li1 es1 se1 p1 w1 s1 ∧ fX6_load_L103 jm buf (Int32.ofNat L) f (Int32.ofNat a) 0 ea' d ns (zseen cr sr) = jm pos1 er1 ea1' d1 ns1 seen1 ∧ BO p1 w1 s1 ∧ ((er1 = 0 ∧ ea1 = ea ∧ ea1' = ea' ∧ PX hh cc1 rr1 co1 li1 es1 se1 p1 w1 s1 d1) ∨ (¬ er1 = 0 ∧ ea1' = ea1))
  | m, k, f, a, cc, rr, ns, cr, sr, co, li, es, se, p, w, s, d, hm, hf, hk, ha, hx => by
    obtain ⟨f, rfl⟩ : ∃ g, f = g + 1 := ⟨f - 1, by omega⟩
    obtain ⟨H, n, mm, ln, pr, wa, sl, hp⟩ := id hx
    have hbo := PB_BO hp
    obtain ⟨a1, k1, k2, k3, k4, k5⟩ := r_next (bytes := bytes) (buf := buf) hL hb (show a < 10000 by omega)
    by_cases hk5 : k < 500
    · have h500 := n_500 hk5
      by_cases hend : btx buf L a1 = -1
      · refine ⟨ea, Int32.ofNat a1, 0, zbi cr, zbi sr, cc, rr, Int32.ofNat a1, ea', ns, zseen cr sr, co, li, es, se, p, w, s, d, ?_, ?_, hbo, Or.inl ⟨rfl, rfl, rfl, hx⟩⟩
        · rw [fX4_readInto_L16, if_neg h500, if_pos rfl, k4, n_bind]
          exact if_pos hend
        · rw [fX6_load_L103, m_good0, n_bind, if_neg (by decide), k5, n_bind]
          exact if_pos hend
      · have ha1 : a1 < L := Nat.lt_of_not_le (fun h => hend (btx_end h))
        obtain ⟨ea1, er1, cr1, sr1, cc1, rr1, ea2, er2, pos2, ea2', ns2, seen2, b1, b2, co1, li1, es1, se1, p1, w1, s1, d2, r1, r2, r3, r4, r5, r6, r7⟩ := r_stmt hL hb hp (show a1 ≤ L by omega) k3 cr sr ea ea' ns
        match m, hm with
        | 0, hm => omega
        | m + 1, hm =>
          have C : fX4_readInto_L16 jc bytes (Int32.ofNat L) hh (f + 1) (Int32.ofNat k) ea (Int32.ofNat a) 0 (zbi cr) (zbi sr) cc rr co li es se p w s = fX4_readInto_L16 jc bytes (Int32.ofNat L) hh f (Int32.ofNat (k + 1)) ea2 (Int32.ofNat b2) er2 cr1 sr1 cc1 rr1 co1 li1 es1 se1 p1 w1 s1 := by
            rw [fX4_readInto_L16, if_neg h500, if_pos rfl, k4, n_bind]
            show (if btx buf L a1 = -1 then _ else _) = _
            rw [if_neg hend, r1, n_bind]
            show o_bind (fX4_takeSemicolon ea1 bytes (Int32.ofNat L) (Int32.ofNat b1) er1) _ = _
            rw [r2, n_bind]
            show o_let (Int32.ofNat k + 1) _ = _
            rw [n_let, n_s]
          have M : fX6_load_L103 jm buf (Int32.ofNat L) (f + 1) (Int32.ofNat a) 0 ea' d ns (zseen cr sr) = fX6_load_L103 jm buf (Int32.ofNat L) f pos2 er2 ea2' d2 ns2 seen2 := by
            rw [fX6_load_L103, m_good0, n_bind, if_neg (by decide), k5, n_bind]
            show (if btx buf L a1 = -1 then _ else _) = _
            rw [if_neg hend, r3, n_bind]
          by_cases her : er2 = 0
          · obtain ⟨g1, g2, cr', sr', g3, g4, g5⟩ := r7 her
            rcases r6 with ⟨q1, q2, q3, q4, q5⟩ | ⟨q, -⟩
            · subst q1 q2 q3 q4 g3 g4 g5
              obtain ⟨x1, x2, x3, x4, x5, x6, x7, x8, x9, x10, x11, y1, y2, y3, y4, y5, y6, y7, y8, z1, z2, z3, z4⟩ := r_loop hL hb hh jc jm ea2 ea2' m (k + 1) f b2 cc1 rr1 ns2 cr' sr' co1 li1 es1 se1 p1 w1 s1 d2 (by omega) (by omega) (by omega) q5 g2
              exact ⟨x1, x2, x3, x4, x5, x6, x7, x8, x9, x10, x11, y1, y2, y3, y4, y5, y6, y7, y8, C.trans z1, M.trans z2, z3, z4⟩
            · exact absurd her q
          · obtain ⟨g, rfl⟩ : ∃ g, f = g + 1 := ⟨f - 1, by omega⟩
            refine ⟨ea2, Int32.ofNat b2, er2, cr1, sr1, cc1, rr1, pos2, ea2', ns2, seen2, co1, li1, es1, se1, p1, w1, s1, d2, C.trans ?_, M.trans ?_, r5, ?_⟩
            · rw [fX4_readInto_L16, if_neg her]
              split <;> rfl
            · rw [fX6_load_L103, m_good1 her, n_bind, if_pos rfl]
            · rcases r6 with ⟨q, -⟩ | ⟨-, q⟩
              · exact absurd q her
              · exact Or.inr ⟨her, q⟩
    · refine ⟨ea, Int32.ofNat a, 0, zbi cr, zbi sr, cc, rr, Int32.ofNat a1, ea', ns, zseen cr sr, co, li, es, se, p, w, s, d, ?_, ?_, hbo, Or.inl ⟨rfl, rfl, rfl, hx⟩⟩
      · rw [fX4_readInto_L16, if_pos (show (500 : Int32) ≤ Int32.ofNat k from (n_le (a := 500) (by omega) (by omega)).mpr (by omega))]
      · rw [fX6_load_L103, m_good0, n_bind, if_neg (by decide), k5, n_bind]
        exact if_pos (btx_end (by omega))
/-- the bill that nothing stands in yet -/
def zlb (v : Int32) (r : Nat → Int32) : Nat → Int32 := upd (upd (upd (upd (upd (upd (upd (fun g => if 0 ≤ g ∧ g < 0 + 153 then 0 else r g) 0 v) 3 3) 4 1) 5 5) 6 10) 7 8) 8 2
theorem m_layBill (v : Int32) (r : Nat → Int32) : fX6_layBill v r = some (zlb v r) := by
  unfold fX6_layBill
  rw [n_let]
  refine (n_for0 (fun f i q => fX6_layBill_L2 _ f (Int32.ofNat i) q) 153 (fun i q => upd q (0 + i) 0) (fun a1 => o_let (upd a1 (0 : Int32).toNatClampNeg v) (fun a3 => o_let (upd a3 (3 : Int32).toNatClampNeg (3 : Int32)) (fun a4 => o_let (upd a4 (4 : Int32).toNatClampNeg (1 : Int32)) (fun a5 => o_let (upd a5 (5 : Int32).toNatClampNeg (5 : Int32)) (fun a6 => o_let (upd a6 (6 : Int32).toNatClampNeg (10 : Int32)) (fun a7 => o_let (upd a7 (7 : Int32).toNatClampNeg (8 : Int32)) (fun a8 => o_let (upd a8 (8 : Int32).toNatClampNeg (2 : Int32)) (fun a9 => some (a9))))))))) (fun f q => ?_) (fun f i q hi => ?_) 153 0 1024 r (by omega) (by omega)).trans ?_
  · simp only [fX6_layBill_L2, show ((153 : Int32) ≤ Int32.ofNat 153) from by decide, if_true]
  · simp (disch := omega) only [fX6_layBill_L2, show (153 : Int32) = Int32.ofNat 153 from rfl, n_le, n_rd, n_cl, n_let, n_s, show ¬ 153 ≤ i from by omega, if_false, Nat.zero_add]
  · rw [zfold_rng 0 (fun _ => 0) r 153]
    rfl
theorem lb_PB {H : Nat} (h1 : 4 ≤ H) (h2 : H ≤ 40) (r c li es se p w s : Nat → Int32) (hb : BO p w s) : PX (Int32.ofNat H) 0 3 (upd (upd (upd (upd (upd c 0 1) 1 5) 2 10) 3 8) 4 2) li es se p w s (zlb (Int32.ofNat H) r) := by
  obtain ⟨pr, wa, sl, b1, b2, b3⟩ := hb
  have hz : ∀ y, 9 ≤ y → y < 153 → zlb (Int32.ofNat H) r y = 0 := fun y h3 h4 => by
    unfold zlb
    simp (disch := omega) only [upd_ne]
    exact if_pos ⟨Nat.zero_le _, by omega⟩
  refine ⟨H, 0, 3, fun _ => 1, pr, wa, sl, ⟨h1, h2, by omega, by omega, by omega, fun i hi => absurd hi (Nat.not_lt_zero _), Nat.zero_le _⟩, ⟨rfl, rfl, rfl, fun i hi => absurd hi (Nat.not_lt_zero _), b1, b2, b3⟩, ⟨?_, ?_, ?_, ?_, fun k hk => ?_, fun i hi => absurd hi (Nat.not_lt_zero _)⟩, fun i _ hi => hz _ (by omega) (by omega)⟩
  · unfold zlb
    simp (disch := omega) only [upd_ne, upd_same]
  · unfold zlb
    simp (disch := omega) only [upd_ne]
    rfl
  · unfold zlb
    simp (disch := omega) only [upd_ne]
    rfl
  · unfold zlb
    simp (disch := omega) only [upd_ne, upd_same]
    rfl
  · have h5 : k = 0 ∨ k = 1 ∨ k = 2 ∨ k = 3 ∨ k = 4 := by omega
    unfold zlb
    rcases h5 with rfl | rfl | rfl | rfl | rfl <;> rfl
end ZLP
