theorem PX_QB {hh cc rr : Int32} {co li es se p w s d : Nat → Int32} (h : PX hh cc rr co li es se p w s d) : QB (hh, cc, rr, 0, co, li, es, se, p, w, s) d := by
  obtain ⟨H, n, m, ln, pr, wa, sl, h1, h2, h3, -⟩ := h
  exact ⟨H, n, m, ln, pr, wa, sl, h1, h2, h3⟩
theorem c_clear (a b c e : Int32) (co : Nat → Int32) : fX0_clear a b c e co = some (20, 0, 3, 0, upd (upd (upd (upd (upd co 0 1) 1 5) 2 10) 3 8) 4 2) := rfl
/-- where the model's loop ends does not hang on what comes behind it -/
theorem loop_jm {L : Nat} {buf : Nat → Int32} : ∀ (f : Nat) (pos er ea : Int32) (d : Nat → Int32) (ns seen : Int32) {p1 e1 x1 n1 s1 : Int32} {d1 : Nat → Int32}, fX6_load_L103 (fun p q r dd n s => some (p, q, r, n, s, 0, 0, 0, dd, dd, (fun _ => dd), 0, 0, 0)) buf (Int32.ofNat L) f pos er ea d ns seen = some (p1, e1, x1, n1, s1, 0, 0, 0, d1, d1, (fun _ => d1), 0, 0, 0) → ∀ jm : Int32 → Int32 → Int32 → (Nat → Int32) → Int32 → Int32 → Option (Int32 × Int32 × Int32 × Int32 × Int32 × Int32 × Int32 × Int32 × (Nat → Int32) × (Nat → Int32) × (Nat → Nat → Int32) × Int32 × Int32 × Int32), fX6_load_L103 jm buf (Int32.ofNat L) f pos er ea d ns seen = jm p1 e1 x1 d1 n1 s1
  | 0, _, _, _, _, _, _, _, _, _, _, _, _, h, _ => by rw [fX6_load_L103] at h; cases h
  | f + 1, pos, er, ea, d, ns, seen, p1, e1, x1, n1, s1, d1, h, jm => by
    have ij : ∀ {a b c e g : Int32} {dd : Nat → Int32}, some (a, b, c, e, g, (0 : Int32), (0 : Int32), (0 : Int32), dd, dd, (fun _ : Nat => dd), (0 : Int32), (0 : Int32), (0 : Int32)) = some (p1, e1, x1, n1, s1, 0, 0, 0, d1, d1, (fun _ => d1), 0, 0, 0) → a = p1 ∧ b = e1 ∧ c = x1 ∧ e = n1 ∧ g = s1 ∧ dd = d1 := fun h => by
      injection h with h
      injection h with h1 h
      injection h with h2 h
      injection h with h3 h
      injection h with h4 h
      injection h with h5 h
      injection h with h6 h
      injection h with h7 h
      injection h with h8 h
      injection h with h9 h
      exact ⟨h1, h2, h3, h4, h5, h9⟩
    rw [fX6_load_L103] at h ⊢
    by_cases he : er = 0
    · subst he
      rw [m_good0, n_bind, if_neg (by decide)] at h ⊢
      cases ha : fX6_ahead buf (Int32.ofNat L) pos with
      | none => rw [ha] at h; cases h
      | some v =>
        obtain ⟨v1, v2⟩ := v
        rw [ha, n_bind] at h
        rw [n_bind]
        replace h : (if v1 = -1 then some (v2, (0 : Int32), ea, ns, seen, (0 : Int32), (0 : Int32), (0 : Int32), d, d, (fun _ : Nat => d), (0 : Int32), (0 : Int32), (0 : Int32)) else o_bind (fX6_statement buf (Int32.ofNat L) v2 0 ea d ns seen) (fun (x58, x59, x60, a61, x62, x63) => (fX6_load_L103 (fun p q r dd n s => some (p, q, r, n, s, 0, 0, 0, dd, dd, (fun _ => dd), 0, 0, 0)) buf (Int32.ofNat L) f x58 x59 x60 a61 x62 x63))) = some (p1, e1, x1, n1, s1, 0, 0, 0, d1, d1, (fun _ => d1), 0, 0, 0) := h
        show (if v1 = -1 then jm v2 0 ea d ns seen else o_bind (fX6_statement buf (Int32.ofNat L) v2 0 ea d ns seen) (fun (x58, x59, x60, a61, x62, x63) => (fX6_load_L103 jm buf (Int32.ofNat L) f x58 x59 x60 a61 x62 x63))) = _
        by_cases h1 : v1 = -1
        · rw [if_pos h1] at h ⊢
          obtain ⟨rfl, rfl, rfl, rfl, rfl, rfl⟩ := ij h
          rfl
        · rw [if_neg h1] at h ⊢
          cases hs : fX6_statement buf (Int32.ofNat L) v2 0 ea d ns seen with
          | none => rw [hs] at h; cases h
          | some u =>
            obtain ⟨u1, u2, u3, u4, u5, u6⟩ := u
            rw [hs, n_bind] at h
            rw [n_bind]
            exact loop_jm f u1 u2 u3 u4 u5 u6 h jm
    · rw [m_good1 he, n_bind, if_pos rfl] at h ⊢
      obtain ⟨rfl, rfl, rfl, rfl, rfl, rfl⟩ := ij h
      rfl
/-- the text read into the bill that is kept for it, and the model's reading: the same error, or the same bill -/
theorem r_into {L : Nat} {bytes buf : Nat → Int32} (hL : L ≤ 500) (hb : ∀ i, i < L → bytes i &&& 255 = buf i) {z : Nat} (hz : L ≤ z) (hz5 : z ≤ 500) (e1 l1 a1 r1 c1 s1 oh oc orr oa : Int32) (oco oli oes ose op ow os draft : Nat → Int32) (hbo : BO op ow os) (ns : Int32) :
    ∃ (er ea at' cr sr hv cc rr pos ea' ns1 seen1 hm w p0 e0 x0 p2 er2 x2 ns2 : Int32) (co li es se p wa s d : Nat → Int32), fX4_readInto (Int32.ofNat L) (Int32.ofNat z) e1 bytes l1 a1 r1 c1 s1 oh oc orr oa oco oli oes ose op ow os = some (er, 0, ea, Int32.ofNat L, at', er, cr, sr, hv, cc, rr, 0, co, li, es, se, p, wa, s) ∧
      fX6_takeWord [98, 105, 108, 108] buf (Int32.ofNat L) 0 0 = some (w, p0) ∧ ((w = 0 ∧ e0 = -2 ∧ x0 = p0) ∨ (w = 1 ∧ e0 = 0 ∧ x0 = -1)) ∧ fX6_number 4 40 buf (Int32.ofNat L) p0 e0 x0 ns = some (hm, p2, er2, x2, ns2) ∧
      (∀ jm, ∃ p3 e3 x3, fX6_expect 59 buf (Int32.ofNat L) p2 er2 x2 = some (p3, e3, x3) ∧ fX6_load_L103 jm buf (Int32.ofNat L) 1024 p3 e3 x3 (zlb hm draft) ns2 0 = jm pos er ea' d ns1 seen1) ∧ BO p wa s ∧ ((er = 0 ∧ ea = -1 ∧ ea' = -1 ∧ PX hv cc rr co li es se p wa s d) ∨ (¬ er = 0 ∧ ea' = ea)) := by
  obtain ⟨ea1, er1, pos1, ea1', hv, hm, w, p0, e0, x0, p2, er2, x2, ns2, b1, h1, h2, h3, h4, h5, h6, h7, h8⟩ := r_head (bytes := bytes) (buf := buf) hL hb 20 ns
  have hbeg : fX4_begin (Int32.ofNat L) (Int32.ofNat z) e1 l1 a1 r1 c1 s1 = some (-1, Int32.ofNat L, 0, 0, 0, 0) := by
    unfold fX4_begin
    rw [n_let, if_neg (fun h => by
      have := (n_lt (by omega) (by omega)).mp h; omega)]
  have start : ∀ r, fX4_readInto_L16 (fun (x19 : Int32) (x20 : Int32) (x21 : Int32) (x22 : Int32) (x23 : Int32) (x24 : Int32) (x25 : Int32) (a26 : Nat → Int32) (a27 : Nat → Int32) (a28 : Nat → Int32) (a29 : Nat → Int32) (a30 : Nat → Int32) (a31 : Nat → Int32) (a32 : Nat → Int32) => some (x21, (0 : Int32), x19, Int32.ofNat L, x20, x21, x22, x23, hv, x24, x25, (0 : Int32), a26, a27, a28, a29, a30, a31, a32)) bytes (Int32.ofNat L) hv 1024 0 ea1 (Int32.ofNat b1) er1 0 0 0 3 (upd (upd (upd (upd (upd oco 0 1) 1 5) 2 10) 3 8) 4 2) oli oes ose op ow os = r → fX4_readInto (Int32.ofNat L) (Int32.ofNat z) e1 bytes l1 a1 r1 c1 s1 oh oc orr oa oco oli oes ose op ow os = r := fun r hr => by
    unfold fX4_readInto
    rw [hbeg, n_bind]
    show o_bind (fX0_clear oh oc orr oa oco) _ = _
    rw [c_clear, n_bind]
    show o_bind (fX4_readHead (-1) bytes (Int32.ofNat L) 0 0 20) _ = _
    rw [h1, n_bind]
    exact hr
  by_cases her : er1 = 0
  · obtain ⟨H, g1, g2, rfl, rfl⟩ := h8 her
    rcases h7 with ⟨-, q2, q3, q4, q5⟩ | ⟨q, -⟩
    · subst her q2 q3 q4
      have hx := lb_PB g1 g2 draft oco oli oes ose op ow os hbo
      have key := fun jm => r_loop hL hb (Int32.ofNat H) (fun (x19 : Int32) (x20 : Int32) (x21 : Int32) (x22 : Int32) (x23 : Int32) (x24 : Int32) (x25 : Int32) (a26 : Nat → Int32) (a27 : Nat → Int32) (a28 : Nat → Int32) (a29 : Nat → Int32) (a30 : Nat → Int32) (a31 : Nat → Int32) (a32 : Nat → Int32) => some (x21, (0 : Int32), x19, Int32.ofNat L, x20, x21, x22, x23, Int32.ofNat H, x24, x25, (0 : Int32), a26, a27, a28, a29, a30, a31, a32)) jm (-1) (-1) L 0 1024 b1 0 3 ns2 false false _ _ _ _ _ _ _ _ (by omega) (by omega) (by omega) q5 hx
      -- what the loop does does not hang on what comes behind it
      obtain ⟨x1, x2', x3, x4, x5, x6, x7, x8, x9, x10, x11, y1, y2, y3, y4, y5, y6, y7, y8, z1, z2, z3, z4⟩ := key (fun p q r dd n s => some (p, q, r, n, s, 0, 0, 0, dd, dd, (fun _ => dd), 0, 0, 0))
      refine ⟨x3, x1, x2', x4, x5, _, x6, x7, x8, x9, x10, x11, _, w, p0, e0, x0, p2, er2, x2, ns2, y1, y2, y3, y4, y5, y6, y7, y8, start _ z1, h2, h3, h4, fun jm => ⟨_, _, _, h5, ?_⟩, z3, z4⟩
      have zz := loop_jm (L := L) (buf := buf) 1024 (Int32.ofNat b1) 0 (-1) (zlb (Int32.ofNat H) draft) ns2 (zseen false false) z2
      exact zz jm
    · exact absurd her q
  · have hee : ea1' = ea1 := by
      rcases h7 with ⟨h, -⟩ | ⟨-, h⟩
      · exact absurd h her
      · exact h
    refine ⟨er1, ea1, Int32.ofNat b1, 0, 0, hv, 0, 3, pos1, ea1', ns2, 0, hm, w, p0, e0, x0, p2, er2, x2, ns2, upd (upd (upd (upd (upd oco 0 1) 1 5) 2 10) 3 8) 4 2, oli, oes, ose, op, ow, os, zlb hm draft, start _ ?_, h2, h3, h4, fun jm => ⟨_, _, _, h5, ?_⟩, hbo, Or.inr ⟨her, hee⟩⟩
    · show fX4_readInto_L16 _ bytes (Int32.ofNat L) hv (1023 + 1) 0 ea1 (Int32.ofNat b1) er1 0 0 0 3 _ oli oes ose op ow os = _
      rw [fX4_readInto_L16, if_neg (by decide), if_neg her]
    · show fX6_load_L103 jm buf (Int32.ofNat L) (1023 + 1) pos1 er1 ea1' (zlb hm draft) ns2 0 = _
      rw [fX6_load_L103, m_good1 her, n_bind, if_pos rfl]
