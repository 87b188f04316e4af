section ZRL
variable {L : Nat} {bytes buf : Nat → Int32}
theorem c_word_skip {sw : List Int32} {a a' : Nat} (h1 : fX4_next bytes (Int32.ofNat L) (Int32.ofNat a) = some (btx buf L a', Int32.ofNat a')) (h2 : fX4_next bytes (Int32.ofNat L) (Int32.ofNat a') = some (btx buf L a', Int32.ofNat a')) : fX4_nextIsWord sw bytes (Int32.ofNat L) (Int32.ofNat a) = fX4_nextIsWord sw bytes (Int32.ofNat L) (Int32.ofNat a') := by
  unfold fX4_nextIsWord
  rw [h1, h2]
theorem PB_BO {H n m : Nat} {ln : Nat → Nat} {pr wa sl : Nat → Bool} {hh cc rr : Int32} {co es se d li p w s : Nat → Int32} (h : PB H n m ln pr wa sl hh cc rr co li es se p w s d) : BO p w s := ⟨pr, wa, sl, h.2.1.2.2.2.2.1, h.2.1.2.2.2.2.2.1, h.2.1.2.2.2.2.2.2⟩
theorem upd_zin (f : Nat → Int32) (n : Nat) (v u : Int32) : upd (zin f n n v) n u = zin f n n u := by
  funext j
  by_cases e : j = n
  · subst e; refine upd_same.trans ?_; unfold zin; rw [if_pos rfl]
  · refine (upd_ne e).trans ?_; unfold zin; rw [if_neg e, if_neg e]
theorem r_lot {H n m : Nat} {ln : Nat → Nat} {pr wa sl : Nat → Bool} {hh cc rr : Int32} {co es se d li p w s : Nat → Int32} (hL : L ≤ 500) (hb : ∀ i, i < L → bytes i &&& 255 = buf i) (h : PB H n m ln pr wa sl hh cc rr co li es se p w s d) {a : Nat} (ha : a + 3 ≤ L) (ea ea' ns : Int32) :
    ∃ (ea1 er1 cc1 pos ea1' ns1 : Int32) (a1 : Nat) (li1 es1 se1 p1 w1 s1 d1 : Nat → Int32), fX4_readLot ea bytes (Int32.ofNat L) (Int32.ofNat a) 0 hh cc li es se p w s = some (ea1, Int32.ofNat a1, er1, cc1, li1, es1, se1, p1, w1, s1) ∧ fX6_readLot (Int32.ofNat a) buf (Int32.ofNat L) (Int32.ofNat (a + 3)) 0 ea' d ns = some (pos, er1, ea1', d1, ns1) ∧ a1 ≤ 700 ∧ BO p1 w1 s1 ∧ RS L ea ea' a1 er1 ea1 ea1' pos ∧ (er1 = 0 → a < a1 ∧ PX hh cc1 rr co li1 es1 se1 p1 w1 s1 d1) := by
  have hbo := PB_BO h
  have h0 := h
  obtain ⟨hw, ⟨b1, b2, b3, b4, b5, b6, b7⟩, hm, hz⟩ := h
  have hn := hw.2.2.1
  have w6 := hw.2.2.2.2.2.1
  have hD := hw.2.2.2.2.2.2
  have hd1 : d (1 : Int32).toNatClampNeg = Int32.ofNat n := hm.2.1
  have hd0 : d (0 : Int32).toNatClampNeg = Int32.ofNat H := hm.1
  obtain ⟨ml, ml2⟩ := c_mostLines hw.2.1
  by_cases h24 : n = 24
  · refine ⟨Int32.ofNat a, -4, cc, Int32.ofNat (a + 3), Int32.ofNat a, ns, a, li, es, se, p, w, s, d, ?_, ?_, by omega, hbo, Or.inr ⟨by decide, rfl⟩, fun h => absurd h (by decide)⟩
    · unfold fX4_readLot
      rw [b2, h24, if_neg (by decide), c_fail0, n_bind]
    · unfold fX6_readLot
      rw [n_let, hd1, h24, if_pos (show Int32.ofNat 24 = 24 from rfl), m_rep0, n_bind]
      rfl
  · have hlt24 : n < 24 := by omega
    have c24 : Int32.ofNat n < 24 := (n_lt (b := 24) (by omega) (by omega)).mpr hlt24
    have c24' : ¬ Int32.ofNat n = 24 := fun h => by
      have := (n_eq (b := 24) (by omega) (by omega)).mp h; omega
    have hml : 4 ≤ (if H < 9 then H else 9) ∧ (if H < 9 then H else 9) ≤ 9 ∧ (if H < 9 then H else 9) ≤ H := by
      have := hw.1
      split <;> omega
    obtain ⟨v1, u1, a1, er1, ea1, ea1', pos1, ns1, p1, q1, r1, t1, g1⟩ := r_one (lo := 1) (hi := if H < 9 then H else 9) (bytes := bytes) (buf := buf) hL hb (by omega) (by omega) (show a + 3 ≤ 700 by omega) (er := 0) (ea := ea) (ea' := ea') (pos := Int32.ofNat (a + 3)) (Or.inl ⟨rfl, rfl, rfl, rfl, ha⟩) ns
    obtain ⟨v2, u2, a2, er2, ea2, ea2', pos2, ns2, p2, q2, r2, t2, g2⟩ := r_one (lo := 0) (hi := 9999) (bytes := bytes) (buf := buf) hL hb (by omega) (by omega) r1 t1 ns1
    obtain ⟨v3, u3, a3, er3, ea3, ea3', pos3, ns3, p3, q3, r3, t3, g3⟩ := r_one (lo := 0) (hi := 9) (bytes := bytes) (buf := buf) hL hb (by omega) (by omega) r2 t2 ns2
    have p1 : fX4_takeNumber 1 (Int32.ofNat (if H < 9 then H else 9)) ea bytes (Int32.ofNat L) (Int32.ofNat (a + 3)) 0 = some (v1, ea1, Int32.ofNat a1, er1) := p1
    have p2 : fX4_takeNumber 0 9999 ea1 bytes (Int32.ofNat L) (Int32.ofNat a1) er1 = some (v2, ea2, Int32.ofNat a2, er2) := p2
    have p3 : fX4_takeNumber 0 9 ea2 bytes (Int32.ofNat L) (Int32.ofNat a2) er2 = some (v3, ea3, Int32.ofNat a3, er3) := p3
    have q1 : fX6_number 1 (Int32.ofNat (if H < 9 then H else 9)) buf (Int32.ofNat L) (Int32.ofNat (a + 3)) 0 ea' ns = some (u1, pos1, er1, ea1', ns1) := q1
    have q2 : fX6_number 0 9999 buf (Int32.ofNat L) pos1 er1 ea1' ns1 = some (u2, pos2, er2, ea2', ns2) := q2
    have q3 : fX6_number 0 9 buf (Int32.ofNat L) pos2 er2 ea2' ns2 = some (u3, pos3, er3, ea3', ns3) := q3
    obtain ⟨a4, k1, k2, k3, k4, k5⟩ := r_next (bytes := bytes) (buf := buf) hL hb (show a3 < 10000 by omega)
    obtain ⟨n1, n2⟩ := r_stay (bytes := bytes) hL hb (show a4 < 10000 by omega) k3
    obtain ⟨out, x1, x2, x3⟩ := r_word (sw := [111, 117, 116]) (bytes := bytes) (by decide) hL hb (show a4 < 9000 by omega) k3
    obtain ⟨inn, y1, y2, y3⟩ := r_word (sw := [105, 110]) (bytes := bytes) (by decide) hL hb (show a4 < 9000 by omega) k3
    have ho : ¬ (out = true ∧ inn = true) := fun hh => zword_one (x3 hh.1) (y3 hh.2) (by decide) (by decide) (by decide)
    have x1' : fX4_nextIsWord [111, 117, 116] bytes (Int32.ofNat L) (Int32.ofNat a3) = some (zbi out, Int32.ofNat a4) := (c_word_skip k4 n1).trans x1
    have ea3e : Int32.ofNat a + 3 = Int32.ofNat (a + 3) := (Int32.ofNat_add a 3).symm
    have e6 : ∀ q : Nat, Int32.ofNat (9 + 6 * n) + Int32.ofNat q = Int32.ofNat (9 + 6 * n + q) := fun q => (Int32.ofNat_add _ q).symm
    have e60 : Int32.ofNat (9 + 6 * n) + 0 = Int32.ofNat (9 + 6 * n + 0) := e6 0
    have e61 : Int32.ofNat (9 + 6 * n) + 1 = Int32.ofNat (9 + 6 * n + 1) := e6 1
    have e62 : Int32.ofNat (9 + 6 * n) + 2 = Int32.ofNat (9 + 6 * n + 2) := e6 2
    have e63 : Int32.ofNat (9 + 6 * n) + 3 = Int32.ofNat (9 + 6 * n + 3) := e6 3
    have e64 : Int32.ofNat (9 + 6 * n) + 4 = Int32.ofNat (9 + 6 * n + 4) := e6 4
    have hdl := e_differentLots hn p w
    have hdl2 : zsum (zdfc p w) 0 n = Int32.ofNat (zct (zdfb pr wa) n) := zsum_ct (zdfb pr wa) n (fun i hi => by
      unfold zdfc zdfb
      rw [b5 i (by omega), b6 i (by omega)]
      cases pr i <;> cases wa i <;> rfl)
    rw [hdl2] at hdl
    by_cases her : er3 = 0
    · -- all three numbers taken
      obtain ⟨er2z, lt3, k3v, rfl, rfl, l3a, l3b⟩ := g3 her
      obtain ⟨er1z, lt2, k2v, rfl, rfl, l2a, l2b⟩ := g2 er2z
      obtain ⟨-, lt1, k1v, rfl, rfl, l1a, l1b⟩ := g1 er1z
      subst her
      have t3z : ea3 = ea ∧ ea3' = ea' ∧ pos3 = Int32.ofNat a3 ∧ a3 ≤ L := by
        rcases t3 with ⟨-, h⟩ | ⟨h, -⟩
        · exact h
        · exact absurd rfl h
      obtain ⟨rfl, rfl, rfl, hle3⟩ := t3z
      have ha4 : a4 ≤ L := by omega
      obtain ⟨hm', hD', hPB⟩ := lot_PB h0 hlt24 (l := k1v) ⟨l1a, by omega, by omega⟩ (Int32.ofNat k2v) (Int32.ofNat k3v) out inn ho
      have hdif := m_different (show n + 1 ≤ 24 by omega) hm'
      rw [hD'] at hdif
      have hins := c_insert (li := li) (es := es) (se := se) hlt24 b5 b6 b7 (Nat.le_refl n) (Int32.ofNat k1v) (Int32.ofNat k2v) (Int32.ofNat k3v)
      -- the model up to the count
      have M : fX6_readLot (Int32.ofNat a) buf (Int32.ofNat L) (Int32.ofNat (a + 3)) 0 ea3' d ns = (if Int32.ofNat (zct (zdfb pr wa) n + (if (out || inn) = true then 1 else 0)) ≤ 8 then some (Int32.ofNat (a4 + (if out = true then 3 else if inn = true then 2 else 0)), 0, ea3', zdl d n (Int32.ofNat k1v) (Int32.ofNat k2v) (Int32.ofNat k3v) out inn, ns3) else some (Int32.ofNat (a4 + (if out = true then 3 else if inn = true then 2 else 0)), -4, Int32.ofNat a4, zdl d n (Int32.ofNat k1v) (Int32.ofNat k2v) (Int32.ofNat k3v) out inn, ns3)) := by
        have tail : ∀ (x51 : Int32) (a52 : Nat → Int32), a52 1 = Int32.ofNat n → upd a52 1 (Int32.ofNat (n + 1)) = zdl d n (Int32.ofNat k1v) (Int32.ofNat k2v) (Int32.ofNat k3v) out inn → o_let (upd a52 (1 : Int32).toNatClampNeg ((a52 (1 : Int32).toNatClampNeg) + (1 : Int32))) (fun a54 => o_bind (fX6_different a54) (fun x55 => (if x55 ≤ (8 : Int32) then some (x51, (0 : Int32), ea3', a54, ns3) else o_bind (fX6_report (-4 : Int32) (Int32.ofNat a4) 0 ea3') (fun (x58, x59) => some (x51, x58, x59, a54, ns3))))) = (if Int32.ofNat (zct (zdfb pr wa) n + (if (out || inn) = true then 1 else 0)) ≤ 8 then some (x51, 0, ea3', zdl d n (Int32.ofNat k1v) (Int32.ofNat k2v) (Int32.ofNat k3v) out inn, ns3) else some (x51, -4, Int32.ofNat a4, zdl d n (Int32.ofNat k1v) (Int32.ofNat k2v) (Int32.ofNat k3v) out inn, ns3)) := fun x51 a52 h52 hz => by
          have h1 : upd a52 (1 : Int32).toNatClampNeg ((a52 (1 : Int32).toNatClampNeg) + (1 : Int32)) = zdl d n (Int32.ofNat k1v) (Int32.ofNat k2v) (Int32.ofNat k3v) out inn := by
            show upd a52 1 (a52 1 + 1) = _
            rw [h52, n_s]; exact hz
          rw [h1, n_let, hdif, n_bind, m_rep0, n_bind]
        unfold fX6_readLot
        rw [n_let, hd1, if_neg c24']
        show o_bind (fX6_isGood 0) _ = _
        rw [m_good0, n_bind, if_neg (by decide), e_lotAt, n_bind, hd0, ml2, n_bind, q1, n_bind]
        show o_rd 153 _ _ = _
        rw [e60, n_rd (by omega) (by omega), n_let, n_cl (by omega), q2, n_bind]
        show o_rd 153 _ _ = _
        rw [e61, n_rd (by omega) (by omega), n_let, n_cl (by omega), q3, n_bind]
        show o_rd 153 _ _ = _
        rw [e62, n_rd (by omega) (by omega), n_let, n_cl (by omega), m_good0, n_bind, if_neg (by decide), k5, n_bind]
        show o_rd 153 _ _ = _
        rw [e63, n_rd (by omega) (by omega), n_let, n_cl (by omega), e64, n_rd (by omega) (by omega), n_let, n_cl (by omega), x2, n_bind]
        show o_let _ _ = _
        rw [n_let]
        cases out
        · rw [zbF, if_pos rfl]
          show o_bind (fX6_takeWord [105, 110] buf (Int32.ofNat L) (Int32.ofNat a4) 0) _ = _
          rw [y2, n_bind]
          cases inn
          · show (if (0 : Int32) = 0 then _ else _) = _
            rw [if_pos rfl]
            refine (tail (Int32.ofNat a4) _ ?_ ?_).trans ?_
            · simp (disch := omega) only [upd_ne]; exact hm.2.1
            · unfold zdl; rfl
            · rfl
          · show (if (1 : Int32) = 0 then _ else _) = _
            rw [if_neg (by decide), n_rd (by omega) (by omega), n_let]
            refine (tail (Int32.ofNat (a4 + 2)) _ ?_ ?_).trans ?_
            · simp (disch := omega) only [upd_ne]; exact hm.2.1
            · unfold zdl; rfl
            · rfl
        · have : inn = false := by
            cases inn
            · rfl
            · exact absurd ⟨rfl, rfl⟩ ho
          subst this
          rw [zbT, if_neg (by decide), n_rd (by omega) (by omega), n_let]
          refine (tail (Int32.ofNat (a4 + 3)) _ ?_ ?_).trans ?_
          · simp (disch := omega) only [upd_ne]; exact hm.2.1
          · unfold zdl; rfl
          · rfl
      -- the class, up to the words
      have C0 : ∀ r, (o_let (fun (x29 : Int32) (x30 : Int32) => (if x30 = 0 then o_let (fun (x34 : Int32) => o_let (Int32.ofNat a4 + x34) (fun x36 => o_bind (fX0_insert (Int32.ofNat n) (Int32.ofNat k1v) (Int32.ofNat k2v) (Int32.ofNat k3v) (Int32.ofNat n) li es se p w s) (fun (x37, a38, a39, a40, a41, a42, a43) => o_let (fun (x46 : Int32) => o_rd 24 (Int32.ofNat n) (o_let (upd a41 (Int32.ofNat n).toNatClampNeg (vp_nar .boolean x46)) (fun a49 => o_let (fun (x51 : Int32) => o_rd 24 (Int32.ofNat n) (o_let (upd a42 (Int32.ofNat n).toNatClampNeg (vp_nar .boolean x51)) (fun a54 => some (x29, x36, x30, x37, a38, a39, a40, a49, a54, a43)))) (fun (j180_52 : Int32 → Option (Int32 × Int32 × Int32 × Int32 × (Nat → Int32) × (Nat → Int32) × (Nat → Int32) × (Nat → Int32) × (Nat → Int32) × (Nat → Int32))) => (if zbi out = 0 then (j180_52 (1 : Int32)) else (j180_52 (0 : Int32))))))) (fun (j163_47 : Int32 → Option (Int32 × Int32 × Int32 × Int32 × (Nat → Int32) × (Nat → Int32) × (Nat → Int32) × (Nat → Int32) × (Nat → Int32) × (Nat → Int32))) => (if zbi inn = 0 then (j163_47 (1 : Int32)) else (j163_47 (0 : Int32))))))) (fun (j127_35 : Int32 → Option (Int32 × Int32 × Int32 × Int32 × (Nat → Int32) × (Nat → Int32) × (Nat → Int32) × (Nat → Int32) × (Nat → Int32) × (Nat → Int32))) => (if zbi out = 0 then (if zbi inn = 0 then (j127_35 (0 : Int32)) else (j127_35 (2 : Int32))) else (j127_35 (3 : Int32)))) else some (x29, Int32.ofNat a4, x30, Int32.ofNat n, li, es, se, p, w, s))) (fun (j95_31 : Int32 → Int32 → Option (Int32 × Int32 × Int32 × Int32 × (Nat → Int32) × (Nat → Int32) × (Nat → Int32) × (Nat → Int32) × (Nat → Int32) × (Nat → Int32))) => o_let (o_bind (fX0_differentLots (Int32.ofNat n) p w) (fun x57 => (if x57 < (8 : Int32) then (j95_31 ea3 0) else o_bind (fX4_fail (-4 : Int32) ea3 (Int32.ofNat a4) 0) (fun (x60, x61) => (j95_31 x60 x61))))) (fun (j80_56 : Option (Int32 × Int32 × Int32 × Int32 × (Nat → Int32) × (Nat → Int32) × (Nat → Int32) × (Nat → Int32) × (Nat → Int32) × (Nat → Int32))) => (if zbi out = 0 then (if zbi inn = 0 then (j95_31 ea3 0) else j80_56) else j80_56)))) = r → fX4_readLot ea3 bytes (Int32.ofNat L) (Int32.ofNat a) 0 hh (Int32.ofNat n) li es se p w s = r := fun r hr => by
        unfold fX4_readLot
        rw [if_pos c24, n_let, ea3e, b1, ml, n_bind, p1, n_bind]
        show o_bind (fX4_takeNumber 0 9999 _ bytes (Int32.ofNat L) (Int32.ofNat a1) er1) _ = _
        rw [p2, n_bind]
        show o_bind (fX4_takeNumber 0 9 _ bytes (Int32.ofNat L) (Int32.ofNat a2) er2) _ = _
        rw [p3, n_bind]
        show o_bind (fX4_nextIsWord [111, 117, 116] bytes (Int32.ofNat L) (Int32.ofNat a3)) _ = _
        rw [x1', n_bind]
        show o_bind (fX4_nextIsWord [105, 110] bytes (Int32.ofNat L) (Int32.ofNat a4)) _ = _
        rw [y1, n_bind]
        exact hr
      have ins : (let off := (if out = true then 3 else if inn = true then 2 else 0)
          fX4_readLot ea3 bytes (Int32.ofNat L) (Int32.ofNat a) 0 hh (Int32.ofNat n) li es se p w s = (if (out || inn) = true ∧ ¬ zct (zdfb pr wa) n < 8 then some (Int32.ofNat a4, Int32.ofNat a4, -4, Int32.ofNat n, li, es, se, p, w, s) else some (ea3, Int32.ofNat (a4 + off), 0, Int32.ofNat (n + 1), zin li n n (Int32.ofNat k1v), zin es n n (Int32.ofNat k2v), zin se n n (Int32.ofNat k3v), zin p n n (zbi (!inn)), zin w n n (zbi (!out)), zin s n n 0))) := by
        refine C0 _ ?_
        have e0 : vp_nar .boolean (0 : Int32) = zbi false := vp_narB false
        have e1 : vp_nar .boolean (1 : Int32) = zbi true := vp_narB true
        have a40 : ∀ q : Nat, Int32.ofNat a4 + Int32.ofNat q = Int32.ofNat (a4 + q) := fun q => (Int32.ofNat_add a4 q).symm
        have a4z : Int32.ofNat a4 + 0 = Int32.ofNat (a4 + 0) := a40 0
        have a42 : Int32.ofNat a4 + 2 = Int32.ofNat (a4 + 2) := a40 2
        have a43 : Int32.ofNat a4 + 3 = Int32.ofNat (a4 + 3) := a40 3
        have d8 : Int32.ofNat (zct (zdfb pr wa) n) < 8 ↔ zct (zdfb pr wa) n < 8 := n_lt (b := 8) (by omega) (by omega)
        cases out
        · cases inn
          · simp (disch := omega) only [n_let, zbF, if_true, hins, n_bind, n_rd, n_cl, e1, upd_zin, a4z, Bool.or_false, Bool.false_eq_true, false_and, if_false, Bool.not_false]
          · by_cases h8 : zct (zdfb pr wa) n < 8
            · simp (disch := omega) only [n_let, zbF, zbT, n10, if_true, if_false, hdl, d8, h8, hins, n_bind, n_rd, n_cl, e0, e1, upd_zin, a42, Bool.false_or, Bool.false_eq_true, not_true_eq_false, and_false, Bool.not_false, Bool.not_true]
            · simp (disch := omega) only [n_let, zbF, zbT, n10, if_true, if_false, hdl, d8, h8, n_bind, c_fail0, Bool.false_or, not_false_eq_true, and_true, show ¬ ((-4 : Int32) = 0) from by decide]
        · have : inn = false := by
            cases inn
            · rfl
            · exact absurd ⟨rfl, rfl⟩ ho
          subst this
          by_cases h8 : zct (zdfb pr wa) n < 8
          · simp (disch := omega) only [n_let, zbF, zbT, n10, if_true, if_false, hdl, d8, h8, hins, n_bind, n_rd, n_cl, e0, e1, upd_zin, a43, Bool.or_false, Bool.false_eq_true, not_true_eq_false, and_false, Bool.not_false, Bool.not_true]
          · simp (disch := omega) only [n_let, zbF, zbT, n10, if_true, if_false, hdl, d8, h8, n_bind, c_fail0, Bool.or_false, not_false_eq_true, and_true, show ¬ ((-4 : Int32) = 0) from by decide]
      subst b2
      by_cases hbad : (out || inn) = true ∧ ¬ zct (zdfb pr wa) n < 8
      · have hgt : ¬ Int32.ofNat (zct (zdfb pr wa) n + (if (out || inn) = true then 1 else 0)) ≤ 8 := fun hh => by
          have := (n_le (b := 8) (by split <;> omega) (by omega)).mp hh
          rw [if_pos hbad.1] at this
          have := hbad.2
          omega
        simp only [if_pos hbad] at ins
        rw [if_neg hgt] at M
        exact ⟨_, _, _, _, _, _, a4, _, _, _, _, _, _, _, ins, M, by omega, hbo, Or.inr ⟨by decide, rfl⟩, fun h => absurd h (by decide)⟩
      · have hlt8 : zct (zdfb pr wa) n + (if (out || inn) = true then 1 else 0) ≤ 8 := by
          split
          · next hoi =>
            have : zct (zdfb pr wa) n < 8 := Decidable.not_not.mp (fun h => hbad ⟨hoi, h⟩)
            omega
          · omega
        simp only [if_neg hbad] at ins
        rw [if_pos (show Int32.ofNat _ ≤ 8 from (n_le (b := 8) (by omega) (by omega)).mpr hlt8)] at M
        have hP := hPB hlt8
        have hoff : a4 + (if out = true then 3 else if inn = true then 2 else 0) ≤ L := by
          cases ho1 : out
          · cases hi1 : inn
            · simp; exact ha4
            · rcases zword_end (y3 hi1) (fun i hi => zw_in i hi) with h | h
              · exact h
              · exact absurd h (by decide)
          · rcases zword_end (x3 ho1) (fun i hi => zw_out i hi) with h | h
            · exact h
            · exact absurd h (by decide)
        exact ⟨_, _, _, _, _, _, _, _, _, _, _, _, _, _, ins, M, by omega, PB_BO hP, Or.inl ⟨rfl, rfl, rfl, rfl, hoff⟩, fun _ => ⟨by omega, _, _, _, _, _, _, _, hP⟩⟩
    · -- an error among the numbers
      have hee : ea3' = ea3 := by
        rcases t3 with ⟨h, -⟩ | ⟨-, h⟩
        · exact absurd h her
        · exact h
      refine ⟨ea3, er3, cc, pos3, ea3', ns3, a4, li, es, se, p, w, s, upd (upd (upd d (9 + 6 * n + 0) u1) (9 + 6 * n + 1) u2) (9 + 6 * n + 2) u3, ?_, ?_, by omega, hbo, Or.inr ⟨her, hee⟩, fun h => absurd h her⟩
      · unfold fX4_readLot
        rw [b2, if_pos c24, n_let, ea3e, b1, ml, n_bind, p1, n_bind]
        show o_bind (fX4_takeNumber 0 9999 _ bytes (Int32.ofNat L) (Int32.ofNat a1) er1) _ = _
        rw [p2, n_bind]
        show o_bind (fX4_takeNumber 0 9 _ bytes (Int32.ofNat L) (Int32.ofNat a2) er2) _ = _
        rw [p3, n_bind]
        show o_bind (fX4_nextIsWord [111, 117, 116] bytes (Int32.ofNat L) (Int32.ofNat a3)) _ = _
        rw [x1', n_bind]
        show o_bind (fX4_nextIsWord [105, 110] bytes (Int32.ofNat L) (Int32.ofNat a4)) _ = _
        rw [y1, n_bind]
        show o_let _ _ = _
        rw [n_let, n_let, hdl, n_bind, c_fail1 her, n_bind]
        simp only [her, if_false]
        cases out <;> cases inn <;> simp only [zbT, zbF, n10, if_true, if_false] <;> split <;> rfl
      · unfold fX6_readLot
        rw [n_let, hd1, if_neg c24']
        show o_bind (fX6_isGood 0) _ = _
        rw [m_good0, n_bind, if_neg (by decide), e_lotAt, n_bind, hd0, ml2, n_bind, q1, n_bind]
        show o_rd 153 _ _ = _
        rw [e60, n_rd (by omega) (by omega), n_let, n_cl (by omega), q2, n_bind]
        show o_rd 153 _ _ = _
        rw [e61, n_rd (by omega) (by omega), n_let, n_cl (by omega), q3, n_bind]
        show o_rd 153 _ _ = _
        rw [e62, n_rd (by omega) (by omega), n_let, n_cl (by omega), m_good1 her, n_bind, if_pos rfl]
end ZRL
