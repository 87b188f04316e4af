section ZMT
variable {H n m : Nat} {ln : Nat → Nat} {pr wa sl : Nat → Bool} {ac : Int32} {co es se d : Nat → Int32}
theorem n_rd1 {β : Type} {n k : Nat} {a : Option β} (hk : k + 1 < n) (hn : n < 2147483648) : o_rd n (Int32.ofNat k + 1) a = a := by rw [n_s, n_rd hk hn]
theorem m_L368 (a17 a18 a19 a20 : Nat → Int32) (x21 : Int32) (a10 a15 t : Nat → Int32) :
    ∃ t', fX6_layChoice_L368 d a17 a18 a19 a20 x21 a10 a15 1024 0 t = some (d, a17, a18, a19, a20, x21, a10, t', a15) ∧ (∀ y, y ≠ 0 → t' y = t y) ∧ t' 0 = ((((t 0 + t 1 * d 4) + t 2 * d 5) + t 3 * d 6) + t 4 * d 7) + t 5 * d 8 := by
  have key := n_inv (fun f k (s : Nat → Int32) => fX6_layChoice_L368 d a17 a18 a19 a20 x21 a10 a15 f (Int32.ofNat k) s) 5 (fun s => some (d, a17, a18, a19, a20, x21, a10, s, a15)) (fun k s => (∀ y, y ≠ 0 → s y = t y) ∧ s 0 = zfold (fun i v => v + t (i + 1) * d (4 + i)) 0 k (t 0)) (fun f s hs => by
      simp only [fX6_layChoice_L368, show ((5 : Int32) ≤ Int32.ofNat 5) from by decide, if_true]) (fun f k s hk hs => by
    obtain ⟨q1, q2⟩ := hs
    have e4 : (4 : Int32) + Int32.ofNat k = Int32.ofNat (4 + k) := (Int32.ofNat_add 4 k).symm
    refine ⟨upd s 0 (s 0 + s (k + 1) * d (4 + k)), ⟨fun y hy => (upd_ne hy).trans (q1 y hy), ?_⟩, ?_⟩
    · rw [zfold_last, ← q2, upd_same, q1 (k + 1) (by omega), Nat.zero_add]
    · simp (disch := omega) only [fX6_layChoice_L368, show (5 : Int32) = Int32.ofNat 5 from rfl, n_le, n_rd1, e4, n_rd, n_cl, n_let, n_s, show ¬ 5 ≤ k from by omega, if_false, show Int32.toNatClampNeg 0 = 0 from rfl])
    5 0 1024 t (by omega) (by omega) ⟨fun y _ => rfl, rfl⟩
  obtain ⟨s, ⟨h1, h2⟩, h3⟩ := key
  exact ⟨s, h3, h1, h2⟩
theorem mv_lines (hw : NW H n m ln pr wa) (h : MV H n m ln pr wa sl ac co es se d) : ∀ i, i < n → d (9 + 6 * i + 0) = Int32.ofNat (ln i) ∧ ln i ≤ H := fun i hi => ⟨(h.2.2.2.2.2 i hi).1, (hw.2.2.2.2.2.1 i hi).2.2⟩
theorem m_lay (hw : NW H n m ln pr wa) (h : MV H n m ln pr wa sl ac co es se d) (no pg li st : Nat → Int32) (P : Int32) :
    ∃ a b c e f, fX6_lay d no pg li st P = some (a, b, c, e, f) ∧ MOK H ln pr n a b c e f :=
  e_lay6 (pr := pr) hw.2.1 hw.2.2.1 h.1 h.2.1 (mv_lines hw h) (fun i hi => by rw [(h.2.2.2.2.2 i hi).2.2.2.1, zbi_1]) no pg li st P
theorem m_layChoice (hw : NW H n m ln pr wa) (h : MV H n m ln pr wa sl ac co es se d) (x : Int32) (no pg li st : Nat → Int32) (P : Int32) (be told wp : Nat → Int32) :
    ∃ a b c e f g t w, fX6_layChoice x d no pg li st P be told wp = some (d, a, b, c, e, f, g, t, w) ∧ ∀ k, k < 7 → t k = zfig H n m ln pr wa sl co x k := by
  obtain ⟨w1, w2, w3, w4, w5, w6, w7⟩ := id hw
  obtain ⟨a, b, c, e, f, l1, l2⟩ := m_lay hw h no pg li st P
  unfold fX6_layChoice
  rw [n_let, m_entries w3 h x, n_bind, l1, n_bind]
  show ∃ a' b' c' e' f' g' t' w', o_let _ _ = _ ∧ _
  rw [n_let, m_L38 (by omega) w3 w6 l2]
  rw [n_let]
  rw [m_L68 w3 h x, n_let, m_L107 w3 h x _ (zv68_bit w3 x)]
  obtain ⟨y2, y3, y4⟩ := zP107_end h x wp
  generalize (zfold (zg107 pr wa x) 0 n (d, wp)).1 = d1 at *
  generalize (zfold (zg107 pr wa x) 0 n (d, wp)).2 = w at *
  have hd0 : ∀ i, i < n → d1 (9 + 6 * i + 0) = Int32.ofNat (ln i) ∧ ln i ≤ H := fun i hi => ⟨(y4 _ (fun q _ => by omega)).trans (mv_lines hw h i hi).1, (mv_lines hw h i hi).2⟩
  obtain ⟨a', b', c', e', f', l3, l4⟩ := e_lay6 (d := d1) (pr := zprB pr wa x) w2 w3 ((y4 0 (fun q _ => by omega)).trans h.1) ((y4 1 (fun q _ => by omega)).trans h.2.1) hd0 (fun i hi => by rw [y3 i hi, zbi_1]) a b c e f
  rw [l3, n_bind]
  show ∃ a' b' c' e' f' g' t' w', o_let _ _ = _ ∧ _
  rw [n_let, m_L170 w3 h d1 w y2 y4, n_let]
  have hP1 := (zP_le H ln pr n).1
  have hP2 := (zP_le H ln (zprB pr wa x) n).1
  have hM : zMx H n ln pr wa x ≤ 24 ∧ zP H ln pr n ≤ zMx H n ln pr wa x ∧ zP H ln (zprB pr wa x) n ≤ zMx H n ln pr wa x := by unfold zMx; split <;> omega
  have h0 : d (0 : Int32).toNatClampNeg = Int32.ofNat H := h.1
  rw [h0, e_L204 w1 w2 w3 w6 l4 (fun g hg => by rw [if_pos (show 0 ≤ g ∧ g < 0 + 960 by omega), Nat.sub_zero]) (zMx H n ln pr wa x) hM.1 hM.2.1 hM.2.2]
  have h3 : d (3 : Int32).toNatClampNeg = Int32.ofNat m := h.2.2.2.1
  have hm0 : ¬ Int32.ofNat m = 0 := fun e => by
    have := (n_eq (b := 0) (by omega) (by omega)).mp e
    omega
  rw [n_let, n_let, n_let, h3, n_as hm0, n_let, n_let, n_let, n_let]
  obtain ⟨t, t1, t2, t3⟩ := m_L368 (d := d) a' b' c' e' f' (fun g => if 0 ≤ g ∧ g < 0 + 960 then Int32.ofNat (zs2 H ln pr n ((g - 0) / H) ((g - 0) % H)) - 1 else be g) w (upd (upd (upd (upd (upd (upd (upd told (Int32.toNatClampNeg 1) (zX (zchg H ln pr (zprB pr wa x) n) (zMx H n ln pr wa x)).fst) (Int32.toNatClampNeg 2) (zX (zchg H ln pr (zprB pr wa x) n) (zMx H n ln pr wa x)).snd.fst) (Int32.toNatClampNeg 3) (zX (zchg H ln pr (zprB pr wa x) n) (zMx H n ln pr wa x)).snd.snd.fst) (Int32.toNatClampNeg 4) ((Int32.ofNat (zent pr wa sl x n) + Int32.ofNat m - 1) / Int32.ofNat m)) (Int32.toNatClampNeg 5) (Int32.ofNat (zent pr wa sl x n))) (Int32.toNatClampNeg 6) f') (Int32.toNatClampNeg 0) 0)
  refine ⟨a', b', c', e', f', _, t, w, t1, ?_⟩
  obtain ⟨-, -, l5⟩ := l4
  have u1 : t 1 = (zXx H n ln pr wa x).1 := t2 1 (by omega)
  have u2 : t 2 = (zXx H n ln pr wa x).2.1 := t2 2 (by omega)
  have u3 : t 3 = (zXx H n ln pr wa x).2.2.1 := t2 3 (by omega)
  have u4 : t 4 = zsl n m pr wa sl x := t2 4 (by omega)
  have u5 : t 5 = Int32.ofNat (zent pr wa sl x n) := t2 5 (by omega)
  have u6 : t 6 = f' := t2 6 (by omega)
  have hc := h.2.2.2.2.1
  intro k hk
  match k, hk with
  | 0, _ =>
    show t 0 = zcost H n m ln pr wa sl co x
    rw [t3, ← t2 1 (by omega), ← t2 2 (by omega), ← t2 3 (by omega), ← t2 4 (by omega), ← t2 5 (by omega), u1, u2, u3, u4, u5]
    unfold zcost
    rw [← hc 0 (by omega), ← hc 1 (by omega), ← hc 2 (by omega), ← hc 3 (by omega), ← hc 4 (by omega)]
    show 0 + _ + _ + _ + _ + _ = _
    rw [Int32.zero_add]
  | 1, _ => exact u1
  | 2, _ => exact u2
  | 3, _ => exact u3
  | 4, _ => exact u4
  | 5, _ => exact u5
  | 6, _ => exact u6.trans l5
end ZMT
