section ZQ2
variable {H n m : Nat} {ln : Nat → Nat} {pr wa sl : Nat → Bool} {hh cc rr ac dc : Int32} {co es se d li p w s lots : Nat → Int32} {no pg l us lo fi : Nat → Int32} {P K T : Int32}
theorem q_state (hw : NW H n m ln pr wa) (hb : BV H n m ln pr wa sl hh cc rr li p w s) (hm : MV H n m ln pr wa sl ac co es se d) (hy : YOK H ln pr n (no, pg, l, us, lo, fi, P, K, T)) (hc : CV n pr wa lots dc) (k : Nat) (hk : k < 12) :
    ∃ v, fX5_state (Int32.ofNat k) hh cc rr ac es w s us P K dc = some (.inr v) ∧ ∀ pg' P', (∀ i, i < n → pg' i = zPg H ln pr i) → P' = Int32.ofNat (zP H ln pr n) → fX6_toldState (Int32.ofNat k) d pg' P' = some v := by
  obtain ⟨b1, b2, b3, b4, b5, b6, b7⟩ := id hb
  have hn := hw.2.2.1
  have hP : P = Int32.ofNat (zP H ln pr n) := hy.2.2.2.1
  have hK : K = Int32.ofNat (zK H ln pr n) := hy.2.2.2.2.1
  subst b1 b2 b3
  obtain ⟨s3, s4, s5⟩ := m_sum hn hm
  match k, hk with
  | 0, _ => exact ⟨_, rfl, fun pg' P' _ _ => congrArg some hm.1⟩
  | 1, _ => exact ⟨_, rfl, fun pg' P' _ _ => congrArg some hm.2.1⟩
  | 2, _ =>
    refine ⟨_, rfl, fun pg' P' _ _ => ?_⟩
    show o_bind (fX6_sumOf 3 d) _ = _
    rw [s3, n_bind, hK, zK_ct]
  | 3, _ =>
    refine ⟨Int32.ofNat (zct wa n), ?_, fun pg' P' _ _ => ?_⟩
    · show o_bind (fX0_wantedLots _ _) _ = _
      rw [(c_wanted hn b6).1, n_bind]
    · show o_bind (fX6_sumOf 4 d) _ = _
      rw [s4, n_bind]
  | 4, _ =>
    refine ⟨_, rfl, fun pg' P' _ _ => ?_⟩
    show o_bind (fX6_different d) _ = _
    rw [m_different hn hm, n_bind, hc.1]
  | 5, _ =>
    refine ⟨Int32.ofNat (zct sl n), ?_, fun pg' P' _ _ => ?_⟩
    · show o_bind (fX0_slippedLots _ _) _ = _
      rw [(c_wanted hn b7).2, n_bind]
    · show o_bind (fX6_sumOf 5 d) _ = _
      rw [s5, n_bind]
  | 6, _ =>
    refine ⟨_, rfl, fun pg' P' _ h => ?_⟩
    show some P' = some P
    rw [h, hP]
  | 7, _ =>
    refine ⟨_, rfl, fun pg' P' _ h => ?_⟩
    rw [h, hP]
    rfl
  | 8, _ => exact ⟨_, rfl, fun pg' P' _ _ => congrArg some hm.2.2.1⟩
  | 9, _ =>
    obtain ⟨e1, e2⟩ := c_wantedEst (w := w) hn b6 hm
    refine ⟨zsum (fun i => zbi (wa i) * es i) 0 n, ?_, fun pg' P' _ _ => ?_⟩
    · show o_bind (fX0_wantedEstimates _ _ _) _ = _
      rw [e1, n_bind]
    · show o_bind (fX6_wantedEstimates d) _ = _
      rw [e2, n_bind]
  | 10, _ =>
    refine ⟨zsum (fun p => Int32.ofNat H - Int32.ofNat (zus H ln pr n p)) 0 (zP H ln pr n - 1), ?_, fun pg' P' h1 h2 => ?_⟩
    · show o_bind (fX3_blankLinesAheadOfLastPage _ _ _) _ = _
      rw [e_blank5 hn hy, n_bind]
    · show o_bind (fX6_blanks d pg' P') _ = _
      rw [h2, e_blanks hn hw hm h1, n_bind]
  | 11, _ => exact ⟨_, rfl, fun pg' P' _ _ => congrArg some hm.2.2.2.1⟩
theorem q_stateX {x : Int32} (hx : x < 0 ∨ Int32.ofNat 12 ≤ x) : fX5_state x hh cc rr ac es w s us P K dc = some (.inl "java/lang/IllegalArgumentException") := by
  unfold fX5_state
  have h := fun k hk => n_ne (n := 12) (by omega) hx (k := k) hk
  rw [if_neg (show ¬ x = (0 : Int32) from h 0 (by omega)), if_neg (show ¬ x = (1 : Int32) from h 1 (by omega)), if_neg (show ¬ x = (2 : Int32) from h 2 (by omega)), if_neg (show ¬ x = (3 : Int32) from h 3 (by omega)), if_neg (show ¬ x = (4 : Int32) from h 4 (by omega)), if_neg (show ¬ x = (5 : Int32) from h 5 (by omega)), if_neg (show ¬ x = (6 : Int32) from h 6 (by omega)), if_neg (show ¬ x = (7 : Int32) from h 7 (by omega)), if_neg (show ¬ x = (8 : Int32) from h 8 (by omega)), if_neg (show ¬ x = (9 : Int32) from h 9 (by omega)), if_neg (show ¬ x = (10 : Int32) from h 10 (by omega)), if_neg (show ¬ x = (11 : Int32) from h 11 (by omega))]
theorem s_3 (x th : Int32) (hw : NW H n m ln pr wa) (hb : BV H n m ln pr wa sl hh cc rr li p w s) (hm : MV H n m ln pr wa sl ac co es se d) (hy : YOK H ln pr n (no, pg, l, us, lo, fi, P, K, T)) (hc : CV n pr wa lots dc) (a b c e : Nat → Int32) (f : Int32) (told : Nat → Int64) :
    ∃ th' a' b' c' e' f' t', fS3 x hh cc rr ac es w s us P K dc th d a b c e f told = some (th', a', b', c', e', f', t') := by
  rcases n_range (show 12 < 2147483648 by omega) x with hx | ⟨k, hk, rfl⟩
  · refine ⟨1, a, b, c, e, f, told, ?_⟩
    unfold fS3 fL_state fX6_state
    rw [q_stateX hx, inL_f (n := 12) (by omega) (by decide) hx]
    rfl
  · obtain ⟨v, h1, h2⟩ := q_state hw hb hm hy hc k hk
    obtain ⟨a', b', c', e', f', l1, l2⟩ := m_lay hw hm a b c e f
    refine ⟨0, a', b', c', e', f', vp_updL told (0 : Int32).toNatClampNeg v.toInt64, ?_⟩
    unfold fS3 fL_state fX6_state
    rw [h1, inL_t (n := 12) (by omega) (by decide) hk]
    simp only [o_hlp, n_bind, n_let, n10, if_false, fails_0, if_true, l1, h2 b' f' (fun i hi => (l2.1 i hi).2.1) l2.2.2, fX6_thrown, g_fin]
theorem q_lot (hw : NW H n m ln pr wa) (hb : BV H n m ln pr wa sl hh cc rr li p w s) (hm : MV H n m ln pr wa sl ac co es se d) (hy : YOK H ln pr n (no, pg, l, us, lo, fi, P, K, T)) (i : Nat) (hi : i < n) (k : Nat) (hk : k < 9) :
    ∃ v, fX5_lot (Int32.ofNat i) (Int32.ofNat k) cc li es se p w s no pg l = some (.inr v) ∧ ∀ no' pg' l', (∀ i, i < n → no' i = zNo_ H ln pr i ∧ pg' i = zPg H ln pr i ∧ l' i = zLi H ln pr i) → fX6_toldLot (Int32.ofNat i) (Int32.ofNat k) d no' pg' l' = some v := by
  obtain ⟨b1, b2, b3, b4, b5, b6, b7⟩ := id hb
  have hn := hw.2.2.1
  subst b1 b2 b3
  obtain ⟨d0, d1, d2, d3, d4, d5⟩ := hm.2.2.2.2.2 i hi
  obtain ⟨y1, y2, y3⟩ := hy.1 i hi
  have y1 : no i = _ := y1
  have y2 : pg i = _ := y2
  have y3 : l i = _ := y3
  unfold fX5_lot
  rw [needLot_t (by omega) hi, o_tryR]
  have rdc : ∀ (f : Nat → Int32), o_rd 24 (Int32.ofNat i) (some (Sum.inr (f (Int32.ofNat i).toNatClampNeg) : String ⊕ Int32)) = some (.inr (f i)) := fun f => by rw [n_rd (by omega) (by omega), n_cl (by omega)]
  have rdb : ∀ (f : Nat → Int32) (b : Bool), f i = zbi b → o_rd 24 (Int32.ofNat i) (if f (Int32.ofNat i).toNatClampNeg = 0 then some (Sum.inr (0 : Int32) : String ⊕ Int32) else some (.inr 1)) = some (.inr (zbi b)) := fun f b h => by
    rw [n_rd (by omega) (by omega), n_cl (by omega), h]
    cases b <;> rfl
  match k, hk with
  | 0, _ => exact ⟨_, rdc li, fun no' pg' l' _ => by show o_bind (fX6_of _ 0 d) _ = _; rw [e_of0 (by omega), n_bind, d0, b4 i hi]⟩
  | 1, _ => exact ⟨_, rdc es, fun no' pg' l' _ => by show o_bind (fX6_of _ 1 d) _ = _; rw [e_of1 (by omega), n_bind, d1]⟩
  | 2, _ => exact ⟨_, rdc se, fun no' pg' l' _ => by show o_bind (fX6_of _ 2 d) _ = _; rw [e_of2 (by omega), n_bind, d2]⟩
  | 3, _ => exact ⟨_, rdb p _ (b5 i (by omega)), fun no' pg' l' _ => by show o_bind (fX6_of _ 3 d) _ = _; rw [e_of3 (by omega), n_bind, d3]⟩
  | 4, _ => exact ⟨_, rdb w _ (b6 i (by omega)), fun no' pg' l' _ => by show o_bind (fX6_of _ 4 d) _ = _; rw [e_of4 (by omega), n_bind, d4]⟩
  | 5, _ => exact ⟨_, rdb s _ (b7 i (by omega)), fun no' pg' l' _ => by show o_bind (fX6_of _ 5 d) _ = _; rw [e_of5 (by omega), n_bind, d5]⟩
  | 6, _ => exact ⟨_, rdc no, fun no' pg' l' h => by show o_rd 24 _ (some (no' _)) = _; rw [n_rd (by omega) (by omega), n_cl (by omega), (h i hi).1, y1]⟩
  | 7, _ => exact ⟨_, rdc pg, fun no' pg' l' h => by show o_rd 24 _ (some (pg' _)) = _; rw [n_rd (by omega) (by omega), n_cl (by omega), (h i hi).2.1, y2]⟩
  | 8, _ => exact ⟨_, rdc l, fun no' pg' l' h => by show o_rd 24 _ (some (l' _)) = _; rw [n_rd (by omega) (by omega), n_cl (by omega), (h i hi).2.2, y3]⟩
theorem s_4 (x x2 th : Int32) (hw : NW H n m ln pr wa) (hb : BV H n m ln pr wa sl hh cc rr li p w s) (hm : MV H n m ln pr wa sl ac co es se d) (hy : YOK H ln pr n (no, pg, l, us, lo, fi, P, K, T)) (a b c e : Nat → Int32) (f : Int32) (told : Nat → Int64) :
    ∃ th' a' b' c' e' f' t', fS4 x x2 cc li es se p w s no pg l th d a b c e f told = some (th', a', b', c', e', f', t') := by
  have hn := hw.2.2.1
  have hcc : cc = Int32.ofNat n := hb.2.1
  rcases n_range (show n < 2147483648 by omega) x with hx | ⟨i, hi, rfl⟩
  · refine ⟨1, a, b, c, e, f, told, ?_⟩
    unfold fS4 fL_lot fX6_lot fX5_lot
    rw [hcc, needLot_f (by omega) hx, o_tryL, m_noLot_f hn hm hx]
    rfl
  · rcases n_range (show 9 < 2147483648 by omega) x2 with hx | ⟨k, hk, rfl⟩
    · refine ⟨2, a, b, c, e, f, told, ?_⟩
      unfold fS4 fL_lot fX6_lot fX5_lot
      have h := fun k hk => n_ne (n := 9) (by omega) hx (k := k) hk
      rw [hcc, needLot_t (by omega) hi, o_tryR, m_noLot_t hn hm hi, if_neg (show ¬ x2 = (0 : Int32) from h 0 (by omega)), if_neg (show ¬ x2 = (1 : Int32) from h 1 (by omega)), if_neg (show ¬ x2 = (2 : Int32) from h 2 (by omega)), if_neg (show ¬ x2 = (3 : Int32) from h 3 (by omega)), if_neg (show ¬ x2 = (4 : Int32) from h 4 (by omega)), if_neg (show ¬ x2 = (5 : Int32) from h 5 (by omega)), if_neg (show ¬ x2 = (6 : Int32) from h 6 (by omega)), if_neg (show ¬ x2 = (7 : Int32) from h 7 (by omega)), if_neg (show ¬ x2 = (8 : Int32) from h 8 (by omega)), inL_f (n := 9) (by omega) (by decide) hx]
      rfl
    · obtain ⟨v, h1, h2⟩ := q_lot hw hb hm hy i hi k hk
      obtain ⟨a', b', c', e', f', l1, l2⟩ := m_lay hw hm a b c e f
      refine ⟨0, a', b', c', e', f', vp_updL told (0 : Int32).toNatClampNeg v.toInt64, ?_⟩
      unfold fS4 fL_lot fX6_lot
      rw [h1, m_noLot_t hn hm hi, inL_t (n := 9) (by omega) (by decide) hk]
      simp only [o_hlp, n_bind, n_let, n10, if_false, fails_0, if_true, l1, h2 a' b' c' l2.1, fX6_thrown, g_fin]
end ZQ2
